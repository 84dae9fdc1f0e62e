def wlX7_waysAsChosen : List Cond := .code yX7_waysAsChosen cX7_waysAsChosen 2 (some .int) :: WL_
theorem hd_X7_waysAsChosen : yX7_waysAsChosen.cls = RX7 ∧ yX7_waysAsChosen.cls ≠ "java/lang/invoke/MethodHandle" ∧ yX7_waysAsChosen.cls ≠ "java/lang/invoke/VarHandle" ∧ (parseMethodDescriptor yX7_waysAsChosen.desc).map (fun d => d.parameters.length) = some 1 := by decide +kernel
theorem dX7_waysAsChosen_0 : decode cX7_waysAsChosen 0 = .ok (.aload_n 0, 1) := by decide +kernel
theorem dX7_waysAsChosen_1 : decode cX7_waysAsChosen 1 = .ok (.getfield 18, 3) := by decide +kernel
theorem dX7_waysAsChosen_4 : decode cX7_waysAsChosen 4 = .ok (.aload_n 0, 1) := by decide +kernel
theorem dX7_waysAsChosen_5 : decode cX7_waysAsChosen 5 = .ok (.getfield 9, 3) := by decide +kernel
theorem dX7_waysAsChosen_8 : decode cX7_waysAsChosen 8 = .ok (.invokevirtual 64, 3) := by decide +kernel
theorem dX7_waysAsChosen_11 : decode cX7_waysAsChosen 11 = .ok (.aload_n 0, 1) := by decide +kernel
theorem dX7_waysAsChosen_12 : decode cX7_waysAsChosen 12 = .ok (.getfield 18, 3) := by decide +kernel
theorem dX7_waysAsChosen_15 : decode cX7_waysAsChosen 15 = .ok (.invokevirtual 67, 3) := by decide +kernel
theorem dX7_waysAsChosen_18 : decode cX7_waysAsChosen 18 = .ok (.ifCond .eq 5, 3) := by decide +kernel
theorem dX7_waysAsChosen_21 : decode cX7_waysAsChosen 21 = .ok (.iconst 0, 1) := by decide +kernel
theorem dX7_waysAsChosen_22 : decode cX7_waysAsChosen 22 = .ok (.ireturn, 1) := by decide +kernel
theorem dX7_waysAsChosen_23 : decode cX7_waysAsChosen 23 = .ok (.iload_n 1, 1) := by decide +kernel
theorem dX7_waysAsChosen_24 : decode cX7_waysAsChosen 24 = .ok (.ifCond .ne 17, 3) := by decide +kernel
theorem dX7_waysAsChosen_27 : decode cX7_waysAsChosen 27 = .ok (.aload_n 0, 1) := by decide +kernel
theorem dX7_waysAsChosen_28 : decode cX7_waysAsChosen 28 = .ok (.getfield 9, 3) := by decide +kernel
theorem dX7_waysAsChosen_31 : decode cX7_waysAsChosen 31 = .ok (.iconst 0, 1) := by decide +kernel
theorem dX7_waysAsChosen_32 : decode cX7_waysAsChosen 32 = .ok (.aload_n 0, 1) := by decide +kernel
theorem dX7_waysAsChosen_33 : decode cX7_waysAsChosen 33 = .ok (.getfield 15, 3) := by decide +kernel
theorem dX7_waysAsChosen_36 : decode cX7_waysAsChosen 36 = .ok (.iconst 0, 1) := by decide +kernel
theorem dX7_waysAsChosen_37 : decode cX7_waysAsChosen 37 = .ok (.iconst 4, 1) := by decide +kernel
theorem dX7_waysAsChosen_38 : decode cX7_waysAsChosen 38 = .ok (.invokestatic 82, 3) := by decide +kernel
theorem dX7_waysAsChosen_41 : decode cX7_waysAsChosen 41 = .ok (.iconst 1, 1) := by decide +kernel
theorem dX7_waysAsChosen_42 : decode cX7_waysAsChosen 42 = .ok (.ireturn, 1) := by decide +kernel
set_option maxHeartbeats 4000000 in
set_option maxRecDepth 100000 in
theorem c_X7_waysAsChosen {l : Launch} {D : va_G} {aC : Nat → ClassId} {a_w : Nat → Nat} {a_v : Nat → Nat} {a_d : Nat → Nat} {a_n : Nat → Nat} (s_w : Ob_T) (s_v : Ob_T) (s_d : Ob_T) (s_n : Ob_T) (x1 : Int32) {out : Int32 × Ob_T × Ob_T × Ob_T} (h : f_X7_waysAsChosen s_w s_v s_d s_n x1 = some out) : M_W l yX7_waysAsChosen wlX7_waysAsChosen 5 122 D aC [.ref (a_w 0), .int x1] (wd_X7 aC a_w (a_v 0) s_w ++ (wd_X5 aC a_v (a_n 0) (a_d 0) s_v ++ (wd_X4 aC a_d s_d ++ wd_X1 aC a_n s_n))) (some (.int out.1)) (wd_X7 aC a_w (a_v 0) out.2.1 ++ (wd_X5 aC a_v (a_n 0) (a_d 0) out.2.2.1 ++ (wd_X4 aC a_d out.2.2.2 ++ wd_X1 aC a_n s_n))) := by
  refine k_entW (cc := cX7_waysAsChosen) (ret := (some .int)) (maxL := 2) (own := RX7) (by decide) rfl rfl rfl ?_
  intro p e s m below meth c A ls hX hr hZ hl
  have hl : lv_has ls 2 [(0, .ref (a_w 0)), (1, .int x1)] := hl
  generalize ([.ref (a_w 0), .int x1] : List Value).toArray = args at hX ⊢
  obtain ⟨hx, hb, hml, hown, hts, hK, hA, hlk⟩ := id hX
  unfold f_X7_waysAsChosen at h
  generalize s.heap = H at hZ ⊢
  generalize ([] : List Loc) = locs at hZ ⊢
  refine lv_aload_n hx hb dX7_waysAsChosen_0 rfl (lv_at hl 0 rfl) ?_
  refine k_get hX hZ.1 0 7 rfl rfl iw_X7 0 rfl (wm_612) (v := .ref (a_v 0)) rfl dX7_waysAsChosen_1 ?_
  refine lv_aload_n hx hb dX7_waysAsChosen_4 rfl (lv_at hl 0 rfl) ?_
  refine k_get hX hZ.1 0 7 rfl rfl iw_X7 1 rfl (wm_610) (v := .ref (a_w 1)) rfl dX7_waysAsChosen_5 ?_
  obtain ⟨u1, hu, h⟩ := k_bd h
  refine k_vW (As := [.ref (a_w 1)]) (rest := []) (wc := wd_X5 aC a_v (a_n 0) (a_d 0) s_v ++ (wd_X4 aC a_d s_d ++ (wd_X1 aC a_n s_n ++ [((a_w 1), .inl (aC 0, 4, .inl (o_A s_w 1)))]))) (v := none) (st1 := []) (w' := wd_X7 aC a_w (a_v 0) s_w ++ (wd_X5 aC a_v (a_n 0) (a_d 0) u1.1 ++ (wd_X4 aC a_d u1.2 ++ wd_X1 aC a_n s_n))) hX hl.1 hZ (c_X5_settleWith (a_v := a_v) (a_d := a_d) (a_n := a_n) (q1 := (a_w 1)) (f1 := o_A s_w 1) (z1 := 4) s_v s_d s_n hu) (gv_ wm_615 wm_617 wm_618 wm_438 wm_616) rfl hd_X5_settleWith ⟨rfl, rfl⟩ 5 0 rfl rfl [3, 4, 5, 6, 7, 8, 9, 10, 11, 12, 13, 14, 15, 16, 17, 18, 1] rfl rfl rfl rfl rfl dX7_waysAsChosen_8 rfl ⟨rfl, rfl⟩ rfl rfl rfl (fun H locs hZ => ?_)
  clear hu
  refine lv_aload_n hx hb dX7_waysAsChosen_11 rfl (lv_at hl 0 rfl) ?_
  refine k_get hX hZ.1 0 7 rfl rfl iw_X7 0 rfl (wm_612) (v := .ref (a_v 0)) rfl dX7_waysAsChosen_12 ?_
  obtain ⟨u2, hu, h⟩ := k_bd h
  refine k_vR (As := []) (rest := []) (wc := wd_X5 aC a_v (a_n 0) (a_d 0) u1.1) (v := some (.int u2)) (st1 := [.int u2]) hX hl.1 hZ (c_X5_hasFailed (a_v := a_v) (a_n := a_n) (a_d := a_d) u1.1 hu) (gv_ wm_614 wm_462 wm_463 wm_438 wm_461) rfl hd_X5_hasFailed ⟨rfl, rfl⟩ 5 0 rfl rfl [3, 4, 5, 6, 7] rfl rfl rfl rfl rfl dX7_waysAsChosen_15 rfl ⟨rfl, rfl⟩ (fun locs hZ => ?_)
  clear hu
  refine lv_if_eq (tgt := 23) hx hb dX7_waysAsChosen_18 (by decide) (fun cd => ?_) (fun cd => ?_)
  · replace h := k_t cd h
    clear cd
    refine lv_iload_n hx hb dX7_waysAsChosen_23 rfl (lv_at hl 1 rfl) ?_
    refine lv_if_ne (tgt := 41) hx hb dX7_waysAsChosen_24 (by decide) (fun cd => ?_) (fun cd => ?_)
    · replace h := k_f cd h
      clear cd
      refine lv_iconst (v := 1) hx hb dX7_waysAsChosen_41 (by decide) ?_
      cases h
      exact k_iretW hX hr hZ dX7_waysAsChosen_42
    · replace h := k_t cd h
      clear cd
      refine lv_aload_n hx hb dX7_waysAsChosen_27 rfl (lv_at hl 0 rfl) ?_
      refine k_get hX hZ.1 0 7 rfl rfl iw_X7 1 rfl (wm_610) (v := .ref (a_w 1)) rfl dX7_waysAsChosen_28 ?_
      refine lv_iconst (v := 0) hx hb dX7_waysAsChosen_31 (by decide) ?_
      refine lv_aload_n hx hb dX7_waysAsChosen_32 rfl (lv_at hl 0 rfl) ?_
      refine k_get hX hZ.1 0 7 rfl rfl iw_X7 2 rfl (wm_609) (v := .ref (a_w 2)) rfl dX7_waysAsChosen_33 ?_
      refine lv_iconst (v := 0) hx hb dX7_waysAsChosen_36 (by decide) ?_
      refine lv_iconst (v := 4) hx hb dX7_waysAsChosen_37 (by decide) ?_
      refine k_copy (wf := (fun o => wd_X7 aC a_w (a_v 0) o ++ (wd_X5 aC a_v (a_n 0) (a_d 0) u1.1 ++ (wd_X4 aC a_d u1.2 ++ wd_X1 aC a_n s_n)))) (o := s_w) hX hl.1 hZ 1 2 2 rfl rfl (fun _ => rfl) (hts _ wm_613) (hts _ wm_308) (hts _ wm_309) (hts _ wm_310) rfl rfl h dX7_waysAsChosen_38 (fun o4 H locs hZ h => ?_)
      refine lv_iconst (v := 1) hx hb dX7_waysAsChosen_41 (by decide) ?_
      cases h
      exact k_iretW hX hr hZ dX7_waysAsChosen_42
  · replace h := k_f cd h
    clear cd
    refine lv_iconst (v := 0) hx hb dX7_waysAsChosen_21 (by decide) ?_
    cases h
    exact k_iretW hX hr hZ dX7_waysAsChosen_22
