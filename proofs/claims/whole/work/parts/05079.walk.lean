def wlX5_firstOfCell : List Cond := .code yX5_firstOfCell cX5_firstOfCell 3 (some .int) :: WL_
theorem hd_X5_firstOfCell : yX5_firstOfCell.cls = RX5 ∧ yX5_firstOfCell.cls ≠ "java/lang/invoke/MethodHandle" ∧ yX5_firstOfCell.cls ≠ "java/lang/invoke/VarHandle" ∧ (parseMethodDescriptor yX5_firstOfCell.desc).map (fun d => d.parameters.length) = some 2 := by decide +kernel
theorem dX5_firstOfCell_0 : decode cX5_firstOfCell 0 = .ok (.iload_n 2, 1) := by decide +kernel
theorem dX5_firstOfCell_1 : decode cX5_firstOfCell 1 = .ok (.aload_n 0, 1) := by decide +kernel
theorem dX5_firstOfCell_2 : decode cX5_firstOfCell 2 = .ok (.getfield 31, 3) := by decide +kernel
theorem dX5_firstOfCell_5 : decode cX5_firstOfCell 5 = .ok (.iload_n 1, 1) := by decide +kernel
theorem dX5_firstOfCell_6 : decode cX5_firstOfCell 6 = .ok (.invokevirtual 56, 3) := by decide +kernel
theorem dX5_firstOfCell_9 : decode cX5_firstOfCell 9 = .ok (.if_icmp .ge 19, 3) := by decide +kernel
theorem dX5_firstOfCell_12 : decode cX5_firstOfCell 12 = .ok (.aload_n 0, 1) := by decide +kernel
theorem dX5_firstOfCell_13 : decode cX5_firstOfCell 13 = .ok (.aload_n 0, 1) := by decide +kernel
theorem dX5_firstOfCell_14 : decode cX5_firstOfCell 14 = .ok (.getfield 31, 3) := by decide +kernel
theorem dX5_firstOfCell_17 : decode cX5_firstOfCell 17 = .ok (.iload_n 1, 1) := by decide +kernel
theorem dX5_firstOfCell_18 : decode cX5_firstOfCell 18 = .ok (.iload_n 2, 1) := by decide +kernel
theorem dX5_firstOfCell_19 : decode cX5_firstOfCell 19 = .ok (.invokevirtual 60, 3) := by decide +kernel
theorem dX5_firstOfCell_22 : decode cX5_firstOfCell 22 = .ok (.invokevirtual 64, 3) := by decide +kernel
theorem dX5_firstOfCell_25 : decode cX5_firstOfCell 25 = .ok (.goto 4, 3) := by decide +kernel
theorem dX5_firstOfCell_28 : decode cX5_firstOfCell 28 = .ok (.iconst 1, 1) := by decide +kernel
theorem dX5_firstOfCell_29 : decode cX5_firstOfCell 29 = .ok (.ireturn, 1) := by decide +kernel
set_option maxHeartbeats 4000000 in
set_option maxRecDepth 100000 in
theorem c_X5_firstOfCell {l : Launch} {D : va_G} {aC : Nat → ClassId} {a_v : Nat → Nat} {a_n : Nat → Nat} {a_d : Nat → Nat} (s_v : Ob_T) (s_n : Ob_T) (x1 : Int32) (x2 : Int32) {out : Int32} (h : f_X5_firstOfCell s_v s_n x1 x2 = some out) : M_R l yX5_firstOfCell wlX5_firstOfCell 1 22 D aC [.ref (a_v 0), .int x1, .int x2] (wd_X5 aC a_v (a_n 0) (a_d 0) s_v ++ wd_X1 aC a_n s_n) (some (.int out)) := by
  refine k_entR (cc := cX5_firstOfCell) (ret := (some .int)) (maxL := 3) (own := RX5) (by decide) rfl rfl rfl ?_
  intro p e s m below meth c A ls hX hr hZ hl
  have hl : lv_has ls 3 [(0, .ref (a_v 0)), (1, .int x1), (2, .int x2)] := hl
  generalize ([.ref (a_v 0), .int x1, .int x2] : List Value).toArray = args at hX ⊢
  obtain ⟨hx, hb, hml, hown, hts, hK, hA, hlk⟩ := id hX
  unfold f_X5_firstOfCell at h
  have hF : ∀ q ∈ ([] : List Loc), False := fun _ h => nomatch h
  generalize ([] : List Loc) = locs at hF ⊢
  refine lv_iload_n hx hb dX5_firstOfCell_0 rfl (lv_at hl 2 rfl) ?_
  refine lv_aload_n hx hb dX5_firstOfCell_1 rfl (lv_at hl 0 rfl) ?_
  refine k_get hX hZ.1 0 5 rfl rfl iw_X5 0 rfl (wm_454) (v := .ref (a_n 0)) rfl dX5_firstOfCell_2 ?_
  refine lv_iload_n hx hb dX5_firstOfCell_5 rfl (lv_at hl 1 rfl) ?_
  obtain ⟨u1, hu, h⟩ := k_bd h
  refine k_vRR (As := [.int x1]) (rest := [.int x2]) (wc := wd_X1 aC a_n s_n) (v := some (.int u1)) (st1 := [.int u1, .int x2]) hX hl.1 hZ hF (c_X1_axesOf (a_n := a_n) s_n x1 hu) (gv_ wm_500 wm_502 wm_503 wm_321 wm_501) rfl hd_X1_axesOf ⟨rfl, rfl⟩ 1 0 rfl rfl [5, 6, 7, 8, 9, 10, 11] rfl rfl rfl rfl rfl dX5_firstOfCell_6 rfl ⟨rfl, rfl⟩ (fun locs hF => ?_)
  clear hu
  refine lv_icmp_ge (tgt := 28) hx hb dX5_firstOfCell_9 (by decide) (fun cd => ?_) (fun cd => ?_)
  · replace h := k_t cd h
    clear cd
    refine lv_iconst (v := 1) hx hb dX5_firstOfCell_28 (by decide) ?_
    cases h
    exact k_iretR hX hr hF dX5_firstOfCell_29
  · replace h := k_f cd h
    clear cd
    refine lv_aload_n hx hb dX5_firstOfCell_12 rfl (lv_at hl 0 rfl) ?_
    refine lv_aload_n hx hb dX5_firstOfCell_13 rfl (lv_at hl 0 rfl) ?_
    refine k_get hX hZ.1 0 5 rfl rfl iw_X5 0 rfl (wm_454) (v := .ref (a_n 0)) rfl dX5_firstOfCell_14 ?_
    refine lv_iload_n hx hb dX5_firstOfCell_17 rfl (lv_at hl 1 rfl) ?_
    refine lv_iload_n hx hb dX5_firstOfCell_18 rfl (lv_at hl 2 rfl) ?_
    obtain ⟨u2, hu, h⟩ := k_bd h
    refine k_vRR (As := [.int x1, .int x2]) (rest := [.ref (a_v 0)]) (wc := wd_X1 aC a_n s_n) (v := some (.int u2)) (st1 := [.int u2, .ref (a_v 0)]) hX hl.1 hZ hF (c_X1_at (a_n := a_n) s_n x1 x2 hu) (gv_ wm_459 wm_327 wm_328 wm_321 wm_326) rfl hd_X1_at ⟨rfl, rfl⟩ 1 0 rfl rfl [5, 6, 7, 8, 9, 10, 11] rfl rfl rfl rfl rfl dX5_firstOfCell_19 rfl ⟨rfl, rfl⟩ (fun locs hF => ?_)
    clear hu
    obtain ⟨u3, hu, h⟩ := k_bd h
    refine k_vRR (As := [.int u2]) (rest := []) (wc := wd_X5 aC a_v (a_n 0) (a_d 0) s_v) (v := some (.int u3)) (st1 := [.int u3]) hX hl.1 hZ hF (c_X5_valueOf (a_v := a_v) (a_n := a_n) (a_d := a_d) s_v u2 hu) (gv_ wm_450 wm_452 wm_453 wm_438 wm_451) rfl hd_X5_valueOf ⟨rfl, rfl⟩ 5 0 rfl rfl [0, 1, 2, 3, 4] rfl rfl rfl rfl rfl dX5_firstOfCell_22 rfl ⟨rfl, rfl⟩ (fun locs hF => ?_)
    clear hu
    refine lv_goto (tgt := 29) hx hb dX5_firstOfCell_25 (by decide) ?_
    cases h
    exact k_iretR hX hr hF dX5_firstOfCell_29
