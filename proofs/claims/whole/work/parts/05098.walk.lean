def wlX8_odds : List Cond := .code yX8_odds cX8_odds 5 (some .int) :: WL_
theorem hd_X8_odds : yX8_odds.cls = RX8 ∧ yX8_odds.cls ≠ "java/lang/invoke/MethodHandle" ∧ yX8_odds.cls ≠ "java/lang/invoke/VarHandle" ∧ (parseMethodDescriptor yX8_odds.desc).map (fun d => d.parameters.length) = some 1 := by decide +kernel
theorem dX8_odds_0 : decode cX8_odds 0 = .ok (.iload_n 1, 1) := by decide +kernel
theorem dX8_odds_1 : decode cX8_odds 1 = .ok (.ifCond .lt 8, 3) := by decide +kernel
theorem dX8_odds_4 : decode cX8_odds 4 = .ok (.iload_n 1, 1) := by decide +kernel
theorem dX8_odds_5 : decode cX8_odds 5 = .ok (.iconst 1, 1) := by decide +kernel
theorem dX8_odds_6 : decode cX8_odds 6 = .ok (.if_icmp .le 6, 3) := by decide +kernel
theorem dX8_odds_9 : decode cX8_odds 9 = .ok (.bipush (-3), 2) := by decide +kernel
theorem dX8_odds_11 : decode cX8_odds 11 = .ok (.ireturn, 1) := by decide +kernel
theorem dX8_odds_12 : decode cX8_odds 12 = .ok (.aload_n 0, 1) := by decide +kernel
theorem dX8_odds_13 : decode cX8_odds 13 = .ok (.invokevirtual 173, 3) := by decide +kernel
theorem dX8_odds_16 : decode cX8_odds 16 = .ok (.aload_n 0, 1) := by decide +kernel
theorem dX8_odds_17 : decode cX8_odds 17 = .ok (.getfield 50, 3) := by decide +kernel
theorem dX8_odds_20 : decode cX8_odds 20 = .ok (.invokevirtual 176, 3) := by decide +kernel
theorem dX8_odds_23 : decode cX8_odds 23 = .ok (.istore_n 2, 1) := by decide +kernel
theorem dX8_odds_24 : decode cX8_odds 24 = .ok (.aload_n 0, 1) := by decide +kernel
theorem dX8_odds_25 : decode cX8_odds 25 = .ok (.getfield 50, 3) := by decide +kernel
theorem dX8_odds_28 : decode cX8_odds 28 = .ok (.invokevirtual 181, 3) := by decide +kernel
theorem dX8_odds_31 : decode cX8_odds 31 = .ok (.istore_n 3, 1) := by decide +kernel
theorem dX8_odds_32 : decode cX8_odds 32 = .ok (.iload_n 2, 1) := by decide +kernel
theorem dX8_odds_33 : decode cX8_odds 33 = .ok (.iload_n 3, 1) := by decide +kernel
theorem dX8_odds_34 : decode cX8_odds 34 = .ok (.invokestatic 184, 3) := by decide +kernel
theorem dX8_odds_37 : decode cX8_odds 37 = .ok (.istore 4, 2) := by decide +kernel
theorem dX8_odds_39 : decode cX8_odds 39 = .ok (.iload 4, 2) := by decide +kernel
theorem dX8_odds_41 : decode cX8_odds 41 = .ok (.ifCond .ne 5, 3) := by decide +kernel
theorem dX8_odds_44 : decode cX8_odds 44 = .ok (.iconst (-1), 1) := by decide +kernel
theorem dX8_odds_45 : decode cX8_odds 45 = .ok (.ireturn, 1) := by decide +kernel
theorem dX8_odds_46 : decode cX8_odds 46 = .ok (.iload_n 1, 1) := by decide +kernel
theorem dX8_odds_47 : decode cX8_odds 47 = .ok (.ifCond .ne 7, 3) := by decide +kernel
theorem dX8_odds_50 : decode cX8_odds 50 = .ok (.iload_n 2, 1) := by decide +kernel
theorem dX8_odds_51 : decode cX8_odds 51 = .ok (.goto 4, 3) := by decide +kernel
theorem dX8_odds_54 : decode cX8_odds 54 = .ok (.iload_n 3, 1) := by decide +kernel
theorem dX8_odds_55 : decode cX8_odds 55 = .ok (.iload 4, 2) := by decide +kernel
theorem dX8_odds_57 : decode cX8_odds 57 = .ok (.idiv, 1) := by decide +kernel
theorem dX8_odds_58 : decode cX8_odds 58 = .ok (.ireturn, 1) := by decide +kernel
set_option maxHeartbeats 4000000 in
set_option maxRecDepth 100000 in
theorem c_X8_odds {l : Launch} {D : va_G} {aC : Nat → ClassId} {a_x : Nat → Nat} {a_n : Nat → Nat} {a_v : Nat → Nat} {a_d : Nat → Nat} {a_g : Nat → Nat} {a_w : Nat → Nat} {a_v3 : Nat → Nat} {a_d3 : Nat → Nat} {a_t : Nat → Nat} {a_n2 : Nat → Nat} {a_v2 : Nat → Nat} {a_q : Nat → Nat} {a_r : Nat → Nat} (s_x : Ob_T) (s_n : Ob_T) (s_v : Ob_T) (s_d : Ob_T) (s_g : Ob_T) (s_w : Ob_T) (s_v3 : Ob_T) (s_d3 : Ob_T) (x1 : Int32) {out : Int32 × Ob_T × Ob_T × Ob_T × Ob_T × Ob_T × Ob_T} (h : f_X8_odds s_x s_n s_v s_d s_g s_w s_v3 s_d3 x1 = some out) : M_W l yX8_odds wlX8_odds 13 353 D aC [.ref (a_x 0), .int x1] (wd_X8 aC a_x (a_t 0) (a_n 0) (a_n2 0) (a_v 0) (a_v2 0) (a_g 0) (a_w 0) (a_q 0) (a_r 0) s_x ++ (wd_X1 aC a_n s_n ++ (wd_X5 aC a_v (a_n 0) (a_d 0) s_v ++ (wd_X4 aC a_d s_d ++ (wd_X0 aC a_g s_g ++ (wd_X7 aC a_w (a_v3 0) s_w ++ (wd_X5 aC a_v3 (a_n 0) (a_d3 0) s_v3 ++ wd_X4 aC a_d3 s_d3))))))) (some (.int out.1)) (wd_X8 aC a_x (a_t 0) (a_n 0) (a_n2 0) (a_v 0) (a_v2 0) (a_g 0) (a_w 0) (a_q 0) (a_r 0) out.2.1 ++ (wd_X1 aC a_n s_n ++ (wd_X5 aC a_v (a_n 0) (a_d 0) out.2.2.1 ++ (wd_X4 aC a_d out.2.2.2.1 ++ (wd_X0 aC a_g s_g ++ (wd_X7 aC a_w (a_v3 0) out.2.2.2.2.1 ++ (wd_X5 aC a_v3 (a_n 0) (a_d3 0) out.2.2.2.2.2.1 ++ wd_X4 aC a_d3 out.2.2.2.2.2.2))))))) := by
  refine k_entW (cc := cX8_odds) (ret := (some .int)) (maxL := 5) (own := RX8) (by decide) rfl rfl rfl ?_
  intro p e s m below meth c A ls hX hr hZ hl
  have hl : lv_has ls 5 [(0, .ref (a_x 0)), (1, .int x1)] := hl
  generalize ([.ref (a_x 0), .int x1] : List Value).toArray = args at hX ⊢
  obtain ⟨hx, hb, hml, hown, hts, hK, hA, hlk⟩ := id hX
  unfold f_X8_odds at h
  generalize s.heap = H at hZ ⊢
  generalize ([] : List Loc) = locs at hZ ⊢
  refine lv_iload_n hx hb dX8_odds_0 rfl (lv_at hl 1 rfl) ?_
  refine lv_if_lt (tgt := 9) hx hb dX8_odds_1 (by decide) (fun cd => ?_) (fun cd => ?_)
  · replace h := k_t cd h
    clear cd
    refine lv_bipush (v := -3) hx hb dX8_odds_9 (by decide) ?_
    cases h
    exact k_iretW hX hr hZ dX8_odds_11
  · replace h := k_f cd h
    clear cd
    refine lv_iload_n hx hb dX8_odds_4 rfl (lv_at hl 1 rfl) ?_
    refine lv_iconst (v := 1) hx hb dX8_odds_5 (by decide) ?_
    refine lv_icmp_le (tgt := 12) hx hb dX8_odds_6 (by decide) (fun cd => ?_) (fun cd => ?_)
    · replace h := k_t cd h
      clear cd
      refine lv_aload_n hx hb dX8_odds_12 rfl (lv_at hl 0 rfl) ?_
      obtain ⟨u1, hu, h⟩ := k_bd h
      refine k_vWs (As := []) (rest := []) (v := none) (st1 := []) hX hl.1 hZ (c_X8_countNow (a_x := a_x) (a_n := a_n) (a_v := a_v) (a_d := a_d) (a_g := a_g) (a_w := a_w) (a_v3 := a_v3) (a_d3 := a_d3) (a_t := a_t) (a_n2 := a_n2) (a_v2 := a_v2) (a_q := a_q) (a_r := a_r) s_x s_n s_v s_d s_g s_w s_v3 s_d3 hu) (gv_ wm_739 wm_741 wm_742 wm_672 wm_740) rfl hd_X8_countNow ⟨rfl, rfl⟩ 8 0 rfl rfl rfl rfl rfl dX8_odds_13 rfl ⟨rfl, rfl⟩ rfl (fun H locs hZ => ?_)
      clear hu
      refine lv_aload_n hx hb dX8_odds_16 rfl (lv_at hl 0 rfl) ?_
      refine k_get hX hZ.1 0 8 rfl rfl iw_X8 6 rfl (wm_728) (v := .ref (a_w 0)) rfl dX8_odds_17 ?_
      obtain ⟨u2, hu, h⟩ := k_bd h
      refine k_vR3 (As := []) (rest := []) (wc := wd_X7 aC a_w (a_v3 0) u1.2.2.2.1) (v := some (.int u2)) (st1 := [.int u2]) hX hl.1 hZ (c_X7_howMany (a_w := a_w) (a_v := a_v3) u1.2.2.2.1 hu) (gv_ wm_735 wm_737 wm_738 wm_600 wm_736) rfl hd_X7_howMany ⟨rfl, rfl⟩ 7 0 rfl rfl [22, 23, 24] rfl rfl rfl dX8_odds_20 rfl ⟨rfl, rfl⟩ rfl [(a_w 0, .inr (7, [.ref (a_v3 0), .ref (a_w 1), .ref (a_w 2), .int (o_F u1.2.2.2.1 3), .int (o_F u1.2.2.2.1 4), .int (o_F u1.2.2.2.1 5)])), (a_w 1, .inl (aC 0, 4, .inl (o_A u1.2.2.2.1 1))), (a_w 2, .inl (aC 0, 4, .inl (o_A u1.2.2.2.1 2)))] rfl (And.intro rfl (And.intro rfl (And.intro rfl True.intro))) (fun locs hZ => ?_)
      clear hu
      refine lv_istore_n (lv' := [(2, .int u2), (0, .ref (a_x 0)), (1, .int x1)]) hx hb dX8_odds_23 rfl hl (by decide) rfl (fun ls hl => ?_)
      refine lv_aload_n hx hb dX8_odds_24 rfl (lv_at hl 1 rfl) ?_
      refine k_get hX hZ.1 0 8 rfl rfl iw_X8 6 rfl (wm_728) (v := .ref (a_w 0)) rfl dX8_odds_25 ?_
      obtain ⟨u3, hu, h⟩ := k_bd h
      refine k_vR3 (As := []) (rest := []) (wc := wd_X7 aC a_w (a_v3 0) u1.2.2.2.1) (v := some (.int u3)) (st1 := [.int u3]) hX hl.1 hZ (c_X7_howManyAtMost (a_w := a_w) (a_v := a_v3) u1.2.2.2.1 hu) (gv_ wm_751 wm_753 wm_754 wm_600 wm_752) rfl hd_X7_howManyAtMost ⟨rfl, rfl⟩ 7 0 rfl rfl [22, 23, 24] rfl rfl rfl dX8_odds_28 rfl ⟨rfl, rfl⟩ rfl [(a_w 0, .inr (7, [.ref (a_v3 0), .ref (a_w 1), .ref (a_w 2), .int (o_F u1.2.2.2.1 3), .int (o_F u1.2.2.2.1 4), .int (o_F u1.2.2.2.1 5)])), (a_w 1, .inl (aC 0, 4, .inl (o_A u1.2.2.2.1 1))), (a_w 2, .inl (aC 0, 4, .inl (o_A u1.2.2.2.1 2)))] rfl (And.intro rfl (And.intro rfl (And.intro rfl True.intro))) (fun locs hZ => ?_)
      clear hu
      refine lv_istore_n (lv' := [(3, .int u3), (2, .int u2), (0, .ref (a_x 0)), (1, .int x1)]) hx hb dX8_odds_31 rfl hl (by decide) rfl (fun ls hl => ?_)
      refine lv_iload_n hx hb dX8_odds_32 rfl (lv_at hl 1 rfl) ?_
      refine lv_iload_n hx hb dX8_odds_33 rfl (lv_at hl 0 rfl) ?_
      obtain ⟨u4, hu, h⟩ := k_bd h
      refine k_sR (As := [.int u2, .int u3]) (rest := []) (wc := []) (v := some (.int u4)) (st1 := [.int u4]) hX hl.1 hZ (c_X8_commonDivisor  u2 u3 hu) (gs_ wm_748 wm_750 wm_672 wm_749) rfl hd_X8_commonDivisor ⟨rfl, rfl⟩ [] rfl rfl rfl rfl rfl dX8_odds_34 rfl ⟨rfl, rfl⟩ (fun locs hZ => ?_)
      clear hu
      refine lv_istore (lv' := [(4, .int u4), (3, .int u3), (2, .int u2), (0, .ref (a_x 0)), (1, .int x1)]) hx hb dX8_odds_37 hl (by decide) rfl (fun ls hl => ?_)
      refine lv_iload hx hb dX8_odds_39 (lv_at hl 0 rfl) ?_
      refine lv_if_ne (tgt := 46) hx hb dX8_odds_41 (by decide) (fun cd => ?_) (fun cd => ?_)
      · replace h := k_f cd h
        clear cd
        refine lv_iload_n hx hb dX8_odds_46 rfl (lv_at hl 4 rfl) ?_
        refine lv_if_ne (tgt := 54) hx hb dX8_odds_47 (by decide) (fun cd => ?_) (fun cd => ?_)
        · replace h := k_f cd h
          clear cd
          refine lv_iload_n hx hb dX8_odds_54 rfl (lv_at hl 1 rfl) ?_
          refine lv_iload hx hb dX8_odds_55 (lv_at hl 0 rfl) ?_
          by_cases hd0 : u4 = 0
          · replace h := k_t hd0 h
            cases h
          · replace h := k_f hd0 h
            refine lv_idiv hx hb dX8_odds_57 hd0 ?_
            cases h
            exact k_iretW hX hr hZ dX8_odds_58
        · replace h := k_t cd h
          clear cd
          refine lv_iload_n hx hb dX8_odds_50 rfl (lv_at hl 2 rfl) ?_
          refine lv_goto (tgt := 55) hx hb dX8_odds_51 (by decide) ?_
          refine lv_iload hx hb dX8_odds_55 (lv_at hl 0 rfl) ?_
          by_cases hd0 : u4 = 0
          · replace h := k_t hd0 h
            cases h
          · replace h := k_f hd0 h
            refine lv_idiv hx hb dX8_odds_57 hd0 ?_
            cases h
            exact k_iretW hX hr hZ dX8_odds_58
      · replace h := k_t cd h
        clear cd
        refine lv_iconst (v := -1) hx hb dX8_odds_44 (by decide) ?_
        cases h
        exact k_iretW hX hr hZ dX8_odds_45
    · replace h := k_f cd h
      clear cd
      refine lv_bipush (v := -3) hx hb dX8_odds_9 (by decide) ?_
      cases h
      exact k_iretW hX hr hZ dX8_odds_11
