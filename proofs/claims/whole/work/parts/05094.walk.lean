def wlX8_free : List Cond := .code yX8_free cX8_free 2 (some .int) :: WL_
theorem hd_X8_free : yX8_free.cls = RX8 ∧ yX8_free.cls ≠ "java/lang/invoke/MethodHandle" ∧ yX8_free.cls ≠ "java/lang/invoke/VarHandle" ∧ (parseMethodDescriptor yX8_free.desc).map (fun d => d.parameters.length) = some 1 := by decide +kernel
theorem dX8_free_0 : decode cX8_free 0 = .ok (.iload_n 1, 1) := by decide +kernel
theorem dX8_free_1 : decode cX8_free 1 = .ok (.invokestatic 135, 3) := by decide +kernel
theorem dX8_free_4 : decode cX8_free 4 = .ok (.ifCond .ne 6, 3) := by decide +kernel
theorem dX8_free_7 : decode cX8_free 7 = .ok (.bipush (-2), 2) := by decide +kernel
theorem dX8_free_9 : decode cX8_free 9 = .ok (.ireturn, 1) := by decide +kernel
theorem dX8_free_10 : decode cX8_free 10 = .ok (.aload_n 0, 1) := by decide +kernel
theorem dX8_free_11 : decode cX8_free 11 = .ok (.getfield 41, 3) := by decide +kernel
theorem dX8_free_14 : decode cX8_free 14 = .ok (.iload_n 1, 1) := by decide +kernel
theorem dX8_free_15 : decode cX8_free 15 = .ok (.invokevirtual 138, 3) := by decide +kernel
theorem dX8_free_18 : decode cX8_free 18 = .ok (.iconst (-1), 1) := by decide +kernel
theorem dX8_free_19 : decode cX8_free 19 = .ok (.if_icmp .ne 6, 3) := by decide +kernel
theorem dX8_free_22 : decode cX8_free 22 = .ok (.bipush (-4), 2) := by decide +kernel
theorem dX8_free_24 : decode cX8_free 24 = .ok (.ireturn, 1) := by decide +kernel
theorem dX8_free_25 : decode cX8_free 25 = .ok (.aload_n 0, 1) := by decide +kernel
theorem dX8_free_26 : decode cX8_free 26 = .ok (.getfield 41, 3) := by decide +kernel
theorem dX8_free_29 : decode cX8_free 29 = .ok (.iload_n 1, 1) := by decide +kernel
theorem dX8_free_30 : decode cX8_free 30 = .ok (.iconst (-1), 1) := by decide +kernel
theorem dX8_free_31 : decode cX8_free 31 = .ok (.invokevirtual 141, 3) := by decide +kernel
theorem dX8_free_34 : decode cX8_free 34 = .ok (.aload_n 0, 1) := by decide +kernel
theorem dX8_free_35 : decode cX8_free 35 = .ok (.invokevirtual 96, 3) := by decide +kernel
theorem dX8_free_38 : decode cX8_free 38 = .ok (.aload_n 0, 1) := by decide +kernel
theorem dX8_free_39 : decode cX8_free 39 = .ok (.getfield 41, 3) := by decide +kernel
theorem dX8_free_42 : decode cX8_free 42 = .ok (.invokevirtual 145, 3) := by decide +kernel
theorem dX8_free_45 : decode cX8_free 45 = .ok (.ireturn, 1) := by decide +kernel
set_option maxHeartbeats 4000000 in
set_option maxRecDepth 100000 in
theorem c_X8_free {l : Launch} {D : va_G} {aC : Nat → ClassId} {a_x : Nat → Nat} {a_g : Nat → Nat} {a_t : Nat → Nat} {a_n : Nat → Nat} {a_n2 : Nat → Nat} {a_v : Nat → Nat} {a_v2 : Nat → Nat} {a_w : Nat → Nat} {a_q : Nat → Nat} {a_r : Nat → Nat} (s_x : Ob_T) (s_g : Ob_T) (x1 : Int32) {out : Int32 × Ob_T × Ob_T} (h : f_X8_free s_x s_g x1 = some out) : M_W l yX8_free wlX8_free 2 122 D aC [.ref (a_x 0), .int x1] (wd_X8 aC a_x (a_t 0) (a_n 0) (a_n2 0) (a_v 0) (a_v2 0) (a_g 0) (a_w 0) (a_q 0) (a_r 0) s_x ++ wd_X0 aC a_g s_g) (some (.int out.1)) (wd_X8 aC a_x (a_t 0) (a_n 0) (a_n2 0) (a_v 0) (a_v2 0) (a_g 0) (a_w 0) (a_q 0) (a_r 0) out.2.1 ++ wd_X0 aC a_g out.2.2) := by
  refine k_entW (cc := cX8_free) (ret := (some .int)) (maxL := 2) (own := RX8) (by decide) rfl rfl rfl ?_
  intro p e s m below meth c A ls hX hr hZ hl
  have hl : lv_has ls 2 [(0, .ref (a_x 0)), (1, .int x1)] := hl
  generalize ([.ref (a_x 0), .int x1] : List Value).toArray = args at hX ⊢
  obtain ⟨hx, hb, hml, hown, hts, hK, hA, hlk⟩ := id hX
  unfold f_X8_free at h
  generalize s.heap = H at hZ ⊢
  generalize ([] : List Loc) = locs at hZ ⊢
  refine lv_iload_n hx hb dX8_free_0 rfl (lv_at hl 1 rfl) ?_
  obtain ⟨u1, hu, h⟩ := k_bd h
  refine k_sR (As := [.int x1]) (rest := []) (wc := []) (v := some (.int u1)) (st1 := [.int u1]) hX hl.1 hZ (c_X8_isPlain  x1 hu) (gs_ wm_693 wm_695 wm_672 wm_694) rfl hd_X8_isPlain ⟨rfl, rfl⟩ [] rfl rfl rfl rfl rfl dX8_free_1 rfl ⟨rfl, rfl⟩ (fun locs hZ => ?_)
  clear hu
  refine lv_if_ne (tgt := 10) hx hb dX8_free_4 (by decide) (fun cd => ?_) (fun cd => ?_)
  · replace h := k_f cd h
    clear cd
    refine lv_aload_n hx hb dX8_free_10 rfl (lv_at hl 0 rfl) ?_
    refine k_get hX hZ.1 0 8 rfl rfl iw_X8 5 rfl (wm_660) (v := .ref (a_g 0)) rfl dX8_free_11 ?_
    refine lv_iload_n hx hb dX8_free_14 rfl (lv_at hl 1 rfl) ?_
    obtain ⟨u2, hu, h⟩ := k_bd h
    refine k_vR (As := [.int x1]) (rest := []) (wc := wd_X0 aC a_g s_g) (v := some (.int u2)) (st1 := [.int u2]) hX hl.1 hZ (c_X0_numberOf (a_g := a_g) s_g x1 hu) (gv_ wm_689 wm_691 wm_692 wm_301 wm_690) rfl hd_X0_numberOf ⟨rfl, rfl⟩ 0 0 rfl rfl [1, 2, 3, 4, 5, 6] rfl rfl rfl rfl rfl dX8_free_15 rfl ⟨rfl, rfl⟩ (fun locs hZ => ?_)
    clear hu
    refine lv_iconst (v := -1) hx hb dX8_free_18 (by decide) ?_
    refine lv_icmp_ne (tgt := 25) hx hb dX8_free_19 (by decide) (fun cd => ?_) (fun cd => ?_)
    · replace h := k_f cd h
      clear cd
      refine lv_aload_n hx hb dX8_free_25 rfl (lv_at hl 0 rfl) ?_
      refine k_get hX hZ.1 0 8 rfl rfl iw_X8 5 rfl (wm_660) (v := .ref (a_g 0)) rfl dX8_free_26 ?_
      refine lv_iload_n hx hb dX8_free_29 rfl (lv_at hl 1 rfl) ?_
      refine lv_iconst (v := -1) hx hb dX8_free_30 (by decide) ?_
      obtain ⟨u3, hu, h⟩ := k_bd h
      refine k_vW (As := [.int x1, .int (-1 : Int32)]) (rest := []) (wc := wd_X0 aC a_g s_g) (v := none) (st1 := []) (w' := wd_X8 aC a_x (a_t 0) (a_n 0) (a_n2 0) (a_v 0) (a_v2 0) (a_g 0) (a_w 0) (a_q 0) (a_r 0) s_x ++ wd_X0 aC a_g u3) hX hl.1 hZ (c_X0_change (a_g := a_g) s_g x1 (-1 : Int32) hu) (gv_ wm_685 wm_687 wm_688 wm_301 wm_686) rfl hd_X0_change ⟨rfl, rfl⟩ 0 0 rfl rfl [1, 2, 3, 4, 5, 6] rfl rfl rfl rfl rfl dX8_free_31 rfl ⟨rfl, rfl⟩ rfl rfl rfl (fun H locs hZ => ?_)
      clear hu
      refine lv_aload_n hx hb dX8_free_34 rfl (lv_at hl 0 rfl) ?_
      obtain ⟨u4, hu, h⟩ := k_bd h
      refine k_vW (As := []) (rest := []) (wc := wd_X8 aC a_x (a_t 0) (a_n 0) (a_n2 0) (a_v 0) (a_v2 0) (a_g 0) (a_w 0) (a_q 0) (a_r 0) s_x) (v := none) (st1 := []) (w' := wd_X8 aC a_x (a_t 0) (a_n 0) (a_n2 0) (a_v 0) (a_v2 0) (a_g 0) (a_w 0) (a_q 0) (a_r 0) u4 ++ wd_X0 aC a_g u3) hX hl.1 hZ (c_X8_forgetSolved (a_x := a_x) (a_t := a_t) (a_n := a_n) (a_n2 := a_n2) (a_v := a_v) (a_v2 := a_v2) (a_g := a_g) (a_w := a_w) (a_q := a_q) (a_r := a_r) s_x hu) (gv_ wm_681 wm_683 wm_684 wm_672 wm_682) rfl hd_X8_forgetSolved ⟨rfl, rfl⟩ 8 0 rfl rfl [0] rfl rfl rfl rfl rfl dX8_free_35 rfl ⟨rfl, rfl⟩ rfl rfl rfl (fun H locs hZ => ?_)
      clear hu
      refine lv_aload_n hx hb dX8_free_38 rfl (lv_at hl 0 rfl) ?_
      refine k_get hX hZ.1 0 8 rfl rfl iw_X8 5 rfl (wm_660) (v := .ref (a_g 0)) rfl dX8_free_39 ?_
      obtain ⟨u5, hu, h⟩ := k_bd h
      refine k_vR (As := []) (rest := []) (wc := wd_X0 aC a_g u3) (v := some (.int u5)) (st1 := [.int u5]) hX hl.1 hZ (c_X0_howMany (a_g := a_g) u3 hu) (gv_ wm_677 wm_679 wm_680 wm_301 wm_678) rfl hd_X0_howMany ⟨rfl, rfl⟩ 0 0 rfl rfl [1, 2, 3, 4, 5, 6] rfl rfl rfl rfl rfl dX8_free_42 rfl ⟨rfl, rfl⟩ (fun locs hZ => ?_)
      clear hu
      cases h
      exact k_iretW hX hr hZ dX8_free_45
    · replace h := k_t cd h
      clear cd
      refine lv_bipush (v := -4) hx hb dX8_free_22 (by decide) ?_
      cases h
      exact k_iretW hX hr hZ dX8_free_24
  · replace h := k_t cd h
    clear cd
    refine lv_bipush (v := -2) hx hb dX8_free_7 (by decide) ?_
    cases h
    exact k_iretW hX hr hZ dX8_free_9
def wlX8_undo : List Cond := .code yX8_undo cX8_undo 1 (some .int) :: WL_
theorem hd_X8_undo : yX8_undo.cls = RX8 ∧ yX8_undo.cls ≠ "java/lang/invoke/MethodHandle" ∧ yX8_undo.cls ≠ "java/lang/invoke/VarHandle" ∧ (parseMethodDescriptor yX8_undo.desc).map (fun d => d.parameters.length) = some 0 := by decide +kernel
theorem dX8_undo_0 : decode cX8_undo 0 = .ok (.aload_n 0, 1) := by decide +kernel
theorem dX8_undo_1 : decode cX8_undo 1 = .ok (.getfield 41, 3) := by decide +kernel
theorem dX8_undo_4 : decode cX8_undo 4 = .ok (.invokevirtual 148, 3) := by decide +kernel
theorem dX8_undo_7 : decode cX8_undo 7 = .ok (.ifCond .ne 6, 3) := by decide +kernel
theorem dX8_undo_10 : decode cX8_undo 10 = .ok (.bipush (-4), 2) := by decide +kernel
theorem dX8_undo_12 : decode cX8_undo 12 = .ok (.ireturn, 1) := by decide +kernel
theorem dX8_undo_13 : decode cX8_undo 13 = .ok (.aload_n 0, 1) := by decide +kernel
theorem dX8_undo_14 : decode cX8_undo 14 = .ok (.getfield 41, 3) := by decide +kernel
theorem dX8_undo_17 : decode cX8_undo 17 = .ok (.invokevirtual 151, 3) := by decide +kernel
theorem dX8_undo_20 : decode cX8_undo 20 = .ok (.aload_n 0, 1) := by decide +kernel
theorem dX8_undo_21 : decode cX8_undo 21 = .ok (.invokevirtual 96, 3) := by decide +kernel
theorem dX8_undo_24 : decode cX8_undo 24 = .ok (.aload_n 0, 1) := by decide +kernel
theorem dX8_undo_25 : decode cX8_undo 25 = .ok (.getfield 41, 3) := by decide +kernel
theorem dX8_undo_28 : decode cX8_undo 28 = .ok (.invokevirtual 148, 3) := by decide +kernel
theorem dX8_undo_31 : decode cX8_undo 31 = .ok (.ireturn, 1) := by decide +kernel
set_option maxHeartbeats 4000000 in
set_option maxRecDepth 100000 in
theorem c_X8_undo {l : Launch} {D : va_G} {aC : Nat → ClassId} {a_x : Nat → Nat} {a_g : Nat → Nat} {a_t : Nat → Nat} {a_n : Nat → Nat} {a_n2 : Nat → Nat} {a_v : Nat → Nat} {a_v2 : Nat → Nat} {a_w : Nat → Nat} {a_q : Nat → Nat} {a_r : Nat → Nat} (s_x : Ob_T) (s_g : Ob_T) {out : Int32 × Ob_T × Ob_T} (h : f_X8_undo s_x s_g = some out) : M_W l yX8_undo wlX8_undo 1 20 D aC [.ref (a_x 0)] (wd_X8 aC a_x (a_t 0) (a_n 0) (a_n2 0) (a_v 0) (a_v2 0) (a_g 0) (a_w 0) (a_q 0) (a_r 0) s_x ++ wd_X0 aC a_g s_g) (some (.int out.1)) (wd_X8 aC a_x (a_t 0) (a_n 0) (a_n2 0) (a_v 0) (a_v2 0) (a_g 0) (a_w 0) (a_q 0) (a_r 0) out.2.1 ++ wd_X0 aC a_g out.2.2) := by
  refine k_entW (cc := cX8_undo) (ret := (some .int)) (maxL := 1) (own := RX8) (by decide) rfl rfl rfl ?_
  intro p e s m below meth c A ls hX hr hZ hl
  have hl : lv_has ls 1 [(0, .ref (a_x 0))] := hl
  generalize ([.ref (a_x 0)] : List Value).toArray = args at hX ⊢
  obtain ⟨hx, hb, hml, hown, hts, hK, hA, hlk⟩ := id hX
  unfold f_X8_undo at h
  generalize s.heap = H at hZ ⊢
  generalize ([] : List Loc) = locs at hZ ⊢
  refine lv_aload_n hx hb dX8_undo_0 rfl (lv_at hl 0 rfl) ?_
  refine k_get hX hZ.1 0 8 rfl rfl iw_X8 5 rfl (wm_660) (v := .ref (a_g 0)) rfl dX8_undo_1 ?_
  obtain ⟨u1, hu, h⟩ := k_bd h
  refine k_vR (As := []) (rest := []) (wc := wd_X0 aC a_g s_g) (v := some (.int u1)) (st1 := [.int u1]) hX hl.1 hZ (c_X0_undoable (a_g := a_g) s_g hu) (gv_ wm_696 wm_698 wm_699 wm_301 wm_697) rfl hd_X0_undoable ⟨rfl, rfl⟩ 0 0 rfl rfl [1, 2, 3, 4, 5, 6] rfl rfl rfl rfl rfl dX8_undo_4 rfl ⟨rfl, rfl⟩ (fun locs hZ => ?_)
  clear hu
  refine lv_if_ne (tgt := 13) hx hb dX8_undo_7 (by decide) (fun cd => ?_) (fun cd => ?_)
  · replace h := k_f cd h
    clear cd
    refine lv_aload_n hx hb dX8_undo_13 rfl (lv_at hl 0 rfl) ?_
    refine k_get hX hZ.1 0 8 rfl rfl iw_X8 5 rfl (wm_660) (v := .ref (a_g 0)) rfl dX8_undo_14 ?_
    obtain ⟨u2, hu, h⟩ := k_bd h
    refine k_vW (As := []) (rest := []) (wc := wd_X0 aC a_g s_g) (v := none) (st1 := []) (w' := wd_X8 aC a_x (a_t 0) (a_n 0) (a_n2 0) (a_v 0) (a_v2 0) (a_g 0) (a_w 0) (a_q 0) (a_r 0) s_x ++ wd_X0 aC a_g u2) hX hl.1 hZ (c_X0_takeBack (a_g := a_g) s_g hu) (gv_ wm_700 wm_702 wm_703 wm_301 wm_701) rfl hd_X0_takeBack ⟨rfl, rfl⟩ 0 0 rfl rfl [1, 2, 3, 4, 5, 6] rfl rfl rfl rfl rfl dX8_undo_17 rfl ⟨rfl, rfl⟩ rfl rfl rfl (fun H locs hZ => ?_)
    clear hu
    refine lv_aload_n hx hb dX8_undo_20 rfl (lv_at hl 0 rfl) ?_
    obtain ⟨u3, hu, h⟩ := k_bd h
    refine k_vW (As := []) (rest := []) (wc := wd_X8 aC a_x (a_t 0) (a_n 0) (a_n2 0) (a_v 0) (a_v2 0) (a_g 0) (a_w 0) (a_q 0) (a_r 0) s_x) (v := none) (st1 := []) (w' := wd_X8 aC a_x (a_t 0) (a_n 0) (a_n2 0) (a_v 0) (a_v2 0) (a_g 0) (a_w 0) (a_q 0) (a_r 0) u3 ++ wd_X0 aC a_g u2) hX hl.1 hZ (c_X8_forgetSolved (a_x := a_x) (a_t := a_t) (a_n := a_n) (a_n2 := a_n2) (a_v := a_v) (a_v2 := a_v2) (a_g := a_g) (a_w := a_w) (a_q := a_q) (a_r := a_r) s_x hu) (gv_ wm_681 wm_683 wm_684 wm_672 wm_682) rfl hd_X8_forgetSolved ⟨rfl, rfl⟩ 8 0 rfl rfl [0] rfl rfl rfl rfl rfl dX8_undo_21 rfl ⟨rfl, rfl⟩ rfl rfl rfl (fun H locs hZ => ?_)
    clear hu
    refine lv_aload_n hx hb dX8_undo_24 rfl (lv_at hl 0 rfl) ?_
    refine k_get hX hZ.1 0 8 rfl rfl iw_X8 5 rfl (wm_660) (v := .ref (a_g 0)) rfl dX8_undo_25 ?_
    obtain ⟨u4, hu, h⟩ := k_bd h
    refine k_vR (As := []) (rest := []) (wc := wd_X0 aC a_g u2) (v := some (.int u4)) (st1 := [.int u4]) hX hl.1 hZ (c_X0_undoable (a_g := a_g) u2 hu) (gv_ wm_696 wm_698 wm_699 wm_301 wm_697) rfl hd_X0_undoable ⟨rfl, rfl⟩ 0 0 rfl rfl [1, 2, 3, 4, 5, 6] rfl rfl rfl rfl rfl dX8_undo_28 rfl ⟨rfl, rfl⟩ (fun locs hZ => ?_)
    clear hu
    cases h
    exact k_iretW hX hr hZ dX8_undo_31
  · replace h := k_t cd h
    clear cd
    refine lv_bipush (v := -4) hx hb dX8_undo_10 (by decide) ?_
    cases h
    exact k_iretW hX hr hZ dX8_undo_12
def wlX8_keep : List Cond := .code yX8_keep cX8_keep 2 (some .int) :: WL_
theorem hd_X8_keep : yX8_keep.cls = RX8 ∧ yX8_keep.cls ≠ "java/lang/invoke/MethodHandle" ∧ yX8_keep.cls ≠ "java/lang/invoke/VarHandle" ∧ (parseMethodDescriptor yX8_keep.desc).map (fun d => d.parameters.length) = some 1 := by decide +kernel
theorem dX8_keep_0 : decode cX8_keep 0 = .ok (.iload_n 1, 1) := by decide +kernel
theorem dX8_keep_1 : decode cX8_keep 1 = .ok (.ifCond .lt 8, 3) := by decide +kernel
theorem dX8_keep_4 : decode cX8_keep 4 = .ok (.iload_n 1, 1) := by decide +kernel
theorem dX8_keep_5 : decode cX8_keep 5 = .ok (.iconst 2, 1) := by decide +kernel
theorem dX8_keep_6 : decode cX8_keep 6 = .ok (.if_icmp .lt 6, 3) := by decide +kernel
theorem dX8_keep_9 : decode cX8_keep 9 = .ok (.bipush (-2), 2) := by decide +kernel
theorem dX8_keep_11 : decode cX8_keep 11 = .ok (.ireturn, 1) := by decide +kernel
theorem dX8_keep_12 : decode cX8_keep 12 = .ok (.aload_n 0, 1) := by decide +kernel
theorem dX8_keep_13 : decode cX8_keep 13 = .ok (.getfield 41, 3) := by decide +kernel
theorem dX8_keep_16 : decode cX8_keep 16 = .ok (.iload_n 1, 1) := by decide +kernel
theorem dX8_keep_17 : decode cX8_keep 17 = .ok (.invokevirtual 154, 3) := by decide +kernel
theorem dX8_keep_20 : decode cX8_keep 20 = .ok (.aload_n 0, 1) := by decide +kernel
theorem dX8_keep_21 : decode cX8_keep 21 = .ok (.getfield 41, 3) := by decide +kernel
theorem dX8_keep_24 : decode cX8_keep 24 = .ok (.invokevirtual 145, 3) := by decide +kernel
theorem dX8_keep_27 : decode cX8_keep 27 = .ok (.ireturn, 1) := by decide +kernel
set_option maxHeartbeats 4000000 in
set_option maxRecDepth 100000 in
theorem c_X8_keep {l : Launch} {D : va_G} {aC : Nat → ClassId} {a_x : Nat → Nat} {a_g : Nat → Nat} {a_t : Nat → Nat} {a_n : Nat → Nat} {a_n2 : Nat → Nat} {a_v : Nat → Nat} {a_v2 : Nat → Nat} {a_w : Nat → Nat} {a_q : Nat → Nat} {a_r : Nat → Nat} (s_x : Ob_T) (s_g : Ob_T) (x1 : Int32) {out : Int32 × Ob_T} (h : f_X8_keep s_x s_g x1 = some out) : M_W l yX8_keep wlX8_keep 2 121 D aC [.ref (a_x 0), .int x1] (wd_X8 aC a_x (a_t 0) (a_n 0) (a_n2 0) (a_v 0) (a_v2 0) (a_g 0) (a_w 0) (a_q 0) (a_r 0) s_x ++ wd_X0 aC a_g s_g) (some (.int out.1)) (wd_X8 aC a_x (a_t 0) (a_n 0) (a_n2 0) (a_v 0) (a_v2 0) (a_g 0) (a_w 0) (a_q 0) (a_r 0) s_x ++ wd_X0 aC a_g out.2) := by
  refine k_entW (cc := cX8_keep) (ret := (some .int)) (maxL := 2) (own := RX8) (by decide) rfl rfl rfl ?_
  intro p e s m below meth c A ls hX hr hZ hl
  have hl : lv_has ls 2 [(0, .ref (a_x 0)), (1, .int x1)] := hl
  generalize ([.ref (a_x 0), .int x1] : List Value).toArray = args at hX ⊢
  obtain ⟨hx, hb, hml, hown, hts, hK, hA, hlk⟩ := id hX
  unfold f_X8_keep at h
  generalize s.heap = H at hZ ⊢
  generalize ([] : List Loc) = locs at hZ ⊢
  refine lv_iload_n hx hb dX8_keep_0 rfl (lv_at hl 1 rfl) ?_
  refine lv_if_lt (tgt := 9) hx hb dX8_keep_1 (by decide) (fun cd => ?_) (fun cd => ?_)
  · replace h := k_t cd h
    clear cd
    refine lv_bipush (v := -2) hx hb dX8_keep_9 (by decide) ?_
    cases h
    exact k_iretW hX hr hZ dX8_keep_11
  · replace h := k_f cd h
    clear cd
    refine lv_iload_n hx hb dX8_keep_4 rfl (lv_at hl 1 rfl) ?_
    refine lv_iconst (v := 2) hx hb dX8_keep_5 (by decide) ?_
    refine lv_icmp_lt (tgt := 12) hx hb dX8_keep_6 (by decide) (fun cd => ?_) (fun cd => ?_)
    · replace h := k_t cd h
      clear cd
      refine lv_aload_n hx hb dX8_keep_12 rfl (lv_at hl 0 rfl) ?_
      refine k_get hX hZ.1 0 8 rfl rfl iw_X8 5 rfl (wm_660) (v := .ref (a_g 0)) rfl dX8_keep_13 ?_
      refine lv_iload_n hx hb dX8_keep_16 rfl (lv_at hl 1 rfl) ?_
      obtain ⟨u1, hu, h⟩ := k_bd h
      refine k_vW (As := [.int x1]) (rest := []) (wc := wd_X0 aC a_g s_g) (v := none) (st1 := []) (w' := wd_X8 aC a_x (a_t 0) (a_n 0) (a_n2 0) (a_v 0) (a_v2 0) (a_g 0) (a_w 0) (a_q 0) (a_r 0) s_x ++ wd_X0 aC a_g u1) hX hl.1 hZ (c_X0_store (a_g := a_g) s_g x1 hu) (gv_ wm_704 wm_706 wm_707 wm_301 wm_705) rfl hd_X0_store ⟨rfl, rfl⟩ 0 0 rfl rfl [1, 2, 3, 4, 5, 6] rfl rfl rfl rfl rfl dX8_keep_17 rfl ⟨rfl, rfl⟩ rfl rfl rfl (fun H locs hZ => ?_)
      clear hu
      refine lv_aload_n hx hb dX8_keep_20 rfl (lv_at hl 0 rfl) ?_
      refine k_get hX hZ.1 0 8 rfl rfl iw_X8 5 rfl (wm_660) (v := .ref (a_g 0)) rfl dX8_keep_21 ?_
      obtain ⟨u2, hu, h⟩ := k_bd h
      refine k_vR (As := []) (rest := []) (wc := wd_X0 aC a_g u1) (v := some (.int u2)) (st1 := [.int u2]) hX hl.1 hZ (c_X0_howMany (a_g := a_g) u1 hu) (gv_ wm_677 wm_679 wm_680 wm_301 wm_678) rfl hd_X0_howMany ⟨rfl, rfl⟩ 0 0 rfl rfl [1, 2, 3, 4, 5, 6] rfl rfl rfl rfl rfl dX8_keep_24 rfl ⟨rfl, rfl⟩ (fun locs hZ => ?_)
      clear hu
      cases h
      exact k_iretW hX hr hZ dX8_keep_27
    · replace h := k_f cd h
      clear cd
      refine lv_bipush (v := -2) hx hb dX8_keep_9 (by decide) ?_
      cases h
      exact k_iretW hX hr hZ dX8_keep_11
