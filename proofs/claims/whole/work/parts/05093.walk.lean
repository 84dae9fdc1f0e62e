def wlX8_extent : List Cond := .code yX8_extent cX8_extent 3 (some .int) :: WL_
theorem hd_X8_extent : yX8_extent.cls = RX8 ∧ yX8_extent.cls ≠ "java/lang/invoke/MethodHandle" ∧ yX8_extent.cls ≠ "java/lang/invoke/VarHandle" ∧ (parseMethodDescriptor yX8_extent.desc).map (fun d => d.parameters.length) = some 2 := by decide +kernel
theorem dX8_extent_0 : decode cX8_extent 0 = .ok (.aload_n 0, 1) := by decide +kernel
theorem dX8_extent_1 : decode cX8_extent 1 = .ok (.getfield 19, 3) := by decide +kernel
theorem dX8_extent_4 : decode cX8_extent 4 = .ok (.iload_n 1, 1) := by decide +kernel
theorem dX8_extent_5 : decode cX8_extent 5 = .ok (.invokevirtual 102, 3) := by decide +kernel
theorem dX8_extent_8 : decode cX8_extent 8 = .ok (.ifCond .ne 6, 3) := by decide +kernel
theorem dX8_extent_11 : decode cX8_extent 11 = .ok (.bipush (-2), 2) := by decide +kernel
theorem dX8_extent_13 : decode cX8_extent 13 = .ok (.ireturn, 1) := by decide +kernel
theorem dX8_extent_14 : decode cX8_extent 14 = .ok (.iload_n 2, 1) := by decide +kernel
theorem dX8_extent_15 : decode cX8_extent 15 = .ok (.ifCond .lt 15, 3) := by decide +kernel
theorem dX8_extent_18 : decode cX8_extent 18 = .ok (.iload_n 2, 1) := by decide +kernel
theorem dX8_extent_19 : decode cX8_extent 19 = .ok (.aload_n 0, 1) := by decide +kernel
theorem dX8_extent_20 : decode cX8_extent 20 = .ok (.getfield 19, 3) := by decide +kernel
theorem dX8_extent_23 : decode cX8_extent 23 = .ok (.iload_n 1, 1) := by decide +kernel
theorem dX8_extent_24 : decode cX8_extent 24 = .ok (.invokevirtual 109, 3) := by decide +kernel
theorem dX8_extent_27 : decode cX8_extent 27 = .ok (.if_icmp .lt 6, 3) := by decide +kernel
theorem dX8_extent_30 : decode cX8_extent 30 = .ok (.bipush (-3), 2) := by decide +kernel
theorem dX8_extent_32 : decode cX8_extent 32 = .ok (.ireturn, 1) := by decide +kernel
theorem dX8_extent_33 : decode cX8_extent 33 = .ok (.aload_n 0, 1) := by decide +kernel
theorem dX8_extent_34 : decode cX8_extent 34 = .ok (.invokevirtual 121, 3) := by decide +kernel
theorem dX8_extent_37 : decode cX8_extent 37 = .ok (.aload_n 0, 1) := by decide +kernel
theorem dX8_extent_38 : decode cX8_extent 38 = .ok (.getfield 31, 3) := by decide +kernel
theorem dX8_extent_41 : decode cX8_extent 41 = .ok (.aload_n 0, 1) := by decide +kernel
theorem dX8_extent_42 : decode cX8_extent 42 = .ok (.getfield 19, 3) := by decide +kernel
theorem dX8_extent_45 : decode cX8_extent 45 = .ok (.iload_n 1, 1) := by decide +kernel
theorem dX8_extent_46 : decode cX8_extent 46 = .ok (.iload_n 2, 1) := by decide +kernel
theorem dX8_extent_47 : decode cX8_extent 47 = .ok (.invokevirtual 124, 3) := by decide +kernel
theorem dX8_extent_50 : decode cX8_extent 50 = .ok (.invokevirtual 128, 3) := by decide +kernel
theorem dX8_extent_53 : decode cX8_extent 53 = .ok (.ireturn, 1) := by decide +kernel
set_option maxHeartbeats 4000000 in
set_option maxRecDepth 100000 in
theorem c_X8_extent {l : Launch} {D : va_G} {aC : Nat → ClassId} {a_x : Nat → Nat} {a_n : Nat → Nat} {a_v : Nat → Nat} {a_d : Nat → Nat} {a_g : Nat → Nat} {a_t : Nat → Nat} {a_n2 : Nat → Nat} {a_v2 : Nat → Nat} {a_w : Nat → Nat} {a_q : Nat → Nat} {a_r : Nat → Nat} (s_x : Ob_T) (s_n : Ob_T) (s_v : Ob_T) (s_d : Ob_T) (s_g : Ob_T) (x1 : Int32) (x2 : Int32) {out : Int32 × Ob_T × Ob_T × Ob_T} (h : f_X8_extent s_x s_n s_v s_d s_g x1 x2 = some out) : M_W l yX8_extent wlX8_extent 6 164 D aC [.ref (a_x 0), .int x1, .int x2] (wd_X8 aC a_x (a_t 0) (a_n 0) (a_n2 0) (a_v 0) (a_v2 0) (a_g 0) (a_w 0) (a_q 0) (a_r 0) s_x ++ (wd_X1 aC a_n s_n ++ (wd_X5 aC a_v (a_n 0) (a_d 0) s_v ++ (wd_X4 aC a_d s_d ++ wd_X0 aC a_g s_g)))) (some (.int out.1)) (wd_X8 aC a_x (a_t 0) (a_n 0) (a_n2 0) (a_v 0) (a_v2 0) (a_g 0) (a_w 0) (a_q 0) (a_r 0) out.2.1 ++ (wd_X1 aC a_n s_n ++ (wd_X5 aC a_v (a_n 0) (a_d 0) out.2.2.1 ++ (wd_X4 aC a_d out.2.2.2 ++ wd_X0 aC a_g s_g)))) := by
  refine k_entW (cc := cX8_extent) (ret := (some .int)) (maxL := 3) (own := RX8) (by decide) rfl rfl rfl ?_
  intro p e s m below meth c A ls hX hr hZ hl
  have hl : lv_has ls 3 [(0, .ref (a_x 0)), (1, .int x1), (2, .int x2)] := hl
  generalize ([.ref (a_x 0), .int x1, .int x2] : List Value).toArray = args at hX ⊢
  obtain ⟨hx, hb, hml, hown, hts, hK, hA, hlk⟩ := id hX
  unfold f_X8_extent at h
  generalize s.heap = H at hZ ⊢
  generalize ([] : List Loc) = locs at hZ ⊢
  refine lv_aload_n hx hb dX8_extent_0 rfl (lv_at hl 0 rfl) ?_
  refine k_get hX hZ.1 0 8 rfl rfl iw_X8 1 rfl (wm_651) (v := .ref (a_n 0)) rfl dX8_extent_1 ?_
  refine lv_iload_n hx hb dX8_extent_4 rfl (lv_at hl 1 rfl) ?_
  obtain ⟨u1, hu, h⟩ := k_bd h
  refine k_vR (As := [.int x1]) (rest := []) (wc := wd_X1 aC a_n s_n) (v := some (.int u1)) (st1 := [.int u1]) hX hl.1 hZ (c_X1_has (a_n := a_n) s_n x1 hu) (gv_ wm_657 wm_323 wm_324 wm_321 wm_322) rfl hd_X1_has ⟨rfl, rfl⟩ 1 0 rfl rfl [1, 2, 3, 4, 5, 6, 7] rfl rfl rfl rfl rfl dX8_extent_5 rfl ⟨rfl, rfl⟩ (fun locs hZ => ?_)
  clear hu
  refine lv_if_ne (tgt := 14) hx hb dX8_extent_8 (by decide) (fun cd => ?_) (fun cd => ?_)
  · replace h := k_f cd h
    clear cd
    refine lv_iload_n hx hb dX8_extent_14 rfl (lv_at hl 2 rfl) ?_
    refine lv_if_lt (tgt := 30) hx hb dX8_extent_15 (by decide) (fun cd => ?_) (fun cd => ?_)
    · replace h := k_t cd h
      clear cd
      refine lv_bipush (v := -3) hx hb dX8_extent_30 (by decide) ?_
      cases h
      exact k_iretW hX hr hZ dX8_extent_32
    · replace h := k_f cd h
      clear cd
      refine lv_iload_n hx hb dX8_extent_18 rfl (lv_at hl 2 rfl) ?_
      refine lv_aload_n hx hb dX8_extent_19 rfl (lv_at hl 0 rfl) ?_
      refine k_get hX hZ.1 0 8 rfl rfl iw_X8 1 rfl (wm_651) (v := .ref (a_n 0)) rfl dX8_extent_20 ?_
      refine lv_iload_n hx hb dX8_extent_23 rfl (lv_at hl 1 rfl) ?_
      obtain ⟨u2, hu, h⟩ := k_bd h
      refine k_vR (As := [.int x1]) (rest := [.int x2]) (wc := wd_X1 aC a_n s_n) (v := some (.int u2)) (st1 := [.int u2, .int x2]) hX hl.1 hZ (c_X1_axesOf (a_n := a_n) s_n x1 hu) (gv_ wm_653 wm_502 wm_503 wm_321 wm_501) rfl hd_X1_axesOf ⟨rfl, rfl⟩ 1 0 rfl rfl [1, 2, 3, 4, 5, 6, 7] rfl rfl rfl rfl rfl dX8_extent_24 rfl ⟨rfl, rfl⟩ (fun locs hZ => ?_)
      clear hu
      refine lv_icmp_lt (tgt := 33) hx hb dX8_extent_27 (by decide) (fun cd => ?_) (fun cd => ?_)
      · replace h := k_t cd h
        clear cd
        refine lv_aload_n hx hb dX8_extent_33 rfl (lv_at hl 0 rfl) ?_
        obtain ⟨u3, hu, h⟩ := k_bd h
        refine k_vWs (As := []) (rest := []) (v := none) (st1 := []) hX hl.1 hZ (c_X8_solveNow (a_x := a_x) (a_n := a_n) (a_v := a_v) (a_d := a_d) (a_g := a_g) (a_t := a_t) (a_n2 := a_n2) (a_v2 := a_v2) (a_w := a_w) (a_q := a_q) (a_r := a_r) s_x s_n s_v s_d s_g hu) (gv_ wm_671 wm_674 wm_675 wm_672 wm_673) rfl hd_X8_solveNow ⟨rfl, rfl⟩ 8 0 rfl rfl rfl rfl rfl dX8_extent_34 rfl ⟨rfl, rfl⟩ rfl (fun H locs hZ => ?_)
        clear hu
        refine lv_aload_n hx hb dX8_extent_37 rfl (lv_at hl 0 rfl) ?_
        refine k_get hX hZ.1 0 8 rfl rfl iw_X8 3 rfl (wm_659) (v := .ref (a_v 0)) rfl dX8_extent_38 ?_
        refine lv_aload_n hx hb dX8_extent_41 rfl (lv_at hl 0 rfl) ?_
        refine k_get hX hZ.1 0 8 rfl rfl iw_X8 1 rfl (wm_651) (v := .ref (a_n 0)) rfl dX8_extent_42 ?_
        refine lv_iload_n hx hb dX8_extent_45 rfl (lv_at hl 1 rfl) ?_
        refine lv_iload_n hx hb dX8_extent_46 rfl (lv_at hl 2 rfl) ?_
        obtain ⟨u4, hu, h⟩ := k_bd h
        refine k_vR (As := [.int x1, .int x2]) (rest := [.ref (a_v 0)]) (wc := wd_X1 aC a_n s_n) (v := some (.int u4)) (st1 := [.int u4, .ref (a_v 0)]) hX hl.1 hZ (c_X1_at (a_n := a_n) s_n x1 x2 hu) (gv_ wm_670 wm_327 wm_328 wm_321 wm_326) rfl hd_X1_at ⟨rfl, rfl⟩ 1 0 rfl rfl [1, 2, 3, 4, 5, 6, 7] rfl rfl rfl rfl rfl dX8_extent_47 rfl ⟨rfl, rfl⟩ (fun locs hZ => ?_)
        clear hu
        obtain ⟨u5, hu, h⟩ := k_bd h
        refine k_vR (As := [.int u4]) (rest := []) (wc := wd_X5 aC a_v (a_n 0) (a_d 0) u3.2.1) (v := some (.int u5)) (st1 := [.int u5]) hX hl.1 hZ (c_X5_valueOf (a_v := a_v) (a_n := a_n) (a_d := a_d) u3.2.1 u4 hu) (gv_ wm_669 wm_446 wm_447 wm_432 wm_445) rfl hd_X5_valueOf ⟨rfl, rfl⟩ 5 0 rfl rfl [8, 9, 10, 11, 12] rfl rfl rfl rfl rfl dX8_extent_50 rfl ⟨rfl, rfl⟩ (fun locs hZ => ?_)
        clear hu
        cases h
        exact k_iretW hX hr hZ dX8_extent_53
      · replace h := k_f cd h
        clear cd
        refine lv_bipush (v := -3) hx hb dX8_extent_30 (by decide) ?_
        cases h
        exact k_iretW hX hr hZ dX8_extent_32
  · replace h := k_t cd h
    clear cd
    refine lv_bipush (v := -2) hx hb dX8_extent_11 (by decide) ?_
    cases h
    exact k_iretW hX hr hZ dX8_extent_13
def wlX8_isPlain : List Cond := .code yX8_isPlain cX8_isPlain 1 (some .boolean) :: WL_
theorem hd_X8_isPlain : yX8_isPlain.cls ≠ "java/lang/invoke/MethodHandle" ∧ yX8_isPlain.cls ≠ "java/lang/invoke/VarHandle" ∧ (parseMethodDescriptor yX8_isPlain.desc).map (fun d => d.parameters.length) = some 1 := by decide +kernel
theorem dX8_isPlain_0 : decode cX8_isPlain 0 = .ok (.iload_n 0, 1) := by decide +kernel
theorem dX8_isPlain_1 : decode cX8_isPlain 1 = .ok (.ifCond .lt 12, 3) := by decide +kernel
theorem dX8_isPlain_4 : decode cX8_isPlain 4 = .ok (.iload_n 0, 1) := by decide +kernel
theorem dX8_isPlain_5 : decode cX8_isPlain 5 = .ok (.iconst 4, 1) := by decide +kernel
theorem dX8_isPlain_6 : decode cX8_isPlain 6 = .ok (.if_icmp .ge 7, 3) := by decide +kernel
theorem dX8_isPlain_9 : decode cX8_isPlain 9 = .ok (.iconst 1, 1) := by decide +kernel
theorem dX8_isPlain_10 : decode cX8_isPlain 10 = .ok (.goto 4, 3) := by decide +kernel
theorem dX8_isPlain_13 : decode cX8_isPlain 13 = .ok (.iconst 0, 1) := by decide +kernel
theorem dX8_isPlain_14 : decode cX8_isPlain 14 = .ok (.ireturn, 1) := by decide +kernel
set_option maxHeartbeats 4000000 in
set_option maxRecDepth 100000 in
theorem c_X8_isPlain {l : Launch} {D : va_G} {aC : Nat → ClassId} (x0 : Int32) {out : Int32} (h : f_X8_isPlain x0 = some out) : M_R l yX8_isPlain wlX8_isPlain 0 0 D aC [.int x0] (([] : va_W)) (some (.int out)) := by
  refine k_entR (cc := cX8_isPlain) (ret := (some .boolean)) (maxL := 1) (own := RX8) (by decide) rfl rfl rfl ?_
  intro p e s m below meth c A ls hX hr hZ hl
  have hl : lv_has ls 1 [(0, .int x0)] := hl
  generalize ([.int x0] : List Value).toArray = args at hX ⊢
  obtain ⟨hx, hb, hml, hown, hts, hK, hA, hlk⟩ := id hX
  unfold f_X8_isPlain at h
  have hF : ∀ q ∈ ([] : List Loc), False := fun _ h => nomatch h
  generalize ([] : List Loc) = locs at hF ⊢
  refine lv_iload_n hx hb dX8_isPlain_0 rfl (lv_at hl 0 rfl) ?_
  refine lv_if_lt (tgt := 13) hx hb dX8_isPlain_1 (by decide) (fun cd => ?_) (fun cd => ?_)
  · replace h := k_t cd h
    clear cd
    refine lv_iconst (v := 0) hx hb dX8_isPlain_13 (by decide) ?_
    cases h
    exact k_zretR (v := (0 : Int32)) hX hr rfl hF dX8_isPlain_14
  · replace h := k_f cd h
    clear cd
    refine lv_iload_n hx hb dX8_isPlain_4 rfl (lv_at hl 0 rfl) ?_
    refine lv_iconst (v := 4) hx hb dX8_isPlain_5 (by decide) ?_
    refine lv_icmp_ge (tgt := 13) hx hb dX8_isPlain_6 (by decide) (fun cd => ?_) (fun cd => ?_)
    · replace h := k_t cd h
      clear cd
      refine lv_iconst (v := 0) hx hb dX8_isPlain_13 (by decide) ?_
      cases h
      exact k_zretR (v := (0 : Int32)) hX hr rfl hF dX8_isPlain_14
    · replace h := k_f cd h
      clear cd
      refine lv_iconst (v := 1) hx hb dX8_isPlain_9 (by decide) ?_
      refine lv_goto (tgt := 14) hx hb dX8_isPlain_10 (by decide) ?_
      cases h
      exact k_zretR (v := (1 : Int32)) hX hr rfl hF dX8_isPlain_14
def wlX8_forgetSolved : List Cond := .code yX8_forgetSolved cX8_forgetSolved 1 none :: WL_
theorem hd_X8_forgetSolved : yX8_forgetSolved.cls = RX8 ∧ yX8_forgetSolved.cls ≠ "java/lang/invoke/MethodHandle" ∧ yX8_forgetSolved.cls ≠ "java/lang/invoke/VarHandle" ∧ (parseMethodDescriptor yX8_forgetSolved.desc).map (fun d => d.parameters.length) = some 0 := by decide +kernel
theorem dX8_forgetSolved_0 : decode cX8_forgetSolved 0 = .ok (.aload_n 0, 1) := by decide +kernel
theorem dX8_forgetSolved_1 : decode cX8_forgetSolved 1 = .ok (.iconst 0, 1) := by decide +kernel
theorem dX8_forgetSolved_2 : decode cX8_forgetSolved 2 = .ok (.putfield 68, 3) := by decide +kernel
theorem dX8_forgetSolved_5 : decode cX8_forgetSolved 5 = .ok (.aload_n 0, 1) := by decide +kernel
theorem dX8_forgetSolved_6 : decode cX8_forgetSolved 6 = .ok (.iconst 0, 1) := by decide +kernel
theorem dX8_forgetSolved_7 : decode cX8_forgetSolved 7 = .ok (.putfield 72, 3) := by decide +kernel
theorem dX8_forgetSolved_10 : decode cX8_forgetSolved 10 = .ok (.return_, 1) := by decide +kernel
set_option maxHeartbeats 4000000 in
set_option maxRecDepth 100000 in
theorem c_X8_forgetSolved {l : Launch} {D : va_G} {aC : Nat → ClassId} {a_x : Nat → Nat} {a_t : Nat → Nat} {a_n : Nat → Nat} {a_n2 : Nat → Nat} {a_v : Nat → Nat} {a_v2 : Nat → Nat} {a_g : Nat → Nat} {a_w : Nat → Nat} {a_q : Nat → Nat} {a_r : Nat → Nat} (s_x : Ob_T) {out : Ob_T} (h : f_X8_forgetSolved s_x = some out) : M_W l yX8_forgetSolved wlX8_forgetSolved 0 0 D aC [.ref (a_x 0)] (wd_X8 aC a_x (a_t 0) (a_n 0) (a_n2 0) (a_v 0) (a_v2 0) (a_g 0) (a_w 0) (a_q 0) (a_r 0) s_x) (none) (wd_X8 aC a_x (a_t 0) (a_n 0) (a_n2 0) (a_v 0) (a_v2 0) (a_g 0) (a_w 0) (a_q 0) (a_r 0) out) := by
  refine k_entW (cc := cX8_forgetSolved) (ret := none) (maxL := 1) (own := RX8) (by decide) rfl rfl rfl ?_
  intro p e s m below meth c A ls hX hr hZ hl
  have hl : lv_has ls 1 [(0, .ref (a_x 0))] := hl
  generalize ([.ref (a_x 0)] : List Value).toArray = args at hX ⊢
  obtain ⟨hx, hb, hml, hown, hts, hK, hA, hlk⟩ := id hX
  unfold f_X8_forgetSolved at h
  generalize s.heap = H at hZ ⊢
  generalize ([] : List Loc) = locs at hZ ⊢
  refine lv_aload_n hx hb dX8_forgetSolved_0 rfl (lv_at hl 0 rfl) ?_
  refine lv_iconst (v := 0) hx hb dX8_forgetSolved_1 (by decide) ?_
  refine k_put (wf := (fun o => wd_X8 aC a_x (a_t 0) (a_n 0) (a_n2 0) (a_v 0) (a_v2 0) (a_g 0) (a_w 0) (a_q 0) (a_r 0) o)) (o := s_x) hX hZ 0 8 rfl rfl iw_X8 tyX8 tyX8_ok nmX8 9 rfl (wm_658) rfl rfl rfl rfl rfl h dX8_forgetSolved_2 (fun o1 H locs hZ h => ?_)
  refine lv_aload_n hx hb dX8_forgetSolved_5 rfl (lv_at hl 0 rfl) ?_
  refine lv_iconst (v := 0) hx hb dX8_forgetSolved_6 (by decide) ?_
  refine k_put (wf := (fun o => wd_X8 aC a_x (a_t 0) (a_n 0) (a_n2 0) (a_v 0) (a_v2 0) (a_g 0) (a_w 0) (a_q 0) (a_r 0) o)) (o := o1) hX hZ 0 8 rfl rfl iw_X8 tyX8 tyX8_ok nmX8 10 rfl (wm_676) rfl rfl rfl rfl rfl h dX8_forgetSolved_7 (fun o2 H locs hZ h => ?_)
  cases h
  exact k_vretW hX hr hZ dX8_forgetSolved_10
def wlX8_give : List Cond := .code yX8_give cX8_give 3 (some .int) :: WL_
theorem hd_X8_give : yX8_give.cls = RX8 ∧ yX8_give.cls ≠ "java/lang/invoke/MethodHandle" ∧ yX8_give.cls ≠ "java/lang/invoke/VarHandle" ∧ (parseMethodDescriptor yX8_give.desc).map (fun d => d.parameters.length) = some 2 := by decide +kernel
theorem dX8_give_0 : decode cX8_give 0 = .ok (.iload_n 1, 1) := by decide +kernel
theorem dX8_give_1 : decode cX8_give 1 = .ok (.invokestatic 135, 3) := by decide +kernel
theorem dX8_give_4 : decode cX8_give 4 = .ok (.ifCond .ne 6, 3) := by decide +kernel
theorem dX8_give_7 : decode cX8_give 7 = .ok (.bipush (-2), 2) := by decide +kernel
theorem dX8_give_9 : decode cX8_give 9 = .ok (.ireturn, 1) := by decide +kernel
theorem dX8_give_10 : decode cX8_give 10 = .ok (.iload_n 2, 1) := by decide +kernel
theorem dX8_give_11 : decode cX8_give 11 = .ok (.ifCond .lt 9, 3) := by decide +kernel
theorem dX8_give_14 : decode cX8_give 14 = .ok (.iload_n 2, 1) := by decide +kernel
theorem dX8_give_15 : decode cX8_give 15 = .ok (.bipush 9, 2) := by decide +kernel
theorem dX8_give_17 : decode cX8_give 17 = .ok (.if_icmp .le 6, 3) := by decide +kernel
theorem dX8_give_20 : decode cX8_give 20 = .ok (.bipush (-3), 2) := by decide +kernel
theorem dX8_give_22 : decode cX8_give 22 = .ok (.ireturn, 1) := by decide +kernel
theorem dX8_give_23 : decode cX8_give 23 = .ok (.aload_n 0, 1) := by decide +kernel
theorem dX8_give_24 : decode cX8_give 24 = .ok (.getfield 41, 3) := by decide +kernel
theorem dX8_give_27 : decode cX8_give 27 = .ok (.iload_n 1, 1) := by decide +kernel
theorem dX8_give_28 : decode cX8_give 28 = .ok (.invokevirtual 138, 3) := by decide +kernel
theorem dX8_give_31 : decode cX8_give 31 = .ok (.iload_n 2, 1) := by decide +kernel
theorem dX8_give_32 : decode cX8_give 32 = .ok (.if_icmp .ne 6, 3) := by decide +kernel
theorem dX8_give_35 : decode cX8_give 35 = .ok (.bipush (-4), 2) := by decide +kernel
theorem dX8_give_37 : decode cX8_give 37 = .ok (.ireturn, 1) := by decide +kernel
theorem dX8_give_38 : decode cX8_give 38 = .ok (.aload_n 0, 1) := by decide +kernel
theorem dX8_give_39 : decode cX8_give 39 = .ok (.getfield 41, 3) := by decide +kernel
theorem dX8_give_42 : decode cX8_give 42 = .ok (.iload_n 1, 1) := by decide +kernel
theorem dX8_give_43 : decode cX8_give 43 = .ok (.iload_n 2, 1) := by decide +kernel
theorem dX8_give_44 : decode cX8_give 44 = .ok (.invokevirtual 141, 3) := by decide +kernel
theorem dX8_give_47 : decode cX8_give 47 = .ok (.aload_n 0, 1) := by decide +kernel
theorem dX8_give_48 : decode cX8_give 48 = .ok (.invokevirtual 96, 3) := by decide +kernel
theorem dX8_give_51 : decode cX8_give 51 = .ok (.aload_n 0, 1) := by decide +kernel
theorem dX8_give_52 : decode cX8_give 52 = .ok (.getfield 41, 3) := by decide +kernel
theorem dX8_give_55 : decode cX8_give 55 = .ok (.invokevirtual 145, 3) := by decide +kernel
theorem dX8_give_58 : decode cX8_give 58 = .ok (.ireturn, 1) := by decide +kernel
set_option maxHeartbeats 4000000 in
set_option maxRecDepth 100000 in
theorem c_X8_give {l : Launch} {D : va_G} {aC : Nat → ClassId} {a_x : Nat → Nat} {a_g : Nat → Nat} {a_t : Nat → Nat} {a_n : Nat → Nat} {a_n2 : Nat → Nat} {a_v : Nat → Nat} {a_v2 : Nat → Nat} {a_w : Nat → Nat} {a_q : Nat → Nat} {a_r : Nat → Nat} (s_x : Ob_T) (s_g : Ob_T) (x1 : Int32) (x2 : Int32) {out : Int32 × Ob_T × Ob_T} (h : f_X8_give s_x s_g x1 x2 = some out) : M_W l yX8_give wlX8_give 2 122 D aC [.ref (a_x 0), .int x1, .int x2] (wd_X8 aC a_x (a_t 0) (a_n 0) (a_n2 0) (a_v 0) (a_v2 0) (a_g 0) (a_w 0) (a_q 0) (a_r 0) s_x ++ wd_X0 aC a_g s_g) (some (.int out.1)) (wd_X8 aC a_x (a_t 0) (a_n 0) (a_n2 0) (a_v 0) (a_v2 0) (a_g 0) (a_w 0) (a_q 0) (a_r 0) out.2.1 ++ wd_X0 aC a_g out.2.2) := by
  refine k_entW (cc := cX8_give) (ret := (some .int)) (maxL := 3) (own := RX8) (by decide) rfl rfl rfl ?_
  intro p e s m below meth c A ls hX hr hZ hl
  have hl : lv_has ls 3 [(0, .ref (a_x 0)), (1, .int x1), (2, .int x2)] := hl
  generalize ([.ref (a_x 0), .int x1, .int x2] : List Value).toArray = args at hX ⊢
  obtain ⟨hx, hb, hml, hown, hts, hK, hA, hlk⟩ := id hX
  unfold f_X8_give at h
  generalize s.heap = H at hZ ⊢
  generalize ([] : List Loc) = locs at hZ ⊢
  refine lv_iload_n hx hb dX8_give_0 rfl (lv_at hl 1 rfl) ?_
  obtain ⟨u1, hu, h⟩ := k_bd h
  refine k_sR (As := [.int x1]) (rest := []) (wc := []) (v := some (.int u1)) (st1 := [.int u1]) hX hl.1 hZ (c_X8_isPlain  x1 hu) (gs_ wm_693 wm_695 wm_672 wm_694) rfl hd_X8_isPlain ⟨rfl, rfl⟩ [] rfl rfl rfl rfl rfl dX8_give_1 rfl ⟨rfl, rfl⟩ (fun locs hZ => ?_)
  clear hu
  refine lv_if_ne (tgt := 10) hx hb dX8_give_4 (by decide) (fun cd => ?_) (fun cd => ?_)
  · replace h := k_f cd h
    clear cd
    refine lv_iload_n hx hb dX8_give_10 rfl (lv_at hl 2 rfl) ?_
    refine lv_if_lt (tgt := 20) hx hb dX8_give_11 (by decide) (fun cd => ?_) (fun cd => ?_)
    · replace h := k_t cd h
      clear cd
      refine lv_bipush (v := -3) hx hb dX8_give_20 (by decide) ?_
      cases h
      exact k_iretW hX hr hZ dX8_give_22
    · replace h := k_f cd h
      clear cd
      refine lv_iload_n hx hb dX8_give_14 rfl (lv_at hl 2 rfl) ?_
      refine lv_bipush (v := 9) hx hb dX8_give_15 (by decide) ?_
      refine lv_icmp_le (tgt := 23) hx hb dX8_give_17 (by decide) (fun cd => ?_) (fun cd => ?_)
      · replace h := k_t cd h
        clear cd
        refine lv_aload_n hx hb dX8_give_23 rfl (lv_at hl 0 rfl) ?_
        refine k_get hX hZ.1 0 8 rfl rfl iw_X8 5 rfl (wm_660) (v := .ref (a_g 0)) rfl dX8_give_24 ?_
        refine lv_iload_n hx hb dX8_give_27 rfl (lv_at hl 1 rfl) ?_
        obtain ⟨u2, hu, h⟩ := k_bd h
        refine k_vR (As := [.int x1]) (rest := []) (wc := wd_X0 aC a_g s_g) (v := some (.int u2)) (st1 := [.int u2]) hX hl.1 hZ (c_X0_numberOf (a_g := a_g) s_g x1 hu) (gv_ wm_689 wm_691 wm_692 wm_301 wm_690) rfl hd_X0_numberOf ⟨rfl, rfl⟩ 0 0 rfl rfl [1, 2, 3, 4, 5, 6] rfl rfl rfl rfl rfl dX8_give_28 rfl ⟨rfl, rfl⟩ (fun locs hZ => ?_)
        clear hu
        refine lv_iload_n hx hb dX8_give_31 rfl (lv_at hl 2 rfl) ?_
        refine lv_icmp_ne (tgt := 38) hx hb dX8_give_32 (by decide) (fun cd => ?_) (fun cd => ?_)
        · replace h := k_f cd h
          clear cd
          refine lv_aload_n hx hb dX8_give_38 rfl (lv_at hl 0 rfl) ?_
          refine k_get hX hZ.1 0 8 rfl rfl iw_X8 5 rfl (wm_660) (v := .ref (a_g 0)) rfl dX8_give_39 ?_
          refine lv_iload_n hx hb dX8_give_42 rfl (lv_at hl 1 rfl) ?_
          refine lv_iload_n hx hb dX8_give_43 rfl (lv_at hl 2 rfl) ?_
          obtain ⟨u3, hu, h⟩ := k_bd h
          refine k_vW (As := [.int x1, .int x2]) (rest := []) (wc := wd_X0 aC a_g s_g) (v := none) (st1 := []) (w' := wd_X8 aC a_x (a_t 0) (a_n 0) (a_n2 0) (a_v 0) (a_v2 0) (a_g 0) (a_w 0) (a_q 0) (a_r 0) s_x ++ wd_X0 aC a_g u3) hX hl.1 hZ (c_X0_change (a_g := a_g) s_g x1 x2 hu) (gv_ wm_685 wm_687 wm_688 wm_301 wm_686) rfl hd_X0_change ⟨rfl, rfl⟩ 0 0 rfl rfl [1, 2, 3, 4, 5, 6] rfl rfl rfl rfl rfl dX8_give_44 rfl ⟨rfl, rfl⟩ rfl rfl rfl (fun H locs hZ => ?_)
          clear hu
          refine lv_aload_n hx hb dX8_give_47 rfl (lv_at hl 0 rfl) ?_
          obtain ⟨u4, hu, h⟩ := k_bd h
          refine k_vW (As := []) (rest := []) (wc := wd_X8 aC a_x (a_t 0) (a_n 0) (a_n2 0) (a_v 0) (a_v2 0) (a_g 0) (a_w 0) (a_q 0) (a_r 0) s_x) (v := none) (st1 := []) (w' := wd_X8 aC a_x (a_t 0) (a_n 0) (a_n2 0) (a_v 0) (a_v2 0) (a_g 0) (a_w 0) (a_q 0) (a_r 0) u4 ++ wd_X0 aC a_g u3) hX hl.1 hZ (c_X8_forgetSolved (a_x := a_x) (a_t := a_t) (a_n := a_n) (a_n2 := a_n2) (a_v := a_v) (a_v2 := a_v2) (a_g := a_g) (a_w := a_w) (a_q := a_q) (a_r := a_r) s_x hu) (gv_ wm_681 wm_683 wm_684 wm_672 wm_682) rfl hd_X8_forgetSolved ⟨rfl, rfl⟩ 8 0 rfl rfl [0] rfl rfl rfl rfl rfl dX8_give_48 rfl ⟨rfl, rfl⟩ rfl rfl rfl (fun H locs hZ => ?_)
          clear hu
          refine lv_aload_n hx hb dX8_give_51 rfl (lv_at hl 0 rfl) ?_
          refine k_get hX hZ.1 0 8 rfl rfl iw_X8 5 rfl (wm_660) (v := .ref (a_g 0)) rfl dX8_give_52 ?_
          obtain ⟨u5, hu, h⟩ := k_bd h
          refine k_vR (As := []) (rest := []) (wc := wd_X0 aC a_g u3) (v := some (.int u5)) (st1 := [.int u5]) hX hl.1 hZ (c_X0_howMany (a_g := a_g) u3 hu) (gv_ wm_677 wm_679 wm_680 wm_301 wm_678) rfl hd_X0_howMany ⟨rfl, rfl⟩ 0 0 rfl rfl [1, 2, 3, 4, 5, 6] rfl rfl rfl rfl rfl dX8_give_55 rfl ⟨rfl, rfl⟩ (fun locs hZ => ?_)
          clear hu
          cases h
          exact k_iretW hX hr hZ dX8_give_58
        · replace h := k_t cd h
          clear cd
          refine lv_bipush (v := -4) hx hb dX8_give_35 (by decide) ?_
          cases h
          exact k_iretW hX hr hZ dX8_give_37
      · replace h := k_f cd h
        clear cd
        refine lv_bipush (v := -3) hx hb dX8_give_20 (by decide) ?_
        cases h
        exact k_iretW hX hr hZ dX8_give_22
  · replace h := k_t cd h
    clear cd
    refine lv_bipush (v := -2) hx hb dX8_give_7 (by decide) ?_
    cases h
    exact k_iretW hX hr hZ dX8_give_9
