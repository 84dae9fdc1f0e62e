def wlX8_back : List Cond := .code yX8_back cX8_back 2 (some .int) :: WL_
theorem hd_X8_back : yX8_back.cls = RX8 ∧ yX8_back.cls ≠ "java/lang/invoke/MethodHandle" ∧ yX8_back.cls ≠ "java/lang/invoke/VarHandle" ∧ (parseMethodDescriptor yX8_back.desc).map (fun d => d.parameters.length) = some 1 := by decide +kernel
theorem dX8_back_0 : decode cX8_back 0 = .ok (.iload_n 1, 1) := by decide +kernel
theorem dX8_back_1 : decode cX8_back 1 = .ok (.ifCond .lt 8, 3) := by decide +kernel
theorem dX8_back_4 : decode cX8_back 4 = .ok (.iload_n 1, 1) := by decide +kernel
theorem dX8_back_5 : decode cX8_back 5 = .ok (.iconst 2, 1) := by decide +kernel
theorem dX8_back_6 : decode cX8_back 6 = .ok (.if_icmp .lt 6, 3) := by decide +kernel
theorem dX8_back_9 : decode cX8_back 9 = .ok (.bipush (-2), 2) := by decide +kernel
theorem dX8_back_11 : decode cX8_back 11 = .ok (.ireturn, 1) := by decide +kernel
theorem dX8_back_12 : decode cX8_back 12 = .ok (.aload_n 0, 1) := by decide +kernel
theorem dX8_back_13 : decode cX8_back 13 = .ok (.getfield 41, 3) := by decide +kernel
theorem dX8_back_16 : decode cX8_back 16 = .ok (.iload_n 1, 1) := by decide +kernel
theorem dX8_back_17 : decode cX8_back 17 = .ok (.invokevirtual 158, 3) := by decide +kernel
theorem dX8_back_20 : decode cX8_back 20 = .ok (.ifCond .ne 6, 3) := by decide +kernel
theorem dX8_back_23 : decode cX8_back 23 = .ok (.bipush (-4), 2) := by decide +kernel
theorem dX8_back_25 : decode cX8_back 25 = .ok (.ireturn, 1) := by decide +kernel
theorem dX8_back_26 : decode cX8_back 26 = .ok (.aload_n 0, 1) := by decide +kernel
theorem dX8_back_27 : decode cX8_back 27 = .ok (.getfield 41, 3) := by decide +kernel
theorem dX8_back_30 : decode cX8_back 30 = .ok (.iload_n 1, 1) := by decide +kernel
theorem dX8_back_31 : decode cX8_back 31 = .ok (.invokevirtual 161, 3) := by decide +kernel
theorem dX8_back_34 : decode cX8_back 34 = .ok (.aload_n 0, 1) := by decide +kernel
theorem dX8_back_35 : decode cX8_back 35 = .ok (.invokevirtual 96, 3) := by decide +kernel
theorem dX8_back_38 : decode cX8_back 38 = .ok (.aload_n 0, 1) := by decide +kernel
theorem dX8_back_39 : decode cX8_back 39 = .ok (.getfield 41, 3) := by decide +kernel
theorem dX8_back_42 : decode cX8_back 42 = .ok (.invokevirtual 145, 3) := by decide +kernel
theorem dX8_back_45 : decode cX8_back 45 = .ok (.ireturn, 1) := by decide +kernel
set_option maxHeartbeats 4000000 in
set_option maxRecDepth 100000 in
theorem c_X8_back {l : Launch} {D : va_G} {aC : Nat → ClassId} {a_x : Nat → Nat} {a_g : Nat → Nat} {a_t : Nat → Nat} {a_n : Nat → Nat} {a_n2 : Nat → Nat} {a_v : Nat → Nat} {a_v2 : Nat → Nat} {a_w : Nat → Nat} {a_q : Nat → Nat} {a_r : Nat → Nat} (s_x : Ob_T) (s_g : Ob_T) (x1 : Int32) {out : Int32 × Ob_T × Ob_T} (h : f_X8_back s_x s_g x1 = some out) : M_W l yX8_back wlX8_back 2 121 D aC [.ref (a_x 0), .int x1] (wd_X8 aC a_x (a_t 0) (a_n 0) (a_n2 0) (a_v 0) (a_v2 0) (a_g 0) (a_w 0) (a_q 0) (a_r 0) s_x ++ wd_X0 aC a_g s_g) (some (.int out.1)) (wd_X8 aC a_x (a_t 0) (a_n 0) (a_n2 0) (a_v 0) (a_v2 0) (a_g 0) (a_w 0) (a_q 0) (a_r 0) out.2.1 ++ wd_X0 aC a_g out.2.2) := by
  refine k_entW (cc := cX8_back) (ret := (some .int)) (maxL := 2) (own := RX8) (by decide) rfl rfl rfl ?_
  intro p e s m below meth c A ls hX hr hZ hl
  have hl : lv_has ls 2 [(0, .ref (a_x 0)), (1, .int x1)] := hl
  generalize ([.ref (a_x 0), .int x1] : List Value).toArray = args at hX ⊢
  obtain ⟨hx, hb, hml, hown, hts, hK, hA, hlk⟩ := id hX
  unfold f_X8_back at h
  generalize s.heap = H at hZ ⊢
  generalize ([] : List Loc) = locs at hZ ⊢
  refine lv_iload_n hx hb dX8_back_0 rfl (lv_at hl 1 rfl) ?_
  refine lv_if_lt (tgt := 9) hx hb dX8_back_1 (by decide) (fun cd => ?_) (fun cd => ?_)
  · replace h := k_t cd h
    clear cd
    refine lv_bipush (v := -2) hx hb dX8_back_9 (by decide) ?_
    cases h
    exact k_iretW hX hr hZ dX8_back_11
  · replace h := k_f cd h
    clear cd
    refine lv_iload_n hx hb dX8_back_4 rfl (lv_at hl 1 rfl) ?_
    refine lv_iconst (v := 2) hx hb dX8_back_5 (by decide) ?_
    refine lv_icmp_lt (tgt := 12) hx hb dX8_back_6 (by decide) (fun cd => ?_) (fun cd => ?_)
    · replace h := k_t cd h
      clear cd
      refine lv_aload_n hx hb dX8_back_12 rfl (lv_at hl 0 rfl) ?_
      refine k_get hX hZ.1 0 8 rfl rfl iw_X8 5 rfl (wm_660) (v := .ref (a_g 0)) rfl dX8_back_13 ?_
      refine lv_iload_n hx hb dX8_back_16 rfl (lv_at hl 1 rfl) ?_
      obtain ⟨u1, hu, h⟩ := k_bd h
      refine k_vR (As := [.int x1]) (rest := []) (wc := wd_X0 aC a_g s_g) (v := some (.int u1)) (st1 := [.int u1]) hX hl.1 hZ (c_X0_isStored (a_g := a_g) s_g x1 hu) (gv_ wm_712 wm_714 wm_715 wm_301 wm_713) rfl hd_X0_isStored ⟨rfl, rfl⟩ 0 0 rfl rfl [1, 2, 3, 4, 5, 6] rfl rfl rfl rfl rfl dX8_back_17 rfl ⟨rfl, rfl⟩ (fun locs hZ => ?_)
      clear hu
      refine lv_if_ne (tgt := 26) hx hb dX8_back_20 (by decide) (fun cd => ?_) (fun cd => ?_)
      · replace h := k_f cd h
        clear cd
        refine lv_aload_n hx hb dX8_back_26 rfl (lv_at hl 0 rfl) ?_
        refine k_get hX hZ.1 0 8 rfl rfl iw_X8 5 rfl (wm_660) (v := .ref (a_g 0)) rfl dX8_back_27 ?_
        refine lv_iload_n hx hb dX8_back_30 rfl (lv_at hl 1 rfl) ?_
        obtain ⟨u2, hu, h⟩ := k_bd h
        refine k_vW (As := [.int x1]) (rest := []) (wc := wd_X0 aC a_g s_g) (v := none) (st1 := []) (w' := wd_X8 aC a_x (a_t 0) (a_n 0) (a_n2 0) (a_v 0) (a_v2 0) (a_g 0) (a_w 0) (a_q 0) (a_r 0) s_x ++ wd_X0 aC a_g u2) hX hl.1 hZ (c_X0_restore (a_g := a_g) s_g x1 hu) (gv_ wm_708 wm_710 wm_711 wm_301 wm_709) rfl hd_X0_restore ⟨rfl, rfl⟩ 0 0 rfl rfl [1, 2, 3, 4, 5, 6] rfl rfl rfl rfl rfl dX8_back_31 rfl ⟨rfl, rfl⟩ rfl rfl rfl (fun H locs hZ => ?_)
        clear hu
        refine lv_aload_n hx hb dX8_back_34 rfl (lv_at hl 0 rfl) ?_
        obtain ⟨u3, hu, h⟩ := k_bd h
        refine k_vW (As := []) (rest := []) (wc := wd_X8 aC a_x (a_t 0) (a_n 0) (a_n2 0) (a_v 0) (a_v2 0) (a_g 0) (a_w 0) (a_q 0) (a_r 0) s_x) (v := none) (st1 := []) (w' := wd_X8 aC a_x (a_t 0) (a_n 0) (a_n2 0) (a_v 0) (a_v2 0) (a_g 0) (a_w 0) (a_q 0) (a_r 0) u3 ++ wd_X0 aC a_g u2) hX hl.1 hZ (c_X8_forgetSolved (a_x := a_x) (a_t := a_t) (a_n := a_n) (a_n2 := a_n2) (a_v := a_v) (a_v2 := a_v2) (a_g := a_g) (a_w := a_w) (a_q := a_q) (a_r := a_r) s_x hu) (gv_ wm_681 wm_683 wm_684 wm_672 wm_682) rfl hd_X8_forgetSolved ⟨rfl, rfl⟩ 8 0 rfl rfl [0] rfl rfl rfl rfl rfl dX8_back_35 rfl ⟨rfl, rfl⟩ rfl rfl rfl (fun H locs hZ => ?_)
        clear hu
        refine lv_aload_n hx hb dX8_back_38 rfl (lv_at hl 0 rfl) ?_
        refine k_get hX hZ.1 0 8 rfl rfl iw_X8 5 rfl (wm_660) (v := .ref (a_g 0)) rfl dX8_back_39 ?_
        obtain ⟨u4, hu, h⟩ := k_bd h
        refine k_vR (As := []) (rest := []) (wc := wd_X0 aC a_g u2) (v := some (.int u4)) (st1 := [.int u4]) hX hl.1 hZ (c_X0_howMany (a_g := a_g) u2 hu) (gv_ wm_677 wm_679 wm_680 wm_301 wm_678) rfl hd_X0_howMany ⟨rfl, rfl⟩ 0 0 rfl rfl [1, 2, 3, 4, 5, 6] rfl rfl rfl rfl rfl dX8_back_42 rfl ⟨rfl, rfl⟩ (fun locs hZ => ?_)
        clear hu
        cases h
        exact k_iretW hX hr hZ dX8_back_45
      · replace h := k_t cd h
        clear cd
        refine lv_bipush (v := -4) hx hb dX8_back_23 (by decide) ?_
        cases h
        exact k_iretW hX hr hZ dX8_back_25
    · replace h := k_f cd h
      clear cd
      refine lv_bipush (v := -2) hx hb dX8_back_9 (by decide) ?_
      cases h
      exact k_iretW hX hr hZ dX8_back_11
def wlX8_letter : List Cond := .code yX8_letter cX8_letter 2 (some .int) :: WL_
theorem hd_X8_letter : yX8_letter.cls = RX8 ∧ yX8_letter.cls ≠ "java/lang/invoke/MethodHandle" ∧ yX8_letter.cls ≠ "java/lang/invoke/VarHandle" ∧ (parseMethodDescriptor yX8_letter.desc).map (fun d => d.parameters.length) = some 1 := by decide +kernel
theorem dX8_letter_0 : decode cX8_letter 0 = .ok (.iload_n 1, 1) := by decide +kernel
theorem dX8_letter_1 : decode cX8_letter 1 = .ok (.invokestatic 135, 3) := by decide +kernel
theorem dX8_letter_4 : decode cX8_letter 4 = .ok (.ifCond .ne 17, 3) := by decide +kernel
theorem dX8_letter_7 : decode cX8_letter 7 = .ok (.aload_n 0, 1) := by decide +kernel
theorem dX8_letter_8 : decode cX8_letter 8 = .ok (.getfield 19, 3) := by decide +kernel
theorem dX8_letter_11 : decode cX8_letter 11 = .ok (.iload_n 1, 1) := by decide +kernel
theorem dX8_letter_12 : decode cX8_letter 12 = .ok (.invokevirtual 164, 3) := by decide +kernel
theorem dX8_letter_15 : decode cX8_letter 15 = .ok (.ifCond .ne 6, 3) := by decide +kernel
theorem dX8_letter_18 : decode cX8_letter 18 = .ok (.bipush (-2), 2) := by decide +kernel
theorem dX8_letter_20 : decode cX8_letter 20 = .ok (.ireturn, 1) := by decide +kernel
theorem dX8_letter_21 : decode cX8_letter 21 = .ok (.aload_n 0, 1) := by decide +kernel
theorem dX8_letter_22 : decode cX8_letter 22 = .ok (.invokevirtual 121, 3) := by decide +kernel
theorem dX8_letter_25 : decode cX8_letter 25 = .ok (.aload_n 0, 1) := by decide +kernel
theorem dX8_letter_26 : decode cX8_letter 26 = .ok (.getfield 31, 3) := by decide +kernel
theorem dX8_letter_29 : decode cX8_letter 29 = .ok (.sipush 20000, 3) := by decide +kernel
theorem dX8_letter_32 : decode cX8_letter 32 = .ok (.iload_n 1, 1) := by decide +kernel
theorem dX8_letter_33 : decode cX8_letter 33 = .ok (.iadd, 1) := by decide +kernel
theorem dX8_letter_34 : decode cX8_letter 34 = .ok (.invokevirtual 128, 3) := by decide +kernel
theorem dX8_letter_37 : decode cX8_letter 37 = .ok (.ireturn, 1) := by decide +kernel
set_option maxHeartbeats 4000000 in
set_option maxRecDepth 100000 in
theorem t_X8_letter_J21 {p : Program} {l : Launch} {e : Env} {s : State} {m : MethodId} {args : Array Value} {below : List Frame} {meth : Method} {c : Code} {D : va_G} {aC : Nat → ClassId} {A : Nat → Prop} {a_x a_n a_v a_d a_g a_t a_n2 a_v2 a_w a_q a_r : Nat → Nat} {out : Int32 × Ob_T × Ob_T × Ob_T} {s_n : Ob_T} {s_g : Ob_T} (hX : K_X p s m args meth c cX8_letter 2 WL_ RX8 D aC A) (hr : meth.sig.returnType = (some .int)) (x1 : Int32) (s_x : Ob_T) (s_v : Ob_T) (s_d : Ob_T) (h : f_X8_letter_J21 x1 s_x s_v s_d s_n s_g = some out) (H : Heap) (locs : List Loc) (ls : Array Slot) (hZ : K_S D A s (wd_X8 aC a_x (a_t 0) (a_n 0) (a_n2 0) (a_v 0) (a_v2 0) (a_g 0) (a_w 0) (a_q 0) (a_r 0) s_x ++ (wd_X1 aC a_n s_n ++ (wd_X5 aC a_v (a_n 0) (a_d 0) s_v ++ (wd_X4 aC a_d s_d ++ wd_X0 aC a_g s_g)))) H locs) (hl : lv_has ls 2 [(0, .ref (a_x 0)), (1, .int x1)]) : W p l e (R_m 6 164) s m args below meth c H locs 0 0 (MQ below (Q_W (some (.int out.1)) D A (wd_X8 aC a_x (a_t 0) (a_n 0) (a_n2 0) (a_v 0) (a_v2 0) (a_g 0) (a_w 0) (a_q 0) (a_r 0) out.2.1 ++ (wd_X1 aC a_n s_n ++ (wd_X5 aC a_v (a_n 0) (a_d 0) out.2.2.1 ++ (wd_X4 aC a_d out.2.2.2 ++ wd_X0 aC a_g s_g))))) args s 0 0 A) (F0 m 21 ls []) := by
  obtain ⟨hx, hb, hml, hown, hts, hK, hA, hlk⟩ := id hX
  unfold f_X8_letter_J21 at h
  refine lv_aload_n hx hb dX8_letter_21 rfl (lv_at hl 0 rfl) ?_
  obtain ⟨u2, hu, h⟩ := k_bd h
  refine k_vWs (As := []) (rest := []) (v := none) (st1 := []) hX hl.1 hZ (c_X8_solveNow (a_x := a_x) (a_n := a_n) (a_v := a_v) (a_d := a_d) (a_g := a_g) (a_t := a_t) (a_n2 := a_n2) (a_v2 := a_v2) (a_w := a_w) (a_q := a_q) (a_r := a_r) s_x s_n s_v s_d s_g hu) (gv_ wm_671 wm_674 wm_675 wm_672 wm_673) rfl hd_X8_solveNow ⟨rfl, rfl⟩ 8 0 rfl rfl rfl rfl rfl dX8_letter_22 rfl ⟨rfl, rfl⟩ rfl (fun H locs hZ => ?_)
  clear hu
  refine lv_aload_n hx hb dX8_letter_25 rfl (lv_at hl 0 rfl) ?_
  refine k_get hX hZ.1 0 8 rfl rfl iw_X8 3 rfl (wm_659) (v := .ref (a_v 0)) rfl dX8_letter_26 ?_
  refine lv_sipush (v := 20000) hx hb dX8_letter_29 (by decide) ?_
  refine lv_iload_n hx hb dX8_letter_32 rfl (lv_at hl 1 rfl) ?_
  refine lv_iadd hx hb dX8_letter_33 ?_
  obtain ⟨u3, hu, h⟩ := k_bd h
  refine k_vR (As := [.int ((20000 : Int32) + x1)]) (rest := []) (wc := wd_X5 aC a_v (a_n 0) (a_d 0) u2.2.1) (v := some (.int u3)) (st1 := [.int u3]) hX hl.1 hZ (c_X5_valueOf (a_v := a_v) (a_n := a_n) (a_d := a_d) u2.2.1 ((20000 : Int32) + x1) hu) (gv_ wm_669 wm_446 wm_447 wm_432 wm_445) rfl hd_X5_valueOf ⟨rfl, rfl⟩ 5 0 rfl rfl [8, 9, 10, 11, 12] rfl rfl rfl rfl rfl dX8_letter_34 rfl ⟨rfl, rfl⟩ (fun locs hZ => ?_)
  clear hu
  cases h
  exact k_iretW hX hr hZ dX8_letter_37
set_option maxHeartbeats 4000000 in
set_option maxRecDepth 100000 in
theorem c_X8_letter {l : Launch} {D : va_G} {aC : Nat → ClassId} {a_x : Nat → Nat} {a_n : Nat → Nat} {a_v : Nat → Nat} {a_d : Nat → Nat} {a_g : Nat → Nat} {a_t : Nat → Nat} {a_n2 : Nat → Nat} {a_v2 : Nat → Nat} {a_w : Nat → Nat} {a_q : Nat → Nat} {a_r : Nat → Nat} (s_x : Ob_T) (s_n : Ob_T) (s_v : Ob_T) (s_d : Ob_T) (s_g : Ob_T) (x1 : Int32) {out : Int32 × Ob_T × Ob_T × Ob_T} (h : f_X8_letter s_x s_n s_v s_d s_g x1 = some out) : M_W l yX8_letter wlX8_letter 6 164 D aC [.ref (a_x 0), .int x1] (wd_X8 aC a_x (a_t 0) (a_n 0) (a_n2 0) (a_v 0) (a_v2 0) (a_g 0) (a_w 0) (a_q 0) (a_r 0) s_x ++ (wd_X1 aC a_n s_n ++ (wd_X5 aC a_v (a_n 0) (a_d 0) s_v ++ (wd_X4 aC a_d s_d ++ wd_X0 aC a_g s_g)))) (some (.int out.1)) (wd_X8 aC a_x (a_t 0) (a_n 0) (a_n2 0) (a_v 0) (a_v2 0) (a_g 0) (a_w 0) (a_q 0) (a_r 0) out.2.1 ++ (wd_X1 aC a_n s_n ++ (wd_X5 aC a_v (a_n 0) (a_d 0) out.2.2.1 ++ (wd_X4 aC a_d out.2.2.2 ++ wd_X0 aC a_g s_g)))) := by
  refine k_entW (cc := cX8_letter) (ret := (some .int)) (maxL := 2) (own := RX8) (by decide) rfl rfl rfl ?_
  intro p e s m below meth c A ls hX hr hZ hl
  have hl : lv_has ls 2 [(0, .ref (a_x 0)), (1, .int x1)] := hl
  generalize ([.ref (a_x 0), .int x1] : List Value).toArray = args at hX ⊢
  obtain ⟨hx, hb, hml, hown, hts, hK, hA, hlk⟩ := id hX
  unfold f_X8_letter at h
  generalize s.heap = H at hZ ⊢
  generalize ([] : List Loc) = locs at hZ ⊢
  refine lv_iload_n hx hb dX8_letter_0 rfl (lv_at hl 1 rfl) ?_
  obtain ⟨u1, hu, h⟩ := k_bd h
  refine k_sR (As := [.int x1]) (rest := []) (wc := []) (v := some (.int u1)) (st1 := [.int u1]) hX hl.1 hZ (c_X8_isPlain  x1 hu) (gs_ wm_693 wm_695 wm_672 wm_694) rfl hd_X8_isPlain ⟨rfl, rfl⟩ [] rfl rfl rfl rfl rfl dX8_letter_1 rfl ⟨rfl, rfl⟩ (fun locs hZ => ?_)
  clear hu
  refine lv_if_ne (tgt := 21) hx hb dX8_letter_4 (by decide) (fun cd => ?_) (fun cd => ?_)
  · replace h := k_f cd h
    clear cd
    exact t_X8_letter_J21 hX hr x1 s_x s_v s_d h H locs ls hZ (lv_sub hl [0, 1] rfl)
  · replace h := k_t cd h
    clear cd
    refine lv_aload_n hx hb dX8_letter_7 rfl (lv_at hl 0 rfl) ?_
    refine k_get hX hZ.1 0 8 rfl rfl iw_X8 1 rfl (wm_651) (v := .ref (a_n 0)) rfl dX8_letter_8 ?_
    refine lv_iload_n hx hb dX8_letter_11 rfl (lv_at hl 1 rfl) ?_
    obtain ⟨u4, hu, h⟩ := k_bd h
    refine k_vR (As := [.int x1]) (rest := []) (wc := wd_X1 aC a_n s_n) (v := some (.int u4)) (st1 := [.int u4]) hX hl.1 hZ (c_X1_hasOwnLetter (a_n := a_n) s_n x1 hu) (gv_ wm_716 wm_718 wm_719 wm_321 wm_717) rfl hd_X1_hasOwnLetter ⟨rfl, rfl⟩ 1 0 rfl rfl [1, 2, 3, 4, 5, 6, 7] rfl rfl rfl rfl rfl dX8_letter_12 rfl ⟨rfl, rfl⟩ (fun locs hZ => ?_)
    clear hu
    refine lv_if_ne (tgt := 21) hx hb dX8_letter_15 (by decide) (fun cd => ?_) (fun cd => ?_)
    · replace h := k_f cd h
      clear cd
      exact t_X8_letter_J21 hX hr x1 s_x s_v s_d h H locs ls hZ (lv_sub hl [0, 1] rfl)
    · replace h := k_t cd h
      clear cd
      refine lv_bipush (v := -2) hx hb dX8_letter_18 (by decide) ?_
      cases h
      exact k_iretW hX hr hZ dX8_letter_20
def wlX8_fails : List Cond := .code yX8_fails cX8_fails 2 (some .int) :: WL_
theorem hd_X8_fails : yX8_fails.cls = RX8 ∧ yX8_fails.cls ≠ "java/lang/invoke/MethodHandle" ∧ yX8_fails.cls ≠ "java/lang/invoke/VarHandle" ∧ (parseMethodDescriptor yX8_fails.desc).map (fun d => d.parameters.length) = some 1 := by decide +kernel
theorem dX8_fails_0 : decode cX8_fails 0 = .ok (.iload_n 1, 1) := by decide +kernel
theorem dX8_fails_1 : decode cX8_fails 1 = .ok (.ifCond .lt 8, 3) := by decide +kernel
theorem dX8_fails_4 : decode cX8_fails 4 = .ok (.iload_n 1, 1) := by decide +kernel
theorem dX8_fails_5 : decode cX8_fails 5 = .ok (.iconst 5, 1) := by decide +kernel
theorem dX8_fails_6 : decode cX8_fails 6 = .ok (.if_icmp .lt 6, 3) := by decide +kernel
theorem dX8_fails_9 : decode cX8_fails 9 = .ok (.bipush (-3), 2) := by decide +kernel
theorem dX8_fails_11 : decode cX8_fails 11 = .ok (.ireturn, 1) := by decide +kernel
theorem dX8_fails_12 : decode cX8_fails 12 = .ok (.aload_n 0, 1) := by decide +kernel
theorem dX8_fails_13 : decode cX8_fails 13 = .ok (.invokevirtual 121, 3) := by decide +kernel
theorem dX8_fails_16 : decode cX8_fails 16 = .ok (.aload_n 0, 1) := by decide +kernel
theorem dX8_fails_17 : decode cX8_fails 17 = .ok (.getfield 31, 3) := by decide +kernel
theorem dX8_fails_20 : decode cX8_fails 20 = .ok (.iload_n 1, 1) := by decide +kernel
theorem dX8_fails_21 : decode cX8_fails 21 = .ok (.invokevirtual 167, 3) := by decide +kernel
theorem dX8_fails_24 : decode cX8_fails 24 = .ok (.ireturn, 1) := by decide +kernel
set_option maxHeartbeats 4000000 in
set_option maxRecDepth 100000 in
theorem c_X8_fails {l : Launch} {D : va_G} {aC : Nat → ClassId} {a_x : Nat → Nat} {a_n : Nat → Nat} {a_v : Nat → Nat} {a_d : Nat → Nat} {a_g : Nat → Nat} {a_t : Nat → Nat} {a_n2 : Nat → Nat} {a_v2 : Nat → Nat} {a_w : Nat → Nat} {a_q : Nat → Nat} {a_r : Nat → Nat} (s_x : Ob_T) (s_n : Ob_T) (s_v : Ob_T) (s_d : Ob_T) (s_g : Ob_T) (x1 : Int32) {out : Int32 × Ob_T × Ob_T × Ob_T} (h : f_X8_fails s_x s_n s_v s_d s_g x1 = some out) : M_W l yX8_fails wlX8_fails 6 164 D aC [.ref (a_x 0), .int x1] (wd_X8 aC a_x (a_t 0) (a_n 0) (a_n2 0) (a_v 0) (a_v2 0) (a_g 0) (a_w 0) (a_q 0) (a_r 0) s_x ++ (wd_X1 aC a_n s_n ++ (wd_X5 aC a_v (a_n 0) (a_d 0) s_v ++ (wd_X4 aC a_d s_d ++ wd_X0 aC a_g s_g)))) (some (.int out.1)) (wd_X8 aC a_x (a_t 0) (a_n 0) (a_n2 0) (a_v 0) (a_v2 0) (a_g 0) (a_w 0) (a_q 0) (a_r 0) out.2.1 ++ (wd_X1 aC a_n s_n ++ (wd_X5 aC a_v (a_n 0) (a_d 0) out.2.2.1 ++ (wd_X4 aC a_d out.2.2.2 ++ wd_X0 aC a_g s_g)))) := by
  refine k_entW (cc := cX8_fails) (ret := (some .int)) (maxL := 2) (own := RX8) (by decide) rfl rfl rfl ?_
  intro p e s m below meth c A ls hX hr hZ hl
  have hl : lv_has ls 2 [(0, .ref (a_x 0)), (1, .int x1)] := hl
  generalize ([.ref (a_x 0), .int x1] : List Value).toArray = args at hX ⊢
  obtain ⟨hx, hb, hml, hown, hts, hK, hA, hlk⟩ := id hX
  unfold f_X8_fails at h
  generalize s.heap = H at hZ ⊢
  generalize ([] : List Loc) = locs at hZ ⊢
  refine lv_iload_n hx hb dX8_fails_0 rfl (lv_at hl 1 rfl) ?_
  refine lv_if_lt (tgt := 9) hx hb dX8_fails_1 (by decide) (fun cd => ?_) (fun cd => ?_)
  · replace h := k_t cd h
    clear cd
    refine lv_bipush (v := -3) hx hb dX8_fails_9 (by decide) ?_
    cases h
    exact k_iretW hX hr hZ dX8_fails_11
  · replace h := k_f cd h
    clear cd
    refine lv_iload_n hx hb dX8_fails_4 rfl (lv_at hl 1 rfl) ?_
    refine lv_iconst (v := 5) hx hb dX8_fails_5 (by decide) ?_
    refine lv_icmp_lt (tgt := 12) hx hb dX8_fails_6 (by decide) (fun cd => ?_) (fun cd => ?_)
    · replace h := k_t cd h
      clear cd
      refine lv_aload_n hx hb dX8_fails_12 rfl (lv_at hl 0 rfl) ?_
      obtain ⟨u1, hu, h⟩ := k_bd h
      refine k_vWs (As := []) (rest := []) (v := none) (st1 := []) hX hl.1 hZ (c_X8_solveNow (a_x := a_x) (a_n := a_n) (a_v := a_v) (a_d := a_d) (a_g := a_g) (a_t := a_t) (a_n2 := a_n2) (a_v2 := a_v2) (a_w := a_w) (a_q := a_q) (a_r := a_r) s_x s_n s_v s_d s_g hu) (gv_ wm_671 wm_674 wm_675 wm_672 wm_673) rfl hd_X8_solveNow ⟨rfl, rfl⟩ 8 0 rfl rfl rfl rfl rfl dX8_fails_13 rfl ⟨rfl, rfl⟩ rfl (fun H locs hZ => ?_)
      clear hu
      refine lv_aload_n hx hb dX8_fails_16 rfl (lv_at hl 0 rfl) ?_
      refine k_get hX hZ.1 0 8 rfl rfl iw_X8 3 rfl (wm_659) (v := .ref (a_v 0)) rfl dX8_fails_17 ?_
      refine lv_iload_n hx hb dX8_fails_20 rfl (lv_at hl 1 rfl) ?_
      obtain ⟨u2, hu, h⟩ := k_bd h
      refine k_vR (As := [.int x1]) (rest := []) (wc := wd_X5 aC a_v (a_n 0) (a_d 0) u1.2.1) (v := some (.int u2)) (st1 := [.int u2]) hX hl.1 hZ (c_X5_failPart (a_v := a_v) (a_n := a_n) (a_d := a_d) u1.2.1 x1 hu) (gv_ wm_720 wm_722 wm_723 wm_432 wm_721) rfl hd_X5_failPart ⟨rfl, rfl⟩ 5 0 rfl rfl [8, 9, 10, 11, 12] rfl rfl rfl rfl rfl dX8_fails_21 rfl ⟨rfl, rfl⟩ (fun locs hZ => ?_)
      clear hu
      cases h
      exact k_iretW hX hr hZ dX8_fails_24
    · replace h := k_f cd h
      clear cd
      refine lv_bipush (v := -3) hx hb dX8_fails_9 (by decide) ?_
      cases h
      exact k_iretW hX hr hZ dX8_fails_11
def wlX8_open : List Cond := .code yX8_open cX8_open 1 (some .int) :: WL_
theorem hd_X8_open : yX8_open.cls = RX8 ∧ yX8_open.cls ≠ "java/lang/invoke/MethodHandle" ∧ yX8_open.cls ≠ "java/lang/invoke/VarHandle" ∧ (parseMethodDescriptor yX8_open.desc).map (fun d => d.parameters.length) = some 0 := by decide +kernel
theorem dX8_open_0 : decode cX8_open 0 = .ok (.aload_n 0, 1) := by decide +kernel
theorem dX8_open_1 : decode cX8_open 1 = .ok (.invokevirtual 121, 3) := by decide +kernel
theorem dX8_open_4 : decode cX8_open 4 = .ok (.aload_n 0, 1) := by decide +kernel
theorem dX8_open_5 : decode cX8_open 5 = .ok (.getfield 31, 3) := by decide +kernel
theorem dX8_open_8 : decode cX8_open 8 = .ok (.invokevirtual 170, 3) := by decide +kernel
theorem dX8_open_11 : decode cX8_open 11 = .ok (.ireturn, 1) := by decide +kernel
set_option maxHeartbeats 4000000 in
set_option maxRecDepth 100000 in
theorem c_X8_open {l : Launch} {D : va_G} {aC : Nat → ClassId} {a_x : Nat → Nat} {a_n : Nat → Nat} {a_v : Nat → Nat} {a_d : Nat → Nat} {a_g : Nat → Nat} {a_t : Nat → Nat} {a_n2 : Nat → Nat} {a_v2 : Nat → Nat} {a_w : Nat → Nat} {a_q : Nat → Nat} {a_r : Nat → Nat} (s_x : Ob_T) (s_n : Ob_T) (s_v : Ob_T) (s_d : Ob_T) (s_g : Ob_T) {out : Int32 × Ob_T × Ob_T × Ob_T} (h : f_X8_open s_x s_n s_v s_d s_g = some out) : M_W l yX8_open wlX8_open 6 164 D aC [.ref (a_x 0)] (wd_X8 aC a_x (a_t 0) (a_n 0) (a_n2 0) (a_v 0) (a_v2 0) (a_g 0) (a_w 0) (a_q 0) (a_r 0) s_x ++ (wd_X1 aC a_n s_n ++ (wd_X5 aC a_v (a_n 0) (a_d 0) s_v ++ (wd_X4 aC a_d s_d ++ wd_X0 aC a_g s_g)))) (some (.int out.1)) (wd_X8 aC a_x (a_t 0) (a_n 0) (a_n2 0) (a_v 0) (a_v2 0) (a_g 0) (a_w 0) (a_q 0) (a_r 0) out.2.1 ++ (wd_X1 aC a_n s_n ++ (wd_X5 aC a_v (a_n 0) (a_d 0) out.2.2.1 ++ (wd_X4 aC a_d out.2.2.2 ++ wd_X0 aC a_g s_g)))) := by
  refine k_entW (cc := cX8_open) (ret := (some .int)) (maxL := 1) (own := RX8) (by decide) rfl rfl rfl ?_
  intro p e s m below meth c A ls hX hr hZ hl
  have hl : lv_has ls 1 [(0, .ref (a_x 0))] := hl
  generalize ([.ref (a_x 0)] : List Value).toArray = args at hX ⊢
  obtain ⟨hx, hb, hml, hown, hts, hK, hA, hlk⟩ := id hX
  unfold f_X8_open at h
  generalize s.heap = H at hZ ⊢
  generalize ([] : List Loc) = locs at hZ ⊢
  refine lv_aload_n hx hb dX8_open_0 rfl (lv_at hl 0 rfl) ?_
  obtain ⟨u1, hu, h⟩ := k_bd h
  refine k_vWs (As := []) (rest := []) (v := none) (st1 := []) hX hl.1 hZ (c_X8_solveNow (a_x := a_x) (a_n := a_n) (a_v := a_v) (a_d := a_d) (a_g := a_g) (a_t := a_t) (a_n2 := a_n2) (a_v2 := a_v2) (a_w := a_w) (a_q := a_q) (a_r := a_r) s_x s_n s_v s_d s_g hu) (gv_ wm_671 wm_674 wm_675 wm_672 wm_673) rfl hd_X8_solveNow ⟨rfl, rfl⟩ 8 0 rfl rfl rfl rfl rfl dX8_open_1 rfl ⟨rfl, rfl⟩ rfl (fun H locs hZ => ?_)
  clear hu
  refine lv_aload_n hx hb dX8_open_4 rfl (lv_at hl 0 rfl) ?_
  refine k_get hX hZ.1 0 8 rfl rfl iw_X8 3 rfl (wm_659) (v := .ref (a_v 0)) rfl dX8_open_5 ?_
  obtain ⟨u2, hu, h⟩ := k_bd h
  refine k_vR (As := []) (rest := []) (wc := wd_X5 aC a_v (a_n 0) (a_d 0) u1.2.1 ++ wd_X1 aC a_n s_n) (v := some (.int u2)) (st1 := [.int u2]) hX hl.1 hZ (c_X5_openLetters (a_v := a_v) (a_n := a_n) (a_d := a_d) u1.2.1 s_n hu) (gv_ wm_724 wm_726 wm_727 wm_432 wm_725) rfl hd_X5_openLetters ⟨rfl, rfl⟩ 5 0 rfl rfl [8, 9, 10, 11, 12, 1, 2, 3, 4, 5, 6, 7] rfl rfl rfl rfl rfl dX8_open_8 rfl ⟨rfl, rfl⟩ (fun locs hZ => ?_)
  clear hu
  cases h
  exact k_iretW hX hr hZ dX8_open_11
