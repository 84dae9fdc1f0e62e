def wlX7_find : List Cond := .code yX7_find cX7_find 3 none :: WL_
theorem hd_X7_find : yX7_find.cls = RX7 ∧ yX7_find.cls ≠ "java/lang/invoke/MethodHandle" ∧ yX7_find.cls ≠ "java/lang/invoke/VarHandle" ∧ (parseMethodDescriptor yX7_find.desc).map (fun d => d.parameters.length) = some 2 := by decide +kernel
theorem dX7_find_0 : decode cX7_find 0 = .ok (.aload_n 0, 1) := by decide +kernel
theorem dX7_find_1 : decode cX7_find 1 = .ok (.iload_n 1, 1) := by decide +kernel
theorem dX7_find_2 : decode cX7_find 2 = .ok (.invokevirtual 33, 3) := by decide +kernel
theorem dX7_find_5 : decode cX7_find 5 = .ok (.aload_n 0, 1) := by decide +kernel
theorem dX7_find_6 : decode cX7_find 6 = .ok (.getfield 18, 3) := by decide +kernel
theorem dX7_find_9 : decode cX7_find 9 = .ok (.aload_n 2, 1) := by decide +kernel
theorem dX7_find_10 : decode cX7_find 10 = .ok (.invokevirtual 37, 3) := by decide +kernel
theorem dX7_find_13 : decode cX7_find 13 = .ok (.aload_n 0, 1) := by decide +kernel
theorem dX7_find_14 : decode cX7_find 14 = .ok (.aload_n 0, 1) := by decide +kernel
theorem dX7_find_15 : decode cX7_find 15 = .ok (.getfield 18, 3) := by decide +kernel
theorem dX7_find_18 : decode cX7_find 18 = .ok (.invokevirtual 43, 3) := by decide +kernel
theorem dX7_find_21 : decode cX7_find 21 = .ok (.putfield 47, 3) := by decide +kernel
theorem dX7_find_24 : decode cX7_find 24 = .ok (.aload_n 0, 1) := by decide +kernel
theorem dX7_find_25 : decode cX7_find 25 = .ok (.aload_n 0, 1) := by decide +kernel
theorem dX7_find_26 : decode cX7_find 26 = .ok (.iconst 0, 1) := by decide +kernel
theorem dX7_find_27 : decode cX7_find 27 = .ok (.iconst 0, 1) := by decide +kernel
theorem dX7_find_28 : decode cX7_find 28 = .ok (.invokevirtual 50, 3) := by decide +kernel
theorem dX7_find_31 : decode cX7_find 31 = .ok (.putfield 22, 3) := by decide +kernel
theorem dX7_find_34 : decode cX7_find 34 = .ok (.return_, 1) := by decide +kernel
set_option maxHeartbeats 4000000 in
set_option maxRecDepth 100000 in
theorem c_X7_find {l : Launch} {D : va_G} {aC : Nat → ClassId} {a_w : Nat → Nat} {a_v : Nat → Nat} {a_d : Nat → Nat} {a_n : Nat → Nat} (s_w : Ob_T) (s_v : Ob_T) (s_d : Ob_T) (s_n : Ob_T) {q2 z2 : Nat} {f2 : Nat → Int32} (x1 : Int32) {out : Ob_T × Ob_T × Ob_T} (h : f_X7_find s_w s_v s_d s_n x1 f2 z2 = some out) : M_W l yX7_find wlX7_find 11 311 D aC [.ref (a_w 0), .int x1, .ref q2] (wd_X7 aC a_w (a_v 0) s_w ++ (wd_X5 aC a_v (a_n 0) (a_d 0) s_v ++ (wd_X4 aC a_d s_d ++ (wd_X1 aC a_n s_n ++ [(q2, .inl (aC 0, z2, .inl f2))])))) (none) (wd_X7 aC a_w (a_v 0) out.1 ++ (wd_X5 aC a_v (a_n 0) (a_d 0) out.2.1 ++ (wd_X4 aC a_d out.2.2 ++ (wd_X1 aC a_n s_n ++ [(q2, .inl (aC 0, z2, .inl f2))])))) := by
  refine k_entW (cc := cX7_find) (ret := none) (maxL := 3) (own := RX7) (by decide) rfl rfl rfl ?_
  intro p e s m below meth c A ls hX hr hZ hl
  have hl : lv_has ls 3 [(0, .ref (a_w 0)), (1, .int x1), (2, .ref q2)] := hl
  generalize ([.ref (a_w 0), .int x1, .ref q2] : List Value).toArray = args at hX ⊢
  obtain ⟨hx, hb, hml, hown, hts, hK, hA, hlk⟩ := id hX
  unfold f_X7_find at h
  generalize s.heap = H at hZ ⊢
  generalize ([] : List Loc) = locs at hZ ⊢
  refine lv_aload_n hx hb dX7_find_0 rfl (lv_at hl 0 rfl) ?_
  refine lv_iload_n hx hb dX7_find_1 rfl (lv_at hl 1 rfl) ?_
  obtain ⟨u1, hu, h⟩ := k_bd h
  refine k_vW (As := [.int x1]) (rest := []) (wc := wd_X7 aC a_w (a_v 0) s_w) (v := none) (st1 := []) (w' := wd_X7 aC a_w (a_v 0) u1 ++ (wd_X5 aC a_v (a_n 0) (a_d 0) s_v ++ (wd_X4 aC a_d s_d ++ (wd_X1 aC a_n s_n ++ [(q2, .inl (aC 0, z2, .inl f2))])))) hX hl.1 hZ (c_X7_findNone (a_w := a_w) (a_v := a_v) s_w x1 hu) (gv_ wm_634 wm_636 wm_637 wm_600 wm_635) rfl hd_X7_findNone ⟨rfl, rfl⟩ 7 0 rfl rfl [0, 1, 2] rfl rfl rfl rfl rfl dX7_find_2 rfl ⟨rfl, rfl⟩ rfl rfl rfl (fun H locs hZ => ?_)
  clear hu
  refine lv_aload_n hx hb dX7_find_5 rfl (lv_at hl 0 rfl) ?_
  refine k_get hX hZ.1 0 7 rfl rfl iw_X7 0 rfl (wm_607) (v := .ref (a_v 0)) rfl dX7_find_6 ?_
  refine lv_aload_n hx hb dX7_find_9 rfl (lv_at hl 2 rfl) ?_
  obtain ⟨u2, hu, h⟩ := k_bd h
  refine k_vW (As := [.ref q2]) (rest := []) (wc := wd_X5 aC a_v (a_n 0) (a_d 0) s_v ++ (wd_X1 aC a_n s_n ++ [(q2, .inl (aC 0, z2, .inl (f2)))])) (v := none) (st1 := []) (w' := wd_X7 aC a_w (a_v 0) u1 ++ (wd_X5 aC a_v (a_n 0) (a_d 0) u2 ++ (wd_X4 aC a_d s_d ++ (wd_X1 aC a_n s_n ++ [(q2, .inl (aC 0, z2, .inl f2))])))) hX hl.1 hZ (c_X5_meetAll (a_v := a_v) (a_n := a_n) (a_d := a_d) (q1 := q2) (f1 := f2) (z1 := z2) s_v s_n hu) (gv_ wm_633 wm_549 wm_550 wm_432 wm_548) rfl hd_X5_meetAll ⟨rfl, rfl⟩ 5 0 rfl rfl [3, 4, 5, 6, 7, 11, 12, 13, 14, 15, 16, 17, 18] rfl rfl rfl rfl rfl dX7_find_10 rfl ⟨rfl, rfl⟩ rfl rfl rfl (fun H locs hZ => ?_)
  clear hu
  refine lv_aload_n hx hb dX7_find_13 rfl (lv_at hl 0 rfl) ?_
  refine lv_aload_n hx hb dX7_find_14 rfl (lv_at hl 0 rfl) ?_
  refine k_get hX hZ.1 0 7 rfl rfl iw_X7 0 rfl (wm_607) (v := .ref (a_v 0)) rfl dX7_find_15 ?_
  obtain ⟨u3, hu, h⟩ := k_bd h
  refine k_vW (As := []) (rest := [.ref (a_w 0)]) (wc := wd_X5 aC a_v (a_n 0) (a_d 0) u2 ++ (wd_X4 aC a_d s_d ++ wd_X1 aC a_n s_n)) (v := some (.int u3.1)) (st1 := [.int u3.1, .ref (a_w 0)]) (w' := wd_X7 aC a_w (a_v 0) u1 ++ (wd_X5 aC a_v (a_n 0) (a_d 0) u2 ++ (wd_X4 aC a_d u3.2 ++ (wd_X1 aC a_n s_n ++ [(q2, .inl (aC 0, z2, .inl f2))])))) hX hl.1 hZ (c_X5_lettersInEquations (a_v := a_v) (a_d := a_d) (a_n := a_n) u2 s_d s_n hu) (gv_ wm_629 wm_631 wm_632 wm_432 wm_630) rfl hd_X5_lettersInEquations ⟨rfl, rfl⟩ 5 0 rfl rfl [3, 4, 5, 6, 7, 8, 9, 10, 11, 12, 13, 14, 15, 16, 17] rfl rfl rfl rfl rfl dX7_find_18 rfl ⟨rfl, rfl⟩ rfl rfl rfl (fun H locs hZ => ?_)
  clear hu
  refine k_put (wf := (fun o => wd_X7 aC a_w (a_v 0) o ++ (wd_X5 aC a_v (a_n 0) (a_d 0) u2 ++ (wd_X4 aC a_d u3.2 ++ (wd_X1 aC a_n s_n ++ [(q2, .inl (aC 0, z2, .inl f2))]))))) (o := u1) hX hZ 0 7 rfl rfl iw_X7 tyX7 tyX7_ok nmX7 4 rfl (wm_610) rfl rfl rfl rfl rfl h dX7_find_21 (fun o4 H locs hZ h => ?_)
  refine lv_aload_n hx hb dX7_find_24 rfl (lv_at hl 0 rfl) ?_
  refine lv_aload_n hx hb dX7_find_25 rfl (lv_at hl 0 rfl) ?_
  refine lv_iconst (v := 0) hx hb dX7_find_26 (by decide) ?_
  refine lv_iconst (v := 0) hx hb dX7_find_27 (by decide) ?_
  obtain ⟨u5, hu, h⟩ := k_bd h
  refine k_vW (As := [.int (0 : Int32), .int (0 : Int32)]) (rest := [.ref (a_w 0)]) (wc := wd_X7 aC a_w (a_v 0) o4 ++ (wd_X5 aC a_v (a_n 0) (a_d 0) u2 ++ (wd_X4 aC a_d u3.2 ++ wd_X1 aC a_n s_n))) (v := some (.int u5.1)) (st1 := [.int u5.1, .ref (a_w 0)]) (w' := wd_X7 aC a_w (a_v 0) u5.2.1 ++ (wd_X5 aC a_v (a_n 0) (a_d 0) u5.2.2.1 ++ (wd_X4 aC a_d u5.2.2.2 ++ (wd_X1 aC a_n s_n ++ [(q2, .inl (aC 0, z2, .inl f2))])))) hX hl.1 hZ (c_X7_waysFrom 6 (a_w := a_w) (a_v := a_v) (a_d := a_d) (a_n := a_n) o4 u2 u3.2 s_n (0 : Int32) (0 : Int32) hu) (gv_ wm_611 wm_613 wm_614 wm_600 wm_612) rfl hd_X7_waysFrom ⟨rfl, rfl⟩ 7 0 rfl rfl [0, 1, 2, 3, 4, 5, 6, 7, 8, 9, 10, 11, 12, 13, 14, 15, 16, 17] rfl rfl rfl rfl rfl dX7_find_28 rfl ⟨rfl, rfl⟩ rfl rfl rfl (fun H locs hZ => ?_)
  clear hu
  refine k_put (wf := (fun o => wd_X7 aC a_w (a_v 0) o ++ (wd_X5 aC a_v (a_n 0) (a_d 0) u5.2.2.1 ++ (wd_X4 aC a_d u5.2.2.2 ++ (wd_X1 aC a_n s_n ++ [(q2, .inl (aC 0, z2, .inl f2))]))))) (o := u5.2.1) hX hZ 0 7 rfl rfl iw_X7 tyX7 tyX7_ok nmX7 5 rfl (wm_597) rfl rfl rfl rfl rfl h dX7_find_31 (fun o6 H locs hZ h => ?_)
  cases h
  exact k_vretW hX hr hZ dX7_find_34
def wlX8_write : List Cond := .code yX8_write cX8_write 2 (some .int) :: WL_
theorem hd_X8_write : yX8_write.cls = RX8 ∧ yX8_write.cls ≠ "java/lang/invoke/MethodHandle" ∧ yX8_write.cls ≠ "java/lang/invoke/VarHandle" ∧ (parseMethodDescriptor yX8_write.desc).map (fun d => d.parameters.length) = some 1 := by decide +kernel
theorem dX8_write_0 : decode cX8_write 0 = .ok (.iload_n 1, 1) := by decide +kernel
theorem dX8_write_1 : decode cX8_write 1 = .ok (.ifCond .lt 10, 3) := by decide +kernel
theorem dX8_write_4 : decode cX8_write 4 = .ok (.iload_n 1, 1) := by decide +kernel
theorem dX8_write_5 : decode cX8_write 5 = .ok (.sipush 255, 3) := by decide +kernel
theorem dX8_write_8 : decode cX8_write 8 = .ok (.if_icmp .le 6, 3) := by decide +kernel
theorem dX8_write_11 : decode cX8_write 11 = .ok (.bipush (-3), 2) := by decide +kernel
theorem dX8_write_13 : decode cX8_write 13 = .ok (.ireturn, 1) := by decide +kernel
theorem dX8_write_14 : decode cX8_write 14 = .ok (.aload_n 0, 1) := by decide +kernel
theorem dX8_write_15 : decode cX8_write 15 = .ok (.getfield 12, 3) := by decide +kernel
theorem dX8_write_18 : decode cX8_write 18 = .ok (.iload_n 1, 1) := by decide +kernel
theorem dX8_write_19 : decode cX8_write 19 = .ok (.invokevirtual 75, 3) := by decide +kernel
theorem dX8_write_22 : decode cX8_write 22 = .ok (.ifCond .eq 13, 3) := by decide +kernel
theorem dX8_write_25 : decode cX8_write 25 = .ok (.aload_n 0, 1) := by decide +kernel
theorem dX8_write_26 : decode cX8_write 26 = .ok (.getfield 12, 3) := by decide +kernel
theorem dX8_write_29 : decode cX8_write 29 = .ok (.invokevirtual 79, 3) := by decide +kernel
theorem dX8_write_32 : decode cX8_write 32 = .ok (.goto 5, 3) := by decide +kernel
theorem dX8_write_35 : decode cX8_write 35 = .ok (.bipush (-5), 2) := by decide +kernel
theorem dX8_write_37 : decode cX8_write 37 = .ok (.ireturn, 1) := by decide +kernel
set_option maxHeartbeats 4000000 in
set_option maxRecDepth 100000 in
theorem c_X8_write {l : Launch} {D : va_G} {aC : Nat → ClassId} {a_x : Nat → Nat} {a_t : Nat → Nat} {a_n : Nat → Nat} {a_n2 : Nat → Nat} {a_v : Nat → Nat} {a_v2 : Nat → Nat} {a_g : Nat → Nat} {a_w : Nat → Nat} {a_q : Nat → Nat} {a_r : Nat → Nat} (s_x : Ob_T) (s_t : Ob_T) (x1 : Int32) {out : Int32 × Ob_T} (h : f_X8_write s_x s_t x1 = some out) : M_W l yX8_write wlX8_write 1 21 D aC [.ref (a_x 0), .int x1] (wd_X8 aC a_x (a_t 0) (a_n 0) (a_n2 0) (a_v 0) (a_v2 0) (a_g 0) (a_w 0) (a_q 0) (a_r 0) s_x ++ wd_X6 aC a_t s_t) (some (.int out.1)) (wd_X8 aC a_x (a_t 0) (a_n 0) (a_n2 0) (a_v 0) (a_v2 0) (a_g 0) (a_w 0) (a_q 0) (a_r 0) s_x ++ wd_X6 aC a_t out.2) := by
  refine k_entW (cc := cX8_write) (ret := (some .int)) (maxL := 2) (own := RX8) (by decide) rfl rfl rfl ?_
  intro p e s m below meth c A ls hX hr hZ hl
  have hl : lv_has ls 2 [(0, .ref (a_x 0)), (1, .int x1)] := hl
  generalize ([.ref (a_x 0), .int x1] : List Value).toArray = args at hX ⊢
  obtain ⟨hx, hb, hml, hown, hts, hK, hA, hlk⟩ := id hX
  unfold f_X8_write at h
  generalize s.heap = H at hZ ⊢
  generalize ([] : List Loc) = locs at hZ ⊢
  refine lv_iload_n hx hb dX8_write_0 rfl (lv_at hl 1 rfl) ?_
  refine lv_if_lt (tgt := 11) hx hb dX8_write_1 (by decide) (fun cd => ?_) (fun cd => ?_)
  · replace h := k_t cd h
    clear cd
    refine lv_bipush (v := -3) hx hb dX8_write_11 (by decide) ?_
    cases h
    exact k_iretW hX hr hZ dX8_write_13
  · replace h := k_f cd h
    clear cd
    refine lv_iload_n hx hb dX8_write_4 rfl (lv_at hl 1 rfl) ?_
    refine lv_sipush (v := 255) hx hb dX8_write_5 (by decide) ?_
    refine lv_icmp_le (tgt := 14) hx hb dX8_write_8 (by decide) (fun cd => ?_) (fun cd => ?_)
    · replace h := k_t cd h
      clear cd
      refine lv_aload_n hx hb dX8_write_14 rfl (lv_at hl 0 rfl) ?_
      refine k_get hX hZ.1 0 8 rfl rfl iw_X8 0 rfl (wm_638) (v := .ref (a_t 0)) rfl dX8_write_15 ?_
      refine lv_iload_n hx hb dX8_write_18 rfl (lv_at hl 1 rfl) ?_
      obtain ⟨u1, hu, h⟩ := k_bd h
      refine k_vW (As := [.int x1]) (rest := []) (wc := wd_X6 aC a_t s_t) (v := some (.int u1.1)) (st1 := [.int u1.1]) (w' := wd_X8 aC a_x (a_t 0) (a_n 0) (a_n2 0) (a_v 0) (a_v2 0) (a_g 0) (a_w 0) (a_q 0) (a_r 0) s_x ++ wd_X6 aC a_t u1.2) hX hl.1 hZ (c_X6_add (a_t := a_t) s_t x1 hu) (gv_ wm_643 wm_645 wm_646 wm_563 wm_644) rfl hd_X6_add ⟨rfl, rfl⟩ 6 0 rfl rfl [1, 2] rfl rfl rfl rfl rfl dX8_write_19 rfl ⟨rfl, rfl⟩ rfl rfl rfl (fun H locs hZ => ?_)
      clear hu
      refine lv_if_eq (tgt := 35) hx hb dX8_write_22 (by decide) (fun cd => ?_) (fun cd => ?_)
      · replace h := k_t cd h
        clear cd
        refine lv_bipush (v := -5) hx hb dX8_write_35 (by decide) ?_
        cases h
        exact k_iretW hX hr hZ dX8_write_37
      · replace h := k_f cd h
        clear cd
        refine lv_aload_n hx hb dX8_write_25 rfl (lv_at hl 0 rfl) ?_
        refine k_get hX hZ.1 0 8 rfl rfl iw_X8 0 rfl (wm_638) (v := .ref (a_t 0)) rfl dX8_write_26 ?_
        obtain ⟨u2, hu, h⟩ := k_bd h
        refine k_vR (As := []) (rest := []) (wc := wd_X6 aC a_t u1.2) (v := some (.int u2)) (st1 := [.int u2]) hX hl.1 hZ (c_X6_length (a_t := a_t) u1.2 hu) (gv_ wm_639 wm_641 wm_642 wm_563 wm_640) rfl hd_X6_length ⟨rfl, rfl⟩ 6 0 rfl rfl [1, 2] rfl rfl rfl rfl rfl dX8_write_29 rfl ⟨rfl, rfl⟩ (fun locs hZ => ?_)
        clear hu
        refine lv_goto (tgt := 37) hx hb dX8_write_32 (by decide) ?_
        cases h
        exact k_iretW hX hr hZ dX8_write_37
    · replace h := k_f cd h
      clear cd
      refine lv_bipush (v := -3) hx hb dX8_write_11 (by decide) ?_
      cases h
      exact k_iretW hX hr hZ dX8_write_13
def wlX8_erase : List Cond := .code yX8_erase cX8_erase 2 (some .int) :: WL_
theorem hd_X8_erase : yX8_erase.cls = RX8 ∧ yX8_erase.cls ≠ "java/lang/invoke/MethodHandle" ∧ yX8_erase.cls ≠ "java/lang/invoke/VarHandle" ∧ (parseMethodDescriptor yX8_erase.desc).map (fun d => d.parameters.length) = some 0 := by decide +kernel
theorem dX8_erase_0 : decode cX8_erase 0 = .ok (.aload_n 0, 1) := by decide +kernel
theorem dX8_erase_1 : decode cX8_erase 1 = .ok (.getfield 12, 3) := by decide +kernel
theorem dX8_erase_4 : decode cX8_erase 4 = .ok (.invokevirtual 79, 3) := by decide +kernel
theorem dX8_erase_7 : decode cX8_erase 7 = .ok (.istore_n 1, 1) := by decide +kernel
theorem dX8_erase_8 : decode cX8_erase 8 = .ok (.aload_n 0, 1) := by decide +kernel
theorem dX8_erase_9 : decode cX8_erase 9 = .ok (.getfield 12, 3) := by decide +kernel
theorem dX8_erase_12 : decode cX8_erase 12 = .ok (.invokevirtual 83, 3) := by decide +kernel
theorem dX8_erase_15 : decode cX8_erase 15 = .ok (.iload_n 1, 1) := by decide +kernel
theorem dX8_erase_16 : decode cX8_erase 16 = .ok (.ireturn, 1) := by decide +kernel
set_option maxHeartbeats 4000000 in
set_option maxRecDepth 100000 in
theorem c_X8_erase {l : Launch} {D : va_G} {aC : Nat → ClassId} {a_x : Nat → Nat} {a_t : Nat → Nat} {a_n : Nat → Nat} {a_n2 : Nat → Nat} {a_v : Nat → Nat} {a_v2 : Nat → Nat} {a_g : Nat → Nat} {a_w : Nat → Nat} {a_q : Nat → Nat} {a_r : Nat → Nat} (s_x : Ob_T) (s_t : Ob_T) {out : Int32 × Ob_T} (h : f_X8_erase s_x s_t = some out) : M_W l yX8_erase wlX8_erase 1 20 D aC [.ref (a_x 0)] (wd_X8 aC a_x (a_t 0) (a_n 0) (a_n2 0) (a_v 0) (a_v2 0) (a_g 0) (a_w 0) (a_q 0) (a_r 0) s_x ++ wd_X6 aC a_t s_t) (some (.int out.1)) (wd_X8 aC a_x (a_t 0) (a_n 0) (a_n2 0) (a_v 0) (a_v2 0) (a_g 0) (a_w 0) (a_q 0) (a_r 0) s_x ++ wd_X6 aC a_t out.2) := by
  refine k_entW (cc := cX8_erase) (ret := (some .int)) (maxL := 2) (own := RX8) (by decide) rfl rfl rfl ?_
  intro p e s m below meth c A ls hX hr hZ hl
  have hl : lv_has ls 2 [(0, .ref (a_x 0))] := hl
  generalize ([.ref (a_x 0)] : List Value).toArray = args at hX ⊢
  obtain ⟨hx, hb, hml, hown, hts, hK, hA, hlk⟩ := id hX
  unfold f_X8_erase at h
  generalize s.heap = H at hZ ⊢
  generalize ([] : List Loc) = locs at hZ ⊢
  refine lv_aload_n hx hb dX8_erase_0 rfl (lv_at hl 0 rfl) ?_
  refine k_get hX hZ.1 0 8 rfl rfl iw_X8 0 rfl (wm_638) (v := .ref (a_t 0)) rfl dX8_erase_1 ?_
  obtain ⟨u1, hu, h⟩ := k_bd h
  refine k_vR (As := []) (rest := []) (wc := wd_X6 aC a_t s_t) (v := some (.int u1)) (st1 := [.int u1]) hX hl.1 hZ (c_X6_length (a_t := a_t) s_t hu) (gv_ wm_639 wm_641 wm_642 wm_563 wm_640) rfl hd_X6_length ⟨rfl, rfl⟩ 6 0 rfl rfl [1, 2] rfl rfl rfl rfl rfl dX8_erase_4 rfl ⟨rfl, rfl⟩ (fun locs hZ => ?_)
  clear hu
  refine lv_istore_n (lv' := [(1, .int u1), (0, .ref (a_x 0))]) hx hb dX8_erase_7 rfl hl (by decide) rfl (fun ls hl => ?_)
  refine lv_aload_n hx hb dX8_erase_8 rfl (lv_at hl 1 rfl) ?_
  refine k_get hX hZ.1 0 8 rfl rfl iw_X8 0 rfl (wm_638) (v := .ref (a_t 0)) rfl dX8_erase_9 ?_
  obtain ⟨u2, hu, h⟩ := k_bd h
  refine k_vW (As := []) (rest := []) (wc := wd_X6 aC a_t s_t) (v := none) (st1 := []) (w' := wd_X8 aC a_x (a_t 0) (a_n 0) (a_n2 0) (a_v 0) (a_v2 0) (a_g 0) (a_w 0) (a_q 0) (a_r 0) s_x ++ wd_X6 aC a_t u2) hX hl.1 hZ (c_X6_clear (a_t := a_t) s_t hu) (gv_ wm_647 wm_649 wm_650 wm_563 wm_648) rfl hd_X6_clear ⟨rfl, rfl⟩ 6 0 rfl rfl [1, 2] rfl rfl rfl rfl rfl dX8_erase_12 rfl ⟨rfl, rfl⟩ rfl rfl rfl (fun H locs hZ => ?_)
  clear hu
  refine lv_iload_n hx hb dX8_erase_15 rfl (lv_at hl 0 rfl) ?_
  cases h
  exact k_iretW hX hr hZ dX8_erase_16
