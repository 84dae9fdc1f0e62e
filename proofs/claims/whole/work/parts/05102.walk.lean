def wlX8_row : List Cond := .code yX8_row cX8_row 4 (some .int) :: WL_
theorem hd_X8_row : yX8_row.cls = RX8 ∧ yX8_row.cls ≠ "java/lang/invoke/MethodHandle" ∧ yX8_row.cls ≠ "java/lang/invoke/VarHandle" ∧ (parseMethodDescriptor yX8_row.desc).map (fun d => d.parameters.length) = some 3 := by decide +kernel
theorem dX8_row_0 : decode cX8_row 0 = .ok (.iload_n 1, 1) := by decide +kernel
theorem dX8_row_1 : decode cX8_row 1 = .ok (.invokestatic 210, 3) := by decide +kernel
theorem dX8_row_4 : decode cX8_row 4 = .ok (.ifCond .ne 6, 3) := by decide +kernel
theorem dX8_row_7 : decode cX8_row 7 = .ok (.bipush (-2), 2) := by decide +kernel
theorem dX8_row_9 : decode cX8_row 9 = .ok (.ireturn, 1) := by decide +kernel
theorem dX8_row_10 : decode cX8_row 10 = .ok (.iload_n 2, 1) := by decide +kernel
theorem dX8_row_11 : decode cX8_row 11 = .ok (.invokestatic 213, 3) := by decide +kernel
theorem dX8_row_14 : decode cX8_row 14 = .ok (.ifCond .eq 9, 3) := by decide +kernel
theorem dX8_row_17 : decode cX8_row 17 = .ok (.iload_n 3, 1) := by decide +kernel
theorem dX8_row_18 : decode cX8_row 18 = .ok (.bipush 10, 2) := by decide +kernel
theorem dX8_row_20 : decode cX8_row 20 = .ok (.if_icmp .le 6, 3) := by decide +kernel
theorem dX8_row_23 : decode cX8_row 23 = .ok (.bipush (-3), 2) := by decide +kernel
theorem dX8_row_25 : decode cX8_row 25 = .ok (.ireturn, 1) := by decide +kernel
theorem dX8_row_26 : decode cX8_row 26 = .ok (.iload_n 3, 1) := by decide +kernel
theorem dX8_row_27 : decode cX8_row 27 = .ok (.ifCond .ge 6, 3) := by decide +kernel
theorem dX8_row_30 : decode cX8_row 30 = .ok (.bipush (-12), 2) := by decide +kernel
theorem dX8_row_32 : decode cX8_row 32 = .ok (.ireturn, 1) := by decide +kernel
theorem dX8_row_33 : decode cX8_row 33 = .ok (.aload_n 0, 1) := by decide +kernel
theorem dX8_row_34 : decode cX8_row 34 = .ok (.getfield 64, 3) := by decide +kernel
theorem dX8_row_37 : decode cX8_row 37 = .ok (.iload_n 1, 1) := by decide +kernel
theorem dX8_row_38 : decode cX8_row 38 = .ok (.iload_n 2, 1) := by decide +kernel
theorem dX8_row_39 : decode cX8_row 39 = .ok (.iload_n 3, 1) := by decide +kernel
theorem dX8_row_40 : decode cX8_row 40 = .ok (.invokevirtual 216, 3) := by decide +kernel
theorem dX8_row_43 : decode cX8_row 43 = .ok (.iload_n 3, 1) := by decide +kernel
theorem dX8_row_44 : decode cX8_row 44 = .ok (.ireturn, 1) := by decide +kernel
set_option maxHeartbeats 4000000 in
set_option maxRecDepth 100000 in
theorem c_X8_row {l : Launch} {D : va_G} {aC : Nat → ClassId} {a_x : Nat → Nat} {a_r : Nat → Nat} {a_t : Nat → Nat} {a_n : Nat → Nat} {a_n2 : Nat → Nat} {a_v : Nat → Nat} {a_v2 : Nat → Nat} {a_g : Nat → Nat} {a_w : Nat → Nat} {a_q : Nat → Nat} (s_x : Ob_T) (s_r : Ob_T) (x1 : Int32) (x2 : Int32) (x3 : Int32) {out : Int32 × Ob_T} (h : f_X8_row s_x s_r x1 x2 x3 = some out) : M_W l yX8_row wlX8_row 3 69 D aC [.ref (a_x 0), .int x1, .int x2, .int x3] (wd_X8 aC a_x (a_t 0) (a_n 0) (a_n2 0) (a_v 0) (a_v2 0) (a_g 0) (a_w 0) (a_q 0) (a_r 0) s_x ++ wd_X2 aC a_r s_r) (some (.int out.1)) (wd_X8 aC a_x (a_t 0) (a_n 0) (a_n2 0) (a_v 0) (a_v2 0) (a_g 0) (a_w 0) (a_q 0) (a_r 0) s_x ++ wd_X2 aC a_r out.2) := by
  refine k_entW (cc := cX8_row) (ret := (some .int)) (maxL := 4) (own := RX8) (by decide) rfl rfl rfl ?_
  intro p e s m below meth c A ls hX hr hZ hl
  have hl : lv_has ls 4 [(0, .ref (a_x 0)), (1, .int x1), (2, .int x2), (3, .int x3)] := hl
  generalize ([.ref (a_x 0), .int x1, .int x2, .int x3] : List Value).toArray = args at hX ⊢
  obtain ⟨hx, hb, hml, hown, hts, hK, hA, hlk⟩ := id hX
  unfold f_X8_row at h
  generalize s.heap = H at hZ ⊢
  generalize ([] : List Loc) = locs at hZ ⊢
  refine lv_iload_n hx hb dX8_row_0 rfl (lv_at hl 1 rfl) ?_
  obtain ⟨u1, hu, h⟩ := k_bd h
  refine k_sR (As := [.int x1]) (rest := []) (wc := []) (v := some (.int u1)) (st1 := [.int u1]) hX hl.1 hZ (c_X8_isRow  x1 hu) (gs_ wm_797 wm_799 wm_672 wm_798) rfl hd_X8_isRow ⟨rfl, rfl⟩ [] rfl rfl rfl rfl rfl dX8_row_1 rfl ⟨rfl, rfl⟩ (fun locs hZ => ?_)
  clear hu
  refine lv_if_ne (tgt := 10) hx hb dX8_row_4 (by decide) (fun cd => ?_) (fun cd => ?_)
  · replace h := k_f cd h
    clear cd
    refine lv_iload_n hx hb dX8_row_10 rfl (lv_at hl 2 rfl) ?_
    obtain ⟨u2, hu, h⟩ := k_bd h
    refine k_sR (As := [.int x2]) (rest := []) (wc := []) (v := some (.int u2)) (st1 := [.int u2]) hX hl.1 hZ (c_X8_isSort  x2 hu) (gs_ wm_794 wm_796 wm_672 wm_795) rfl hd_X8_isSort ⟨rfl, rfl⟩ [] rfl rfl rfl rfl rfl dX8_row_11 rfl ⟨rfl, rfl⟩ (fun locs hZ => ?_)
    clear hu
    refine lv_if_eq (tgt := 23) hx hb dX8_row_14 (by decide) (fun cd => ?_) (fun cd => ?_)
    · replace h := k_t cd h
      clear cd
      refine lv_bipush (v := -3) hx hb dX8_row_23 (by decide) ?_
      cases h
      exact k_iretW hX hr hZ dX8_row_25
    · replace h := k_f cd h
      clear cd
      refine lv_iload_n hx hb dX8_row_17 rfl (lv_at hl 3 rfl) ?_
      refine lv_bipush (v := 10) hx hb dX8_row_18 (by decide) ?_
      refine lv_icmp_le (tgt := 26) hx hb dX8_row_20 (by decide) (fun cd => ?_) (fun cd => ?_)
      · replace h := k_t cd h
        clear cd
        refine lv_iload_n hx hb dX8_row_26 rfl (lv_at hl 3 rfl) ?_
        refine lv_if_ge (tgt := 33) hx hb dX8_row_27 (by decide) (fun cd => ?_) (fun cd => ?_)
        · replace h := k_t cd h
          clear cd
          refine lv_aload_n hx hb dX8_row_33 rfl (lv_at hl 0 rfl) ?_
          refine k_get hX hZ.1 0 8 rfl rfl iw_X8 8 rfl (wm_789) (v := .ref (a_r 0)) rfl dX8_row_34 ?_
          refine lv_iload_n hx hb dX8_row_37 rfl (lv_at hl 1 rfl) ?_
          refine lv_iload_n hx hb dX8_row_38 rfl (lv_at hl 2 rfl) ?_
          refine lv_iload_n hx hb dX8_row_39 rfl (lv_at hl 3 rfl) ?_
          obtain ⟨u3, hu, h⟩ := k_bd h
          refine k_vW (As := [.int x1, .int x2, .int x3]) (rest := []) (wc := wd_X2 aC a_r s_r) (v := none) (st1 := []) (w' := wd_X8 aC a_x (a_t 0) (a_n 0) (a_n2 0) (a_v 0) (a_v2 0) (a_g 0) (a_w 0) (a_q 0) (a_r 0) s_x ++ wd_X2 aC a_r u3) hX hl.1 hZ (c_X2_make (a_r := a_r) s_r x1 x2 x3 hu) (gv_ wm_790 wm_792 wm_793 wm_384 wm_791) rfl hd_X2_make ⟨rfl, rfl⟩ 2 0 rfl rfl [1, 2, 3, 4] rfl rfl rfl rfl rfl dX8_row_40 rfl ⟨rfl, rfl⟩ rfl rfl rfl (fun H locs hZ => ?_)
          clear hu
          refine lv_iload_n hx hb dX8_row_43 rfl (lv_at hl 3 rfl) ?_
          cases h
          exact k_iretW hX hr hZ dX8_row_44
        · replace h := k_f cd h
          clear cd
          refine lv_bipush (v := -12) hx hb dX8_row_30 (by decide) ?_
          cases h
          exact k_iretW hX hr hZ dX8_row_32
      · replace h := k_f cd h
        clear cd
        refine lv_bipush (v := -3) hx hb dX8_row_23 (by decide) ?_
        cases h
        exact k_iretW hX hr hZ dX8_row_25
  · replace h := k_t cd h
    clear cd
    refine lv_bipush (v := -2) hx hb dX8_row_7 (by decide) ?_
    cases h
    exact k_iretW hX hr hZ dX8_row_9
def wlX8_set : List Cond := .code yX8_set cX8_set 7 (some .int) :: WL_
theorem hd_X8_set : yX8_set.cls = RX8 ∧ yX8_set.cls ≠ "java/lang/invoke/MethodHandle" ∧ yX8_set.cls ≠ "java/lang/invoke/VarHandle" ∧ (parseMethodDescriptor yX8_set.desc).map (fun d => d.parameters.length) = some 4 := by decide +kernel
theorem dX8_set_0 : decode cX8_set 0 = .ok (.iload_n 1, 1) := by decide +kernel
theorem dX8_set_1 : decode cX8_set 1 = .ok (.invokestatic 210, 3) := by decide +kernel
theorem dX8_set_4 : decode cX8_set 4 = .ok (.ifCond .ne 6, 3) := by decide +kernel
theorem dX8_set_7 : decode cX8_set 7 = .ok (.bipush (-2), 2) := by decide +kernel
theorem dX8_set_9 : decode cX8_set 9 = .ok (.ireturn, 1) := by decide +kernel
theorem dX8_set_10 : decode cX8_set 10 = .ok (.iload_n 2, 1) := by decide +kernel
theorem dX8_set_11 : decode cX8_set 11 = .ok (.invokestatic 213, 3) := by decide +kernel
theorem dX8_set_14 : decode cX8_set 14 = .ok (.ifCond .eq 19, 3) := by decide +kernel
theorem dX8_set_17 : decode cX8_set 17 = .ok (.iload 4, 2) := by decide +kernel
theorem dX8_set_19 : decode cX8_set 19 = .ok (.sipush (-9999), 3) := by decide +kernel
theorem dX8_set_22 : decode cX8_set 22 = .ok (.if_icmp .lt 11, 3) := by decide +kernel
theorem dX8_set_25 : decode cX8_set 25 = .ok (.iload 4, 2) := by decide +kernel
theorem dX8_set_27 : decode cX8_set 27 = .ok (.sipush 9999, 3) := by decide +kernel
theorem dX8_set_30 : decode cX8_set 30 = .ok (.if_icmp .le 6, 3) := by decide +kernel
theorem dX8_set_33 : decode cX8_set 33 = .ok (.bipush (-3), 2) := by decide +kernel
theorem dX8_set_35 : decode cX8_set 35 = .ok (.ireturn, 1) := by decide +kernel
theorem dX8_set_36 : decode cX8_set 36 = .ok (.aload_n 0, 1) := by decide +kernel
theorem dX8_set_37 : decode cX8_set 37 = .ok (.getfield 64, 3) := by decide +kernel
theorem dX8_set_40 : decode cX8_set 40 = .ok (.iload_n 1, 1) := by decide +kernel
theorem dX8_set_41 : decode cX8_set 41 = .ok (.iload_n 2, 1) := by decide +kernel
theorem dX8_set_42 : decode cX8_set 42 = .ok (.iload_n 3, 1) := by decide +kernel
theorem dX8_set_43 : decode cX8_set 43 = .ok (.invokevirtual 220, 3) := by decide +kernel
theorem dX8_set_46 : decode cX8_set 46 = .ok (.istore 5, 2) := by decide +kernel
theorem dX8_set_48 : decode cX8_set 48 = .ok (.iload 5, 2) := by decide +kernel
theorem dX8_set_50 : decode cX8_set 50 = .ok (.iconst (-1), 1) := by decide +kernel
theorem dX8_set_51 : decode cX8_set 51 = .ok (.if_icmp .eq 6, 3) := by decide +kernel
theorem dX8_set_54 : decode cX8_set 54 = .ok (.iload 5, 2) := by decide +kernel
theorem dX8_set_56 : decode cX8_set 56 = .ok (.ireturn, 1) := by decide +kernel
theorem dX8_set_57 : decode cX8_set 57 = .ok (.aload_n 0, 1) := by decide +kernel
theorem dX8_set_58 : decode cX8_set 58 = .ok (.getfield 64, 3) := by decide +kernel
theorem dX8_set_61 : decode cX8_set 61 = .ok (.iload_n 1, 1) := by decide +kernel
theorem dX8_set_62 : decode cX8_set 62 = .ok (.iload_n 3, 1) := by decide +kernel
theorem dX8_set_63 : decode cX8_set 63 = .ok (.invokevirtual 224, 3) := by decide +kernel
theorem dX8_set_66 : decode cX8_set 66 = .ok (.istore 6, 2) := by decide +kernel
theorem dX8_set_68 : decode cX8_set 68 = .ok (.aload_n 0, 1) := by decide +kernel
theorem dX8_set_69 : decode cX8_set 69 = .ok (.getfield 64, 3) := by decide +kernel
theorem dX8_set_72 : decode cX8_set 72 = .ok (.iload_n 1, 1) := by decide +kernel
theorem dX8_set_73 : decode cX8_set 73 = .ok (.iload_n 3, 1) := by decide +kernel
theorem dX8_set_74 : decode cX8_set 74 = .ok (.iload 4, 2) := by decide +kernel
theorem dX8_set_76 : decode cX8_set 76 = .ok (.invokevirtual 225, 3) := by decide +kernel
theorem dX8_set_79 : decode cX8_set 79 = .ok (.iload 6, 2) := by decide +kernel
theorem dX8_set_81 : decode cX8_set 81 = .ok (.ldc 228, 2) := by decide +kernel
theorem dX8_set_83 : decode cX8_set 83 = .ok (.iadd, 1) := by decide +kernel
theorem dX8_set_84 : decode cX8_set 84 = .ok (.ireturn, 1) := by decide +kernel
set_option maxHeartbeats 4000000 in
set_option maxRecDepth 100000 in
theorem c_X8_set {l : Launch} {D : va_G} {aC : Nat → ClassId} {a_x : Nat → Nat} {a_r : Nat → Nat} {a_t : Nat → Nat} {a_n : Nat → Nat} {a_n2 : Nat → Nat} {a_v : Nat → Nat} {a_v2 : Nat → Nat} {a_g : Nat → Nat} {a_w : Nat → Nat} {a_q : Nat → Nat} (s_x : Ob_T) (s_r : Ob_T) (x1 : Int32) (x2 : Int32) (x3 : Int32) (x4 : Int32) {out : Int32 × Ob_T} (h : f_X8_set s_x s_r x1 x2 x3 x4 = some out) : M_W l yX8_set wlX8_set 2 44 D aC [.ref (a_x 0), .int x1, .int x2, .int x3, .int x4] (wd_X8 aC a_x (a_t 0) (a_n 0) (a_n2 0) (a_v 0) (a_v2 0) (a_g 0) (a_w 0) (a_q 0) (a_r 0) s_x ++ wd_X2 aC a_r s_r) (some (.int out.1)) (wd_X8 aC a_x (a_t 0) (a_n 0) (a_n2 0) (a_v 0) (a_v2 0) (a_g 0) (a_w 0) (a_q 0) (a_r 0) s_x ++ wd_X2 aC a_r out.2) := by
  refine k_entW (cc := cX8_set) (ret := (some .int)) (maxL := 7) (own := RX8) (by decide) rfl rfl rfl ?_
  intro p e s m below meth c A ls hX hr hZ hl
  have hl : lv_has ls 7 [(0, .ref (a_x 0)), (1, .int x1), (2, .int x2), (3, .int x3), (4, .int x4)] := hl
  generalize ([.ref (a_x 0), .int x1, .int x2, .int x3, .int x4] : List Value).toArray = args at hX ⊢
  obtain ⟨hx, hb, hml, hown, hts, hK, hA, hlk⟩ := id hX
  unfold f_X8_set at h
  generalize s.heap = H at hZ ⊢
  generalize ([] : List Loc) = locs at hZ ⊢
  refine lv_iload_n hx hb dX8_set_0 rfl (lv_at hl 1 rfl) ?_
  obtain ⟨u1, hu, h⟩ := k_bd h
  refine k_sR (As := [.int x1]) (rest := []) (wc := []) (v := some (.int u1)) (st1 := [.int u1]) hX hl.1 hZ (c_X8_isRow  x1 hu) (gs_ wm_797 wm_799 wm_672 wm_798) rfl hd_X8_isRow ⟨rfl, rfl⟩ [] rfl rfl rfl rfl rfl dX8_set_1 rfl ⟨rfl, rfl⟩ (fun locs hZ => ?_)
  clear hu
  refine lv_if_ne (tgt := 10) hx hb dX8_set_4 (by decide) (fun cd => ?_) (fun cd => ?_)
  · replace h := k_f cd h
    clear cd
    refine lv_iload_n hx hb dX8_set_10 rfl (lv_at hl 2 rfl) ?_
    obtain ⟨u2, hu, h⟩ := k_bd h
    refine k_sR (As := [.int x2]) (rest := []) (wc := []) (v := some (.int u2)) (st1 := [.int u2]) hX hl.1 hZ (c_X8_isSort  x2 hu) (gs_ wm_794 wm_796 wm_672 wm_795) rfl hd_X8_isSort ⟨rfl, rfl⟩ [] rfl rfl rfl rfl rfl dX8_set_11 rfl ⟨rfl, rfl⟩ (fun locs hZ => ?_)
    clear hu
    refine lv_if_eq (tgt := 33) hx hb dX8_set_14 (by decide) (fun cd => ?_) (fun cd => ?_)
    · replace h := k_t cd h
      clear cd
      refine lv_bipush (v := -3) hx hb dX8_set_33 (by decide) ?_
      cases h
      exact k_iretW hX hr hZ dX8_set_35
    · replace h := k_f cd h
      clear cd
      refine lv_iload hx hb dX8_set_17 (lv_at hl 4 rfl) ?_
      refine lv_sipush (v := -9999) hx hb dX8_set_19 (by decide) ?_
      refine lv_icmp_lt (tgt := 33) hx hb dX8_set_22 (by decide) (fun cd => ?_) (fun cd => ?_)
      · replace h := k_t cd h
        clear cd
        refine lv_bipush (v := -3) hx hb dX8_set_33 (by decide) ?_
        cases h
        exact k_iretW hX hr hZ dX8_set_35
      · replace h := k_f cd h
        clear cd
        refine lv_iload hx hb dX8_set_25 (lv_at hl 4 rfl) ?_
        refine lv_sipush (v := 9999) hx hb dX8_set_27 (by decide) ?_
        refine lv_icmp_le (tgt := 36) hx hb dX8_set_30 (by decide) (fun cd => ?_) (fun cd => ?_)
        · replace h := k_t cd h
          clear cd
          refine lv_aload_n hx hb dX8_set_36 rfl (lv_at hl 0 rfl) ?_
          refine k_get hX hZ.1 0 8 rfl rfl iw_X8 8 rfl (wm_789) (v := .ref (a_r 0)) rfl dX8_set_37 ?_
          refine lv_iload_n hx hb dX8_set_40 rfl (lv_at hl 1 rfl) ?_
          refine lv_iload_n hx hb dX8_set_41 rfl (lv_at hl 2 rfl) ?_
          refine lv_iload_n hx hb dX8_set_42 rfl (lv_at hl 3 rfl) ?_
          obtain ⟨u3, hu, h⟩ := k_bd h
          refine k_vR (As := [.int x1, .int x2, .int x3]) (rest := []) (wc := wd_X2 aC a_r s_r) (v := some (.int u3)) (st1 := [.int u3]) hX hl.1 hZ (c_X2_placeTrouble (a_r := a_r) s_r x1 x2 x3 hu) (gv_ wm_806 wm_808 wm_809 wm_384 wm_807) rfl hd_X2_placeTrouble ⟨rfl, rfl⟩ 2 0 rfl rfl [1, 2, 3, 4] rfl rfl rfl rfl rfl dX8_set_43 rfl ⟨rfl, rfl⟩ (fun locs hZ => ?_)
          clear hu
          refine lv_istore (lv' := [(5, .int u3), (0, .ref (a_x 0)), (1, .int x1), (2, .int x2), (3, .int x3), (4, .int x4)]) hx hb dX8_set_46 hl (by decide) rfl (fun ls hl => ?_)
          refine lv_iload hx hb dX8_set_48 (lv_at hl 0 rfl) ?_
          refine lv_iconst (v := -1) hx hb dX8_set_50 (by decide) ?_
          refine lv_icmp_eq (tgt := 57) hx hb dX8_set_51 (by decide) (fun cd => ?_) (fun cd => ?_)
          · replace h := k_t cd h
            clear cd
            refine lv_aload_n hx hb dX8_set_57 rfl (lv_at hl 1 rfl) ?_
            refine k_get hX hZ.1 0 8 rfl rfl iw_X8 8 rfl (wm_789) (v := .ref (a_r 0)) rfl dX8_set_58 ?_
            refine lv_iload_n hx hb dX8_set_61 rfl (lv_at hl 2 rfl) ?_
            refine lv_iload_n hx hb dX8_set_62 rfl (lv_at hl 4 rfl) ?_
            obtain ⟨u4, hu, h⟩ := k_bd h
            refine k_vR (As := [.int x1, .int x3]) (rest := []) (wc := wd_X2 aC a_r s_r) (v := some (.int u4)) (st1 := [.int u4]) hX hl.1 hZ (c_X2_at (a_r := a_r) s_r x1 x3 hu) (gv_ wm_805 wm_395 wm_396 wm_384 wm_394) rfl hd_X2_at ⟨rfl, rfl⟩ 2 0 rfl rfl [1, 2, 3, 4] rfl rfl rfl rfl rfl dX8_set_63 rfl ⟨rfl, rfl⟩ (fun locs hZ => ?_)
            clear hu
            refine lv_istore (lv' := [(6, .int u4), (5, .int u3), (0, .ref (a_x 0)), (1, .int x1), (2, .int x2), (3, .int x3), (4, .int x4)]) hx hb dX8_set_66 hl (by decide) rfl (fun ls hl => ?_)
            refine lv_aload_n hx hb dX8_set_68 rfl (lv_at hl 2 rfl) ?_
            refine k_get hX hZ.1 0 8 rfl rfl iw_X8 8 rfl (wm_789) (v := .ref (a_r 0)) rfl dX8_set_69 ?_
            refine lv_iload_n hx hb dX8_set_72 rfl (lv_at hl 3 rfl) ?_
            refine lv_iload_n hx hb dX8_set_73 rfl (lv_at hl 5 rfl) ?_
            refine lv_iload hx hb dX8_set_74 (lv_at hl 6 rfl) ?_
            obtain ⟨u5, hu, h⟩ := k_bd h
            refine k_vW (As := [.int x1, .int x3, .int x4]) (rest := []) (wc := wd_X2 aC a_r s_r) (v := none) (st1 := []) (w' := wd_X8 aC a_x (a_t 0) (a_n 0) (a_n2 0) (a_v 0) (a_v2 0) (a_g 0) (a_w 0) (a_q 0) (a_r 0) s_x ++ wd_X2 aC a_r u5) hX hl.1 hZ (c_X2_put (a_r := a_r) s_r x1 x3 x4 hu) (gv_ wm_801 wm_803 wm_804 wm_384 wm_802) rfl hd_X2_put ⟨rfl, rfl⟩ 2 0 rfl rfl [1, 2, 3, 4] rfl rfl rfl rfl rfl dX8_set_76 rfl ⟨rfl, rfl⟩ rfl rfl rfl (fun H locs hZ => ?_)
            clear hu
            refine lv_iload hx hb dX8_set_79 (lv_at hl 0 rfl) ?_
            refine lv_ldc (v := 50000) hx hb hown (hts _ wm_800) dX8_set_81 ?_
            refine lv_iadd hx hb dX8_set_83 ?_
            cases h
            exact k_iretW hX hr hZ dX8_set_84
          · replace h := k_f cd h
            clear cd
            refine lv_iload hx hb dX8_set_54 (lv_at hl 0 rfl) ?_
            cases h
            exact k_iretW hX hr hZ dX8_set_56
        · replace h := k_f cd h
          clear cd
          refine lv_bipush (v := -3) hx hb dX8_set_33 (by decide) ?_
          cases h
          exact k_iretW hX hr hZ dX8_set_35
  · replace h := k_t cd h
    clear cd
    refine lv_bipush (v := -2) hx hb dX8_set_7 (by decide) ?_
    cases h
    exact k_iretW hX hr hZ dX8_set_9
