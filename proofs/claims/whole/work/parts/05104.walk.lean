def wlX8_append : List Cond := .code yX8_append cX8_append 3 (some .int) :: WL_
theorem hd_X8_append : yX8_append.cls = RX8 ∧ yX8_append.cls ≠ "java/lang/invoke/MethodHandle" ∧ yX8_append.cls ≠ "java/lang/invoke/VarHandle" ∧ (parseMethodDescriptor yX8_append.desc).map (fun d => d.parameters.length) = some 2 := by decide +kernel
theorem dX8_append_0 : decode cX8_append 0 = .ok (.iload_n 1, 1) := by decide +kernel
theorem dX8_append_1 : decode cX8_append 1 = .ok (.invokestatic 210, 3) := by decide +kernel
theorem dX8_append_4 : decode cX8_append 4 = .ok (.ifCond .eq 10, 3) := by decide +kernel
theorem dX8_append_7 : decode cX8_append 7 = .ok (.iload_n 2, 1) := by decide +kernel
theorem dX8_append_8 : decode cX8_append 8 = .ok (.invokestatic 210, 3) := by decide +kernel
theorem dX8_append_11 : decode cX8_append 11 = .ok (.ifCond .ne 6, 3) := by decide +kernel
theorem dX8_append_14 : decode cX8_append 14 = .ok (.bipush (-2), 2) := by decide +kernel
theorem dX8_append_16 : decode cX8_append 16 = .ok (.ireturn, 1) := by decide +kernel
theorem dX8_append_17 : decode cX8_append 17 = .ok (.aload_n 0, 1) := by decide +kernel
theorem dX8_append_18 : decode cX8_append 18 = .ok (.getfield 64, 3) := by decide +kernel
theorem dX8_append_21 : decode cX8_append 21 = .ok (.iload_n 1, 1) := by decide +kernel
theorem dX8_append_22 : decode cX8_append 22 = .ok (.invokevirtual 229, 3) := by decide +kernel
theorem dX8_append_25 : decode cX8_append 25 = .ok (.ifCond .ne 14, 3) := by decide +kernel
theorem dX8_append_28 : decode cX8_append 28 = .ok (.aload_n 0, 1) := by decide +kernel
theorem dX8_append_29 : decode cX8_append 29 = .ok (.getfield 64, 3) := by decide +kernel
theorem dX8_append_32 : decode cX8_append 32 = .ok (.iload_n 2, 1) := by decide +kernel
theorem dX8_append_33 : decode cX8_append 33 = .ok (.invokevirtual 229, 3) := by decide +kernel
theorem dX8_append_36 : decode cX8_append 36 = .ok (.ifCond .eq 6, 3) := by decide +kernel
theorem dX8_append_39 : decode cX8_append 39 = .ok (.bipush (-11), 2) := by decide +kernel
theorem dX8_append_41 : decode cX8_append 41 = .ok (.ireturn, 1) := by decide +kernel
theorem dX8_append_42 : decode cX8_append 42 = .ok (.aload_n 0, 1) := by decide +kernel
theorem dX8_append_43 : decode cX8_append 43 = .ok (.getfield 64, 3) := by decide +kernel
theorem dX8_append_46 : decode cX8_append 46 = .ok (.iload_n 1, 1) := by decide +kernel
theorem dX8_append_47 : decode cX8_append 47 = .ok (.invokevirtual 242, 3) := by decide +kernel
theorem dX8_append_50 : decode cX8_append 50 = .ok (.aload_n 0, 1) := by decide +kernel
theorem dX8_append_51 : decode cX8_append 51 = .ok (.getfield 64, 3) := by decide +kernel
theorem dX8_append_54 : decode cX8_append 54 = .ok (.iload_n 2, 1) := by decide +kernel
theorem dX8_append_55 : decode cX8_append 55 = .ok (.invokevirtual 242, 3) := by decide +kernel
theorem dX8_append_58 : decode cX8_append 58 = .ok (.iadd, 1) := by decide +kernel
theorem dX8_append_59 : decode cX8_append 59 = .ok (.bipush 10, 2) := by decide +kernel
theorem dX8_append_61 : decode cX8_append 61 = .ok (.if_icmp .le 6, 3) := by decide +kernel
theorem dX8_append_64 : decode cX8_append 64 = .ok (.bipush (-15), 2) := by decide +kernel
theorem dX8_append_66 : decode cX8_append 66 = .ok (.ireturn, 1) := by decide +kernel
theorem dX8_append_67 : decode cX8_append 67 = .ok (.aload_n 0, 1) := by decide +kernel
theorem dX8_append_68 : decode cX8_append 68 = .ok (.getfield 64, 3) := by decide +kernel
theorem dX8_append_71 : decode cX8_append 71 = .ok (.iload_n 1, 1) := by decide +kernel
theorem dX8_append_72 : decode cX8_append 72 = .ok (.iload_n 2, 1) := by decide +kernel
theorem dX8_append_73 : decode cX8_append 73 = .ok (.invokevirtual 245, 3) := by decide +kernel
theorem dX8_append_76 : decode cX8_append 76 = .ok (.aload_n 0, 1) := by decide +kernel
theorem dX8_append_77 : decode cX8_append 77 = .ok (.getfield 64, 3) := by decide +kernel
theorem dX8_append_80 : decode cX8_append 80 = .ok (.iload_n 1, 1) := by decide +kernel
theorem dX8_append_81 : decode cX8_append 81 = .ok (.invokevirtual 242, 3) := by decide +kernel
theorem dX8_append_84 : decode cX8_append 84 = .ok (.ireturn, 1) := by decide +kernel
set_option maxHeartbeats 4000000 in
set_option maxRecDepth 100000 in
theorem c_X8_append {l : Launch} {D : va_G} {aC : Nat → ClassId} {a_x : Nat → Nat} {a_r : Nat → Nat} {a_t : Nat → Nat} {a_n : Nat → Nat} {a_n2 : Nat → Nat} {a_v : Nat → Nat} {a_v2 : Nat → Nat} {a_g : Nat → Nat} {a_w : Nat → Nat} {a_q : Nat → Nat} (s_x : Ob_T) (s_r : Ob_T) (x1 : Int32) (x2 : Int32) {out : Int32 × Ob_T} (h : f_X8_append s_x s_r x1 x2 = some out) : M_W l yX8_append wlX8_append 3 148 D aC [.ref (a_x 0), .int x1, .int x2] (wd_X8 aC a_x (a_t 0) (a_n 0) (a_n2 0) (a_v 0) (a_v2 0) (a_g 0) (a_w 0) (a_q 0) (a_r 0) s_x ++ wd_X2 aC a_r s_r) (some (.int out.1)) (wd_X8 aC a_x (a_t 0) (a_n 0) (a_n2 0) (a_v 0) (a_v2 0) (a_g 0) (a_w 0) (a_q 0) (a_r 0) s_x ++ wd_X2 aC a_r out.2) := by
  refine k_entW (cc := cX8_append) (ret := (some .int)) (maxL := 3) (own := RX8) (by decide) rfl rfl rfl ?_
  intro p e s m below meth c A ls hX hr hZ hl
  have hl : lv_has ls 3 [(0, .ref (a_x 0)), (1, .int x1), (2, .int x2)] := hl
  generalize ([.ref (a_x 0), .int x1, .int x2] : List Value).toArray = args at hX ⊢
  obtain ⟨hx, hb, hml, hown, hts, hK, hA, hlk⟩ := id hX
  unfold f_X8_append at h
  generalize s.heap = H at hZ ⊢
  generalize ([] : List Loc) = locs at hZ ⊢
  refine lv_iload_n hx hb dX8_append_0 rfl (lv_at hl 1 rfl) ?_
  obtain ⟨u1, hu, h⟩ := k_bd h
  refine k_sR (As := [.int x1]) (rest := []) (wc := []) (v := some (.int u1)) (st1 := [.int u1]) hX hl.1 hZ (c_X8_isRow  x1 hu) (gs_ wm_797 wm_799 wm_672 wm_798) rfl hd_X8_isRow ⟨rfl, rfl⟩ [] rfl rfl rfl rfl rfl dX8_append_1 rfl ⟨rfl, rfl⟩ (fun locs hZ => ?_)
  clear hu
  refine lv_if_eq (tgt := 14) hx hb dX8_append_4 (by decide) (fun cd => ?_) (fun cd => ?_)
  · replace h := k_t cd h
    clear cd
    refine lv_bipush (v := -2) hx hb dX8_append_14 (by decide) ?_
    cases h
    exact k_iretW hX hr hZ dX8_append_16
  · replace h := k_f cd h
    clear cd
    refine lv_iload_n hx hb dX8_append_7 rfl (lv_at hl 2 rfl) ?_
    obtain ⟨u2, hu, h⟩ := k_bd h
    refine k_sR (As := [.int x2]) (rest := []) (wc := []) (v := some (.int u2)) (st1 := [.int u2]) hX hl.1 hZ (c_X8_isRow  x2 hu) (gs_ wm_797 wm_799 wm_672 wm_798) rfl hd_X8_isRow ⟨rfl, rfl⟩ [] rfl rfl rfl rfl rfl dX8_append_8 rfl ⟨rfl, rfl⟩ (fun locs hZ => ?_)
    clear hu
    refine lv_if_ne (tgt := 17) hx hb dX8_append_11 (by decide) (fun cd => ?_) (fun cd => ?_)
    · replace h := k_f cd h
      clear cd
      refine lv_aload_n hx hb dX8_append_17 rfl (lv_at hl 0 rfl) ?_
      refine k_get hX hZ.1 0 8 rfl rfl iw_X8 8 rfl (wm_789) (v := .ref (a_r 0)) rfl dX8_append_18 ?_
      refine lv_iload_n hx hb dX8_append_21 rfl (lv_at hl 1 rfl) ?_
      obtain ⟨u3, hu, h⟩ := k_bd h
      refine k_vR (As := [.int x1]) (rest := []) (wc := wd_X2 aC a_r s_r) (v := some (.int u3)) (st1 := [.int u3]) hX hl.1 hZ (c_X2_isMissing (a_r := a_r) s_r x1 hu) (gv_ wm_819 wm_386 wm_387 wm_384 wm_385) rfl hd_X2_isMissing ⟨rfl, rfl⟩ 2 0 rfl rfl [1, 2, 3, 4] rfl rfl rfl rfl rfl dX8_append_22 rfl ⟨rfl, rfl⟩ (fun locs hZ => ?_)
      clear hu
      refine lv_if_ne (tgt := 39) hx hb dX8_append_25 (by decide) (fun cd => ?_) (fun cd => ?_)
      · replace h := k_f cd h
        clear cd
        refine lv_bipush (v := -11) hx hb dX8_append_39 (by decide) ?_
        cases h
        exact k_iretW hX hr hZ dX8_append_41
      · replace h := k_t cd h
        clear cd
        refine lv_aload_n hx hb dX8_append_28 rfl (lv_at hl 0 rfl) ?_
        refine k_get hX hZ.1 0 8 rfl rfl iw_X8 8 rfl (wm_789) (v := .ref (a_r 0)) rfl dX8_append_29 ?_
        refine lv_iload_n hx hb dX8_append_32 rfl (lv_at hl 2 rfl) ?_
        obtain ⟨u4, hu, h⟩ := k_bd h
        refine k_vR (As := [.int x2]) (rest := []) (wc := wd_X2 aC a_r s_r) (v := some (.int u4)) (st1 := [.int u4]) hX hl.1 hZ (c_X2_isMissing (a_r := a_r) s_r x2 hu) (gv_ wm_819 wm_386 wm_387 wm_384 wm_385) rfl hd_X2_isMissing ⟨rfl, rfl⟩ 2 0 rfl rfl [1, 2, 3, 4] rfl rfl rfl rfl rfl dX8_append_33 rfl ⟨rfl, rfl⟩ (fun locs hZ => ?_)
        clear hu
        refine lv_if_eq (tgt := 42) hx hb dX8_append_36 (by decide) (fun cd => ?_) (fun cd => ?_)
        · replace h := k_t cd h
          clear cd
          refine lv_aload_n hx hb dX8_append_42 rfl (lv_at hl 0 rfl) ?_
          refine k_get hX hZ.1 0 8 rfl rfl iw_X8 8 rfl (wm_789) (v := .ref (a_r 0)) rfl dX8_append_43 ?_
          refine lv_iload_n hx hb dX8_append_46 rfl (lv_at hl 1 rfl) ?_
          obtain ⟨u5, hu, h⟩ := k_bd h
          refine k_vR (As := [.int x1]) (rest := []) (wc := wd_X2 aC a_r s_r) (v := some (.int u5)) (st1 := [.int u5]) hX hl.1 hZ (c_X2_sizeOf (a_r := a_r) s_r x1 hu) (gv_ wm_820 wm_822 wm_823 wm_384 wm_821) rfl hd_X2_sizeOf ⟨rfl, rfl⟩ 2 0 rfl rfl [1, 2, 3, 4] rfl rfl rfl rfl rfl dX8_append_47 rfl ⟨rfl, rfl⟩ (fun locs hZ => ?_)
          clear hu
          refine lv_aload_n hx hb dX8_append_50 rfl (lv_at hl 0 rfl) ?_
          refine k_get hX hZ.1 0 8 rfl rfl iw_X8 8 rfl (wm_789) (v := .ref (a_r 0)) rfl dX8_append_51 ?_
          refine lv_iload_n hx hb dX8_append_54 rfl (lv_at hl 2 rfl) ?_
          obtain ⟨u6, hu, h⟩ := k_bd h
          refine k_vR (As := [.int x2]) (rest := [.int u5]) (wc := wd_X2 aC a_r s_r) (v := some (.int u6)) (st1 := [.int u6, .int u5]) hX hl.1 hZ (c_X2_sizeOf (a_r := a_r) s_r x2 hu) (gv_ wm_820 wm_822 wm_823 wm_384 wm_821) rfl hd_X2_sizeOf ⟨rfl, rfl⟩ 2 0 rfl rfl [1, 2, 3, 4] rfl rfl rfl rfl rfl dX8_append_55 rfl ⟨rfl, rfl⟩ (fun locs hZ => ?_)
          clear hu
          refine lv_iadd hx hb dX8_append_58 ?_
          refine lv_bipush (v := 10) hx hb dX8_append_59 (by decide) ?_
          refine lv_icmp_le (tgt := 67) hx hb dX8_append_61 (by decide) (fun cd => ?_) (fun cd => ?_)
          · replace h := k_t cd h
            clear cd
            refine lv_aload_n hx hb dX8_append_67 rfl (lv_at hl 0 rfl) ?_
            refine k_get hX hZ.1 0 8 rfl rfl iw_X8 8 rfl (wm_789) (v := .ref (a_r 0)) rfl dX8_append_68 ?_
            refine lv_iload_n hx hb dX8_append_71 rfl (lv_at hl 1 rfl) ?_
            refine lv_iload_n hx hb dX8_append_72 rfl (lv_at hl 2 rfl) ?_
            obtain ⟨u7, hu, h⟩ := k_bd h
            refine k_vW (As := [.int x1, .int x2]) (rest := []) (wc := wd_X2 aC a_r s_r) (v := none) (st1 := []) (w' := wd_X8 aC a_x (a_t 0) (a_n 0) (a_n2 0) (a_v 0) (a_v2 0) (a_g 0) (a_w 0) (a_q 0) (a_r 0) s_x ++ wd_X2 aC a_r u7) hX hl.1 hZ (c_X2_extend (a_r := a_r) s_r x1 x2 hu) (gv_ wm_824 wm_826 wm_827 wm_384 wm_825) rfl hd_X2_extend ⟨rfl, rfl⟩ 2 0 rfl rfl [1, 2, 3, 4] rfl rfl rfl rfl rfl dX8_append_73 rfl ⟨rfl, rfl⟩ rfl rfl rfl (fun H locs hZ => ?_)
            clear hu
            refine lv_aload_n hx hb dX8_append_76 rfl (lv_at hl 0 rfl) ?_
            refine k_get hX hZ.1 0 8 rfl rfl iw_X8 8 rfl (wm_789) (v := .ref (a_r 0)) rfl dX8_append_77 ?_
            refine lv_iload_n hx hb dX8_append_80 rfl (lv_at hl 1 rfl) ?_
            obtain ⟨u8, hu, h⟩ := k_bd h
            refine k_vR (As := [.int x1]) (rest := []) (wc := wd_X2 aC a_r u7) (v := some (.int u8)) (st1 := [.int u8]) hX hl.1 hZ (c_X2_sizeOf (a_r := a_r) u7 x1 hu) (gv_ wm_820 wm_822 wm_823 wm_384 wm_821) rfl hd_X2_sizeOf ⟨rfl, rfl⟩ 2 0 rfl rfl [1, 2, 3, 4] rfl rfl rfl rfl rfl dX8_append_81 rfl ⟨rfl, rfl⟩ (fun locs hZ => ?_)
            clear hu
            cases h
            exact k_iretW hX hr hZ dX8_append_84
          · replace h := k_f cd h
            clear cd
            refine lv_bipush (v := -15) hx hb dX8_append_64 (by decide) ?_
            cases h
            exact k_iretW hX hr hZ dX8_append_66
        · replace h := k_f cd h
          clear cd
          refine lv_bipush (v := -11) hx hb dX8_append_39 (by decide) ?_
          cases h
          exact k_iretW hX hr hZ dX8_append_41
    · replace h := k_t cd h
      clear cd
      refine lv_bipush (v := -2) hx hb dX8_append_14 (by decide) ?_
      cases h
      exact k_iretW hX hr hZ dX8_append_16
