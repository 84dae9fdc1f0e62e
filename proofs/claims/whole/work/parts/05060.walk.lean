def wlX1_axesOfVerb : List Cond := .code yX1_axesOfVerb cX1_axesOfVerb 5 (some .int) :: WL_
theorem hd_X1_axesOfVerb : yX1_axesOfVerb.cls = RX1 ∧ yX1_axesOfVerb.cls ≠ "java/lang/invoke/MethodHandle" ∧ yX1_axesOfVerb.cls ≠ "java/lang/invoke/VarHandle" ∧ (parseMethodDescriptor yX1_axesOfVerb.desc).map (fun d => d.parameters.length) = some 4 := by decide +kernel
theorem dX1_axesOfVerb_0 : decode cX1_axesOfVerb 0 = .ok (.iload_n 1, 1) := by decide +kernel
theorem dX1_axesOfVerb_1 : decode cX1_axesOfVerb 1 = .ok (.tableswitch 150 1 5 #[35, 71, 111, 118, 140], 35) := by decide +kernel
theorem dX1_axesOfVerb_36 : decode cX1_axesOfVerb 36 = .ok (.aload_n 0, 1) := by decide +kernel
theorem dX1_axesOfVerb_37 : decode cX1_axesOfVerb 37 = .ok (.iload_n 2, 1) := by decide +kernel
theorem dX1_axesOfVerb_38 : decode cX1_axesOfVerb 38 = .ok (.iload 4, 2) := by decide +kernel
theorem dX1_axesOfVerb_40 : decode cX1_axesOfVerb 40 = .ok (.invokevirtual 51, 3) := by decide +kernel
theorem dX1_axesOfVerb_43 : decode cX1_axesOfVerb 43 = .ok (.aload_n 0, 1) := by decide +kernel
theorem dX1_axesOfVerb_44 : decode cX1_axesOfVerb 44 = .ok (.iload_n 3, 1) := by decide +kernel
theorem dX1_axesOfVerb_45 : decode cX1_axesOfVerb 45 = .ok (.iload 4, 2) := by decide +kernel
theorem dX1_axesOfVerb_47 : decode cX1_axesOfVerb 47 = .ok (.invokevirtual 51, 3) := by decide +kernel
theorem dX1_axesOfVerb_50 : decode cX1_axesOfVerb 50 = .ok (.invokestatic 54, 3) := by decide +kernel
theorem dX1_axesOfVerb_53 : decode cX1_axesOfVerb 53 = .ok (.aload_n 0, 1) := by decide +kernel
theorem dX1_axesOfVerb_54 : decode cX1_axesOfVerb 54 = .ok (.iload_n 2, 1) := by decide +kernel
theorem dX1_axesOfVerb_55 : decode cX1_axesOfVerb 55 = .ok (.iload 4, 2) := by decide +kernel
theorem dX1_axesOfVerb_57 : decode cX1_axesOfVerb 57 = .ok (.invokevirtual 59, 3) := by decide +kernel
theorem dX1_axesOfVerb_60 : decode cX1_axesOfVerb 60 = .ok (.aload_n 0, 1) := by decide +kernel
theorem dX1_axesOfVerb_61 : decode cX1_axesOfVerb 61 = .ok (.iload_n 3, 1) := by decide +kernel
theorem dX1_axesOfVerb_62 : decode cX1_axesOfVerb 62 = .ok (.iload 4, 2) := by decide +kernel
theorem dX1_axesOfVerb_64 : decode cX1_axesOfVerb 64 = .ok (.invokevirtual 59, 3) := by decide +kernel
theorem dX1_axesOfVerb_67 : decode cX1_axesOfVerb 67 = .ok (.invokestatic 54, 3) := by decide +kernel
theorem dX1_axesOfVerb_70 : decode cX1_axesOfVerb 70 = .ok (.iadd, 1) := by decide +kernel
theorem dX1_axesOfVerb_71 : decode cX1_axesOfVerb 71 = .ok (.ireturn, 1) := by decide +kernel
theorem dX1_axesOfVerb_72 : decode cX1_axesOfVerb 72 = .ok (.aload_n 0, 1) := by decide +kernel
theorem dX1_axesOfVerb_73 : decode cX1_axesOfVerb 73 = .ok (.iload_n 2, 1) := by decide +kernel
theorem dX1_axesOfVerb_74 : decode cX1_axesOfVerb 74 = .ok (.iload 4, 2) := by decide +kernel
theorem dX1_axesOfVerb_76 : decode cX1_axesOfVerb 76 = .ok (.invokevirtual 51, 3) := by decide +kernel
theorem dX1_axesOfVerb_79 : decode cX1_axesOfVerb 79 = .ok (.aload_n 0, 1) := by decide +kernel
theorem dX1_axesOfVerb_80 : decode cX1_axesOfVerb 80 = .ok (.iload_n 3, 1) := by decide +kernel
theorem dX1_axesOfVerb_81 : decode cX1_axesOfVerb 81 = .ok (.iload 4, 2) := by decide +kernel
theorem dX1_axesOfVerb_83 : decode cX1_axesOfVerb 83 = .ok (.invokevirtual 51, 3) := by decide +kernel
theorem dX1_axesOfVerb_86 : decode cX1_axesOfVerb 86 = .ok (.invokestatic 54, 3) := by decide +kernel
theorem dX1_axesOfVerb_89 : decode cX1_axesOfVerb 89 = .ok (.iconst 1, 1) := by decide +kernel
theorem dX1_axesOfVerb_90 : decode cX1_axesOfVerb 90 = .ok (.aload_n 0, 1) := by decide +kernel
theorem dX1_axesOfVerb_91 : decode cX1_axesOfVerb 91 = .ok (.iload_n 2, 1) := by decide +kernel
theorem dX1_axesOfVerb_92 : decode cX1_axesOfVerb 92 = .ok (.iload 4, 2) := by decide +kernel
theorem dX1_axesOfVerb_94 : decode cX1_axesOfVerb 94 = .ok (.invokevirtual 59, 3) := by decide +kernel
theorem dX1_axesOfVerb_97 : decode cX1_axesOfVerb 97 = .ok (.aload_n 0, 1) := by decide +kernel
theorem dX1_axesOfVerb_98 : decode cX1_axesOfVerb 98 = .ok (.iload_n 3, 1) := by decide +kernel
theorem dX1_axesOfVerb_99 : decode cX1_axesOfVerb 99 = .ok (.iload 4, 2) := by decide +kernel
theorem dX1_axesOfVerb_101 : decode cX1_axesOfVerb 101 = .ok (.invokevirtual 59, 3) := by decide +kernel
theorem dX1_axesOfVerb_104 : decode cX1_axesOfVerb 104 = .ok (.invokestatic 54, 3) := by decide +kernel
theorem dX1_axesOfVerb_107 : decode cX1_axesOfVerb 107 = .ok (.invokestatic 54, 3) := by decide +kernel
theorem dX1_axesOfVerb_110 : decode cX1_axesOfVerb 110 = .ok (.iadd, 1) := by decide +kernel
theorem dX1_axesOfVerb_111 : decode cX1_axesOfVerb 111 = .ok (.ireturn, 1) := by decide +kernel
theorem dX1_axesOfVerb_112 : decode cX1_axesOfVerb 112 = .ok (.aload_n 0, 1) := by decide +kernel
theorem dX1_axesOfVerb_113 : decode cX1_axesOfVerb 113 = .ok (.getfield 24, 3) := by decide +kernel
theorem dX1_axesOfVerb_116 : decode cX1_axesOfVerb 116 = .ok (.iload_n 2, 1) := by decide +kernel
theorem dX1_axesOfVerb_117 : decode cX1_axesOfVerb 117 = .ok (.iaload, 1) := by decide +kernel
theorem dX1_axesOfVerb_118 : decode cX1_axesOfVerb 118 = .ok (.ireturn, 1) := by decide +kernel
theorem dX1_axesOfVerb_119 : decode cX1_axesOfVerb 119 = .ok (.aload_n 0, 1) := by decide +kernel
theorem dX1_axesOfVerb_120 : decode cX1_axesOfVerb 120 = .ok (.iload_n 2, 1) := by decide +kernel
theorem dX1_axesOfVerb_121 : decode cX1_axesOfVerb 121 = .ok (.iload 4, 2) := by decide +kernel
theorem dX1_axesOfVerb_123 : decode cX1_axesOfVerb 123 = .ok (.invokevirtual 51, 3) := by decide +kernel
theorem dX1_axesOfVerb_126 : decode cX1_axesOfVerb 126 = .ok (.iconst 0, 1) := by decide +kernel
theorem dX1_axesOfVerb_127 : decode cX1_axesOfVerb 127 = .ok (.aload_n 0, 1) := by decide +kernel
theorem dX1_axesOfVerb_128 : decode cX1_axesOfVerb 128 = .ok (.iload_n 2, 1) := by decide +kernel
theorem dX1_axesOfVerb_129 : decode cX1_axesOfVerb 129 = .ok (.iload 4, 2) := by decide +kernel
theorem dX1_axesOfVerb_131 : decode cX1_axesOfVerb 131 = .ok (.invokevirtual 59, 3) := by decide +kernel
theorem dX1_axesOfVerb_134 : decode cX1_axesOfVerb 134 = .ok (.iconst 1, 1) := by decide +kernel
theorem dX1_axesOfVerb_135 : decode cX1_axesOfVerb 135 = .ok (.isub, 1) := by decide +kernel
theorem dX1_axesOfVerb_136 : decode cX1_axesOfVerb 136 = .ok (.invokestatic 54, 3) := by decide +kernel
theorem dX1_axesOfVerb_139 : decode cX1_axesOfVerb 139 = .ok (.iadd, 1) := by decide +kernel
theorem dX1_axesOfVerb_140 : decode cX1_axesOfVerb 140 = .ok (.ireturn, 1) := by decide +kernel
theorem dX1_axesOfVerb_141 : decode cX1_axesOfVerb 141 = .ok (.aload_n 0, 1) := by decide +kernel
theorem dX1_axesOfVerb_142 : decode cX1_axesOfVerb 142 = .ok (.iload_n 2, 1) := by decide +kernel
theorem dX1_axesOfVerb_143 : decode cX1_axesOfVerb 143 = .ok (.iload 4, 2) := by decide +kernel
theorem dX1_axesOfVerb_145 : decode cX1_axesOfVerb 145 = .ok (.invokevirtual 51, 3) := by decide +kernel
theorem dX1_axesOfVerb_148 : decode cX1_axesOfVerb 148 = .ok (.iconst 1, 1) := by decide +kernel
theorem dX1_axesOfVerb_149 : decode cX1_axesOfVerb 149 = .ok (.iadd, 1) := by decide +kernel
theorem dX1_axesOfVerb_150 : decode cX1_axesOfVerb 150 = .ok (.ireturn, 1) := by decide +kernel
theorem dX1_axesOfVerb_151 : decode cX1_axesOfVerb 151 = .ok (.iconst 0, 1) := by decide +kernel
theorem dX1_axesOfVerb_152 : decode cX1_axesOfVerb 152 = .ok (.ireturn, 1) := by decide +kernel
set_option maxHeartbeats 4000000 in
set_option maxRecDepth 100000 in
theorem c_X1_axesOfVerb {l : Launch} {D : va_G} {aC : Nat → ClassId} {a_n : Nat → Nat} (s_n : Ob_T) (x1 : Int32) (x2 : Int32) (x3 : Int32) (x4 : Int32) {out : Int32} (h : f_X1_axesOfVerb s_n x1 x2 x3 x4 = some out) : M_R l yX1_axesOfVerb wlX1_axesOfVerb 2 45 D aC [.ref (a_n 0), .int x1, .int x2, .int x3, .int x4] (wd_X1 aC a_n s_n) (some (.int out)) := by
  refine k_entR (cc := cX1_axesOfVerb) (ret := (some .int)) (maxL := 5) (own := RX1) (by decide) rfl rfl rfl ?_
  intro p e s m below meth c A ls hX hr hZ hl
  have hl : lv_has ls 5 [(0, .ref (a_n 0)), (1, .int x1), (2, .int x2), (3, .int x3), (4, .int x4)] := hl
  generalize ([.ref (a_n 0), .int x1, .int x2, .int x3, .int x4] : List Value).toArray = args at hX ⊢
  obtain ⟨hx, hb, hml, hown, hts, hK, hA, hlk⟩ := id hX
  unfold f_X1_axesOfVerb at h
  have hF : ∀ q ∈ ([] : List Loc), False := fun _ h => nomatch h
  generalize ([] : List Loc) = locs at hF ⊢
  refine lv_iload_n hx hb dX1_axesOfVerb_0 rfl (lv_at hl 1 rfl) ?_
  by_cases c1 : x1 = (1 : Int32)
  · replace h := k_t c1 h
    refine k_sw c1 ?_
    refine lv_tableIn (tgt := 36) (off := 35) hx hb dX1_axesOfVerb_1 (by decide) (by decide) rfl (by decide) ?_
    refine lv_aload_n hx hb dX1_axesOfVerb_36 rfl (lv_at hl 0 rfl) ?_
    refine lv_iload_n hx hb dX1_axesOfVerb_37 rfl (lv_at hl 2 rfl) ?_
    refine lv_iload hx hb dX1_axesOfVerb_38 (lv_at hl 4 rfl) ?_
    obtain ⟨u1, hu, h⟩ := k_bd h
    refine k_vRRs (As := [.int x2, .int x4]) (rest := []) (v := some (.int u1)) (st1 := [.int u1]) hX hl.1 hZ hF (c_X1_frameOf (a_n := a_n) s_n x2 x4 hu) (gv_ wm_333 wm_335 wm_336 wm_321 wm_334) rfl hd_X1_frameOf ⟨rfl, rfl⟩ 1 0 rfl rfl rfl rfl rfl dX1_axesOfVerb_40 rfl ⟨rfl, rfl⟩ (fun locs hF => ?_)
    clear hu
    refine lv_aload_n hx hb dX1_axesOfVerb_43 rfl (lv_at hl 0 rfl) ?_
    refine lv_iload_n hx hb dX1_axesOfVerb_44 rfl (lv_at hl 3 rfl) ?_
    refine lv_iload hx hb dX1_axesOfVerb_45 (lv_at hl 4 rfl) ?_
    obtain ⟨u2, hu, h⟩ := k_bd h
    refine k_vRRs (As := [.int x3, .int x4]) (rest := [.int u1]) (v := some (.int u2)) (st1 := [.int u2, .int u1]) hX hl.1 hZ hF (c_X1_frameOf (a_n := a_n) s_n x3 x4 hu) (gv_ wm_333 wm_335 wm_336 wm_321 wm_334) rfl hd_X1_frameOf ⟨rfl, rfl⟩ 1 0 rfl rfl rfl rfl rfl dX1_axesOfVerb_47 rfl ⟨rfl, rfl⟩ (fun locs hF => ?_)
    clear hu
    refine va_mmax (x := u1) (y := u2) hx hb (hml.trans hl.1.symm) hown (hts _ wm_337) (hts _ wm_338) (hts _ wm_339) (hts _ wm_340) (Nat.le_of_ble_eq_true rfl) (Nat.le_of_ble_eq_true rfl) (Nat.zero_le _) (Nat.zero_le _) dX1_axesOfVerb_50 ?_
    refine lv_aload_n hx hb dX1_axesOfVerb_53 rfl (lv_at hl 0 rfl) ?_
    refine lv_iload_n hx hb dX1_axesOfVerb_54 rfl (lv_at hl 2 rfl) ?_
    refine lv_iload hx hb dX1_axesOfVerb_55 (lv_at hl 4 rfl) ?_
    obtain ⟨u3, hu, h⟩ := k_bd h
    refine k_vRRs (As := [.int x2, .int x4]) (rest := [.int (if u1 < u2 then u2 else u1)]) (v := some (.int u3)) (st1 := [.int u3, .int (if u1 < u2 then u2 else u1)]) hX hl.1 hZ hF (c_X1_cellOf (a_n := a_n) s_n x2 x4 hu) (gv_ wm_341 wm_343 wm_344 wm_321 wm_342) rfl hd_X1_cellOf ⟨rfl, rfl⟩ 1 0 rfl rfl rfl rfl rfl dX1_axesOfVerb_57 rfl ⟨rfl, rfl⟩ (fun locs hF => ?_)
    clear hu
    refine lv_aload_n hx hb dX1_axesOfVerb_60 rfl (lv_at hl 0 rfl) ?_
    refine lv_iload_n hx hb dX1_axesOfVerb_61 rfl (lv_at hl 3 rfl) ?_
    refine lv_iload hx hb dX1_axesOfVerb_62 (lv_at hl 4 rfl) ?_
    obtain ⟨u4, hu, h⟩ := k_bd h
    refine k_vRRs (As := [.int x3, .int x4]) (rest := [.int u3, .int (if u1 < u2 then u2 else u1)]) (v := some (.int u4)) (st1 := [.int u4, .int u3, .int (if u1 < u2 then u2 else u1)]) hX hl.1 hZ hF (c_X1_cellOf (a_n := a_n) s_n x3 x4 hu) (gv_ wm_341 wm_343 wm_344 wm_321 wm_342) rfl hd_X1_cellOf ⟨rfl, rfl⟩ 1 0 rfl rfl rfl rfl rfl dX1_axesOfVerb_64 rfl ⟨rfl, rfl⟩ (fun locs hF => ?_)
    clear hu
    refine va_mmax (x := u3) (y := u4) hx hb (hml.trans hl.1.symm) hown (hts _ wm_337) (hts _ wm_338) (hts _ wm_339) (hts _ wm_340) (Nat.le_of_ble_eq_true rfl) (Nat.le_of_ble_eq_true rfl) (Nat.zero_le _) (Nat.zero_le _) dX1_axesOfVerb_67 ?_
    refine lv_iadd hx hb dX1_axesOfVerb_70 ?_
    cases h
    exact k_iretR hX hr hF dX1_axesOfVerb_71
  · replace h := k_f c1 h
    have n1 := k_ne c1 (1) (by decide)
    by_cases c2 : x1 = (2 : Int32)
    · replace h := k_t c2 h
      refine k_sw c2 ?_
      refine lv_tableIn (tgt := 72) (off := 71) hx hb dX1_axesOfVerb_1 (by decide) (by decide) rfl (by decide) ?_
      refine lv_aload_n hx hb dX1_axesOfVerb_72 rfl (lv_at hl 0 rfl) ?_
      refine lv_iload_n hx hb dX1_axesOfVerb_73 rfl (lv_at hl 2 rfl) ?_
      refine lv_iload hx hb dX1_axesOfVerb_74 (lv_at hl 4 rfl) ?_
      obtain ⟨u5, hu, h⟩ := k_bd h
      refine k_vRRs (As := [.int x2, .int x4]) (rest := []) (v := some (.int u5)) (st1 := [.int u5]) hX hl.1 hZ hF (c_X1_frameOf (a_n := a_n) s_n x2 x4 hu) (gv_ wm_333 wm_335 wm_336 wm_321 wm_334) rfl hd_X1_frameOf ⟨rfl, rfl⟩ 1 0 rfl rfl rfl rfl rfl dX1_axesOfVerb_76 rfl ⟨rfl, rfl⟩ (fun locs hF => ?_)
      clear hu
      refine lv_aload_n hx hb dX1_axesOfVerb_79 rfl (lv_at hl 0 rfl) ?_
      refine lv_iload_n hx hb dX1_axesOfVerb_80 rfl (lv_at hl 3 rfl) ?_
      refine lv_iload hx hb dX1_axesOfVerb_81 (lv_at hl 4 rfl) ?_
      obtain ⟨u6, hu, h⟩ := k_bd h
      refine k_vRRs (As := [.int x3, .int x4]) (rest := [.int u5]) (v := some (.int u6)) (st1 := [.int u6, .int u5]) hX hl.1 hZ hF (c_X1_frameOf (a_n := a_n) s_n x3 x4 hu) (gv_ wm_333 wm_335 wm_336 wm_321 wm_334) rfl hd_X1_frameOf ⟨rfl, rfl⟩ 1 0 rfl rfl rfl rfl rfl dX1_axesOfVerb_83 rfl ⟨rfl, rfl⟩ (fun locs hF => ?_)
      clear hu
      refine va_mmax (x := u5) (y := u6) hx hb (hml.trans hl.1.symm) hown (hts _ wm_337) (hts _ wm_338) (hts _ wm_339) (hts _ wm_340) (Nat.le_of_ble_eq_true rfl) (Nat.le_of_ble_eq_true rfl) (Nat.zero_le _) (Nat.zero_le _) dX1_axesOfVerb_86 ?_
      refine lv_iconst (v := 1) hx hb dX1_axesOfVerb_89 (by decide) ?_
      refine lv_aload_n hx hb dX1_axesOfVerb_90 rfl (lv_at hl 0 rfl) ?_
      refine lv_iload_n hx hb dX1_axesOfVerb_91 rfl (lv_at hl 2 rfl) ?_
      refine lv_iload hx hb dX1_axesOfVerb_92 (lv_at hl 4 rfl) ?_
      obtain ⟨u7, hu, h⟩ := k_bd h
      refine k_vRRs (As := [.int x2, .int x4]) (rest := [.int (1 : Int32), .int (if u5 < u6 then u6 else u5)]) (v := some (.int u7)) (st1 := [.int u7, .int (1 : Int32), .int (if u5 < u6 then u6 else u5)]) hX hl.1 hZ hF (c_X1_cellOf (a_n := a_n) s_n x2 x4 hu) (gv_ wm_341 wm_343 wm_344 wm_321 wm_342) rfl hd_X1_cellOf ⟨rfl, rfl⟩ 1 0 rfl rfl rfl rfl rfl dX1_axesOfVerb_94 rfl ⟨rfl, rfl⟩ (fun locs hF => ?_)
      clear hu
      refine lv_aload_n hx hb dX1_axesOfVerb_97 rfl (lv_at hl 0 rfl) ?_
      refine lv_iload_n hx hb dX1_axesOfVerb_98 rfl (lv_at hl 3 rfl) ?_
      refine lv_iload hx hb dX1_axesOfVerb_99 (lv_at hl 4 rfl) ?_
      obtain ⟨u8, hu, h⟩ := k_bd h
      refine k_vRRs (As := [.int x3, .int x4]) (rest := [.int u7, .int (1 : Int32), .int (if u5 < u6 then u6 else u5)]) (v := some (.int u8)) (st1 := [.int u8, .int u7, .int (1 : Int32), .int (if u5 < u6 then u6 else u5)]) hX hl.1 hZ hF (c_X1_cellOf (a_n := a_n) s_n x3 x4 hu) (gv_ wm_341 wm_343 wm_344 wm_321 wm_342) rfl hd_X1_cellOf ⟨rfl, rfl⟩ 1 0 rfl rfl rfl rfl rfl dX1_axesOfVerb_101 rfl ⟨rfl, rfl⟩ (fun locs hF => ?_)
      clear hu
      refine va_mmax (x := u7) (y := u8) hx hb (hml.trans hl.1.symm) hown (hts _ wm_337) (hts _ wm_338) (hts _ wm_339) (hts _ wm_340) (Nat.le_of_ble_eq_true rfl) (Nat.le_of_ble_eq_true rfl) (Nat.zero_le _) (Nat.zero_le _) dX1_axesOfVerb_104 ?_
      refine va_mmax (x := (1 : Int32)) (y := (if u7 < u8 then u8 else u7)) hx hb (hml.trans hl.1.symm) hown (hts _ wm_337) (hts _ wm_338) (hts _ wm_339) (hts _ wm_340) (Nat.le_of_ble_eq_true rfl) (Nat.le_of_ble_eq_true rfl) (Nat.zero_le _) (Nat.zero_le _) dX1_axesOfVerb_107 ?_
      refine lv_iadd hx hb dX1_axesOfVerb_110 ?_
      cases h
      exact k_iretR hX hr hF dX1_axesOfVerb_111
    · replace h := k_f c2 h
      have n2 := k_ne c2 (2) (by decide)
      by_cases c3 : x1 = (3 : Int32)
      · replace h := k_t c3 h
        refine k_sw c3 ?_
        refine lv_tableIn (tgt := 112) (off := 111) hx hb dX1_axesOfVerb_1 (by decide) (by decide) rfl (by decide) ?_
        refine lv_aload_n hx hb dX1_axesOfVerb_112 rfl (lv_at hl 0 rfl) ?_
        refine k_get hX hZ.1 0 1 rfl rfl iw_X1 4 rfl (wm_317) (v := .ref (a_n 5)) rfl dX1_axesOfVerb_113 ?_
        refine lv_iload_n hx hb dX1_axesOfVerb_116 rfl (lv_at hl 2 rfl) ?_
        refine k_iald hX hZ.1 5 rfl h dX1_axesOfVerb_117 (fun v9 h => ?_)
        cases h
        exact k_iretR hX hr hF dX1_axesOfVerb_118
      · replace h := k_f c3 h
        have n3 := k_ne c3 (3) (by decide)
        by_cases c4 : x1 = (4 : Int32)
        · replace h := k_t c4 h
          refine k_sw c4 ?_
          refine lv_tableIn (tgt := 119) (off := 118) hx hb dX1_axesOfVerb_1 (by decide) (by decide) rfl (by decide) ?_
          refine lv_aload_n hx hb dX1_axesOfVerb_119 rfl (lv_at hl 0 rfl) ?_
          refine lv_iload_n hx hb dX1_axesOfVerb_120 rfl (lv_at hl 2 rfl) ?_
          refine lv_iload hx hb dX1_axesOfVerb_121 (lv_at hl 4 rfl) ?_
          obtain ⟨u10, hu, h⟩ := k_bd h
          refine k_vRRs (As := [.int x2, .int x4]) (rest := []) (v := some (.int u10)) (st1 := [.int u10]) hX hl.1 hZ hF (c_X1_frameOf (a_n := a_n) s_n x2 x4 hu) (gv_ wm_333 wm_335 wm_336 wm_321 wm_334) rfl hd_X1_frameOf ⟨rfl, rfl⟩ 1 0 rfl rfl rfl rfl rfl dX1_axesOfVerb_123 rfl ⟨rfl, rfl⟩ (fun locs hF => ?_)
          clear hu
          refine lv_iconst (v := 0) hx hb dX1_axesOfVerb_126 (by decide) ?_
          refine lv_aload_n hx hb dX1_axesOfVerb_127 rfl (lv_at hl 0 rfl) ?_
          refine lv_iload_n hx hb dX1_axesOfVerb_128 rfl (lv_at hl 2 rfl) ?_
          refine lv_iload hx hb dX1_axesOfVerb_129 (lv_at hl 4 rfl) ?_
          obtain ⟨u11, hu, h⟩ := k_bd h
          refine k_vRRs (As := [.int x2, .int x4]) (rest := [.int (0 : Int32), .int u10]) (v := some (.int u11)) (st1 := [.int u11, .int (0 : Int32), .int u10]) hX hl.1 hZ hF (c_X1_cellOf (a_n := a_n) s_n x2 x4 hu) (gv_ wm_341 wm_343 wm_344 wm_321 wm_342) rfl hd_X1_cellOf ⟨rfl, rfl⟩ 1 0 rfl rfl rfl rfl rfl dX1_axesOfVerb_131 rfl ⟨rfl, rfl⟩ (fun locs hF => ?_)
          clear hu
          refine lv_iconst (v := 1) hx hb dX1_axesOfVerb_134 (by decide) ?_
          refine lv_isub hx hb dX1_axesOfVerb_135 ?_
          refine va_mmax (x := (0 : Int32)) (y := (u11 - (1 : Int32))) hx hb (hml.trans hl.1.symm) hown (hts _ wm_337) (hts _ wm_338) (hts _ wm_339) (hts _ wm_340) (Nat.le_of_ble_eq_true rfl) (Nat.le_of_ble_eq_true rfl) (Nat.zero_le _) (Nat.zero_le _) dX1_axesOfVerb_136 ?_
          refine lv_iadd hx hb dX1_axesOfVerb_139 ?_
          cases h
          exact k_iretR hX hr hF dX1_axesOfVerb_140
        · replace h := k_f c4 h
          have n4 := k_ne c4 (4) (by decide)
          by_cases c5 : x1 = (5 : Int32)
          · replace h := k_t c5 h
            refine k_sw c5 ?_
            refine lv_tableIn (tgt := 141) (off := 140) hx hb dX1_axesOfVerb_1 (by decide) (by decide) rfl (by decide) ?_
            refine lv_aload_n hx hb dX1_axesOfVerb_141 rfl (lv_at hl 0 rfl) ?_
            refine lv_iload_n hx hb dX1_axesOfVerb_142 rfl (lv_at hl 2 rfl) ?_
            refine lv_iload hx hb dX1_axesOfVerb_143 (lv_at hl 4 rfl) ?_
            obtain ⟨u12, hu, h⟩ := k_bd h
            refine k_vRRs (As := [.int x2, .int x4]) (rest := []) (v := some (.int u12)) (st1 := [.int u12]) hX hl.1 hZ hF (c_X1_frameOf (a_n := a_n) s_n x2 x4 hu) (gv_ wm_333 wm_335 wm_336 wm_321 wm_334) rfl hd_X1_frameOf ⟨rfl, rfl⟩ 1 0 rfl rfl rfl rfl rfl dX1_axesOfVerb_145 rfl ⟨rfl, rfl⟩ (fun locs hF => ?_)
            clear hu
            refine lv_iconst (v := 1) hx hb dX1_axesOfVerb_148 (by decide) ?_
            refine lv_iadd hx hb dX1_axesOfVerb_149 ?_
            cases h
            exact k_iretR hX hr hF dX1_axesOfVerb_150
          · replace h := k_f c5 h
            have n5 := k_ne c5 (5) (by decide)
            refine lv_tableOut (tgt := 151) hx hb dX1_axesOfVerb_1 (by omega) (by decide) ?_
            refine lv_iconst (v := 0) hx hb dX1_axesOfVerb_151 (by decide) ?_
            cases h
            exact k_iretR hX hr hF dX1_axesOfVerb_152
def wlX1_putOne : List Cond := .code yX1_putOne cX1_putOne 4 (some .int) :: WL_
theorem hd_X1_putOne : yX1_putOne.cls = RX1 ∧ yX1_putOne.cls ≠ "java/lang/invoke/MethodHandle" ∧ yX1_putOne.cls ≠ "java/lang/invoke/VarHandle" ∧ (parseMethodDescriptor yX1_putOne.desc).map (fun d => d.parameters.length) = some 3 := by decide +kernel
theorem dX1_putOne_0 : decode cX1_putOne 0 = .ok (.iload_n 2, 1) := by decide +kernel
theorem dX1_putOne_1 : decode cX1_putOne 1 = .ok (.ifCond .lt 21, 3) := by decide +kernel
theorem dX1_putOne_4 : decode cX1_putOne 4 = .ok (.iload_n 2, 1) := by decide +kernel
theorem dX1_putOne_5 : decode cX1_putOne 5 = .ok (.bipush 6, 2) := by decide +kernel
theorem dX1_putOne_7 : decode cX1_putOne 7 = .ok (.if_icmp .ge 15, 3) := by decide +kernel
theorem dX1_putOne_10 : decode cX1_putOne 10 = .ok (.aload_n 0, 1) := by decide +kernel
theorem dX1_putOne_11 : decode cX1_putOne 11 = .ok (.getfield 27, 3) := by decide +kernel
theorem dX1_putOne_14 : decode cX1_putOne 14 = .ok (.iload_n 1, 1) := by decide +kernel
theorem dX1_putOne_15 : decode cX1_putOne 15 = .ok (.bipush 6, 2) := by decide +kernel
theorem dX1_putOne_17 : decode cX1_putOne 17 = .ok (.imul, 1) := by decide +kernel
theorem dX1_putOne_18 : decode cX1_putOne 18 = .ok (.iload_n 2, 1) := by decide +kernel
theorem dX1_putOne_19 : decode cX1_putOne 19 = .ok (.iadd, 1) := by decide +kernel
theorem dX1_putOne_20 : decode cX1_putOne 20 = .ok (.iload_n 3, 1) := by decide +kernel
theorem dX1_putOne_21 : decode cX1_putOne 21 = .ok (.iastore, 1) := by decide +kernel
theorem dX1_putOne_22 : decode cX1_putOne 22 = .ok (.iload_n 2, 1) := by decide +kernel
theorem dX1_putOne_23 : decode cX1_putOne 23 = .ok (.iconst 1, 1) := by decide +kernel
theorem dX1_putOne_24 : decode cX1_putOne 24 = .ok (.iadd, 1) := by decide +kernel
theorem dX1_putOne_25 : decode cX1_putOne 25 = .ok (.ireturn, 1) := by decide +kernel
set_option maxHeartbeats 4000000 in
set_option maxRecDepth 100000 in
theorem c_X1_putOne {l : Launch} {D : va_G} {aC : Nat → ClassId} {a_n : Nat → Nat} (s_n : Ob_T) (x1 : Int32) (x2 : Int32) (x3 : Int32) {out : Int32 × Ob_T} (h : f_X1_putOne s_n x1 x2 x3 = some out) : M_W l yX1_putOne wlX1_putOne 0 0 D aC [.ref (a_n 0), .int x1, .int x2, .int x3] (wd_X1 aC a_n s_n) (some (.int out.1)) (wd_X1 aC a_n out.2) := by
  refine k_entW (cc := cX1_putOne) (ret := (some .int)) (maxL := 4) (own := RX1) (by decide) rfl rfl rfl ?_
  intro p e s m below meth c A ls hX hr hZ hl
  have hl : lv_has ls 4 [(0, .ref (a_n 0)), (1, .int x1), (2, .int x2), (3, .int x3)] := hl
  generalize ([.ref (a_n 0), .int x1, .int x2, .int x3] : List Value).toArray = args at hX ⊢
  obtain ⟨hx, hb, hml, hown, hts, hK, hA, hlk⟩ := id hX
  unfold f_X1_putOne at h
  generalize s.heap = H at hZ ⊢
  generalize ([] : List Loc) = locs at hZ ⊢
  refine lv_iload_n hx hb dX1_putOne_0 rfl (lv_at hl 2 rfl) ?_
  refine lv_if_lt (tgt := 22) hx hb dX1_putOne_1 (by decide) (fun cd => ?_) (fun cd => ?_)
  · replace h := k_t cd h
    clear cd
    refine lv_iload_n hx hb dX1_putOne_22 rfl (lv_at hl 2 rfl) ?_
    refine lv_iconst (v := 1) hx hb dX1_putOne_23 (by decide) ?_
    refine lv_iadd hx hb dX1_putOne_24 ?_
    cases h
    exact k_iretW hX hr hZ dX1_putOne_25
  · replace h := k_f cd h
    clear cd
    refine lv_iload_n hx hb dX1_putOne_4 rfl (lv_at hl 2 rfl) ?_
    refine lv_bipush (v := 6) hx hb dX1_putOne_5 (by decide) ?_
    refine lv_icmp_ge (tgt := 22) hx hb dX1_putOne_7 (by decide) (fun cd => ?_) (fun cd => ?_)
    · replace h := k_t cd h
      clear cd
      refine lv_iload_n hx hb dX1_putOne_22 rfl (lv_at hl 2 rfl) ?_
      refine lv_iconst (v := 1) hx hb dX1_putOne_23 (by decide) ?_
      refine lv_iadd hx hb dX1_putOne_24 ?_
      cases h
      exact k_iretW hX hr hZ dX1_putOne_25
    · replace h := k_f cd h
      clear cd
      refine lv_aload_n hx hb dX1_putOne_10 rfl (lv_at hl 0 rfl) ?_
      refine k_get hX hZ.1 0 1 rfl rfl iw_X1 5 rfl (wm_318) (v := .ref (a_n 6)) rfl dX1_putOne_11 ?_
      refine lv_iload_n hx hb dX1_putOne_14 rfl (lv_at hl 1 rfl) ?_
      refine lv_bipush (v := 6) hx hb dX1_putOne_15 (by decide) ?_
      refine lv_imul hx hb dX1_putOne_17 ?_
      refine lv_iload_n hx hb dX1_putOne_18 rfl (lv_at hl 2 rfl) ?_
      refine lv_iadd hx hb dX1_putOne_19 ?_
      refine lv_iload_n hx hb dX1_putOne_20 rfl (lv_at hl 3 rfl) ?_
      refine k_iast (wf := (fun o => wd_X1 aC a_n o)) (o := s_n) hX hZ 6 5 rfl (fun _ => rfl) h dX1_putOne_21 (fun o1 H locs hZ h => ?_)
      refine lv_iload_n hx hb dX1_putOne_22 rfl (lv_at hl 2 rfl) ?_
      refine lv_iconst (v := 1) hx hb dX1_putOne_23 (by decide) ?_
      refine lv_iadd hx hb dX1_putOne_24 ?_
      cases h
      exact k_iretW hX hr hZ dX1_putOne_25
