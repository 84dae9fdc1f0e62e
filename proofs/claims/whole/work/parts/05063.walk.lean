def wlX1_derive : List Cond := .code yX1_derive cX1_derive 3 none :: WL_
theorem hd_X1_derive : yX1_derive.cls = RX1 ∧ yX1_derive.cls ≠ "java/lang/invoke/MethodHandle" ∧ yX1_derive.cls ≠ "java/lang/invoke/VarHandle" ∧ (parseMethodDescriptor yX1_derive.desc).map (fun d => d.parameters.length) = some 1 := by decide +kernel
theorem dX1_derive_0 : decode cX1_derive 0 = .ok (.aload_n 0, 1) := by decide +kernel
theorem dX1_derive_1 : decode cX1_derive 1 = .ok (.getfield 15, 3) := by decide +kernel
theorem dX1_derive_4 : decode cX1_derive 4 = .ok (.iload_n 1, 1) := by decide +kernel
theorem dX1_derive_5 : decode cX1_derive 5 = .ok (.iaload, 1) := by decide +kernel
theorem dX1_derive_6 : decode cX1_derive 6 = .ok (.istore_n 2, 1) := by decide +kernel
theorem dX1_derive_7 : decode cX1_derive 7 = .ok (.aload_n 0, 1) := by decide +kernel
theorem dX1_derive_8 : decode cX1_derive 8 = .ok (.getfield 9, 3) := by decide +kernel
theorem dX1_derive_11 : decode cX1_derive 11 = .ok (.iload_n 1, 1) := by decide +kernel
theorem dX1_derive_12 : decode cX1_derive 12 = .ok (.iaload, 1) := by decide +kernel
theorem dX1_derive_13 : decode cX1_derive 13 = .ok (.tableswitch 130 1 5 #[35, 49, 72, 83, 111], 35) := by decide +kernel
theorem dX1_derive_48 : decode cX1_derive 48 = .ok (.aload_n 0, 1) := by decide +kernel
theorem dX1_derive_49 : decode cX1_derive 49 = .ok (.iload_n 1, 1) := by decide +kernel
theorem dX1_derive_50 : decode cX1_derive 50 = .ok (.aload_n 0, 1) := by decide +kernel
theorem dX1_derive_51 : decode cX1_derive 51 = .ok (.iload_n 1, 1) := by decide +kernel
theorem dX1_derive_52 : decode cX1_derive 52 = .ok (.invokevirtual 74, 3) := by decide +kernel
theorem dX1_derive_55 : decode cX1_derive 55 = .ok (.iconst 0, 1) := by decide +kernel
theorem dX1_derive_56 : decode cX1_derive 56 = .ok (.invokevirtual 78, 3) := by decide +kernel
theorem dX1_derive_59 : decode cX1_derive 59 = .ok (.goto 84, 3) := by decide +kernel
theorem dX1_derive_62 : decode cX1_derive 62 = .ok (.aload_n 0, 1) := by decide +kernel
theorem dX1_derive_63 : decode cX1_derive 63 = .ok (.iload_n 1, 1) := by decide +kernel
theorem dX1_derive_64 : decode cX1_derive 64 = .ok (.aload_n 0, 1) := by decide +kernel
theorem dX1_derive_65 : decode cX1_derive 65 = .ok (.iload_n 1, 1) := by decide +kernel
theorem dX1_derive_66 : decode cX1_derive 66 = .ok (.aload_n 0, 1) := by decide +kernel
theorem dX1_derive_67 : decode cX1_derive 67 = .ok (.iload_n 1, 1) := by decide +kernel
theorem dX1_derive_68 : decode cX1_derive 68 = .ok (.invokevirtual 74, 3) := by decide +kernel
theorem dX1_derive_71 : decode cX1_derive 71 = .ok (.iload_n 1, 1) := by decide +kernel
theorem dX1_derive_72 : decode cX1_derive 72 = .ok (.invokestatic 82, 3) := by decide +kernel
theorem dX1_derive_75 : decode cX1_derive 75 = .ok (.invokevirtual 70, 3) := by decide +kernel
theorem dX1_derive_78 : decode cX1_derive 78 = .ok (.iconst 1, 1) := by decide +kernel
theorem dX1_derive_79 : decode cX1_derive 79 = .ok (.invokevirtual 78, 3) := by decide +kernel
theorem dX1_derive_82 : decode cX1_derive 82 = .ok (.goto 61, 3) := by decide +kernel
theorem dX1_derive_85 : decode cX1_derive 85 = .ok (.aload_n 0, 1) := by decide +kernel
theorem dX1_derive_86 : decode cX1_derive 86 = .ok (.iload_n 1, 1) := by decide +kernel
theorem dX1_derive_87 : decode cX1_derive 87 = .ok (.iconst 0, 1) := by decide +kernel
theorem dX1_derive_88 : decode cX1_derive 88 = .ok (.iload_n 2, 1) := by decide +kernel
theorem dX1_derive_89 : decode cX1_derive 89 = .ok (.iconst 0, 1) := by decide +kernel
theorem dX1_derive_90 : decode cX1_derive 90 = .ok (.invokevirtual 85, 3) := by decide +kernel
theorem dX1_derive_93 : decode cX1_derive 93 = .ok (.goto 50, 3) := by decide +kernel
theorem dX1_derive_96 : decode cX1_derive 96 = .ok (.aload_n 0, 1) := by decide +kernel
theorem dX1_derive_97 : decode cX1_derive 97 = .ok (.iload_n 1, 1) := by decide +kernel
theorem dX1_derive_98 : decode cX1_derive 98 = .ok (.aload_n 0, 1) := by decide +kernel
theorem dX1_derive_99 : decode cX1_derive 99 = .ok (.iload_n 1, 1) := by decide +kernel
theorem dX1_derive_100 : decode cX1_derive 100 = .ok (.iload_n 2, 1) := by decide +kernel
theorem dX1_derive_101 : decode cX1_derive 101 = .ok (.invokevirtual 89, 3) := by decide +kernel
theorem dX1_derive_104 : decode cX1_derive 104 = .ok (.iload_n 2, 1) := by decide +kernel
theorem dX1_derive_105 : decode cX1_derive 105 = .ok (.aload_n 0, 1) := by decide +kernel
theorem dX1_derive_106 : decode cX1_derive 106 = .ok (.iload_n 2, 1) := by decide +kernel
theorem dX1_derive_107 : decode cX1_derive 107 = .ok (.aload_n 0, 1) := by decide +kernel
theorem dX1_derive_108 : decode cX1_derive 108 = .ok (.getfield 21, 3) := by decide +kernel
theorem dX1_derive_111 : decode cX1_derive 111 = .ok (.iload_n 1, 1) := by decide +kernel
theorem dX1_derive_112 : decode cX1_derive 112 = .ok (.iaload, 1) := by decide +kernel
theorem dX1_derive_113 : decode cX1_derive 113 = .ok (.invokevirtual 51, 3) := by decide +kernel
theorem dX1_derive_116 : decode cX1_derive 116 = .ok (.iconst 1, 1) := by decide +kernel
theorem dX1_derive_117 : decode cX1_derive 117 = .ok (.iadd, 1) := by decide +kernel
theorem dX1_derive_118 : decode cX1_derive 118 = .ok (.invokevirtual 85, 3) := by decide +kernel
theorem dX1_derive_121 : decode cX1_derive 121 = .ok (.goto 22, 3) := by decide +kernel
theorem dX1_derive_124 : decode cX1_derive 124 = .ok (.aload_n 0, 1) := by decide +kernel
theorem dX1_derive_125 : decode cX1_derive 125 = .ok (.iload_n 1, 1) := by decide +kernel
theorem dX1_derive_126 : decode cX1_derive 126 = .ok (.aload_n 0, 1) := by decide +kernel
theorem dX1_derive_127 : decode cX1_derive 127 = .ok (.iload_n 1, 1) := by decide +kernel
theorem dX1_derive_128 : decode cX1_derive 128 = .ok (.iload_n 2, 1) := by decide +kernel
theorem dX1_derive_129 : decode cX1_derive 129 = .ok (.invokevirtual 89, 3) := by decide +kernel
theorem dX1_derive_132 : decode cX1_derive 132 = .ok (.iload_n 1, 1) := by decide +kernel
theorem dX1_derive_133 : decode cX1_derive 133 = .ok (.invokestatic 82, 3) := by decide +kernel
theorem dX1_derive_136 : decode cX1_derive 136 = .ok (.invokevirtual 70, 3) := by decide +kernel
theorem dX1_derive_139 : decode cX1_derive 139 = .ok (.pop, 1) := by decide +kernel
theorem dX1_derive_140 : decode cX1_derive 140 = .ok (.goto 3, 3) := by decide +kernel
theorem dX1_derive_143 : decode cX1_derive 143 = .ok (.return_, 1) := by decide +kernel
set_option maxHeartbeats 4000000 in
set_option maxRecDepth 100000 in
theorem c_X1_derive {l : Launch} {D : va_G} {aC : Nat → ClassId} {a_n : Nat → Nat} (s_n : Ob_T) (x1 : Int32) {out : Ob_T} (h : f_X1_derive s_n x1 = some out) : M_W l yX1_derive wlX1_derive 3 74 D aC [.ref (a_n 0), .int x1] (wd_X1 aC a_n s_n) (none) (wd_X1 aC a_n out) := by
  refine k_entW (cc := cX1_derive) (ret := none) (maxL := 3) (own := RX1) (by decide) rfl rfl rfl ?_
  intro p e s m below meth c A ls hX hr hZ hl
  have hl : lv_has ls 3 [(0, .ref (a_n 0)), (1, .int x1)] := hl
  generalize ([.ref (a_n 0), .int x1] : List Value).toArray = args at hX ⊢
  obtain ⟨hx, hb, hml, hown, hts, hK, hA, hlk⟩ := id hX
  unfold f_X1_derive at h
  generalize s.heap = H at hZ ⊢
  generalize ([] : List Loc) = locs at hZ ⊢
  refine lv_aload_n hx hb dX1_derive_0 rfl (lv_at hl 0 rfl) ?_
  refine k_get hX hZ.1 0 1 rfl rfl iw_X1 1 rfl (wm_314) (v := .ref (a_n 2)) rfl dX1_derive_1 ?_
  refine lv_iload_n hx hb dX1_derive_4 rfl (lv_at hl 1 rfl) ?_
  refine k_iald hX hZ.1 2 rfl h dX1_derive_5 (fun v1 h => ?_)
  refine lv_istore_n (lv' := [(2, .int v1), (0, .ref (a_n 0)), (1, .int x1)]) hx hb dX1_derive_6 rfl hl (by decide) rfl (fun ls hl => ?_)
  refine lv_aload_n hx hb dX1_derive_7 rfl (lv_at hl 1 rfl) ?_
  refine k_get hX hZ.1 0 1 rfl rfl iw_X1 0 rfl (wm_313) (v := .ref (a_n 1)) rfl dX1_derive_8 ?_
  refine lv_iload_n hx hb dX1_derive_11 rfl (lv_at hl 2 rfl) ?_
  refine k_iald hX hZ.1 1 rfl h dX1_derive_12 (fun v2 h => ?_)
  by_cases c1 : v2 = (1 : Int32)
  · replace h := k_t c1 h
    refine k_sw c1 ?_
    refine lv_tableIn (tgt := 48) (off := 35) hx hb dX1_derive_13 (by decide) (by decide) rfl (by decide) ?_
    refine lv_aload_n hx hb dX1_derive_48 rfl (lv_at hl 1 rfl) ?_
    refine lv_iload_n hx hb dX1_derive_49 rfl (lv_at hl 2 rfl) ?_
    refine lv_aload_n hx hb dX1_derive_50 rfl (lv_at hl 1 rfl) ?_
    refine lv_iload_n hx hb dX1_derive_51 rfl (lv_at hl 2 rfl) ?_
    obtain ⟨u3, hu, h⟩ := k_bd h
    refine k_vWs (As := [.int x1]) (rest := [.int x1, .ref (a_n 0)]) (v := some (.int u3.1)) (st1 := [.int u3.1, .int x1, .ref (a_n 0)]) hX hl.1 hZ (c_X1_putLongerFrame (a_n := a_n) s_n x1 hu) (gv_ wm_361 wm_363 wm_364 wm_321 wm_362) rfl hd_X1_putLongerFrame ⟨rfl, rfl⟩ 1 0 rfl rfl rfl rfl rfl dX1_derive_52 rfl ⟨rfl, rfl⟩ rfl (fun H locs hZ => ?_)
    clear hu
    refine lv_iconst (v := 0) hx hb dX1_derive_55 (by decide) ?_
    obtain ⟨u4, hu, h⟩ := k_bd h
    refine k_vWs (As := [.int x1, .int u3.1, .int (0 : Int32)]) (rest := []) (v := none) (st1 := []) hX hl.1 hZ (c_X1_putLongerCell (a_n := a_n) u3.2 x1 u3.1 (0 : Int32) hu) (gv_ wm_357 wm_359 wm_360 wm_321 wm_358) rfl hd_X1_putLongerCell ⟨rfl, rfl⟩ 1 0 rfl rfl rfl rfl rfl dX1_derive_56 rfl ⟨rfl, rfl⟩ rfl (fun H locs hZ => ?_)
    clear hu
    refine lv_goto (tgt := 143) hx hb dX1_derive_59 (by decide) ?_
    cases h
    exact k_vretW hX hr hZ dX1_derive_143
  · replace h := k_f c1 h
    have n1 := k_ne c1 (1) (by decide)
    by_cases c2 : v2 = (2 : Int32)
    · replace h := k_t c2 h
      refine k_sw c2 ?_
      refine lv_tableIn (tgt := 62) (off := 49) hx hb dX1_derive_13 (by decide) (by decide) rfl (by decide) ?_
      refine lv_aload_n hx hb dX1_derive_62 rfl (lv_at hl 1 rfl) ?_
      refine lv_iload_n hx hb dX1_derive_63 rfl (lv_at hl 2 rfl) ?_
      refine lv_aload_n hx hb dX1_derive_64 rfl (lv_at hl 1 rfl) ?_
      refine lv_iload_n hx hb dX1_derive_65 rfl (lv_at hl 2 rfl) ?_
      refine lv_aload_n hx hb dX1_derive_66 rfl (lv_at hl 1 rfl) ?_
      refine lv_iload_n hx hb dX1_derive_67 rfl (lv_at hl 2 rfl) ?_
      obtain ⟨u5, hu, h⟩ := k_bd h
      refine k_vWs (As := [.int x1]) (rest := [.int x1, .ref (a_n 0), .int x1, .ref (a_n 0)]) (v := some (.int u5.1)) (st1 := [.int u5.1, .int x1, .ref (a_n 0), .int x1, .ref (a_n 0)]) hX hl.1 hZ (c_X1_putLongerFrame (a_n := a_n) s_n x1 hu) (gv_ wm_361 wm_363 wm_364 wm_321 wm_362) rfl hd_X1_putLongerFrame ⟨rfl, rfl⟩ 1 0 rfl rfl rfl rfl rfl dX1_derive_68 rfl ⟨rfl, rfl⟩ rfl (fun H locs hZ => ?_)
      clear hu
      refine lv_iload_n hx hb dX1_derive_71 rfl (lv_at hl 2 rfl) ?_
      obtain ⟨u6, hu, h⟩ := k_bd h
      refine k_sR (As := [.int x1]) (rest := [.int u5.1, .int x1, .ref (a_n 0), .int x1, .ref (a_n 0)]) (wc := []) (v := some (.int u6)) (st1 := [.int u6, .int u5.1, .int x1, .ref (a_n 0), .int x1, .ref (a_n 0)]) hX hl.1 hZ (c_X1_ownLetter  x1 hu) (gs_ wm_365 wm_367 wm_321 wm_366) rfl hd_X1_ownLetter ⟨rfl, rfl⟩ [] rfl rfl rfl rfl rfl dX1_derive_72 rfl ⟨rfl, rfl⟩ (fun locs hZ => ?_)
      clear hu
      obtain ⟨u7, hu, h⟩ := k_bd h
      refine k_vWs (As := [.int x1, .int u5.1, .int u6]) (rest := [.int x1, .ref (a_n 0)]) (v := some (.int u7.1)) (st1 := [.int u7.1, .int x1, .ref (a_n 0)]) hX hl.1 hZ (c_X1_putOne (a_n := a_n) u5.2 x1 u5.1 u6 hu) (gv_ wm_345 wm_347 wm_348 wm_321 wm_346) rfl hd_X1_putOne ⟨rfl, rfl⟩ 1 0 rfl rfl rfl rfl rfl dX1_derive_75 rfl ⟨rfl, rfl⟩ rfl (fun H locs hZ => ?_)
      clear hu
      refine lv_iconst (v := 1) hx hb dX1_derive_78 (by decide) ?_
      obtain ⟨u8, hu, h⟩ := k_bd h
      refine k_vWs (As := [.int x1, .int u7.1, .int (1 : Int32)]) (rest := []) (v := none) (st1 := []) hX hl.1 hZ (c_X1_putLongerCell (a_n := a_n) u7.2 x1 u7.1 (1 : Int32) hu) (gv_ wm_357 wm_359 wm_360 wm_321 wm_358) rfl hd_X1_putLongerCell ⟨rfl, rfl⟩ 1 0 rfl rfl rfl rfl rfl dX1_derive_79 rfl ⟨rfl, rfl⟩ rfl (fun H locs hZ => ?_)
      clear hu
      refine lv_goto (tgt := 143) hx hb dX1_derive_82 (by decide) ?_
      cases h
      exact k_vretW hX hr hZ dX1_derive_143
    · replace h := k_f c2 h
      have n2 := k_ne c2 (2) (by decide)
      by_cases c3 : v2 = (3 : Int32)
      · replace h := k_t c3 h
        refine k_sw c3 ?_
        refine lv_tableIn (tgt := 85) (off := 72) hx hb dX1_derive_13 (by decide) (by decide) rfl (by decide) ?_
        refine lv_aload_n hx hb dX1_derive_85 rfl (lv_at hl 1 rfl) ?_
        refine lv_iload_n hx hb dX1_derive_86 rfl (lv_at hl 2 rfl) ?_
        refine lv_iconst (v := 0) hx hb dX1_derive_87 (by decide) ?_
        refine lv_iload_n hx hb dX1_derive_88 rfl (lv_at hl 0 rfl) ?_
        refine lv_iconst (v := 0) hx hb dX1_derive_89 (by decide) ?_
        obtain ⟨u9, hu, h⟩ := k_bd h
        refine k_vWs (As := [.int x1, .int (0 : Int32), .int v1, .int (0 : Int32)]) (rest := []) (v := none) (st1 := []) hX hl.1 hZ (c_X1_putPart (a_n := a_n) s_n x1 (0 : Int32) v1 (0 : Int32) hu) (gv_ wm_353 wm_355 wm_356 wm_321 wm_354) rfl hd_X1_putPart ⟨rfl, rfl⟩ 1 0 rfl rfl rfl rfl rfl dX1_derive_90 rfl ⟨rfl, rfl⟩ rfl (fun H locs hZ => ?_)
        clear hu
        refine lv_goto (tgt := 143) hx hb dX1_derive_93 (by decide) ?_
        cases h
        exact k_vretW hX hr hZ dX1_derive_143
      · replace h := k_f c3 h
        have n3 := k_ne c3 (3) (by decide)
        by_cases c4 : v2 = (4 : Int32)
        · replace h := k_t c4 h
          refine k_sw c4 ?_
          refine lv_tableIn (tgt := 96) (off := 83) hx hb dX1_derive_13 (by decide) (by decide) rfl (by decide) ?_
          refine lv_aload_n hx hb dX1_derive_96 rfl (lv_at hl 1 rfl) ?_
          refine lv_iload_n hx hb dX1_derive_97 rfl (lv_at hl 2 rfl) ?_
          refine lv_aload_n hx hb dX1_derive_98 rfl (lv_at hl 1 rfl) ?_
          refine lv_iload_n hx hb dX1_derive_99 rfl (lv_at hl 2 rfl) ?_
          refine lv_iload_n hx hb dX1_derive_100 rfl (lv_at hl 0 rfl) ?_
          obtain ⟨u10, hu, h⟩ := k_bd h
          refine k_vWs (As := [.int x1, .int v1]) (rest := [.int x1, .ref (a_n 0)]) (v := some (.int u10.1)) (st1 := [.int u10.1, .int x1, .ref (a_n 0)]) hX hl.1 hZ (c_X1_putFrame (a_n := a_n) s_n x1 v1 hu) (gv_ wm_349 wm_351 wm_352 wm_321 wm_350) rfl hd_X1_putFrame ⟨rfl, rfl⟩ 1 0 rfl rfl rfl rfl rfl dX1_derive_101 rfl ⟨rfl, rfl⟩ rfl (fun H locs hZ => ?_)
          clear hu
          refine lv_iload_n hx hb dX1_derive_104 rfl (lv_at hl 0 rfl) ?_
          refine lv_aload_n hx hb dX1_derive_105 rfl (lv_at hl 1 rfl) ?_
          refine lv_iload_n hx hb dX1_derive_106 rfl (lv_at hl 0 rfl) ?_
          refine lv_aload_n hx hb dX1_derive_107 rfl (lv_at hl 1 rfl) ?_
          refine k_get hX hZ.1 0 1 rfl rfl iw_X1 3 rfl (wm_316) (v := .ref (a_n 4)) rfl dX1_derive_108 ?_
          refine lv_iload_n hx hb dX1_derive_111 rfl (lv_at hl 2 rfl) ?_
          refine k_iald hX hZ.1 4 rfl h dX1_derive_112 (fun v11 h => ?_)
          obtain ⟨u12, hu, h⟩ := k_bd h
          refine k_vRs (As := [.int v1, .int v11]) (rest := [.int v1, .int u10.1, .int x1, .ref (a_n 0)]) (v := some (.int u12)) (st1 := [.int u12, .int v1, .int u10.1, .int x1, .ref (a_n 0)]) hX hl.1 hZ (c_X1_frameOf (a_n := a_n) u10.2 v1 v11 hu) (gv_ wm_333 wm_335 wm_336 wm_321 wm_334) rfl hd_X1_frameOf ⟨rfl, rfl⟩ 1 0 rfl rfl rfl rfl rfl dX1_derive_113 rfl ⟨rfl, rfl⟩ (fun locs hZ => ?_)
          clear hu
          refine lv_iconst (v := 1) hx hb dX1_derive_116 (by decide) ?_
          refine lv_iadd hx hb dX1_derive_117 ?_
          obtain ⟨u13, hu, h⟩ := k_bd h
          refine k_vWs (As := [.int x1, .int u10.1, .int v1, .int (u12 + (1 : Int32))]) (rest := []) (v := none) (st1 := []) hX hl.1 hZ (c_X1_putPart (a_n := a_n) u10.2 x1 u10.1 v1 (u12 + (1 : Int32)) hu) (gv_ wm_353 wm_355 wm_356 wm_321 wm_354) rfl hd_X1_putPart ⟨rfl, rfl⟩ 1 0 rfl rfl rfl rfl rfl dX1_derive_118 rfl ⟨rfl, rfl⟩ rfl (fun H locs hZ => ?_)
          clear hu
          refine lv_goto (tgt := 143) hx hb dX1_derive_121 (by decide) ?_
          cases h
          exact k_vretW hX hr hZ dX1_derive_143
        · replace h := k_f c4 h
          have n4 := k_ne c4 (4) (by decide)
          by_cases c5 : v2 = (5 : Int32)
          · replace h := k_t c5 h
            refine k_sw c5 ?_
            refine lv_tableIn (tgt := 124) (off := 111) hx hb dX1_derive_13 (by decide) (by decide) rfl (by decide) ?_
            refine lv_aload_n hx hb dX1_derive_124 rfl (lv_at hl 1 rfl) ?_
            refine lv_iload_n hx hb dX1_derive_125 rfl (lv_at hl 2 rfl) ?_
            refine lv_aload_n hx hb dX1_derive_126 rfl (lv_at hl 1 rfl) ?_
            refine lv_iload_n hx hb dX1_derive_127 rfl (lv_at hl 2 rfl) ?_
            refine lv_iload_n hx hb dX1_derive_128 rfl (lv_at hl 0 rfl) ?_
            obtain ⟨u14, hu, h⟩ := k_bd h
            refine k_vWs (As := [.int x1, .int v1]) (rest := [.int x1, .ref (a_n 0)]) (v := some (.int u14.1)) (st1 := [.int u14.1, .int x1, .ref (a_n 0)]) hX hl.1 hZ (c_X1_putFrame (a_n := a_n) s_n x1 v1 hu) (gv_ wm_349 wm_351 wm_352 wm_321 wm_350) rfl hd_X1_putFrame ⟨rfl, rfl⟩ 1 0 rfl rfl rfl rfl rfl dX1_derive_129 rfl ⟨rfl, rfl⟩ rfl (fun H locs hZ => ?_)
            clear hu
            refine lv_iload_n hx hb dX1_derive_132 rfl (lv_at hl 2 rfl) ?_
            obtain ⟨u15, hu, h⟩ := k_bd h
            refine k_sR (As := [.int x1]) (rest := [.int u14.1, .int x1, .ref (a_n 0)]) (wc := []) (v := some (.int u15)) (st1 := [.int u15, .int u14.1, .int x1, .ref (a_n 0)]) hX hl.1 hZ (c_X1_ownLetter  x1 hu) (gs_ wm_365 wm_367 wm_321 wm_366) rfl hd_X1_ownLetter ⟨rfl, rfl⟩ [] rfl rfl rfl rfl rfl dX1_derive_133 rfl ⟨rfl, rfl⟩ (fun locs hZ => ?_)
            clear hu
            obtain ⟨u16, hu, h⟩ := k_bd h
            refine k_vWs (As := [.int x1, .int u14.1, .int u15]) (rest := []) (v := some (.int u16.1)) (st1 := [.int u16.1]) hX hl.1 hZ (c_X1_putOne (a_n := a_n) u14.2 x1 u14.1 u15 hu) (gv_ wm_345 wm_347 wm_348 wm_321 wm_346) rfl hd_X1_putOne ⟨rfl, rfl⟩ 1 0 rfl rfl rfl rfl rfl dX1_derive_136 rfl ⟨rfl, rfl⟩ rfl (fun H locs hZ => ?_)
            clear hu
            refine lv_pop hx hb dX1_derive_139 rfl ?_
            refine lv_goto (tgt := 143) hx hb dX1_derive_140 (by decide) ?_
            cases h
            exact k_vretW hX hr hZ dX1_derive_143
          · replace h := k_f c5 h
            have n5 := k_ne c5 (5) (by decide)
            refine lv_tableOut (tgt := 143) hx hb dX1_derive_13 (by omega) (by decide) ?_
            cases h
            exact k_vretW hX hr hZ dX1_derive_143
