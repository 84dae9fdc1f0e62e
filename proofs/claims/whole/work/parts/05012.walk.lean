def wlX9_layOne : List Cond := .code yX9_layOne cX9_layOne 6 none :: WL_
theorem hd_X9_layOne : yX9_layOne.cls = RX9 ∧ yX9_layOne.cls ≠ "java/lang/invoke/MethodHandle" ∧ yX9_layOne.cls ≠ "java/lang/invoke/VarHandle" ∧ (parseMethodDescriptor yX9_layOne.desc).map (fun d => d.parameters.length) = some 2 := by decide +kernel
theorem dX9_layOne_0 : decode cX9_layOne 0 = .ok (.bipush 15, 2) := by decide +kernel
theorem dX9_layOne_2 : decode cX9_layOne 2 = .ok (.iload_n 1, 1) := by decide +kernel
theorem dX9_layOne_3 : decode cX9_layOne 3 = .ok (.imul, 1) := by decide +kernel
theorem dX9_layOne_4 : decode cX9_layOne 4 = .ok (.istore_n 3, 1) := by decide +kernel
theorem dX9_layOne_5 : decode cX9_layOne 5 = .ok (.aload_n 0, 1) := by decide +kernel
theorem dX9_layOne_6 : decode cX9_layOne 6 = .ok (.getfield 13, 3) := by decide +kernel
theorem dX9_layOne_9 : decode cX9_layOne 9 = .ok (.iload_n 3, 1) := by decide +kernel
theorem dX9_layOne_10 : decode cX9_layOne 10 = .ok (.iconst 1, 1) := by decide +kernel
theorem dX9_layOne_11 : decode cX9_layOne 11 = .ok (.iadd, 1) := by decide +kernel
theorem dX9_layOne_12 : decode cX9_layOne 12 = .ok (.iaload, 1) := by decide +kernel
theorem dX9_layOne_13 : decode cX9_layOne 13 = .ok (.istore 4, 2) := by decide +kernel
theorem dX9_layOne_15 : decode cX9_layOne 15 = .ok (.aload_n 0, 1) := by decide +kernel
theorem dX9_layOne_16 : decode cX9_layOne 16 = .ok (.iload 4, 2) := by decide +kernel
theorem dX9_layOne_18 : decode cX9_layOne 18 = .ok (.invokevirtual 199, 3) := by decide +kernel
theorem dX9_layOne_21 : decode cX9_layOne 21 = .ok (.aload_n 0, 1) := by decide +kernel
theorem dX9_layOne_22 : decode cX9_layOne 22 = .ok (.getfield 13, 3) := by decide +kernel
theorem dX9_layOne_25 : decode cX9_layOne 25 = .ok (.iload_n 3, 1) := by decide +kernel
theorem dX9_layOne_26 : decode cX9_layOne 26 = .ok (.iconst 3, 1) := by decide +kernel
theorem dX9_layOne_27 : decode cX9_layOne 27 = .ok (.iadd, 1) := by decide +kernel
theorem dX9_layOne_28 : decode cX9_layOne 28 = .ok (.iaload, 1) := by decide +kernel
theorem dX9_layOne_29 : decode cX9_layOne 29 = .ok (.invokestatic 203, 3) := by decide +kernel
theorem dX9_layOne_32 : decode cX9_layOne 32 = .ok (.istore 5, 2) := by decide +kernel
theorem dX9_layOne_34 : decode cX9_layOne 34 = .ok (.iload_n 2, 1) := by decide +kernel
theorem dX9_layOne_35 : decode cX9_layOne 35 = .ok (.iconst 3, 1) := by decide +kernel
theorem dX9_layOne_36 : decode cX9_layOne 36 = .ok (.if_icmp .ne 20, 3) := by decide +kernel
theorem dX9_layOne_39 : decode cX9_layOne 39 = .ok (.aload_n 0, 1) := by decide +kernel
theorem dX9_layOne_40 : decode cX9_layOne 40 = .ok (.iload_n 1, 1) := by decide +kernel
theorem dX9_layOne_41 : decode cX9_layOne 41 = .ok (.iload 4, 2) := by decide +kernel
theorem dX9_layOne_43 : decode cX9_layOne 43 = .ok (.iconst 0, 1) := by decide +kernel
theorem dX9_layOne_44 : decode cX9_layOne 44 = .ok (.aload_n 0, 1) := by decide +kernel
theorem dX9_layOne_45 : decode cX9_layOne 45 = .ok (.iload 4, 2) := by decide +kernel
theorem dX9_layOne_47 : decode cX9_layOne 47 = .ok (.invokevirtual 199, 3) := by decide +kernel
theorem dX9_layOne_50 : decode cX9_layOne 50 = .ok (.invokevirtual 206, 3) := by decide +kernel
theorem dX9_layOne_53 : decode cX9_layOne 53 = .ok (.goto 48, 3) := by decide +kernel
theorem dX9_layOne_56 : decode cX9_layOne 56 = .ok (.aload_n 0, 1) := by decide +kernel
theorem dX9_layOne_57 : decode cX9_layOne 57 = .ok (.iload_n 1, 1) := by decide +kernel
theorem dX9_layOne_58 : decode cX9_layOne 58 = .ok (.iload 4, 2) := by decide +kernel
theorem dX9_layOne_60 : decode cX9_layOne 60 = .ok (.iconst 0, 1) := by decide +kernel
theorem dX9_layOne_61 : decode cX9_layOne 61 = .ok (.iload 5, 2) := by decide +kernel
theorem dX9_layOne_63 : decode cX9_layOne 63 = .ok (.invokevirtual 206, 3) := by decide +kernel
theorem dX9_layOne_66 : decode cX9_layOne 66 = .ok (.iload_n 2, 1) := by decide +kernel
theorem dX9_layOne_67 : decode cX9_layOne 67 = .ok (.iconst 5, 1) := by decide +kernel
theorem dX9_layOne_68 : decode cX9_layOne 68 = .ok (.if_icmp .ne 16, 3) := by decide +kernel
theorem dX9_layOne_71 : decode cX9_layOne 71 = .ok (.aload_n 0, 1) := by decide +kernel
theorem dX9_layOne_72 : decode cX9_layOne 72 = .ok (.iload_n 1, 1) := by decide +kernel
theorem dX9_layOne_73 : decode cX9_layOne 73 = .ok (.sipush 20004, 3) := by decide +kernel
theorem dX9_layOne_76 : decode cX9_layOne 76 = .ok (.iload_n 1, 1) := by decide +kernel
theorem dX9_layOne_77 : decode cX9_layOne 77 = .ok (.iadd, 1) := by decide +kernel
theorem dX9_layOne_78 : decode cX9_layOne 78 = .ok (.invokevirtual 195, 3) := by decide +kernel
theorem dX9_layOne_81 : decode cX9_layOne 81 = .ok (.goto 20, 3) := by decide +kernel
theorem dX9_layOne_84 : decode cX9_layOne 84 = .ok (.aload_n 0, 1) := by decide +kernel
theorem dX9_layOne_85 : decode cX9_layOne 85 = .ok (.iload_n 1, 1) := by decide +kernel
theorem dX9_layOne_86 : decode cX9_layOne 86 = .ok (.iload 4, 2) := by decide +kernel
theorem dX9_layOne_88 : decode cX9_layOne 88 = .ok (.iload 5, 2) := by decide +kernel
theorem dX9_layOne_90 : decode cX9_layOne 90 = .ok (.iconst 1, 1) := by decide +kernel
theorem dX9_layOne_91 : decode cX9_layOne 91 = .ok (.iadd, 1) := by decide +kernel
theorem dX9_layOne_92 : decode cX9_layOne 92 = .ok (.aload_n 0, 1) := by decide +kernel
theorem dX9_layOne_93 : decode cX9_layOne 93 = .ok (.iload 4, 2) := by decide +kernel
theorem dX9_layOne_95 : decode cX9_layOne 95 = .ok (.invokevirtual 199, 3) := by decide +kernel
theorem dX9_layOne_98 : decode cX9_layOne 98 = .ok (.invokevirtual 206, 3) := by decide +kernel
theorem dX9_layOne_101 : decode cX9_layOne 101 = .ok (.return_, 1) := by decide +kernel
set_option maxHeartbeats 4000000 in
set_option maxRecDepth 100000 in
theorem c_X9_layOne {l : Launch} {D : va_G} {aC : Nat → ClassId} {a_o : Nat → Nat} (s_o : Ob_T) (x1 : Int32) (x2 : Int32) {out : Ob_T} (h : f_X9_layOne s_o x1 x2 = some out) : M_W l yX9_layOne wlX9_layOne 2 47 D aC [.ref (a_o 0), .int x1, .int x2] (wd_X9 aC a_o s_o) (none) (wd_X9 aC a_o out) := by
  refine k_entW (cc := cX9_layOne) (ret := none) (maxL := 6) (own := RX9) (by decide) rfl rfl rfl ?_
  intro p e s m below meth c A ls hX hr hZ hl
  have hl : lv_has ls 6 [(0, .ref (a_o 0)), (1, .int x1), (2, .int x2)] := hl
  generalize ([.ref (a_o 0), .int x1, .int x2] : List Value).toArray = args at hX ⊢
  obtain ⟨hx, hb, hml, hown, hts, hK, hA, hlk⟩ := id hX
  unfold f_X9_layOne at h
  generalize s.heap = H at hZ ⊢
  generalize ([] : List Loc) = locs at hZ ⊢
  refine lv_bipush (v := 15) hx hb dX9_layOne_0 (by decide) ?_
  refine lv_iload_n hx hb dX9_layOne_2 rfl (lv_at hl 1 rfl) ?_
  refine lv_imul hx hb dX9_layOne_3 ?_
  refine lv_istore_n (lv' := [(3, .int ((15 : Int32) * x1)), (0, .ref (a_o 0)), (1, .int x1), (2, .int x2)]) hx hb dX9_layOne_4 rfl hl (by decide) rfl (fun ls hl => ?_)
  refine lv_aload_n hx hb dX9_layOne_5 rfl (lv_at hl 1 rfl) ?_
  refine k_get hX hZ.1 0 9 rfl rfl iw_X9 1 rfl (wm_31) (v := .ref (a_o 2)) rfl dX9_layOne_6 ?_
  refine lv_iload_n hx hb dX9_layOne_9 rfl (lv_at hl 0 rfl) ?_
  refine lv_iconst (v := 1) hx hb dX9_layOne_10 (by decide) ?_
  refine lv_iadd hx hb dX9_layOne_11 ?_
  refine k_iald hX hZ.1 2 rfl h dX9_layOne_12 (fun v1 h => ?_)
  refine lv_istore (lv' := [(4, .int v1), (3, .int ((15 : Int32) * x1)), (0, .ref (a_o 0)), (1, .int x1), (2, .int x2)]) hx hb dX9_layOne_13 hl (by decide) rfl (fun ls hl => ?_)
  refine lv_aload_n hx hb dX9_layOne_15 rfl (lv_at hl 2 rfl) ?_
  refine lv_iload hx hb dX9_layOne_16 (lv_at hl 0 rfl) ?_
  obtain ⟨u2, hu, h⟩ := k_bd h
  refine k_vRs (As := [.int v1]) (rest := []) (v := some (.int u2)) (st1 := [.int u2]) hX hl.1 hZ (c_X9_longOf (a_o := a_o) s_o v1 hu) (gv_ wm_79 wm_81 wm_82 wm_11 wm_80) rfl hd_X9_longOf ⟨rfl, rfl⟩ 9 0 rfl rfl rfl rfl rfl dX9_layOne_18 rfl ⟨rfl, rfl⟩ (fun locs hZ => ?_)
  clear hu
  refine lv_aload_n hx hb dX9_layOne_21 rfl (lv_at hl 2 rfl) ?_
  refine k_get hX hZ.1 0 9 rfl rfl iw_X9 1 rfl (wm_31) (v := .ref (a_o 2)) rfl dX9_layOne_22 ?_
  refine lv_iload_n hx hb dX9_layOne_25 rfl (lv_at hl 1 rfl) ?_
  refine lv_iconst (v := 3) hx hb dX9_layOne_26 (by decide) ?_
  refine lv_iadd hx hb dX9_layOne_27 ?_
  refine k_iald hX hZ.1 2 rfl h dX9_layOne_28 (fun v3 h => ?_)
  obtain ⟨u4, hu, h⟩ := k_bd h
  refine k_sR (As := [.int u2, .int v3]) (rest := []) (wc := []) (v := some (.int u4)) (st1 := [.int u4]) hX hl.1 hZ (c_X9_frameOf  u2 v3 hu) (gs_ wm_83 wm_85 wm_11 wm_84) rfl hd_X9_frameOf ⟨rfl, rfl⟩ [] rfl rfl rfl rfl rfl dX9_layOne_29 rfl ⟨rfl, rfl⟩ (fun locs hZ => ?_)
  clear hu
  refine lv_istore (lv' := [(5, .int u4), (4, .int v1), (3, .int ((15 : Int32) * x1)), (0, .ref (a_o 0)), (1, .int x1), (2, .int x2)]) hx hb dX9_layOne_32 hl (by decide) rfl (fun ls hl => ?_)
  refine lv_iload_n hx hb dX9_layOne_34 rfl (lv_at hl 5 rfl) ?_
  refine lv_iconst (v := 3) hx hb dX9_layOne_35 (by decide) ?_
  refine lv_icmp_ne (tgt := 56) hx hb dX9_layOne_36 (by decide) (fun cd => ?_) (fun cd => ?_)
  · replace h := k_f cd h
    clear cd
    refine lv_aload_n hx hb dX9_layOne_56 rfl (lv_at hl 3 rfl) ?_
    refine lv_iload_n hx hb dX9_layOne_57 rfl (lv_at hl 4 rfl) ?_
    refine lv_iload hx hb dX9_layOne_58 (lv_at hl 1 rfl) ?_
    refine lv_iconst (v := 0) hx hb dX9_layOne_60 (by decide) ?_
    refine lv_iload hx hb dX9_layOne_61 (lv_at hl 0 rfl) ?_
    obtain ⟨u5, hu, h⟩ := k_bd h
    refine k_vWs (As := [.int x1, .int v1, .int (0 : Int32), .int u4]) (rest := []) (v := none) (st1 := []) hX hl.1 hZ (c_X9_layExtents (a_o := a_o) s_o x1 v1 (0 : Int32) u4 hu) (gv_ wm_75 wm_77 wm_78 wm_11 wm_76) rfl hd_X9_layExtents ⟨rfl, rfl⟩ 9 0 rfl rfl rfl rfl rfl dX9_layOne_63 rfl ⟨rfl, rfl⟩ rfl (fun H locs hZ => ?_)
    clear hu
    refine lv_iload_n hx hb dX9_layOne_66 rfl (lv_at hl 5 rfl) ?_
    refine lv_iconst (v := 5) hx hb dX9_layOne_67 (by decide) ?_
    refine lv_icmp_ne (tgt := 84) hx hb dX9_layOne_68 (by decide) (fun cd => ?_) (fun cd => ?_)
    · replace h := k_f cd h
      clear cd
      refine lv_aload_n hx hb dX9_layOne_84 rfl (lv_at hl 3 rfl) ?_
      refine lv_iload_n hx hb dX9_layOne_85 rfl (lv_at hl 4 rfl) ?_
      refine lv_iload hx hb dX9_layOne_86 (lv_at hl 1 rfl) ?_
      refine lv_iload hx hb dX9_layOne_88 (lv_at hl 0 rfl) ?_
      refine lv_iconst (v := 1) hx hb dX9_layOne_90 (by decide) ?_
      refine lv_iadd hx hb dX9_layOne_91 ?_
      refine lv_aload_n hx hb dX9_layOne_92 rfl (lv_at hl 3 rfl) ?_
      refine lv_iload hx hb dX9_layOne_93 (lv_at hl 1 rfl) ?_
      obtain ⟨u6, hu, h⟩ := k_bd h
      refine k_vRs (As := [.int v1]) (rest := [.int (u4 + (1 : Int32)), .int v1, .int x1, .ref (a_o 0)]) (v := some (.int u6)) (st1 := [.int u6, .int (u4 + (1 : Int32)), .int v1, .int x1, .ref (a_o 0)]) hX hl.1 hZ (c_X9_longOf (a_o := a_o) u5 v1 hu) (gv_ wm_79 wm_81 wm_82 wm_11 wm_80) rfl hd_X9_longOf ⟨rfl, rfl⟩ 9 0 rfl rfl rfl rfl rfl dX9_layOne_95 rfl ⟨rfl, rfl⟩ (fun locs hZ => ?_)
      clear hu
      obtain ⟨u7, hu, h⟩ := k_bd h
      refine k_vWs (As := [.int x1, .int v1, .int (u4 + (1 : Int32)), .int u6]) (rest := []) (v := none) (st1 := []) hX hl.1 hZ (c_X9_layExtents (a_o := a_o) u5 x1 v1 (u4 + (1 : Int32)) u6 hu) (gv_ wm_75 wm_77 wm_78 wm_11 wm_76) rfl hd_X9_layExtents ⟨rfl, rfl⟩ 9 0 rfl rfl rfl rfl rfl dX9_layOne_98 rfl ⟨rfl, rfl⟩ rfl (fun H locs hZ => ?_)
      clear hu
      cases h
      exact k_vretW hX hr hZ dX9_layOne_101
    · replace h := k_t cd h
      clear cd
      refine lv_aload_n hx hb dX9_layOne_71 rfl (lv_at hl 3 rfl) ?_
      refine lv_iload_n hx hb dX9_layOne_72 rfl (lv_at hl 4 rfl) ?_
      refine lv_sipush (v := 20004) hx hb dX9_layOne_73 (by decide) ?_
      refine lv_iload_n hx hb dX9_layOne_76 rfl (lv_at hl 4 rfl) ?_
      refine lv_iadd hx hb dX9_layOne_77 ?_
      obtain ⟨u8, hu, h⟩ := k_bd h
      refine k_vWs (As := [.int x1, .int ((20004 : Int32) + x1)]) (rest := []) (v := none) (st1 := []) hX hl.1 hZ (c_X9_layExtent (a_o := a_o) u5 x1 ((20004 : Int32) + x1) hu) (gv_ wm_67 wm_69 wm_70 wm_11 wm_68) rfl hd_X9_layExtent ⟨rfl, rfl⟩ 9 0 rfl rfl rfl rfl rfl dX9_layOne_78 rfl ⟨rfl, rfl⟩ rfl (fun H locs hZ => ?_)
      clear hu
      refine lv_goto (tgt := 101) hx hb dX9_layOne_81 (by decide) ?_
      cases h
      exact k_vretW hX hr hZ dX9_layOne_101
  · replace h := k_t cd h
    clear cd
    refine lv_aload_n hx hb dX9_layOne_39 rfl (lv_at hl 3 rfl) ?_
    refine lv_iload_n hx hb dX9_layOne_40 rfl (lv_at hl 4 rfl) ?_
    refine lv_iload hx hb dX9_layOne_41 (lv_at hl 1 rfl) ?_
    refine lv_iconst (v := 0) hx hb dX9_layOne_43 (by decide) ?_
    refine lv_aload_n hx hb dX9_layOne_44 rfl (lv_at hl 3 rfl) ?_
    refine lv_iload hx hb dX9_layOne_45 (lv_at hl 1 rfl) ?_
    obtain ⟨u9, hu, h⟩ := k_bd h
    refine k_vRs (As := [.int v1]) (rest := [.int (0 : Int32), .int v1, .int x1, .ref (a_o 0)]) (v := some (.int u9)) (st1 := [.int u9, .int (0 : Int32), .int v1, .int x1, .ref (a_o 0)]) hX hl.1 hZ (c_X9_longOf (a_o := a_o) s_o v1 hu) (gv_ wm_79 wm_81 wm_82 wm_11 wm_80) rfl hd_X9_longOf ⟨rfl, rfl⟩ 9 0 rfl rfl rfl rfl rfl dX9_layOne_47 rfl ⟨rfl, rfl⟩ (fun locs hZ => ?_)
    clear hu
    obtain ⟨u10, hu, h⟩ := k_bd h
    refine k_vWs (As := [.int x1, .int v1, .int (0 : Int32), .int u9]) (rest := []) (v := none) (st1 := []) hX hl.1 hZ (c_X9_layExtents (a_o := a_o) s_o x1 v1 (0 : Int32) u9 hu) (gv_ wm_75 wm_77 wm_78 wm_11 wm_76) rfl hd_X9_layExtents ⟨rfl, rfl⟩ 9 0 rfl rfl rfl rfl rfl dX9_layOne_50 rfl ⟨rfl, rfl⟩ rfl (fun H locs hZ => ?_)
    clear hu
    refine lv_goto (tgt := 101) hx hb dX9_layOne_53 (by decide) ?_
    cases h
    exact k_vretW hX hr hZ dX9_layOne_101
