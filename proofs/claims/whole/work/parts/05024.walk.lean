def wlX9_sumUp : List Cond := .code yX9_sumUp cX9_sumUp 6 none :: WL_
theorem hd_X9_sumUp : yX9_sumUp.cls = RX9 ∧ yX9_sumUp.cls ≠ "java/lang/invoke/MethodHandle" ∧ yX9_sumUp.cls ≠ "java/lang/invoke/VarHandle" ∧ (parseMethodDescriptor yX9_sumUp.desc).map (fun d => d.parameters.length) = some 1 := by decide +kernel
theorem dX9_sumUp_0 : decode cX9_sumUp 0 = .ok (.aload_n 0, 1) := by decide +kernel
theorem dX9_sumUp_1 : decode cX9_sumUp 1 = .ok (.aload_n 0, 1) := by decide +kernel
theorem dX9_sumUp_2 : decode cX9_sumUp 2 = .ok (.getfield 86, 3) := by decide +kernel
theorem dX9_sumUp_5 : decode cX9_sumUp 5 = .ok (.iconst 0, 1) := by decide +kernel
theorem dX9_sumUp_6 : decode cX9_sumUp 6 = .ok (.iaload, 1) := by decide +kernel
theorem dX9_sumUp_7 : decode cX9_sumUp 7 = .ok (.invokevirtual 221, 3) := by decide +kernel
theorem dX9_sumUp_10 : decode cX9_sumUp 10 = .ok (.istore_n 2, 1) := by decide +kernel
theorem dX9_sumUp_11 : decode cX9_sumUp 11 = .ok (.aload_n 0, 1) := by decide +kernel
theorem dX9_sumUp_12 : decode cX9_sumUp 12 = .ok (.aload_n 0, 1) := by decide +kernel
theorem dX9_sumUp_13 : decode cX9_sumUp 13 = .ok (.getfield 89, 3) := by decide +kernel
theorem dX9_sumUp_16 : decode cX9_sumUp 16 = .ok (.iconst 0, 1) := by decide +kernel
theorem dX9_sumUp_17 : decode cX9_sumUp 17 = .ok (.iaload, 1) := by decide +kernel
theorem dX9_sumUp_18 : decode cX9_sumUp 18 = .ok (.invokevirtual 221, 3) := by decide +kernel
theorem dX9_sumUp_21 : decode cX9_sumUp 21 = .ok (.istore_n 3, 1) := by decide +kernel
theorem dX9_sumUp_22 : decode cX9_sumUp 22 = .ok (.aload_n 0, 1) := by decide +kernel
theorem dX9_sumUp_23 : decode cX9_sumUp 23 = .ok (.aload_n 0, 1) := by decide +kernel
theorem dX9_sumUp_24 : decode cX9_sumUp 24 = .ok (.getfield 89, 3) := by decide +kernel
theorem dX9_sumUp_27 : decode cX9_sumUp 27 = .ok (.iconst 1, 1) := by decide +kernel
theorem dX9_sumUp_28 : decode cX9_sumUp 28 = .ok (.iaload, 1) := by decide +kernel
theorem dX9_sumUp_29 : decode cX9_sumUp 29 = .ok (.invokevirtual 221, 3) := by decide +kernel
theorem dX9_sumUp_32 : decode cX9_sumUp 32 = .ok (.istore 4, 2) := by decide +kernel
theorem dX9_sumUp_34 : decode cX9_sumUp 34 = .ok (.iload_n 2, 1) := by decide +kernel
theorem dX9_sumUp_35 : decode cX9_sumUp 35 = .ok (.sipush 20000, 3) := by decide +kernel
theorem dX9_sumUp_38 : decode cX9_sumUp 38 = .ok (.if_icmp .lt 10, 3) := by decide +kernel
theorem dX9_sumUp_41 : decode cX9_sumUp 41 = .ok (.iload_n 3, 1) := by decide +kernel
theorem dX9_sumUp_42 : decode cX9_sumUp 42 = .ok (.iload 4, 2) := by decide +kernel
theorem dX9_sumUp_44 : decode cX9_sumUp 44 = .ok (.iadd, 1) := by decide +kernel
theorem dX9_sumUp_45 : decode cX9_sumUp 45 = .ok (.goto 20, 3) := by decide +kernel
theorem dX9_sumUp_48 : decode cX9_sumUp 48 = .ok (.iload_n 3, 1) := by decide +kernel
theorem dX9_sumUp_49 : decode cX9_sumUp 49 = .ok (.sipush 20000, 3) := by decide +kernel
theorem dX9_sumUp_52 : decode cX9_sumUp 52 = .ok (.if_icmp .lt 10, 3) := by decide +kernel
theorem dX9_sumUp_55 : decode cX9_sumUp 55 = .ok (.iload_n 2, 1) := by decide +kernel
theorem dX9_sumUp_56 : decode cX9_sumUp 56 = .ok (.iload 4, 2) := by decide +kernel
theorem dX9_sumUp_58 : decode cX9_sumUp 58 = .ok (.isub, 1) := by decide +kernel
theorem dX9_sumUp_59 : decode cX9_sumUp 59 = .ok (.goto 6, 3) := by decide +kernel
theorem dX9_sumUp_62 : decode cX9_sumUp 62 = .ok (.iload_n 2, 1) := by decide +kernel
theorem dX9_sumUp_63 : decode cX9_sumUp 63 = .ok (.iload_n 3, 1) := by decide +kernel
theorem dX9_sumUp_64 : decode cX9_sumUp 64 = .ok (.isub, 1) := by decide +kernel
theorem dX9_sumUp_65 : decode cX9_sumUp 65 = .ok (.istore 5, 2) := by decide +kernel
theorem dX9_sumUp_67 : decode cX9_sumUp 67 = .ok (.aload_n 0, 1) := by decide +kernel
theorem dX9_sumUp_68 : decode cX9_sumUp 68 = .ok (.getfield 240, 3) := by decide +kernel
theorem dX9_sumUp_71 : decode cX9_sumUp 71 = .ok (.ifCond .ne 14, 3) := by decide +kernel
theorem dX9_sumUp_74 : decode cX9_sumUp 74 = .ok (.iload_n 2, 1) := by decide +kernel
theorem dX9_sumUp_75 : decode cX9_sumUp 75 = .ok (.iload_n 3, 1) := by decide +kernel
theorem dX9_sumUp_76 : decode cX9_sumUp 76 = .ok (.iload 4, 2) := by decide +kernel
theorem dX9_sumUp_78 : decode cX9_sumUp 78 = .ok (.iadd, 1) := by decide +kernel
theorem dX9_sumUp_79 : decode cX9_sumUp 79 = .ok (.if_icmp .eq 31, 3) := by decide +kernel
theorem dX9_sumUp_82 : decode cX9_sumUp 82 = .ok (.goto 16, 3) := by decide +kernel
theorem dX9_sumUp_85 : decode cX9_sumUp 85 = .ok (.iload 5, 2) := by decide +kernel
theorem dX9_sumUp_87 : decode cX9_sumUp 87 = .ok (.i2l, 1) := by decide +kernel
theorem dX9_sumUp_88 : decode cX9_sumUp 88 = .ok (.lconst 0, 1) := by decide +kernel
theorem dX9_sumUp_89 : decode cX9_sumUp 89 = .ok (.ldc2_w 253, 3) := by decide +kernel
theorem dX9_sumUp_92 : decode cX9_sumUp 92 = .ok (.invokestatic 97, 3) := by decide +kernel
theorem dX9_sumUp_95 : decode cX9_sumUp 95 = .ok (.ifCond .ne 15, 3) := by decide +kernel
theorem dX9_sumUp_98 : decode cX9_sumUp 98 = .ok (.aload_n 0, 1) := by decide +kernel
theorem dX9_sumUp_99 : decode cX9_sumUp 99 = .ok (.iload_n 1, 1) := by decide +kernel
theorem dX9_sumUp_100 : decode cX9_sumUp 100 = .ok (.iconst 3, 1) := by decide +kernel
theorem dX9_sumUp_101 : decode cX9_sumUp 101 = .ok (.iconst 0, 1) := by decide +kernel
theorem dX9_sumUp_102 : decode cX9_sumUp 102 = .ok (.iconst 0, 1) := by decide +kernel
theorem dX9_sumUp_103 : decode cX9_sumUp 103 = .ok (.iconst 0, 1) := by decide +kernel
theorem dX9_sumUp_104 : decode cX9_sumUp 104 = .ok (.invokevirtual 224, 3) := by decide +kernel
theorem dX9_sumUp_107 : decode cX9_sumUp 107 = .ok (.goto 17, 3) := by decide +kernel
theorem dX9_sumUp_110 : decode cX9_sumUp 110 = .ok (.aload_n 0, 1) := by decide +kernel
theorem dX9_sumUp_111 : decode cX9_sumUp 111 = .ok (.getfield 240, 3) := by decide +kernel
theorem dX9_sumUp_114 : decode cX9_sumUp 114 = .ok (.iconst 1, 1) := by decide +kernel
theorem dX9_sumUp_115 : decode cX9_sumUp 115 = .ok (.if_icmp .ne 9, 3) := by decide +kernel
theorem dX9_sumUp_118 : decode cX9_sumUp 118 = .ok (.aload_n 0, 1) := by decide +kernel
theorem dX9_sumUp_119 : decode cX9_sumUp 119 = .ok (.iload 5, 2) := by decide +kernel
theorem dX9_sumUp_121 : decode cX9_sumUp 121 = .ok (.invokevirtual 255, 3) := by decide +kernel
theorem dX9_sumUp_124 : decode cX9_sumUp 124 = .ok (.return_, 1) := by decide +kernel
set_option maxHeartbeats 4000000 in
set_option maxRecDepth 100000 in
theorem t_X9_sumUp_J110 {p : Program} {l : Launch} {e : Env} {s : State} {m : MethodId} {args : Array Value} {below : List Frame} {meth : Method} {c : Code} {D : va_G} {aC : Nat → ClassId} {A : Nat → Prop} {a_o : Nat → Nat} {out : Ob_T} (hX : K_X p s m args meth c cX9_sumUp 6 WL_ RX9 D aC A) (hr : meth.sig.returnType = none) (x5 : Int32) (s_o : Ob_T) (h : f_X9_sumUp_J110 x5 s_o = some out) (H : Heap) (locs : List Loc) (ls : Array Slot) (hZ : K_S D A s (wd_X9 aC a_o s_o) H locs) (hl : lv_has ls 6 [(0, .ref (a_o 0)), (5, .int x5)]) : W p l e (R_m 1 25) s m args below meth c H locs 0 0 (MQ below (Q_W (none) D A (wd_X9 aC a_o out)) args s 0 0 A) (F0 m 110 ls []) := by
  obtain ⟨hx, hb, hml, hown, hts, hK, hA, hlk⟩ := id hX
  unfold f_X9_sumUp_J110 at h
  refine lv_aload_n hx hb dX9_sumUp_110 rfl (lv_at hl 0 rfl) ?_
  refine k_get hX hZ.1 0 9 rfl rfl iw_X9 41 rfl (wm_147) (v := .int (o_F s_o 41)) rfl dX9_sumUp_111 ?_
  refine lv_iconst (v := 1) hx hb dX9_sumUp_114 (by decide) ?_
  refine lv_icmp_ne (tgt := 124) hx hb dX9_sumUp_115 (by decide) (fun cd => ?_) (fun cd => ?_)
  · replace h := k_f cd h
    clear cd
    cases h
    exact k_vretW hX hr hZ dX9_sumUp_124
  · replace h := k_t cd h
    clear cd
    refine lv_aload_n hx hb dX9_sumUp_118 rfl (lv_at hl 0 rfl) ?_
    refine lv_iload hx hb dX9_sumUp_119 (lv_at hl 1 rfl) ?_
    obtain ⟨u8, hu, h⟩ := k_bd h
    refine k_vWs (As := [.int x5]) (rest := []) (v := none) (st1 := []) hX hl.1 hZ (c_X9_becomes (a_o := a_o) s_o x5 hu) (gv_ wm_155 wm_157 wm_158 wm_11 wm_156) rfl hd_X9_becomes ⟨rfl, rfl⟩ 9 0 rfl rfl rfl rfl rfl dX9_sumUp_121 rfl ⟨rfl, rfl⟩ rfl (fun H locs hZ => ?_)
    clear hu
    cases h
    exact k_vretW hX hr hZ dX9_sumUp_124
set_option maxHeartbeats 4000000 in
set_option maxRecDepth 100000 in
theorem t_X9_sumUp_J98 {p : Program} {l : Launch} {e : Env} {s : State} {m : MethodId} {args : Array Value} {below : List Frame} {meth : Method} {c : Code} {D : va_G} {aC : Nat → ClassId} {A : Nat → Prop} {a_o : Nat → Nat} {out : Ob_T} (hX : K_X p s m args meth c cX9_sumUp 6 WL_ RX9 D aC A) (hr : meth.sig.returnType = none) (x1 : Int32) (s_o : Ob_T) (h : f_X9_sumUp_J98 x1 s_o = some out) (H : Heap) (locs : List Loc) (ls : Array Slot) (hZ : K_S D A s (wd_X9 aC a_o s_o) H locs) (hl : lv_has ls 6 [(0, .ref (a_o 0)), (1, .int x1)]) : W p l e (R_m 1 25) s m args below meth c H locs 0 0 (MQ below (Q_W (none) D A (wd_X9 aC a_o out)) args s 0 0 A) (F0 m 98 ls []) := by
  obtain ⟨hx, hb, hml, hown, hts, hK, hA, hlk⟩ := id hX
  unfold f_X9_sumUp_J98 at h
  refine lv_aload_n hx hb dX9_sumUp_98 rfl (lv_at hl 0 rfl) ?_
  refine lv_iload_n hx hb dX9_sumUp_99 rfl (lv_at hl 1 rfl) ?_
  refine lv_iconst (v := 3) hx hb dX9_sumUp_100 (by decide) ?_
  refine lv_iconst (v := 0) hx hb dX9_sumUp_101 (by decide) ?_
  refine lv_iconst (v := 0) hx hb dX9_sumUp_102 (by decide) ?_
  refine lv_iconst (v := 0) hx hb dX9_sumUp_103 (by decide) ?_
  obtain ⟨u9, hu, h⟩ := k_bd h
  refine k_vWs (As := [.int x1, .int (3 : Int32), .int (0 : Int32), .int (0 : Int32), .int (0 : Int32)]) (rest := []) (v := none) (st1 := []) hX hl.1 hZ (c_X9_fail (a_o := a_o) s_o x1 (3 : Int32) (0 : Int32) (0 : Int32) (0 : Int32) hu) (gv_ wm_131 wm_133 wm_134 wm_11 wm_132) rfl hd_X9_fail ⟨rfl, rfl⟩ 9 0 rfl rfl rfl rfl rfl dX9_sumUp_104 rfl ⟨rfl, rfl⟩ rfl (fun H locs hZ => ?_)
  clear hu
  refine lv_goto (tgt := 124) hx hb dX9_sumUp_107 (by decide) ?_
  cases h
  exact k_vretW hX hr hZ dX9_sumUp_124
set_option maxHeartbeats 4000000 in
set_option maxRecDepth 100000 in
theorem t_X9_sumUp_J65 {p : Program} {l : Launch} {e : Env} {s : State} {m : MethodId} {args : Array Value} {below : List Frame} {meth : Method} {c : Code} {D : va_G} {aC : Nat → ClassId} {A : Nat → Prop} {a_o : Nat → Nat} {out : Ob_T} (hX : K_X p s m args meth c cX9_sumUp 6 WL_ RX9 D aC A) (hr : meth.sig.returnType = none) (x1 : Int32) (x2 : Int32) (x3 : Int32) (x4 : Int32) (k0 : Int32) (s_o : Ob_T) (h : f_X9_sumUp_J65 x1 x2 x3 x4 k0 s_o = some out) (H : Heap) (locs : List Loc) (ls : Array Slot) (hZ : K_S D A s (wd_X9 aC a_o s_o) H locs) (hl : lv_has ls 6 [(0, .ref (a_o 0)), (1, .int x1), (2, .int x2), (3, .int x3), (4, .int x4)]) : W p l e (R_m 1 25) s m args below meth c H locs 0 0 (MQ below (Q_W (none) D A (wd_X9 aC a_o out)) args s 0 0 A) (F0 m 65 ls [.int k0]) := by
  obtain ⟨hx, hb, hml, hown, hts, hK, hA, hlk⟩ := id hX
  unfold f_X9_sumUp_J65 at h
  refine lv_istore (lv' := [(5, .int k0), (0, .ref (a_o 0)), (1, .int x1), (2, .int x2), (3, .int x3), (4, .int x4)]) hx hb dX9_sumUp_65 hl (by decide) rfl (fun ls hl => ?_)
  refine lv_aload_n hx hb dX9_sumUp_67 rfl (lv_at hl 1 rfl) ?_
  refine k_get hX hZ.1 0 9 rfl rfl iw_X9 41 rfl (wm_147) (v := .int (o_F s_o 41)) rfl dX9_sumUp_68 ?_
  refine lv_if_ne (tgt := 85) hx hb dX9_sumUp_71 (by decide) (fun cd => ?_) (fun cd => ?_)
  · replace h := k_f cd h
    clear cd
    refine lv_iload hx hb dX9_sumUp_85 (lv_at hl 0 rfl) ?_
    refine lv_i2l (v := k0.toInt64) hx hb dX9_sumUp_87 rfl ?_
    refine lv_lconst (v := 0) hx hb dX9_sumUp_88 (by decide) ?_
    refine lv_ldc2 (v := 9999) hx hb hown (hts _ wm_154) dX9_sumUp_89 ?_
    obtain ⟨u7, hu, h⟩ := k_bd h
    refine k_sR (As := [.long k0.toInt64, .long (0 : Int64), .long (9999 : Int64)]) (rest := []) (wc := []) (v := some (.int u7)) (st1 := [.int u7]) hX hl.1 hZ (c_X9_in  k0.toInt64 (0 : Int64) (9999 : Int64) hu) (gs_ wm_10 wm_13 wm_11 wm_12) rfl hd_X9_in ⟨rfl, rfl⟩ [] rfl rfl rfl rfl rfl dX9_sumUp_92 rfl ⟨rfl, rfl⟩ (fun locs hZ => ?_)
    clear hu
    refine lv_if_ne (tgt := 110) hx hb dX9_sumUp_95 (by decide) (fun cd => ?_) (fun cd => ?_)
    · replace h := k_f cd h
      clear cd
      exact t_X9_sumUp_J110 hX hr k0 s_o h H locs ls hZ (lv_sub hl [1, 0] rfl)
    · replace h := k_t cd h
      clear cd
      exact t_X9_sumUp_J98 hX hr x1 s_o h H locs ls hZ (lv_sub hl [1, 2] rfl)
  · replace h := k_t cd h
    clear cd
    refine lv_iload_n hx hb dX9_sumUp_74 rfl (lv_at hl 3 rfl) ?_
    refine lv_iload_n hx hb dX9_sumUp_75 rfl (lv_at hl 4 rfl) ?_
    refine lv_iload hx hb dX9_sumUp_76 (lv_at hl 5 rfl) ?_
    refine lv_iadd hx hb dX9_sumUp_78 ?_
    refine lv_icmp_eq (tgt := 110) hx hb dX9_sumUp_79 (by decide) (fun cd => ?_) (fun cd => ?_)
    · replace h := k_t cd h
      clear cd
      exact t_X9_sumUp_J110 hX hr k0 s_o h H locs ls hZ (lv_sub hl [1, 0] rfl)
    · replace h := k_f cd h
      clear cd
      refine lv_goto (tgt := 98) hx hb dX9_sumUp_82 (by decide) ?_
      exact t_X9_sumUp_J98 hX hr x1 s_o h H locs ls hZ (lv_sub hl [1, 2] rfl)
set_option maxHeartbeats 4000000 in
set_option maxRecDepth 100000 in
theorem c_X9_sumUp {l : Launch} {D : va_G} {aC : Nat → ClassId} {a_o : Nat → Nat} (s_o : Ob_T) (x1 : Int32) {out : Ob_T} (h : f_X9_sumUp s_o x1 = some out) : M_W l yX9_sumUp wlX9_sumUp 1 25 D aC [.ref (a_o 0), .int x1] (wd_X9 aC a_o s_o) (none) (wd_X9 aC a_o out) := by
  refine k_entW (cc := cX9_sumUp) (ret := none) (maxL := 6) (own := RX9) (by decide) rfl rfl rfl ?_
  intro p e s m below meth c A ls hX hr hZ hl
  have hl : lv_has ls 6 [(0, .ref (a_o 0)), (1, .int x1)] := hl
  generalize ([.ref (a_o 0), .int x1] : List Value).toArray = args at hX ⊢
  obtain ⟨hx, hb, hml, hown, hts, hK, hA, hlk⟩ := id hX
  unfold f_X9_sumUp at h
  generalize s.heap = H at hZ ⊢
  generalize ([] : List Loc) = locs at hZ ⊢
  refine lv_aload_n hx hb dX9_sumUp_0 rfl (lv_at hl 0 rfl) ?_
  refine lv_aload_n hx hb dX9_sumUp_1 rfl (lv_at hl 0 rfl) ?_
  refine k_get hX hZ.1 0 9 rfl rfl iw_X9 37 rfl (wm_143) (v := .ref (a_o 26)) rfl dX9_sumUp_2 ?_
  refine lv_iconst (v := 0) hx hb dX9_sumUp_5 (by decide) ?_
  refine k_iald hX hZ.1 26 rfl h dX9_sumUp_6 (fun v1 h => ?_)
  obtain ⟨u2, hu, h⟩ := k_bd h
  refine k_vRs (As := [.int v1]) (rest := []) (v := some (.int u2)) (st1 := [.int u2]) hX hl.1 hZ (c_X9_solved (a_o := a_o) s_o v1 hu) (gv_ wm_135 wm_137 wm_138 wm_11 wm_136) rfl hd_X9_solved ⟨rfl, rfl⟩ 9 0 rfl rfl rfl rfl rfl dX9_sumUp_7 rfl ⟨rfl, rfl⟩ (fun locs hZ => ?_)
  clear hu
  refine lv_istore_n (lv' := [(2, .int u2), (0, .ref (a_o 0)), (1, .int x1)]) hx hb dX9_sumUp_10 rfl hl (by decide) rfl (fun ls hl => ?_)
  refine lv_aload_n hx hb dX9_sumUp_11 rfl (lv_at hl 1 rfl) ?_
  refine lv_aload_n hx hb dX9_sumUp_12 rfl (lv_at hl 1 rfl) ?_
  refine k_get hX hZ.1 0 9 rfl rfl iw_X9 38 rfl (wm_145) (v := .ref (a_o 27)) rfl dX9_sumUp_13 ?_
  refine lv_iconst (v := 0) hx hb dX9_sumUp_16 (by decide) ?_
  refine k_iald hX hZ.1 27 rfl h dX9_sumUp_17 (fun v3 h => ?_)
  obtain ⟨u4, hu, h⟩ := k_bd h
  refine k_vRs (As := [.int v3]) (rest := []) (v := some (.int u4)) (st1 := [.int u4]) hX hl.1 hZ (c_X9_solved (a_o := a_o) s_o v3 hu) (gv_ wm_135 wm_137 wm_138 wm_11 wm_136) rfl hd_X9_solved ⟨rfl, rfl⟩ 9 0 rfl rfl rfl rfl rfl dX9_sumUp_18 rfl ⟨rfl, rfl⟩ (fun locs hZ => ?_)
  clear hu
  refine lv_istore_n (lv' := [(3, .int u4), (2, .int u2), (0, .ref (a_o 0)), (1, .int x1)]) hx hb dX9_sumUp_21 rfl hl (by decide) rfl (fun ls hl => ?_)
  refine lv_aload_n hx hb dX9_sumUp_22 rfl (lv_at hl 2 rfl) ?_
  refine lv_aload_n hx hb dX9_sumUp_23 rfl (lv_at hl 2 rfl) ?_
  refine k_get hX hZ.1 0 9 rfl rfl iw_X9 38 rfl (wm_145) (v := .ref (a_o 27)) rfl dX9_sumUp_24 ?_
  refine lv_iconst (v := 1) hx hb dX9_sumUp_27 (by decide) ?_
  refine k_iald hX hZ.1 27 rfl h dX9_sumUp_28 (fun v5 h => ?_)
  obtain ⟨u6, hu, h⟩ := k_bd h
  refine k_vRs (As := [.int v5]) (rest := []) (v := some (.int u6)) (st1 := [.int u6]) hX hl.1 hZ (c_X9_solved (a_o := a_o) s_o v5 hu) (gv_ wm_135 wm_137 wm_138 wm_11 wm_136) rfl hd_X9_solved ⟨rfl, rfl⟩ 9 0 rfl rfl rfl rfl rfl dX9_sumUp_29 rfl ⟨rfl, rfl⟩ (fun locs hZ => ?_)
  clear hu
  refine lv_istore (lv' := [(4, .int u6), (3, .int u4), (2, .int u2), (0, .ref (a_o 0)), (1, .int x1)]) hx hb dX9_sumUp_32 hl (by decide) rfl (fun ls hl => ?_)
  refine lv_iload_n hx hb dX9_sumUp_34 rfl (lv_at hl 2 rfl) ?_
  refine lv_sipush (v := 20000) hx hb dX9_sumUp_35 (by decide) ?_
  refine lv_icmp_lt (tgt := 48) hx hb dX9_sumUp_38 (by decide) (fun cd => ?_) (fun cd => ?_)
  · replace h := k_t cd h
    clear cd
    refine lv_iload_n hx hb dX9_sumUp_48 rfl (lv_at hl 1 rfl) ?_
    refine lv_sipush (v := 20000) hx hb dX9_sumUp_49 (by decide) ?_
    refine lv_icmp_lt (tgt := 62) hx hb dX9_sumUp_52 (by decide) (fun cd => ?_) (fun cd => ?_)
    · replace h := k_t cd h
      clear cd
      refine lv_iload_n hx hb dX9_sumUp_62 rfl (lv_at hl 2 rfl) ?_
      refine lv_iload_n hx hb dX9_sumUp_63 rfl (lv_at hl 1 rfl) ?_
      refine lv_isub hx hb dX9_sumUp_64 ?_
      exact t_X9_sumUp_J65 hX hr x1 u2 u4 u6 (u2 - u4) s_o h H locs ls hZ (lv_sub hl [3, 4, 2, 1, 0] rfl)
    · replace h := k_f cd h
      clear cd
      refine lv_iload_n hx hb dX9_sumUp_55 rfl (lv_at hl 2 rfl) ?_
      refine lv_iload hx hb dX9_sumUp_56 (lv_at hl 0 rfl) ?_
      refine lv_isub hx hb dX9_sumUp_58 ?_
      refine lv_goto (tgt := 65) hx hb dX9_sumUp_59 (by decide) ?_
      exact t_X9_sumUp_J65 hX hr x1 u2 u4 u6 (u2 - u6) s_o h H locs ls hZ (lv_sub hl [3, 4, 2, 1, 0] rfl)
  · replace h := k_f cd h
    clear cd
    refine lv_iload_n hx hb dX9_sumUp_41 rfl (lv_at hl 1 rfl) ?_
    refine lv_iload hx hb dX9_sumUp_42 (lv_at hl 0 rfl) ?_
    refine lv_iadd hx hb dX9_sumUp_44 ?_
    refine lv_goto (tgt := 65) hx hb dX9_sumUp_45 (by decide) ?_
    exact t_X9_sumUp_J65 hX hr x1 u2 u4 u6 (u4 + u6) s_o h H locs ls hZ (lv_sub hl [3, 4, 2, 1, 0] rfl)
