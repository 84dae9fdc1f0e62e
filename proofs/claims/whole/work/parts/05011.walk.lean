def wlX9_layTwo : List Cond := .code yX9_layTwo cX9_layTwo 12 none :: WL_
theorem hd_X9_layTwo : yX9_layTwo.cls = RX9 ∧ yX9_layTwo.cls ≠ "java/lang/invoke/MethodHandle" ∧ yX9_layTwo.cls ≠ "java/lang/invoke/VarHandle" ∧ (parseMethodDescriptor yX9_layTwo.desc).map (fun d => d.parameters.length) = some 2 := by decide +kernel
theorem dX9_layTwo_0 : decode cX9_layTwo 0 = .ok (.bipush 15, 2) := by decide +kernel
theorem dX9_layTwo_2 : decode cX9_layTwo 2 = .ok (.iload_n 1, 1) := by decide +kernel
theorem dX9_layTwo_3 : decode cX9_layTwo 3 = .ok (.imul, 1) := by decide +kernel
theorem dX9_layTwo_4 : decode cX9_layTwo 4 = .ok (.istore_n 3, 1) := by decide +kernel
theorem dX9_layTwo_5 : decode cX9_layTwo 5 = .ok (.aload_n 0, 1) := by decide +kernel
theorem dX9_layTwo_6 : decode cX9_layTwo 6 = .ok (.getfield 13, 3) := by decide +kernel
theorem dX9_layTwo_9 : decode cX9_layTwo 9 = .ok (.iload_n 3, 1) := by decide +kernel
theorem dX9_layTwo_10 : decode cX9_layTwo 10 = .ok (.iconst 1, 1) := by decide +kernel
theorem dX9_layTwo_11 : decode cX9_layTwo 11 = .ok (.iadd, 1) := by decide +kernel
theorem dX9_layTwo_12 : decode cX9_layTwo 12 = .ok (.iaload, 1) := by decide +kernel
theorem dX9_layTwo_13 : decode cX9_layTwo 13 = .ok (.istore 4, 2) := by decide +kernel
theorem dX9_layTwo_15 : decode cX9_layTwo 15 = .ok (.aload_n 0, 1) := by decide +kernel
theorem dX9_layTwo_16 : decode cX9_layTwo 16 = .ok (.getfield 13, 3) := by decide +kernel
theorem dX9_layTwo_19 : decode cX9_layTwo 19 = .ok (.iload_n 3, 1) := by decide +kernel
theorem dX9_layTwo_20 : decode cX9_layTwo 20 = .ok (.iconst 2, 1) := by decide +kernel
theorem dX9_layTwo_21 : decode cX9_layTwo 21 = .ok (.iadd, 1) := by decide +kernel
theorem dX9_layTwo_22 : decode cX9_layTwo 22 = .ok (.iaload, 1) := by decide +kernel
theorem dX9_layTwo_23 : decode cX9_layTwo 23 = .ok (.istore 5, 2) := by decide +kernel
theorem dX9_layTwo_25 : decode cX9_layTwo 25 = .ok (.aload_n 0, 1) := by decide +kernel
theorem dX9_layTwo_26 : decode cX9_layTwo 26 = .ok (.iload 4, 2) := by decide +kernel
theorem dX9_layTwo_28 : decode cX9_layTwo 28 = .ok (.invokevirtual 199, 3) := by decide +kernel
theorem dX9_layTwo_31 : decode cX9_layTwo 31 = .ok (.aload_n 0, 1) := by decide +kernel
theorem dX9_layTwo_32 : decode cX9_layTwo 32 = .ok (.getfield 13, 3) := by decide +kernel
theorem dX9_layTwo_35 : decode cX9_layTwo 35 = .ok (.iload_n 3, 1) := by decide +kernel
theorem dX9_layTwo_36 : decode cX9_layTwo 36 = .ok (.iconst 3, 1) := by decide +kernel
theorem dX9_layTwo_37 : decode cX9_layTwo 37 = .ok (.iadd, 1) := by decide +kernel
theorem dX9_layTwo_38 : decode cX9_layTwo 38 = .ok (.iaload, 1) := by decide +kernel
theorem dX9_layTwo_39 : decode cX9_layTwo 39 = .ok (.invokestatic 203, 3) := by decide +kernel
theorem dX9_layTwo_42 : decode cX9_layTwo 42 = .ok (.istore 6, 2) := by decide +kernel
theorem dX9_layTwo_44 : decode cX9_layTwo 44 = .ok (.aload_n 0, 1) := by decide +kernel
theorem dX9_layTwo_45 : decode cX9_layTwo 45 = .ok (.iload 5, 2) := by decide +kernel
theorem dX9_layTwo_47 : decode cX9_layTwo 47 = .ok (.invokevirtual 199, 3) := by decide +kernel
theorem dX9_layTwo_50 : decode cX9_layTwo 50 = .ok (.aload_n 0, 1) := by decide +kernel
theorem dX9_layTwo_51 : decode cX9_layTwo 51 = .ok (.getfield 13, 3) := by decide +kernel
theorem dX9_layTwo_54 : decode cX9_layTwo 54 = .ok (.iload_n 3, 1) := by decide +kernel
theorem dX9_layTwo_55 : decode cX9_layTwo 55 = .ok (.iconst 3, 1) := by decide +kernel
theorem dX9_layTwo_56 : decode cX9_layTwo 56 = .ok (.iadd, 1) := by decide +kernel
theorem dX9_layTwo_57 : decode cX9_layTwo 57 = .ok (.iaload, 1) := by decide +kernel
theorem dX9_layTwo_58 : decode cX9_layTwo 58 = .ok (.invokestatic 203, 3) := by decide +kernel
theorem dX9_layTwo_61 : decode cX9_layTwo 61 = .ok (.istore 7, 2) := by decide +kernel
theorem dX9_layTwo_63 : decode cX9_layTwo 63 = .ok (.iload 6, 2) := by decide +kernel
theorem dX9_layTwo_65 : decode cX9_layTwo 65 = .ok (.iload 7, 2) := by decide +kernel
theorem dX9_layTwo_67 : decode cX9_layTwo 67 = .ok (.if_icmp .lt 7, 3) := by decide +kernel
theorem dX9_layTwo_70 : decode cX9_layTwo 70 = .ok (.iconst 1, 1) := by decide +kernel
theorem dX9_layTwo_71 : decode cX9_layTwo 71 = .ok (.goto 4, 3) := by decide +kernel
theorem dX9_layTwo_74 : decode cX9_layTwo 74 = .ok (.iconst 0, 1) := by decide +kernel
theorem dX9_layTwo_75 : decode cX9_layTwo 75 = .ok (.istore 8, 2) := by decide +kernel
theorem dX9_layTwo_77 : decode cX9_layTwo 77 = .ok (.aload_n 0, 1) := by decide +kernel
theorem dX9_layTwo_78 : decode cX9_layTwo 78 = .ok (.iload_n 1, 1) := by decide +kernel
theorem dX9_layTwo_79 : decode cX9_layTwo 79 = .ok (.iload 8, 2) := by decide +kernel
theorem dX9_layTwo_81 : decode cX9_layTwo 81 = .ok (.ifCond .eq 8, 3) := by decide +kernel
theorem dX9_layTwo_84 : decode cX9_layTwo 84 = .ok (.iload 4, 2) := by decide +kernel
theorem dX9_layTwo_86 : decode cX9_layTwo 86 = .ok (.goto 5, 3) := by decide +kernel
theorem dX9_layTwo_89 : decode cX9_layTwo 89 = .ok (.iload 5, 2) := by decide +kernel
theorem dX9_layTwo_91 : decode cX9_layTwo 91 = .ok (.iconst 0, 1) := by decide +kernel
theorem dX9_layTwo_92 : decode cX9_layTwo 92 = .ok (.iload 8, 2) := by decide +kernel
theorem dX9_layTwo_94 : decode cX9_layTwo 94 = .ok (.ifCond .eq 8, 3) := by decide +kernel
theorem dX9_layTwo_97 : decode cX9_layTwo 97 = .ok (.iload 6, 2) := by decide +kernel
theorem dX9_layTwo_99 : decode cX9_layTwo 99 = .ok (.goto 5, 3) := by decide +kernel
theorem dX9_layTwo_102 : decode cX9_layTwo 102 = .ok (.iload 7, 2) := by decide +kernel
theorem dX9_layTwo_104 : decode cX9_layTwo 104 = .ok (.invokevirtual 206, 3) := by decide +kernel
theorem dX9_layTwo_107 : decode cX9_layTwo 107 = .ok (.iload_n 2, 1) := by decide +kernel
theorem dX9_layTwo_108 : decode cX9_layTwo 108 = .ok (.ifCond .eq 7, 3) := by decide +kernel
theorem dX9_layTwo_111 : decode cX9_layTwo 111 = .ok (.iconst 1, 1) := by decide +kernel
theorem dX9_layTwo_112 : decode cX9_layTwo 112 = .ok (.goto 4, 3) := by decide +kernel
theorem dX9_layTwo_115 : decode cX9_layTwo 115 = .ok (.iconst 0, 1) := by decide +kernel
theorem dX9_layTwo_116 : decode cX9_layTwo 116 = .ok (.istore 9, 2) := by decide +kernel
theorem dX9_layTwo_118 : decode cX9_layTwo 118 = .ok (.iload_n 2, 1) := by decide +kernel
theorem dX9_layTwo_119 : decode cX9_layTwo 119 = .ok (.ifCond .eq 13, 3) := by decide +kernel
theorem dX9_layTwo_122 : decode cX9_layTwo 122 = .ok (.aload_n 0, 1) := by decide +kernel
theorem dX9_layTwo_123 : decode cX9_layTwo 123 = .ok (.iload_n 1, 1) := by decide +kernel
theorem dX9_layTwo_124 : decode cX9_layTwo 124 = .ok (.sipush 20004, 3) := by decide +kernel
theorem dX9_layTwo_127 : decode cX9_layTwo 127 = .ok (.iload_n 1, 1) := by decide +kernel
theorem dX9_layTwo_128 : decode cX9_layTwo 128 = .ok (.iadd, 1) := by decide +kernel
theorem dX9_layTwo_129 : decode cX9_layTwo 129 = .ok (.invokevirtual 195, 3) := by decide +kernel
theorem dX9_layTwo_132 : decode cX9_layTwo 132 = .ok (.aload_n 0, 1) := by decide +kernel
theorem dX9_layTwo_133 : decode cX9_layTwo 133 = .ok (.iload 4, 2) := by decide +kernel
theorem dX9_layTwo_135 : decode cX9_layTwo 135 = .ok (.invokevirtual 199, 3) := by decide +kernel
theorem dX9_layTwo_138 : decode cX9_layTwo 138 = .ok (.iload 6, 2) := by decide +kernel
theorem dX9_layTwo_140 : decode cX9_layTwo 140 = .ok (.isub, 1) := by decide +kernel
theorem dX9_layTwo_141 : decode cX9_layTwo 141 = .ok (.iload 9, 2) := by decide +kernel
theorem dX9_layTwo_143 : decode cX9_layTwo 143 = .ok (.isub, 1) := by decide +kernel
theorem dX9_layTwo_144 : decode cX9_layTwo 144 = .ok (.istore 10, 2) := by decide +kernel
theorem dX9_layTwo_146 : decode cX9_layTwo 146 = .ok (.aload_n 0, 1) := by decide +kernel
theorem dX9_layTwo_147 : decode cX9_layTwo 147 = .ok (.iload 5, 2) := by decide +kernel
theorem dX9_layTwo_149 : decode cX9_layTwo 149 = .ok (.invokevirtual 199, 3) := by decide +kernel
theorem dX9_layTwo_152 : decode cX9_layTwo 152 = .ok (.iload 7, 2) := by decide +kernel
theorem dX9_layTwo_154 : decode cX9_layTwo 154 = .ok (.isub, 1) := by decide +kernel
theorem dX9_layTwo_155 : decode cX9_layTwo 155 = .ok (.iload 9, 2) := by decide +kernel
theorem dX9_layTwo_157 : decode cX9_layTwo 157 = .ok (.isub, 1) := by decide +kernel
theorem dX9_layTwo_158 : decode cX9_layTwo 158 = .ok (.istore 11, 2) := by decide +kernel
theorem dX9_layTwo_160 : decode cX9_layTwo 160 = .ok (.iload 10, 2) := by decide +kernel
theorem dX9_layTwo_162 : decode cX9_layTwo 162 = .ok (.iload 11, 2) := by decide +kernel
theorem dX9_layTwo_164 : decode cX9_layTwo 164 = .ok (.if_icmp .lt 7, 3) := by decide +kernel
theorem dX9_layTwo_167 : decode cX9_layTwo 167 = .ok (.iconst 1, 1) := by decide +kernel
theorem dX9_layTwo_168 : decode cX9_layTwo 168 = .ok (.goto 4, 3) := by decide +kernel
theorem dX9_layTwo_171 : decode cX9_layTwo 171 = .ok (.iconst 0, 1) := by decide +kernel
theorem dX9_layTwo_172 : decode cX9_layTwo 172 = .ok (.istore 8, 2) := by decide +kernel
theorem dX9_layTwo_174 : decode cX9_layTwo 174 = .ok (.aload_n 0, 1) := by decide +kernel
theorem dX9_layTwo_175 : decode cX9_layTwo 175 = .ok (.iload_n 1, 1) := by decide +kernel
theorem dX9_layTwo_176 : decode cX9_layTwo 176 = .ok (.iload 8, 2) := by decide +kernel
theorem dX9_layTwo_178 : decode cX9_layTwo 178 = .ok (.ifCond .eq 8, 3) := by decide +kernel
theorem dX9_layTwo_181 : decode cX9_layTwo 181 = .ok (.iload 4, 2) := by decide +kernel
theorem dX9_layTwo_183 : decode cX9_layTwo 183 = .ok (.goto 5, 3) := by decide +kernel
theorem dX9_layTwo_186 : decode cX9_layTwo 186 = .ok (.iload 5, 2) := by decide +kernel
theorem dX9_layTwo_188 : decode cX9_layTwo 188 = .ok (.iload 8, 2) := by decide +kernel
theorem dX9_layTwo_190 : decode cX9_layTwo 190 = .ok (.ifCond .eq 8, 3) := by decide +kernel
theorem dX9_layTwo_193 : decode cX9_layTwo 193 = .ok (.iload 6, 2) := by decide +kernel
theorem dX9_layTwo_195 : decode cX9_layTwo 195 = .ok (.goto 5, 3) := by decide +kernel
theorem dX9_layTwo_198 : decode cX9_layTwo 198 = .ok (.iload 7, 2) := by decide +kernel
theorem dX9_layTwo_200 : decode cX9_layTwo 200 = .ok (.iload 9, 2) := by decide +kernel
theorem dX9_layTwo_202 : decode cX9_layTwo 202 = .ok (.iadd, 1) := by decide +kernel
theorem dX9_layTwo_203 : decode cX9_layTwo 203 = .ok (.iload 8, 2) := by decide +kernel
theorem dX9_layTwo_205 : decode cX9_layTwo 205 = .ok (.ifCond .eq 12, 3) := by decide +kernel
theorem dX9_layTwo_208 : decode cX9_layTwo 208 = .ok (.aload_n 0, 1) := by decide +kernel
theorem dX9_layTwo_209 : decode cX9_layTwo 209 = .ok (.iload 4, 2) := by decide +kernel
theorem dX9_layTwo_211 : decode cX9_layTwo 211 = .ok (.invokevirtual 199, 3) := by decide +kernel
theorem dX9_layTwo_214 : decode cX9_layTwo 214 = .ok (.goto 9, 3) := by decide +kernel
theorem dX9_layTwo_217 : decode cX9_layTwo 217 = .ok (.aload_n 0, 1) := by decide +kernel
theorem dX9_layTwo_218 : decode cX9_layTwo 218 = .ok (.iload 5, 2) := by decide +kernel
theorem dX9_layTwo_220 : decode cX9_layTwo 220 = .ok (.invokevirtual 199, 3) := by decide +kernel
theorem dX9_layTwo_223 : decode cX9_layTwo 223 = .ok (.invokevirtual 206, 3) := by decide +kernel
theorem dX9_layTwo_226 : decode cX9_layTwo 226 = .ok (.return_, 1) := by decide +kernel
set_option maxHeartbeats 4000000 in
set_option maxRecDepth 100000 in
theorem t_X9_layTwo_J223 {p : Program} {l : Launch} {e : Env} {s : State} {m : MethodId} {args : Array Value} {below : List Frame} {meth : Method} {c : Code} {D : va_G} {aC : Nat → ClassId} {A : Nat → Prop} {a_o : Nat → Nat} {out : Ob_T} (hX : K_X p s m args meth c cX9_layTwo 12 WL_ RX9 D aC A) (hr : meth.sig.returnType = none) (k1 : Int32) (k2 : Int32) (k3 : Int32) (k4 : Int32) (s_o : Ob_T) (h : f_X9_layTwo_J223 k1 k2 k3 k4 s_o = some out) (H : Heap) (locs : List Loc) (ls : Array Slot) (hZ : K_S D A s (wd_X9 aC a_o s_o) H locs) (hl : lv_has ls 12 []) : W p l e (R_m 2 47) s m args below meth c H locs 0 0 (MQ below (Q_W (none) D A (wd_X9 aC a_o out)) args s 0 0 A) (F0 m 223 ls [.int k4, .int k3, .int k2, .int k1, .ref (a_o 0)]) := by
  obtain ⟨hx, hb, hml, hown, hts, hK, hA, hlk⟩ := id hX
  unfold f_X9_layTwo_J223 at h
  obtain ⟨u13, hu, h⟩ := k_bd h
  refine k_vWs (As := [.int k1, .int k2, .int k3, .int k4]) (rest := []) (v := none) (st1 := []) hX hl.1 hZ (c_X9_layExtents (a_o := a_o) s_o k1 k2 k3 k4 hu) (gv_ wm_75 wm_77 wm_78 wm_11 wm_76) rfl hd_X9_layExtents ⟨rfl, rfl⟩ 9 0 rfl rfl rfl rfl rfl dX9_layTwo_223 rfl ⟨rfl, rfl⟩ rfl (fun H locs hZ => ?_)
  clear hu
  cases h
  exact k_vretW hX hr hZ dX9_layTwo_226
set_option maxHeartbeats 4000000 in
set_option maxRecDepth 100000 in
theorem t_X9_layTwo_J200 {p : Program} {l : Launch} {e : Env} {s : State} {m : MethodId} {args : Array Value} {below : List Frame} {meth : Method} {c : Code} {D : va_G} {aC : Nat → ClassId} {A : Nat → Prop} {a_o : Nat → Nat} {out : Ob_T} (hX : K_X p s m args meth c cX9_layTwo 12 WL_ RX9 D aC A) (hr : meth.sig.returnType = none) (x4 : Int32) (x5 : Int32) (x8 : Int32) (x9 : Int32) (k1 : Int32) (k2 : Int32) (k3 : Int32) (s_o : Ob_T) (h : f_X9_layTwo_J200 x4 x5 x8 x9 k1 k2 k3 s_o = some out) (H : Heap) (locs : List Loc) (ls : Array Slot) (hZ : K_S D A s (wd_X9 aC a_o s_o) H locs) (hl : lv_has ls 12 [(0, .ref (a_o 0)), (4, .int x4), (5, .int x5), (8, .int x8), (9, .int x9)]) : W p l e (R_m 2 47) s m args below meth c H locs 0 0 (MQ below (Q_W (none) D A (wd_X9 aC a_o out)) args s 0 0 A) (F0 m 200 ls [.int k3, .int k2, .int k1, .ref (a_o 0)]) := by
  obtain ⟨hx, hb, hml, hown, hts, hK, hA, hlk⟩ := id hX
  unfold f_X9_layTwo_J200 at h
  refine lv_iload hx hb dX9_layTwo_200 (lv_at hl 4 rfl) ?_
  refine lv_iadd hx hb dX9_layTwo_202 ?_
  refine lv_iload hx hb dX9_layTwo_203 (lv_at hl 3 rfl) ?_
  refine lv_if_eq (tgt := 217) hx hb dX9_layTwo_205 (by decide) (fun cd => ?_) (fun cd => ?_)
  · replace h := k_t cd h
    clear cd
    refine lv_aload_n hx hb dX9_layTwo_217 rfl (lv_at hl 0 rfl) ?_
    refine lv_iload hx hb dX9_layTwo_218 (lv_at hl 2 rfl) ?_
    obtain ⟨u12, hu, h⟩ := k_bd h
    refine k_vRs (As := [.int x5]) (rest := [.int (k3 + x9), .int k2, .int k1, .ref (a_o 0)]) (v := some (.int u12)) (st1 := [.int u12, .int (k3 + x9), .int k2, .int k1, .ref (a_o 0)]) hX hl.1 hZ (c_X9_longOf (a_o := a_o) s_o x5 hu) (gv_ wm_79 wm_81 wm_82 wm_11 wm_80) rfl hd_X9_longOf ⟨rfl, rfl⟩ 9 0 rfl rfl rfl rfl rfl dX9_layTwo_220 rfl ⟨rfl, rfl⟩ (fun locs hZ => ?_)
    clear hu
    exact t_X9_layTwo_J223 hX hr k1 k2 (k3 + x9) u12 s_o h H locs ls hZ (lv_sub hl [] rfl)
  · replace h := k_f cd h
    clear cd
    refine lv_aload_n hx hb dX9_layTwo_208 rfl (lv_at hl 0 rfl) ?_
    refine lv_iload hx hb dX9_layTwo_209 (lv_at hl 1 rfl) ?_
    obtain ⟨u14, hu, h⟩ := k_bd h
    refine k_vRs (As := [.int x4]) (rest := [.int (k3 + x9), .int k2, .int k1, .ref (a_o 0)]) (v := some (.int u14)) (st1 := [.int u14, .int (k3 + x9), .int k2, .int k1, .ref (a_o 0)]) hX hl.1 hZ (c_X9_longOf (a_o := a_o) s_o x4 hu) (gv_ wm_79 wm_81 wm_82 wm_11 wm_80) rfl hd_X9_longOf ⟨rfl, rfl⟩ 9 0 rfl rfl rfl rfl rfl dX9_layTwo_211 rfl ⟨rfl, rfl⟩ (fun locs hZ => ?_)
    clear hu
    refine lv_goto (tgt := 223) hx hb dX9_layTwo_214 (by decide) ?_
    exact t_X9_layTwo_J223 hX hr k1 k2 (k3 + x9) u14 s_o h H locs ls hZ (lv_sub hl [] rfl)
set_option maxHeartbeats 4000000 in
set_option maxRecDepth 100000 in
theorem t_X9_layTwo_J188 {p : Program} {l : Launch} {e : Env} {s : State} {m : MethodId} {args : Array Value} {below : List Frame} {meth : Method} {c : Code} {D : va_G} {aC : Nat → ClassId} {A : Nat → Prop} {a_o : Nat → Nat} {out : Ob_T} (hX : K_X p s m args meth c cX9_layTwo 12 WL_ RX9 D aC A) (hr : meth.sig.returnType = none) (x4 : Int32) (x5 : Int32) (x6 : Int32) (x7 : Int32) (x8 : Int32) (x9 : Int32) (k1 : Int32) (k2 : Int32) (s_o : Ob_T) (h : f_X9_layTwo_J188 x4 x5 x6 x7 x8 x9 k1 k2 s_o = some out) (H : Heap) (locs : List Loc) (ls : Array Slot) (hZ : K_S D A s (wd_X9 aC a_o s_o) H locs) (hl : lv_has ls 12 [(0, .ref (a_o 0)), (4, .int x4), (5, .int x5), (6, .int x6), (7, .int x7), (8, .int x8), (9, .int x9)]) : W p l e (R_m 2 47) s m args below meth c H locs 0 0 (MQ below (Q_W (none) D A (wd_X9 aC a_o out)) args s 0 0 A) (F0 m 188 ls [.int k2, .int k1, .ref (a_o 0)]) := by
  obtain ⟨hx, hb, hml, hown, hts, hK, hA, hlk⟩ := id hX
  unfold f_X9_layTwo_J188 at h
  refine lv_iload hx hb dX9_layTwo_188 (lv_at hl 5 rfl) ?_
  refine lv_if_eq (tgt := 198) hx hb dX9_layTwo_190 (by decide) (fun cd => ?_) (fun cd => ?_)
  · replace h := k_t cd h
    clear cd
    refine lv_iload hx hb dX9_layTwo_198 (lv_at hl 4 rfl) ?_
    exact t_X9_layTwo_J200 hX hr x4 x5 x8 x9 k1 k2 x7 s_o h H locs ls hZ (lv_sub hl [0, 1, 2, 5, 6] rfl)
  · replace h := k_f cd h
    clear cd
    refine lv_iload hx hb dX9_layTwo_193 (lv_at hl 3 rfl) ?_
    refine lv_goto (tgt := 200) hx hb dX9_layTwo_195 (by decide) ?_
    exact t_X9_layTwo_J200 hX hr x4 x5 x8 x9 k1 k2 x6 s_o h H locs ls hZ (lv_sub hl [0, 1, 2, 5, 6] rfl)
set_option maxHeartbeats 4000000 in
set_option maxRecDepth 100000 in
theorem t_X9_layTwo_J172 {p : Program} {l : Launch} {e : Env} {s : State} {m : MethodId} {args : Array Value} {below : List Frame} {meth : Method} {c : Code} {D : va_G} {aC : Nat → ClassId} {A : Nat → Prop} {a_o : Nat → Nat} {out : Ob_T} (hX : K_X p s m args meth c cX9_layTwo 12 WL_ RX9 D aC A) (hr : meth.sig.returnType = none) (x1 : Int32) (x4 : Int32) (x5 : Int32) (x6 : Int32) (x7 : Int32) (x9 : Int32) (k0 : Int32) (s_o : Ob_T) (h : f_X9_layTwo_J172 x1 x4 x5 x6 x7 x9 k0 s_o = some out) (H : Heap) (locs : List Loc) (ls : Array Slot) (hZ : K_S D A s (wd_X9 aC a_o s_o) H locs) (hl : lv_has ls 12 [(0, .ref (a_o 0)), (1, .int x1), (4, .int x4), (5, .int x5), (6, .int x6), (7, .int x7), (9, .int x9)]) : W p l e (R_m 2 47) s m args below meth c H locs 0 0 (MQ below (Q_W (none) D A (wd_X9 aC a_o out)) args s 0 0 A) (F0 m 172 ls [.int k0]) := by
  obtain ⟨hx, hb, hml, hown, hts, hK, hA, hlk⟩ := id hX
  unfold f_X9_layTwo_J172 at h
  refine lv_istore (lv' := [(8, .int k0), (0, .ref (a_o 0)), (1, .int x1), (4, .int x4), (5, .int x5), (6, .int x6), (7, .int x7), (9, .int x9)]) hx hb dX9_layTwo_172 hl (by decide) rfl (fun ls hl => ?_)
  refine lv_aload_n hx hb dX9_layTwo_174 rfl (lv_at hl 1 rfl) ?_
  refine lv_iload_n hx hb dX9_layTwo_175 rfl (lv_at hl 2 rfl) ?_
  refine lv_iload hx hb dX9_layTwo_176 (lv_at hl 0 rfl) ?_
  refine lv_if_eq (tgt := 186) hx hb dX9_layTwo_178 (by decide) (fun cd => ?_) (fun cd => ?_)
  · replace h := k_t cd h
    clear cd
    refine lv_iload hx hb dX9_layTwo_186 (lv_at hl 4 rfl) ?_
    exact t_X9_layTwo_J188 hX hr x4 x5 x6 x7 k0 x9 x1 x5 s_o h H locs ls hZ (lv_sub hl [1, 3, 4, 5, 6, 0, 7] rfl)
  · replace h := k_f cd h
    clear cd
    refine lv_iload hx hb dX9_layTwo_181 (lv_at hl 3 rfl) ?_
    refine lv_goto (tgt := 188) hx hb dX9_layTwo_183 (by decide) ?_
    exact t_X9_layTwo_J188 hX hr x4 x5 x6 x7 k0 x9 x1 x4 s_o h H locs ls hZ (lv_sub hl [1, 3, 4, 5, 6, 0, 7] rfl)
set_option maxHeartbeats 4000000 in
set_option maxRecDepth 100000 in
theorem t_X9_layTwo_J132 {p : Program} {l : Launch} {e : Env} {s : State} {m : MethodId} {args : Array Value} {below : List Frame} {meth : Method} {c : Code} {D : va_G} {aC : Nat → ClassId} {A : Nat → Prop} {a_o : Nat → Nat} {out : Ob_T} (hX : K_X p s m args meth c cX9_layTwo 12 WL_ RX9 D aC A) (hr : meth.sig.returnType = none) (x1 : Int32) (x4 : Int32) (x5 : Int32) (x6 : Int32) (x7 : Int32) (x9 : Int32) (s_o : Ob_T) (h : f_X9_layTwo_J132 x1 x4 x5 x6 x7 x9 s_o = some out) (H : Heap) (locs : List Loc) (ls : Array Slot) (hZ : K_S D A s (wd_X9 aC a_o s_o) H locs) (hl : lv_has ls 12 [(0, .ref (a_o 0)), (1, .int x1), (4, .int x4), (5, .int x5), (6, .int x6), (7, .int x7), (9, .int x9)]) : W p l e (R_m 2 47) s m args below meth c H locs 0 0 (MQ below (Q_W (none) D A (wd_X9 aC a_o out)) args s 0 0 A) (F0 m 132 ls []) := by
  obtain ⟨hx, hb, hml, hown, hts, hK, hA, hlk⟩ := id hX
  unfold f_X9_layTwo_J132 at h
  refine lv_aload_n hx hb dX9_layTwo_132 rfl (lv_at hl 0 rfl) ?_
  refine lv_iload hx hb dX9_layTwo_133 (lv_at hl 2 rfl) ?_
  obtain ⟨u10, hu, h⟩ := k_bd h
  refine k_vRs (As := [.int x4]) (rest := []) (v := some (.int u10)) (st1 := [.int u10]) hX hl.1 hZ (c_X9_longOf (a_o := a_o) s_o x4 hu) (gv_ wm_79 wm_81 wm_82 wm_11 wm_80) rfl hd_X9_longOf ⟨rfl, rfl⟩ 9 0 rfl rfl rfl rfl rfl dX9_layTwo_135 rfl ⟨rfl, rfl⟩ (fun locs hZ => ?_)
  clear hu
  refine lv_iload hx hb dX9_layTwo_138 (lv_at hl 4 rfl) ?_
  refine lv_isub hx hb dX9_layTwo_140 ?_
  refine lv_iload hx hb dX9_layTwo_141 (lv_at hl 6 rfl) ?_
  refine lv_isub hx hb dX9_layTwo_143 ?_
  refine lv_istore (lv' := [(10, .int ((u10 - x6) - x9)), (0, .ref (a_o 0)), (1, .int x1), (4, .int x4), (5, .int x5), (6, .int x6), (7, .int x7), (9, .int x9)]) hx hb dX9_layTwo_144 hl (by decide) rfl (fun ls hl => ?_)
  refine lv_aload_n hx hb dX9_layTwo_146 rfl (lv_at hl 1 rfl) ?_
  refine lv_iload hx hb dX9_layTwo_147 (lv_at hl 4 rfl) ?_
  obtain ⟨u11, hu, h⟩ := k_bd h
  refine k_vRs (As := [.int x5]) (rest := []) (v := some (.int u11)) (st1 := [.int u11]) hX hl.1 hZ (c_X9_longOf (a_o := a_o) s_o x5 hu) (gv_ wm_79 wm_81 wm_82 wm_11 wm_80) rfl hd_X9_longOf ⟨rfl, rfl⟩ 9 0 rfl rfl rfl rfl rfl dX9_layTwo_149 rfl ⟨rfl, rfl⟩ (fun locs hZ => ?_)
  clear hu
  refine lv_iload hx hb dX9_layTwo_152 (lv_at hl 6 rfl) ?_
  refine lv_isub hx hb dX9_layTwo_154 ?_
  refine lv_iload hx hb dX9_layTwo_155 (lv_at hl 7 rfl) ?_
  refine lv_isub hx hb dX9_layTwo_157 ?_
  refine lv_istore (lv' := [(11, .int ((u11 - x7) - x9)), (10, .int ((u10 - x6) - x9)), (0, .ref (a_o 0)), (1, .int x1), (4, .int x4), (5, .int x5), (6, .int x6), (7, .int x7), (9, .int x9)]) hx hb dX9_layTwo_158 hl (by decide) rfl (fun ls hl => ?_)
  refine lv_iload hx hb dX9_layTwo_160 (lv_at hl 1 rfl) ?_
  refine lv_iload hx hb dX9_layTwo_162 (lv_at hl 0 rfl) ?_
  refine lv_icmp_lt (tgt := 171) hx hb dX9_layTwo_164 (by decide) (fun cd => ?_) (fun cd => ?_)
  · replace h := k_t cd h
    clear cd
    refine lv_iconst (v := 0) hx hb dX9_layTwo_171 (by decide) ?_
    exact t_X9_layTwo_J172 hX hr x1 x4 x5 x6 x7 x9 (0 : Int32) s_o h H locs ls hZ (lv_sub hl [2, 3, 4, 5, 6, 7, 8] rfl)
  · replace h := k_f cd h
    clear cd
    refine lv_iconst (v := 1) hx hb dX9_layTwo_167 (by decide) ?_
    refine lv_goto (tgt := 172) hx hb dX9_layTwo_168 (by decide) ?_
    exact t_X9_layTwo_J172 hX hr x1 x4 x5 x6 x7 x9 (1 : Int32) s_o h H locs ls hZ (lv_sub hl [2, 3, 4, 5, 6, 7, 8] rfl)
set_option maxHeartbeats 4000000 in
set_option maxRecDepth 100000 in
theorem t_X9_layTwo_J116 {p : Program} {l : Launch} {e : Env} {s : State} {m : MethodId} {args : Array Value} {below : List Frame} {meth : Method} {c : Code} {D : va_G} {aC : Nat → ClassId} {A : Nat → Prop} {a_o : Nat → Nat} {out : Ob_T} (hX : K_X p s m args meth c cX9_layTwo 12 WL_ RX9 D aC A) (hr : meth.sig.returnType = none) (x1 : Int32) (x2 : Int32) (x4 : Int32) (x5 : Int32) (x6 : Int32) (x7 : Int32) (k0 : Int32) (s_o : Ob_T) (h : f_X9_layTwo_J116 x1 x2 x4 x5 x6 x7 k0 s_o = some out) (H : Heap) (locs : List Loc) (ls : Array Slot) (hZ : K_S D A s (wd_X9 aC a_o s_o) H locs) (hl : lv_has ls 12 [(0, .ref (a_o 0)), (1, .int x1), (2, .int x2), (4, .int x4), (5, .int x5), (6, .int x6), (7, .int x7)]) : W p l e (R_m 2 47) s m args below meth c H locs 0 0 (MQ below (Q_W (none) D A (wd_X9 aC a_o out)) args s 0 0 A) (F0 m 116 ls [.int k0]) := by
  obtain ⟨hx, hb, hml, hown, hts, hK, hA, hlk⟩ := id hX
  unfold f_X9_layTwo_J116 at h
  refine lv_istore (lv' := [(9, .int k0), (0, .ref (a_o 0)), (1, .int x1), (2, .int x2), (4, .int x4), (5, .int x5), (6, .int x6), (7, .int x7)]) hx hb dX9_layTwo_116 hl (by decide) rfl (fun ls hl => ?_)
  refine lv_iload_n hx hb dX9_layTwo_118 rfl (lv_at hl 3 rfl) ?_
  refine lv_if_eq (tgt := 132) hx hb dX9_layTwo_119 (by decide) (fun cd => ?_) (fun cd => ?_)
  · replace h := k_t cd h
    clear cd
    exact t_X9_layTwo_J132 hX hr x1 x4 x5 x6 x7 k0 s_o h H locs ls hZ (lv_sub hl [1, 2, 4, 5, 6, 7, 0] rfl)
  · replace h := k_f cd h
    clear cd
    refine lv_aload_n hx hb dX9_layTwo_122 rfl (lv_at hl 1 rfl) ?_
    refine lv_iload_n hx hb dX9_layTwo_123 rfl (lv_at hl 2 rfl) ?_
    refine lv_sipush (v := 20004) hx hb dX9_layTwo_124 (by decide) ?_
    refine lv_iload_n hx hb dX9_layTwo_127 rfl (lv_at hl 2 rfl) ?_
    refine lv_iadd hx hb dX9_layTwo_128 ?_
    obtain ⟨u15, hu, h⟩ := k_bd h
    refine k_vWs (As := [.int x1, .int ((20004 : Int32) + x1)]) (rest := []) (v := none) (st1 := []) hX hl.1 hZ (c_X9_layExtent (a_o := a_o) s_o x1 ((20004 : Int32) + x1) hu) (gv_ wm_67 wm_69 wm_70 wm_11 wm_68) rfl hd_X9_layExtent ⟨rfl, rfl⟩ 9 0 rfl rfl rfl rfl rfl dX9_layTwo_129 rfl ⟨rfl, rfl⟩ rfl (fun H locs hZ => ?_)
    clear hu
    exact t_X9_layTwo_J132 hX hr x1 x4 x5 x6 x7 k0 u15 h H locs ls hZ (lv_sub hl [1, 2, 4, 5, 6, 7, 0] rfl)
set_option maxHeartbeats 4000000 in
set_option maxRecDepth 100000 in
theorem t_X9_layTwo_J104 {p : Program} {l : Launch} {e : Env} {s : State} {m : MethodId} {args : Array Value} {below : List Frame} {meth : Method} {c : Code} {D : va_G} {aC : Nat → ClassId} {A : Nat → Prop} {a_o : Nat → Nat} {out : Ob_T} (hX : K_X p s m args meth c cX9_layTwo 12 WL_ RX9 D aC A) (hr : meth.sig.returnType = none) (x1 : Int32) (x2 : Int32) (x4 : Int32) (x5 : Int32) (x6 : Int32) (x7 : Int32) (k1 : Int32) (k2 : Int32) (k3 : Int32) (k4 : Int32) (s_o : Ob_T) (h : f_X9_layTwo_J104 x1 x2 x4 x5 x6 x7 k1 k2 k3 k4 s_o = some out) (H : Heap) (locs : List Loc) (ls : Array Slot) (hZ : K_S D A s (wd_X9 aC a_o s_o) H locs) (hl : lv_has ls 12 [(0, .ref (a_o 0)), (1, .int x1), (2, .int x2), (4, .int x4), (5, .int x5), (6, .int x6), (7, .int x7)]) : W p l e (R_m 2 47) s m args below meth c H locs 0 0 (MQ below (Q_W (none) D A (wd_X9 aC a_o out)) args s 0 0 A) (F0 m 104 ls [.int k4, .int k3, .int k2, .int k1, .ref (a_o 0)]) := by
  obtain ⟨hx, hb, hml, hown, hts, hK, hA, hlk⟩ := id hX
  unfold f_X9_layTwo_J104 at h
  obtain ⟨u9, hu, h⟩ := k_bd h
  refine k_vWs (As := [.int k1, .int k2, .int k3, .int k4]) (rest := []) (v := none) (st1 := []) hX hl.1 hZ (c_X9_layExtents (a_o := a_o) s_o k1 k2 k3 k4 hu) (gv_ wm_75 wm_77 wm_78 wm_11 wm_76) rfl hd_X9_layExtents ⟨rfl, rfl⟩ 9 0 rfl rfl rfl rfl rfl dX9_layTwo_104 rfl ⟨rfl, rfl⟩ rfl (fun H locs hZ => ?_)
  clear hu
  refine lv_iload_n hx hb dX9_layTwo_107 rfl (lv_at hl 2 rfl) ?_
  refine lv_if_eq (tgt := 115) hx hb dX9_layTwo_108 (by decide) (fun cd => ?_) (fun cd => ?_)
  · replace h := k_t cd h
    clear cd
    refine lv_iconst (v := 0) hx hb dX9_layTwo_115 (by decide) ?_
    exact t_X9_layTwo_J116 hX hr x1 x2 x4 x5 x6 x7 (0 : Int32) u9 h H locs ls hZ (lv_sub hl [0, 1, 2, 3, 4, 5, 6] rfl)
  · replace h := k_f cd h
    clear cd
    refine lv_iconst (v := 1) hx hb dX9_layTwo_111 (by decide) ?_
    refine lv_goto (tgt := 116) hx hb dX9_layTwo_112 (by decide) ?_
    exact t_X9_layTwo_J116 hX hr x1 x2 x4 x5 x6 x7 (1 : Int32) u9 h H locs ls hZ (lv_sub hl [0, 1, 2, 3, 4, 5, 6] rfl)
set_option maxHeartbeats 4000000 in
set_option maxRecDepth 100000 in
theorem t_X9_layTwo_J91 {p : Program} {l : Launch} {e : Env} {s : State} {m : MethodId} {args : Array Value} {below : List Frame} {meth : Method} {c : Code} {D : va_G} {aC : Nat → ClassId} {A : Nat → Prop} {a_o : Nat → Nat} {out : Ob_T} (hX : K_X p s m args meth c cX9_layTwo 12 WL_ RX9 D aC A) (hr : meth.sig.returnType = none) (x1 : Int32) (x2 : Int32) (x4 : Int32) (x5 : Int32) (x6 : Int32) (x7 : Int32) (x8 : Int32) (k1 : Int32) (k2 : Int32) (s_o : Ob_T) (h : f_X9_layTwo_J91 x1 x2 x4 x5 x6 x7 x8 k1 k2 s_o = some out) (H : Heap) (locs : List Loc) (ls : Array Slot) (hZ : K_S D A s (wd_X9 aC a_o s_o) H locs) (hl : lv_has ls 12 [(0, .ref (a_o 0)), (1, .int x1), (2, .int x2), (4, .int x4), (5, .int x5), (6, .int x6), (7, .int x7), (8, .int x8)]) : W p l e (R_m 2 47) s m args below meth c H locs 0 0 (MQ below (Q_W (none) D A (wd_X9 aC a_o out)) args s 0 0 A) (F0 m 91 ls [.int k2, .int k1, .ref (a_o 0)]) := by
  obtain ⟨hx, hb, hml, hown, hts, hK, hA, hlk⟩ := id hX
  unfold f_X9_layTwo_J91 at h
  refine lv_iconst (v := 0) hx hb dX9_layTwo_91 (by decide) ?_
  refine lv_iload hx hb dX9_layTwo_92 (lv_at hl 7 rfl) ?_
  refine lv_if_eq (tgt := 102) hx hb dX9_layTwo_94 (by decide) (fun cd => ?_) (fun cd => ?_)
  · replace h := k_t cd h
    clear cd
    refine lv_iload hx hb dX9_layTwo_102 (lv_at hl 6 rfl) ?_
    exact t_X9_layTwo_J104 hX hr x1 x2 x4 x5 x6 x7 k1 k2 (0 : Int32) x7 s_o h H locs ls hZ (lv_sub hl [0, 1, 2, 3, 4, 5, 6] rfl)
  · replace h := k_f cd h
    clear cd
    refine lv_iload hx hb dX9_layTwo_97 (lv_at hl 5 rfl) ?_
    refine lv_goto (tgt := 104) hx hb dX9_layTwo_99 (by decide) ?_
    exact t_X9_layTwo_J104 hX hr x1 x2 x4 x5 x6 x7 k1 k2 (0 : Int32) x6 s_o h H locs ls hZ (lv_sub hl [0, 1, 2, 3, 4, 5, 6] rfl)
set_option maxHeartbeats 4000000 in
set_option maxRecDepth 100000 in
theorem t_X9_layTwo_J75 {p : Program} {l : Launch} {e : Env} {s : State} {m : MethodId} {args : Array Value} {below : List Frame} {meth : Method} {c : Code} {D : va_G} {aC : Nat → ClassId} {A : Nat → Prop} {a_o : Nat → Nat} {out : Ob_T} (hX : K_X p s m args meth c cX9_layTwo 12 WL_ RX9 D aC A) (hr : meth.sig.returnType = none) (x1 : Int32) (x2 : Int32) (x4 : Int32) (x5 : Int32) (x6 : Int32) (x7 : Int32) (k0 : Int32) (s_o : Ob_T) (h : f_X9_layTwo_J75 x1 x2 x4 x5 x6 x7 k0 s_o = some out) (H : Heap) (locs : List Loc) (ls : Array Slot) (hZ : K_S D A s (wd_X9 aC a_o s_o) H locs) (hl : lv_has ls 12 [(0, .ref (a_o 0)), (1, .int x1), (2, .int x2), (4, .int x4), (5, .int x5), (6, .int x6), (7, .int x7)]) : W p l e (R_m 2 47) s m args below meth c H locs 0 0 (MQ below (Q_W (none) D A (wd_X9 aC a_o out)) args s 0 0 A) (F0 m 75 ls [.int k0]) := by
  obtain ⟨hx, hb, hml, hown, hts, hK, hA, hlk⟩ := id hX
  unfold f_X9_layTwo_J75 at h
  refine lv_istore (lv' := [(8, .int k0), (0, .ref (a_o 0)), (1, .int x1), (2, .int x2), (4, .int x4), (5, .int x5), (6, .int x6), (7, .int x7)]) hx hb dX9_layTwo_75 hl (by decide) rfl (fun ls hl => ?_)
  refine lv_aload_n hx hb dX9_layTwo_77 rfl (lv_at hl 1 rfl) ?_
  refine lv_iload_n hx hb dX9_layTwo_78 rfl (lv_at hl 2 rfl) ?_
  refine lv_iload hx hb dX9_layTwo_79 (lv_at hl 0 rfl) ?_
  refine lv_if_eq (tgt := 89) hx hb dX9_layTwo_81 (by decide) (fun cd => ?_) (fun cd => ?_)
  · replace h := k_t cd h
    clear cd
    refine lv_iload hx hb dX9_layTwo_89 (lv_at hl 5 rfl) ?_
    exact t_X9_layTwo_J91 hX hr x1 x2 x4 x5 x6 x7 k0 x1 x5 s_o h H locs ls hZ (lv_sub hl [1, 2, 3, 4, 5, 6, 7, 0] rfl)
  · replace h := k_f cd h
    clear cd
    refine lv_iload hx hb dX9_layTwo_84 (lv_at hl 4 rfl) ?_
    refine lv_goto (tgt := 91) hx hb dX9_layTwo_86 (by decide) ?_
    exact t_X9_layTwo_J91 hX hr x1 x2 x4 x5 x6 x7 k0 x1 x4 s_o h H locs ls hZ (lv_sub hl [1, 2, 3, 4, 5, 6, 7, 0] rfl)
set_option maxHeartbeats 4000000 in
set_option maxRecDepth 100000 in
theorem c_X9_layTwo {l : Launch} {D : va_G} {aC : Nat → ClassId} {a_o : Nat → Nat} (s_o : Ob_T) (x1 : Int32) (x2 : Int32) {out : Ob_T} (h : f_X9_layTwo s_o x1 x2 = some out) : M_W l yX9_layTwo wlX9_layTwo 2 47 D aC [.ref (a_o 0), .int x1, .int x2] (wd_X9 aC a_o s_o) (none) (wd_X9 aC a_o out) := by
  refine k_entW (cc := cX9_layTwo) (ret := none) (maxL := 12) (own := RX9) (by decide) rfl rfl rfl ?_
  intro p e s m below meth c A ls hX hr hZ hl
  have hl : lv_has ls 12 [(0, .ref (a_o 0)), (1, .int x1), (2, .int x2)] := hl
  generalize ([.ref (a_o 0), .int x1, .int x2] : List Value).toArray = args at hX ⊢
  obtain ⟨hx, hb, hml, hown, hts, hK, hA, hlk⟩ := id hX
  unfold f_X9_layTwo at h
  generalize s.heap = H at hZ ⊢
  generalize ([] : List Loc) = locs at hZ ⊢
  refine lv_bipush (v := 15) hx hb dX9_layTwo_0 (by decide) ?_
  refine lv_iload_n hx hb dX9_layTwo_2 rfl (lv_at hl 1 rfl) ?_
  refine lv_imul hx hb dX9_layTwo_3 ?_
  refine lv_istore_n (lv' := [(3, .int ((15 : Int32) * x1)), (0, .ref (a_o 0)), (1, .int x1), (2, .int x2)]) hx hb dX9_layTwo_4 rfl hl (by decide) rfl (fun ls hl => ?_)
  refine lv_aload_n hx hb dX9_layTwo_5 rfl (lv_at hl 1 rfl) ?_
  refine k_get hX hZ.1 0 9 rfl rfl iw_X9 1 rfl (wm_31) (v := .ref (a_o 2)) rfl dX9_layTwo_6 ?_
  refine lv_iload_n hx hb dX9_layTwo_9 rfl (lv_at hl 0 rfl) ?_
  refine lv_iconst (v := 1) hx hb dX9_layTwo_10 (by decide) ?_
  refine lv_iadd hx hb dX9_layTwo_11 ?_
  refine k_iald hX hZ.1 2 rfl h dX9_layTwo_12 (fun v1 h => ?_)
  refine lv_istore (lv' := [(4, .int v1), (3, .int ((15 : Int32) * x1)), (0, .ref (a_o 0)), (1, .int x1), (2, .int x2)]) hx hb dX9_layTwo_13 hl (by decide) rfl (fun ls hl => ?_)
  refine lv_aload_n hx hb dX9_layTwo_15 rfl (lv_at hl 2 rfl) ?_
  refine k_get hX hZ.1 0 9 rfl rfl iw_X9 1 rfl (wm_31) (v := .ref (a_o 2)) rfl dX9_layTwo_16 ?_
  refine lv_iload_n hx hb dX9_layTwo_19 rfl (lv_at hl 1 rfl) ?_
  refine lv_iconst (v := 2) hx hb dX9_layTwo_20 (by decide) ?_
  refine lv_iadd hx hb dX9_layTwo_21 ?_
  refine k_iald hX hZ.1 2 rfl h dX9_layTwo_22 (fun v2 h => ?_)
  refine lv_istore (lv' := [(5, .int v2), (4, .int v1), (3, .int ((15 : Int32) * x1)), (0, .ref (a_o 0)), (1, .int x1), (2, .int x2)]) hx hb dX9_layTwo_23 hl (by decide) rfl (fun ls hl => ?_)
  refine lv_aload_n hx hb dX9_layTwo_25 rfl (lv_at hl 3 rfl) ?_
  refine lv_iload hx hb dX9_layTwo_26 (lv_at hl 1 rfl) ?_
  obtain ⟨u3, hu, h⟩ := k_bd h
  refine k_vRs (As := [.int v1]) (rest := []) (v := some (.int u3)) (st1 := [.int u3]) hX hl.1 hZ (c_X9_longOf (a_o := a_o) s_o v1 hu) (gv_ wm_79 wm_81 wm_82 wm_11 wm_80) rfl hd_X9_longOf ⟨rfl, rfl⟩ 9 0 rfl rfl rfl rfl rfl dX9_layTwo_28 rfl ⟨rfl, rfl⟩ (fun locs hZ => ?_)
  clear hu
  refine lv_aload_n hx hb dX9_layTwo_31 rfl (lv_at hl 3 rfl) ?_
  refine k_get hX hZ.1 0 9 rfl rfl iw_X9 1 rfl (wm_31) (v := .ref (a_o 2)) rfl dX9_layTwo_32 ?_
  refine lv_iload_n hx hb dX9_layTwo_35 rfl (lv_at hl 2 rfl) ?_
  refine lv_iconst (v := 3) hx hb dX9_layTwo_36 (by decide) ?_
  refine lv_iadd hx hb dX9_layTwo_37 ?_
  refine k_iald hX hZ.1 2 rfl h dX9_layTwo_38 (fun v4 h => ?_)
  obtain ⟨u5, hu, h⟩ := k_bd h
  refine k_sR (As := [.int u3, .int v4]) (rest := []) (wc := []) (v := some (.int u5)) (st1 := [.int u5]) hX hl.1 hZ (c_X9_frameOf  u3 v4 hu) (gs_ wm_83 wm_85 wm_11 wm_84) rfl hd_X9_frameOf ⟨rfl, rfl⟩ [] rfl rfl rfl rfl rfl dX9_layTwo_39 rfl ⟨rfl, rfl⟩ (fun locs hZ => ?_)
  clear hu
  refine lv_istore (lv' := [(6, .int u5), (5, .int v2), (4, .int v1), (3, .int ((15 : Int32) * x1)), (0, .ref (a_o 0)), (1, .int x1), (2, .int x2)]) hx hb dX9_layTwo_42 hl (by decide) rfl (fun ls hl => ?_)
  refine lv_aload_n hx hb dX9_layTwo_44 rfl (lv_at hl 4 rfl) ?_
  refine lv_iload hx hb dX9_layTwo_45 (lv_at hl 1 rfl) ?_
  obtain ⟨u6, hu, h⟩ := k_bd h
  refine k_vRs (As := [.int v2]) (rest := []) (v := some (.int u6)) (st1 := [.int u6]) hX hl.1 hZ (c_X9_longOf (a_o := a_o) s_o v2 hu) (gv_ wm_79 wm_81 wm_82 wm_11 wm_80) rfl hd_X9_longOf ⟨rfl, rfl⟩ 9 0 rfl rfl rfl rfl rfl dX9_layTwo_47 rfl ⟨rfl, rfl⟩ (fun locs hZ => ?_)
  clear hu
  refine lv_aload_n hx hb dX9_layTwo_50 rfl (lv_at hl 4 rfl) ?_
  refine k_get hX hZ.1 0 9 rfl rfl iw_X9 1 rfl (wm_31) (v := .ref (a_o 2)) rfl dX9_layTwo_51 ?_
  refine lv_iload_n hx hb dX9_layTwo_54 rfl (lv_at hl 3 rfl) ?_
  refine lv_iconst (v := 3) hx hb dX9_layTwo_55 (by decide) ?_
  refine lv_iadd hx hb dX9_layTwo_56 ?_
  refine k_iald hX hZ.1 2 rfl h dX9_layTwo_57 (fun v7 h => ?_)
  obtain ⟨u8, hu, h⟩ := k_bd h
  refine k_sR (As := [.int u6, .int v7]) (rest := []) (wc := []) (v := some (.int u8)) (st1 := [.int u8]) hX hl.1 hZ (c_X9_frameOf  u6 v7 hu) (gs_ wm_83 wm_85 wm_11 wm_84) rfl hd_X9_frameOf ⟨rfl, rfl⟩ [] rfl rfl rfl rfl rfl dX9_layTwo_58 rfl ⟨rfl, rfl⟩ (fun locs hZ => ?_)
  clear hu
  refine lv_istore (lv' := [(7, .int u8), (6, .int u5), (5, .int v2), (4, .int v1), (3, .int ((15 : Int32) * x1)), (0, .ref (a_o 0)), (1, .int x1), (2, .int x2)]) hx hb dX9_layTwo_61 hl (by decide) rfl (fun ls hl => ?_)
  refine lv_iload hx hb dX9_layTwo_63 (lv_at hl 1 rfl) ?_
  refine lv_iload hx hb dX9_layTwo_65 (lv_at hl 0 rfl) ?_
  refine lv_icmp_lt (tgt := 74) hx hb dX9_layTwo_67 (by decide) (fun cd => ?_) (fun cd => ?_)
  · replace h := k_t cd h
    clear cd
    refine lv_iconst (v := 0) hx hb dX9_layTwo_74 (by decide) ?_
    exact t_X9_layTwo_J75 hX hr x1 x2 v1 v2 u5 u8 (0 : Int32) s_o h H locs ls hZ (lv_sub hl [5, 6, 7, 3, 2, 1, 0] rfl)
  · replace h := k_f cd h
    clear cd
    refine lv_iconst (v := 1) hx hb dX9_layTwo_70 (by decide) ?_
    refine lv_goto (tgt := 75) hx hb dX9_layTwo_71 (by decide) ?_
    exact t_X9_layTwo_J75 hX hr x1 x2 v1 v2 u5 u8 (1 : Int32) s_o h H locs ls hZ (lv_sub hl [5, 6, 7, 3, 2, 1, 0] rfl)
