def wlX9_reckon : List Cond := .code yX9_reckon cX9_reckon 8 none :: WL_
theorem hd_X9_reckon : yX9_reckon.cls = RX9 ∧ yX9_reckon.cls ≠ "java/lang/invoke/MethodHandle" ∧ yX9_reckon.cls ≠ "java/lang/invoke/VarHandle" ∧ (parseMethodDescriptor yX9_reckon.desc).map (fun d => d.parameters.length) = some 1 := by decide +kernel
theorem dX9_reckon_0 : decode cX9_reckon 0 = .ok (.bipush 15, 2) := by decide +kernel
theorem dX9_reckon_2 : decode cX9_reckon 2 = .ok (.iload_n 1, 1) := by decide +kernel
theorem dX9_reckon_3 : decode cX9_reckon 3 = .ok (.imul, 1) := by decide +kernel
theorem dX9_reckon_4 : decode cX9_reckon 4 = .ok (.istore_n 2, 1) := by decide +kernel
theorem dX9_reckon_5 : decode cX9_reckon 5 = .ok (.aload_n 0, 1) := by decide +kernel
theorem dX9_reckon_6 : decode cX9_reckon 6 = .ok (.getfield 13, 3) := by decide +kernel
theorem dX9_reckon_9 : decode cX9_reckon 9 = .ok (.iload_n 2, 1) := by decide +kernel
theorem dX9_reckon_10 : decode cX9_reckon 10 = .ok (.iconst 0, 1) := by decide +kernel
theorem dX9_reckon_11 : decode cX9_reckon 11 = .ok (.iadd, 1) := by decide +kernel
theorem dX9_reckon_12 : decode cX9_reckon 12 = .ok (.iaload, 1) := by decide +kernel
theorem dX9_reckon_13 : decode cX9_reckon 13 = .ok (.istore_n 3, 1) := by decide +kernel
theorem dX9_reckon_14 : decode cX9_reckon 14 = .ok (.aload_n 0, 1) := by decide +kernel
theorem dX9_reckon_15 : decode cX9_reckon 15 = .ok (.getfield 13, 3) := by decide +kernel
theorem dX9_reckon_18 : decode cX9_reckon 18 = .ok (.iload_n 2, 1) := by decide +kernel
theorem dX9_reckon_19 : decode cX9_reckon 19 = .ok (.iconst 1, 1) := by decide +kernel
theorem dX9_reckon_20 : decode cX9_reckon 20 = .ok (.iadd, 1) := by decide +kernel
theorem dX9_reckon_21 : decode cX9_reckon 21 = .ok (.iaload, 1) := by decide +kernel
theorem dX9_reckon_22 : decode cX9_reckon 22 = .ok (.istore 4, 2) := by decide +kernel
theorem dX9_reckon_24 : decode cX9_reckon 24 = .ok (.aload_n 0, 1) := by decide +kernel
theorem dX9_reckon_25 : decode cX9_reckon 25 = .ok (.iconst 0, 1) := by decide +kernel
theorem dX9_reckon_26 : decode cX9_reckon 26 = .ok (.putfield 234, 3) := by decide +kernel
theorem dX9_reckon_29 : decode cX9_reckon 29 = .ok (.aload_n 0, 1) := by decide +kernel
theorem dX9_reckon_30 : decode cX9_reckon 30 = .ok (.iconst 0, 1) := by decide +kernel
theorem dX9_reckon_31 : decode cX9_reckon 31 = .ok (.putfield 237, 3) := by decide +kernel
theorem dX9_reckon_34 : decode cX9_reckon 34 = .ok (.iload_n 3, 1) := by decide +kernel
theorem dX9_reckon_35 : decode cX9_reckon 35 = .ok (.iconst 2, 1) := by decide +kernel
theorem dX9_reckon_36 : decode cX9_reckon 36 = .ok (.if_icmp .ne 129, 3) := by decide +kernel
theorem dX9_reckon_39 : decode cX9_reckon 39 = .ok (.aload_n 0, 1) := by decide +kernel
theorem dX9_reckon_40 : decode cX9_reckon 40 = .ok (.getfield 13, 3) := by decide +kernel
theorem dX9_reckon_43 : decode cX9_reckon 43 = .ok (.iload_n 2, 1) := by decide +kernel
theorem dX9_reckon_44 : decode cX9_reckon 44 = .ok (.iconst 2, 1) := by decide +kernel
theorem dX9_reckon_45 : decode cX9_reckon 45 = .ok (.iadd, 1) := by decide +kernel
theorem dX9_reckon_46 : decode cX9_reckon 46 = .ok (.iaload, 1) := by decide +kernel
theorem dX9_reckon_47 : decode cX9_reckon 47 = .ok (.istore 5, 2) := by decide +kernel
theorem dX9_reckon_49 : decode cX9_reckon 49 = .ok (.aload_n 0, 1) := by decide +kernel
theorem dX9_reckon_50 : decode cX9_reckon 50 = .ok (.iload 4, 2) := by decide +kernel
theorem dX9_reckon_52 : decode cX9_reckon 52 = .ok (.invokevirtual 199, 3) := by decide +kernel
theorem dX9_reckon_55 : decode cX9_reckon 55 = .ok (.aload_n 0, 1) := by decide +kernel
theorem dX9_reckon_56 : decode cX9_reckon 56 = .ok (.getfield 13, 3) := by decide +kernel
theorem dX9_reckon_59 : decode cX9_reckon 59 = .ok (.iload_n 2, 1) := by decide +kernel
theorem dX9_reckon_60 : decode cX9_reckon 60 = .ok (.iconst 3, 1) := by decide +kernel
theorem dX9_reckon_61 : decode cX9_reckon 61 = .ok (.iadd, 1) := by decide +kernel
theorem dX9_reckon_62 : decode cX9_reckon 62 = .ok (.iaload, 1) := by decide +kernel
theorem dX9_reckon_63 : decode cX9_reckon 63 = .ok (.invokestatic 203, 3) := by decide +kernel
theorem dX9_reckon_66 : decode cX9_reckon 66 = .ok (.istore 6, 2) := by decide +kernel
theorem dX9_reckon_68 : decode cX9_reckon 68 = .ok (.aload_n 0, 1) := by decide +kernel
theorem dX9_reckon_69 : decode cX9_reckon 69 = .ok (.iload 5, 2) := by decide +kernel
theorem dX9_reckon_71 : decode cX9_reckon 71 = .ok (.invokevirtual 199, 3) := by decide +kernel
theorem dX9_reckon_74 : decode cX9_reckon 74 = .ok (.aload_n 0, 1) := by decide +kernel
theorem dX9_reckon_75 : decode cX9_reckon 75 = .ok (.getfield 13, 3) := by decide +kernel
theorem dX9_reckon_78 : decode cX9_reckon 78 = .ok (.iload_n 2, 1) := by decide +kernel
theorem dX9_reckon_79 : decode cX9_reckon 79 = .ok (.iconst 3, 1) := by decide +kernel
theorem dX9_reckon_80 : decode cX9_reckon 80 = .ok (.iadd, 1) := by decide +kernel
theorem dX9_reckon_81 : decode cX9_reckon 81 = .ok (.iaload, 1) := by decide +kernel
theorem dX9_reckon_82 : decode cX9_reckon 82 = .ok (.invokestatic 203, 3) := by decide +kernel
theorem dX9_reckon_85 : decode cX9_reckon 85 = .ok (.istore 7, 2) := by decide +kernel
theorem dX9_reckon_87 : decode cX9_reckon 87 = .ok (.aload_n 0, 1) := by decide +kernel
theorem dX9_reckon_88 : decode cX9_reckon 88 = .ok (.sipush 20004, 3) := by decide +kernel
theorem dX9_reckon_91 : decode cX9_reckon 91 = .ok (.iload_n 1, 1) := by decide +kernel
theorem dX9_reckon_92 : decode cX9_reckon 92 = .ok (.iadd, 1) := by decide +kernel
theorem dX9_reckon_93 : decode cX9_reckon 93 = .ok (.invokevirtual 269, 3) := by decide +kernel
theorem dX9_reckon_96 : decode cX9_reckon 96 = .ok (.aload_n 0, 1) := by decide +kernel
theorem dX9_reckon_97 : decode cX9_reckon 97 = .ok (.iload 6, 2) := by decide +kernel
theorem dX9_reckon_99 : decode cX9_reckon 99 = .ok (.aload_n 0, 1) := by decide +kernel
theorem dX9_reckon_100 : decode cX9_reckon 100 = .ok (.iload 4, 2) := by decide +kernel
theorem dX9_reckon_102 : decode cX9_reckon 102 = .ok (.invokevirtual 199, 3) := by decide +kernel
theorem dX9_reckon_105 : decode cX9_reckon 105 = .ok (.if_icmp .ge 14, 3) := by decide +kernel
theorem dX9_reckon_108 : decode cX9_reckon 108 = .ok (.aload_n 0, 1) := by decide +kernel
theorem dX9_reckon_109 : decode cX9_reckon 109 = .ok (.iload 4, 2) := by decide +kernel
theorem dX9_reckon_111 : decode cX9_reckon 111 = .ok (.iload 6, 2) := by decide +kernel
theorem dX9_reckon_113 : decode cX9_reckon 113 = .ok (.invokevirtual 191, 3) := by decide +kernel
theorem dX9_reckon_116 : decode cX9_reckon 116 = .ok (.goto 4, 3) := by decide +kernel
theorem dX9_reckon_119 : decode cX9_reckon 119 = .ok (.iconst 1, 1) := by decide +kernel
theorem dX9_reckon_120 : decode cX9_reckon 120 = .ok (.invokevirtual 272, 3) := by decide +kernel
theorem dX9_reckon_123 : decode cX9_reckon 123 = .ok (.aload_n 0, 1) := by decide +kernel
theorem dX9_reckon_124 : decode cX9_reckon 124 = .ok (.iload 7, 2) := by decide +kernel
theorem dX9_reckon_126 : decode cX9_reckon 126 = .ok (.aload_n 0, 1) := by decide +kernel
theorem dX9_reckon_127 : decode cX9_reckon 127 = .ok (.iload 5, 2) := by decide +kernel
theorem dX9_reckon_129 : decode cX9_reckon 129 = .ok (.invokevirtual 199, 3) := by decide +kernel
theorem dX9_reckon_132 : decode cX9_reckon 132 = .ok (.if_icmp .ge 14, 3) := by decide +kernel
theorem dX9_reckon_135 : decode cX9_reckon 135 = .ok (.aload_n 0, 1) := by decide +kernel
theorem dX9_reckon_136 : decode cX9_reckon 136 = .ok (.iload 5, 2) := by decide +kernel
theorem dX9_reckon_138 : decode cX9_reckon 138 = .ok (.iload 7, 2) := by decide +kernel
theorem dX9_reckon_140 : decode cX9_reckon 140 = .ok (.invokevirtual 191, 3) := by decide +kernel
theorem dX9_reckon_143 : decode cX9_reckon 143 = .ok (.goto 4, 3) := by decide +kernel
theorem dX9_reckon_146 : decode cX9_reckon 146 = .ok (.iconst 1, 1) := by decide +kernel
theorem dX9_reckon_147 : decode cX9_reckon 147 = .ok (.invokevirtual 272, 3) := by decide +kernel
theorem dX9_reckon_150 : decode cX9_reckon 150 = .ok (.aload_n 0, 1) := by decide +kernel
theorem dX9_reckon_151 : decode cX9_reckon 151 = .ok (.invokevirtual 275, 3) := by decide +kernel
theorem dX9_reckon_154 : decode cX9_reckon 154 = .ok (.ifCond .eq 8, 3) := by decide +kernel
theorem dX9_reckon_157 : decode cX9_reckon 157 = .ok (.aload_n 0, 1) := by decide +kernel
theorem dX9_reckon_158 : decode cX9_reckon 158 = .ok (.iload_n 1, 1) := by decide +kernel
theorem dX9_reckon_159 : decode cX9_reckon 159 = .ok (.invokevirtual 278, 3) := by decide +kernel
theorem dX9_reckon_162 : decode cX9_reckon 162 = .ok (.goto 142, 3) := by decide +kernel
theorem dX9_reckon_165 : decode cX9_reckon 165 = .ok (.iload_n 3, 1) := by decide +kernel
theorem dX9_reckon_166 : decode cX9_reckon 166 = .ok (.iconst 5, 1) := by decide +kernel
theorem dX9_reckon_167 : decode cX9_reckon 167 = .ok (.if_icmp .eq 9, 3) := by decide +kernel
theorem dX9_reckon_170 : decode cX9_reckon 170 = .ok (.iload_n 3, 1) := by decide +kernel
theorem dX9_reckon_171 : decode cX9_reckon 171 = .ok (.bipush 6, 2) := by decide +kernel
theorem dX9_reckon_173 : decode cX9_reckon 173 = .ok (.if_icmp .ne 131, 3) := by decide +kernel
theorem dX9_reckon_176 : decode cX9_reckon 176 = .ok (.iload_n 3, 1) := by decide +kernel
theorem dX9_reckon_177 : decode cX9_reckon 177 = .ok (.bipush 6, 2) := by decide +kernel
theorem dX9_reckon_179 : decode cX9_reckon 179 = .ok (.if_icmp .ne 7, 3) := by decide +kernel
theorem dX9_reckon_182 : decode cX9_reckon 182 = .ok (.iconst 0, 1) := by decide +kernel
theorem dX9_reckon_183 : decode cX9_reckon 183 = .ok (.goto 20, 3) := by decide +kernel
theorem dX9_reckon_186 : decode cX9_reckon 186 = .ok (.aload_n 0, 1) := by decide +kernel
theorem dX9_reckon_187 : decode cX9_reckon 187 = .ok (.iload 4, 2) := by decide +kernel
theorem dX9_reckon_189 : decode cX9_reckon 189 = .ok (.invokevirtual 199, 3) := by decide +kernel
theorem dX9_reckon_192 : decode cX9_reckon 192 = .ok (.aload_n 0, 1) := by decide +kernel
theorem dX9_reckon_193 : decode cX9_reckon 193 = .ok (.getfield 13, 3) := by decide +kernel
theorem dX9_reckon_196 : decode cX9_reckon 196 = .ok (.iload_n 2, 1) := by decide +kernel
theorem dX9_reckon_197 : decode cX9_reckon 197 = .ok (.iconst 3, 1) := by decide +kernel
theorem dX9_reckon_198 : decode cX9_reckon 198 = .ok (.iadd, 1) := by decide +kernel
theorem dX9_reckon_199 : decode cX9_reckon 199 = .ok (.iaload, 1) := by decide +kernel
theorem dX9_reckon_200 : decode cX9_reckon 200 = .ok (.invokestatic 203, 3) := by decide +kernel
theorem dX9_reckon_203 : decode cX9_reckon 203 = .ok (.istore 5, 2) := by decide +kernel
theorem dX9_reckon_205 : decode cX9_reckon 205 = .ok (.iconst 0, 1) := by decide +kernel
theorem dX9_reckon_206 : decode cX9_reckon 206 = .ok (.istore 6, 2) := by decide +kernel
theorem dX9_reckon_208 : decode cX9_reckon 208 = .ok (.iload 6, 2) := by decide +kernel
theorem dX9_reckon_210 : decode cX9_reckon 210 = .ok (.iload_n 3, 1) := by decide +kernel
theorem dX9_reckon_211 : decode cX9_reckon 211 = .ok (.bipush 6, 2) := by decide +kernel
theorem dX9_reckon_213 : decode cX9_reckon 213 = .ok (.if_icmp .ne 11, 3) := by decide +kernel
theorem dX9_reckon_216 : decode cX9_reckon 216 = .ok (.aload_n 0, 1) := by decide +kernel
theorem dX9_reckon_217 : decode cX9_reckon 217 = .ok (.iload_n 1, 1) := by decide +kernel
theorem dX9_reckon_218 : decode cX9_reckon 218 = .ok (.invokevirtual 199, 3) := by decide +kernel
theorem dX9_reckon_221 : decode cX9_reckon 221 = .ok (.goto 4, 3) := by decide +kernel
theorem dX9_reckon_224 : decode cX9_reckon 224 = .ok (.iconst 1, 1) := by decide +kernel
theorem dX9_reckon_225 : decode cX9_reckon 225 = .ok (.if_icmp .ge 34, 3) := by decide +kernel
theorem dX9_reckon_228 : decode cX9_reckon 228 = .ok (.aload_n 0, 1) := by decide +kernel
theorem dX9_reckon_229 : decode cX9_reckon 229 = .ok (.iload_n 3, 1) := by decide +kernel
theorem dX9_reckon_230 : decode cX9_reckon 230 = .ok (.bipush 6, 2) := by decide +kernel
theorem dX9_reckon_232 : decode cX9_reckon 232 = .ok (.if_icmp .ne 13, 3) := by decide +kernel
theorem dX9_reckon_235 : decode cX9_reckon 235 = .ok (.aload_n 0, 1) := by decide +kernel
theorem dX9_reckon_236 : decode cX9_reckon 236 = .ok (.iload_n 1, 1) := by decide +kernel
theorem dX9_reckon_237 : decode cX9_reckon 237 = .ok (.iload 6, 2) := by decide +kernel
theorem dX9_reckon_239 : decode cX9_reckon 239 = .ok (.invokevirtual 191, 3) := by decide +kernel
theorem dX9_reckon_242 : decode cX9_reckon 242 = .ok (.goto 8, 3) := by decide +kernel
theorem dX9_reckon_245 : decode cX9_reckon 245 = .ok (.sipush 20004, 3) := by decide +kernel
theorem dX9_reckon_248 : decode cX9_reckon 248 = .ok (.iload_n 1, 1) := by decide +kernel
theorem dX9_reckon_249 : decode cX9_reckon 249 = .ok (.iadd, 1) := by decide +kernel
theorem dX9_reckon_250 : decode cX9_reckon 250 = .ok (.invokevirtual 269, 3) := by decide +kernel
theorem dX9_reckon_253 : decode cX9_reckon 253 = .ok (.iinc 6 1, 3) := by decide +kernel
theorem dX9_reckon_256 : decode cX9_reckon 256 = .ok (.goto (-48), 3) := by decide +kernel
theorem dX9_reckon_259 : decode cX9_reckon 259 = .ok (.iload 5, 2) := by decide +kernel
theorem dX9_reckon_261 : decode cX9_reckon 261 = .ok (.istore 6, 2) := by decide +kernel
theorem dX9_reckon_263 : decode cX9_reckon 263 = .ok (.iload 6, 2) := by decide +kernel
theorem dX9_reckon_265 : decode cX9_reckon 265 = .ok (.aload_n 0, 1) := by decide +kernel
theorem dX9_reckon_266 : decode cX9_reckon 266 = .ok (.iload 4, 2) := by decide +kernel
theorem dX9_reckon_268 : decode cX9_reckon 268 = .ok (.invokevirtual 199, 3) := by decide +kernel
theorem dX9_reckon_271 : decode cX9_reckon 271 = .ok (.if_icmp .ge 21, 3) := by decide +kernel
theorem dX9_reckon_274 : decode cX9_reckon 274 = .ok (.aload_n 0, 1) := by decide +kernel
theorem dX9_reckon_275 : decode cX9_reckon 275 = .ok (.aload_n 0, 1) := by decide +kernel
theorem dX9_reckon_276 : decode cX9_reckon 276 = .ok (.iload 4, 2) := by decide +kernel
theorem dX9_reckon_278 : decode cX9_reckon 278 = .ok (.iload 6, 2) := by decide +kernel
theorem dX9_reckon_280 : decode cX9_reckon 280 = .ok (.invokevirtual 191, 3) := by decide +kernel
theorem dX9_reckon_283 : decode cX9_reckon 283 = .ok (.invokevirtual 272, 3) := by decide +kernel
theorem dX9_reckon_286 : decode cX9_reckon 286 = .ok (.iinc 6 1, 3) := by decide +kernel
theorem dX9_reckon_289 : decode cX9_reckon 289 = .ok (.goto (-26), 3) := by decide +kernel
theorem dX9_reckon_292 : decode cX9_reckon 292 = .ok (.aload_n 0, 1) := by decide +kernel
theorem dX9_reckon_293 : decode cX9_reckon 293 = .ok (.invokevirtual 275, 3) := by decide +kernel
theorem dX9_reckon_296 : decode cX9_reckon 296 = .ok (.ifCond .eq 8, 3) := by decide +kernel
theorem dX9_reckon_299 : decode cX9_reckon 299 = .ok (.aload_n 0, 1) := by decide +kernel
theorem dX9_reckon_300 : decode cX9_reckon 300 = .ok (.iload_n 1, 1) := by decide +kernel
theorem dX9_reckon_301 : decode cX9_reckon 301 = .ok (.invokevirtual 281, 3) := by decide +kernel
theorem dX9_reckon_304 : decode cX9_reckon 304 = .ok (.return_, 1) := by decide +kernel
set_option maxHeartbeats 4000000 in
set_option maxRecDepth 100000 in
theorem t_X9_reckon_J250 {p : Program} {l : Launch} {e : Env} {s : State} {m : MethodId} {args : Array Value} {below : List Frame} {meth : Method} {c : Code} {D : va_G} {aC : Nat → ClassId} {A : Nat → Prop} {a_o : Nat → Nat} {out : Ob_T} {rec208 : (Int32 × Int32 × Int32 × Int32 × Int32 × Ob_T) → Option Ob_T} (hX : K_X p s m args meth c cX9_reckon 8 WL_ RX9 D aC A) (hr : meth.sig.returnType = none) (hrec208 : ∀ x : Int32 × Int32 × Int32 × Int32 × Int32 × Ob_T, rec208 x = some out → ∀ (H : Heap) (locs : List Loc) (ls : Array Slot), K_S D A s (wd_X9 aC a_o x.2.2.2.2.2) H locs → lv_has ls 8 [(0, .ref (a_o 0)), (1, .int x.1), (3, .int x.2.1), (4, .int x.2.2.1), (5, .int x.2.2.2.1), (6, .int x.2.2.2.2.1)] → W p l e (R_m 3 77) s m args below meth c H locs 0 0 (MQ below (Q_W (none) D A (wd_X9 aC a_o out)) args s 0 0 A) (F0 m 208 ls [])) (x1 : Int32) (x3 : Int32) (x4 : Int32) (x5 : Int32) (x6 : Int32) (k1 : Int32) (s_o : Ob_T) (h : f_X9_reckon_J250 rec208 x1 x3 x4 x5 x6 k1 s_o = some out) (H : Heap) (locs : List Loc) (ls : Array Slot) (hZ : K_S D A s (wd_X9 aC a_o s_o) H locs) (hl : lv_has ls 8 [(0, .ref (a_o 0)), (1, .int x1), (3, .int x3), (4, .int x4), (5, .int x5), (6, .int x6)]) : W p l e (R_m 3 77) s m args below meth c H locs 0 0 (MQ below (Q_W (none) D A (wd_X9 aC a_o out)) args s 0 0 A) (F0 m 250 ls [.int k1, .ref (a_o 0)]) := by
  obtain ⟨hx, hb, hml, hown, hts, hK, hA, hlk⟩ := id hX
  unfold f_X9_reckon_J250 at h
  obtain ⟨u8, hu, h⟩ := k_bd h
  refine k_vWs (As := [.int k1]) (rest := []) (v := none) (st1 := []) hX hl.1 hZ (c_X9_layLeft (a_o := a_o) s_o k1 hu) (gv_ wm_169 wm_171 wm_172 wm_11 wm_170) rfl hd_X9_layLeft ⟨rfl, rfl⟩ 9 0 rfl rfl rfl rfl rfl dX9_reckon_250 rfl ⟨rfl, rfl⟩ rfl (fun H locs hZ => ?_)
  clear hu
  refine lv_iinc (v := (x6 + (1 : Int32))) (lv' := [(6, .int (x6 + (1 : Int32))), (0, .ref (a_o 0)), (1, .int x1), (3, .int x3), (4, .int x4), (5, .int x5)]) hx hb dX9_reckon_253 hl (k := 5) rfl rfl (by decide) rfl (fun ls hl => ?_)
  refine lv_goto (tgt := 208) hx hb dX9_reckon_256 (by decide) ?_
  exact hrec208 (x1, x3, x4, x5, (x6 + (1 : Int32)), u8) h H locs ls hZ (lv_sub hl [1, 2, 3, 4, 5, 0] rfl)
set_option maxHeartbeats 4000000 in
set_option maxRecDepth 100000 in
theorem t_X9_reckon_J225 {p : Program} {l : Launch} {e : Env} {s : State} {m : MethodId} {args : Array Value} {below : List Frame} {meth : Method} {c : Code} {D : va_G} {aC : Nat → ClassId} {A : Nat → Prop} {a_o : Nat → Nat} {out : Ob_T} {k259 : Int32 → Int32 → Int32 → Ob_T → Option Ob_T} {rec208 : (Int32 × Int32 × Int32 × Int32 × Int32 × Ob_T) → Option Ob_T} (hX : K_X p s m args meth c cX9_reckon 8 WL_ RX9 D aC A) (hr : meth.sig.returnType = none) (hk259 : ∀ (y1 : Int32) (y4 : Int32) (y5 : Int32) (t_o : Ob_T), k259 y1 y4 y5 t_o = some out → ∀ (H : Heap) (locs : List Loc) (ls : Array Slot), K_S D A s (wd_X9 aC a_o t_o) H locs → lv_has ls 8 [(0, .ref (a_o 0)), (1, .int y1), (4, .int y4), (5, .int y5)] → W p l e (R_m 3 77) s m args below meth c H locs 0 0 (MQ below (Q_W (none) D A (wd_X9 aC a_o out)) args s 0 0 A) (F0 m 259 ls [])) (hrec208 : ∀ x : Int32 × Int32 × Int32 × Int32 × Int32 × Ob_T, rec208 x = some out → ∀ (H : Heap) (locs : List Loc) (ls : Array Slot), K_S D A s (wd_X9 aC a_o x.2.2.2.2.2) H locs → lv_has ls 8 [(0, .ref (a_o 0)), (1, .int x.1), (3, .int x.2.1), (4, .int x.2.2.1), (5, .int x.2.2.2.1), (6, .int x.2.2.2.2.1)] → W p l e (R_m 3 77) s m args below meth c H locs 0 0 (MQ below (Q_W (none) D A (wd_X9 aC a_o out)) args s 0 0 A) (F0 m 208 ls [])) (x1 : Int32) (x3 : Int32) (x4 : Int32) (x5 : Int32) (x6 : Int32) (k0 : Int32) (k1 : Int32) (s_o : Ob_T) (h : f_X9_reckon_J225 k259 rec208 x1 x3 x4 x5 x6 k0 k1 s_o = some out) (H : Heap) (locs : List Loc) (ls : Array Slot) (hZ : K_S D A s (wd_X9 aC a_o s_o) H locs) (hl : lv_has ls 8 [(0, .ref (a_o 0)), (1, .int x1), (3, .int x3), (4, .int x4), (5, .int x5), (6, .int x6)]) : W p l e (R_m 3 77) s m args below meth c H locs 0 0 (MQ below (Q_W (none) D A (wd_X9 aC a_o out)) args s 0 0 A) (F0 m 225 ls [.int k1, .int k0]) := by
  obtain ⟨hx, hb, hml, hown, hts, hK, hA, hlk⟩ := id hX
  unfold f_X9_reckon_J225 at h
  refine lv_icmp_ge (tgt := 259) hx hb dX9_reckon_225 (by decide) (fun cd => ?_) (fun cd => ?_)
  · replace h := k_t cd h
    clear cd
    exact hk259 x1 x4 x5 s_o h H locs ls hZ (lv_sub hl [0, 1, 3, 4] rfl)
  · replace h := k_f cd h
    clear cd
    refine lv_aload_n hx hb dX9_reckon_228 rfl (lv_at hl 0 rfl) ?_
    refine lv_iload_n hx hb dX9_reckon_229 rfl (lv_at hl 2 rfl) ?_
    refine lv_bipush (v := 6) hx hb dX9_reckon_230 (by decide) ?_
    refine lv_icmp_ne (tgt := 245) hx hb dX9_reckon_232 (by decide) (fun cd => ?_) (fun cd => ?_)
    · replace h := k_f cd h
      clear cd
      refine lv_sipush (v := 20004) hx hb dX9_reckon_245 (by decide) ?_
      refine lv_iload_n hx hb dX9_reckon_248 rfl (lv_at hl 1 rfl) ?_
      refine lv_iadd hx hb dX9_reckon_249 ?_
      exact t_X9_reckon_J250 hX hr hrec208 x1 x3 x4 x5 x6 ((20004 : Int32) + x1) s_o h H locs ls hZ (lv_sub hl [0, 1, 2, 3, 4, 5] rfl)
    · replace h := k_t cd h
      clear cd
      refine lv_aload_n hx hb dX9_reckon_235 rfl (lv_at hl 0 rfl) ?_
      refine lv_iload_n hx hb dX9_reckon_236 rfl (lv_at hl 1 rfl) ?_
      refine lv_iload hx hb dX9_reckon_237 (lv_at hl 5 rfl) ?_
      obtain ⟨u9, hu, h⟩ := k_bd h
      refine k_vRs (As := [.int x1, .int x6]) (rest := [.ref (a_o 0)]) (v := some (.int u9)) (st1 := [.int u9, .ref (a_o 0)]) hX hl.1 hZ (c_X9_extentOf (a_o := a_o) s_o x1 x6 hu) (gv_ wm_71 wm_73 wm_74 wm_11 wm_72) rfl hd_X9_extentOf ⟨rfl, rfl⟩ 9 0 rfl rfl rfl rfl rfl dX9_reckon_239 rfl ⟨rfl, rfl⟩ (fun locs hZ => ?_)
      clear hu
      refine lv_goto (tgt := 250) hx hb dX9_reckon_242 (by decide) ?_
      exact t_X9_reckon_J250 hX hr hrec208 x1 x3 x4 x5 x6 u9 s_o h H locs ls hZ (lv_sub hl [0, 1, 2, 3, 4, 5] rfl)
set_option maxHeartbeats 4000000 in
set_option maxRecDepth 100000 in
theorem t_X9_reckon_L208 {p : Program} {l : Launch} {e : Env} {s : State} {m : MethodId} {args : Array Value} {below : List Frame} {meth : Method} {c : Code} {D : va_G} {aC : Nat → ClassId} {A : Nat → Prop} {a_o : Nat → Nat} {out : Ob_T} {k259 : Int32 → Int32 → Int32 → Ob_T → Option Ob_T} {rec208 : (Int32 × Int32 × Int32 × Int32 × Int32 × Ob_T) → Option Ob_T} (hX : K_X p s m args meth c cX9_reckon 8 WL_ RX9 D aC A) (hr : meth.sig.returnType = none) (hk259 : ∀ (y1 : Int32) (y4 : Int32) (y5 : Int32) (t_o : Ob_T), k259 y1 y4 y5 t_o = some out → ∀ (H : Heap) (locs : List Loc) (ls : Array Slot), K_S D A s (wd_X9 aC a_o t_o) H locs → lv_has ls 8 [(0, .ref (a_o 0)), (1, .int y1), (4, .int y4), (5, .int y5)] → W p l e (R_m 3 77) s m args below meth c H locs 0 0 (MQ below (Q_W (none) D A (wd_X9 aC a_o out)) args s 0 0 A) (F0 m 259 ls [])) (hrec208 : ∀ x : Int32 × Int32 × Int32 × Int32 × Int32 × Ob_T, rec208 x = some out → ∀ (H : Heap) (locs : List Loc) (ls : Array Slot), K_S D A s (wd_X9 aC a_o x.2.2.2.2.2) H locs → lv_has ls 8 [(0, .ref (a_o 0)), (1, .int x.1), (3, .int x.2.1), (4, .int x.2.2.1), (5, .int x.2.2.2.1), (6, .int x.2.2.2.2.1)] → W p l e (R_m 3 77) s m args below meth c H locs 0 0 (MQ below (Q_W (none) D A (wd_X9 aC a_o out)) args s 0 0 A) (F0 m 208 ls [])) (x1 : Int32) (x3 : Int32) (x4 : Int32) (x5 : Int32) (x6 : Int32) (s_o : Ob_T) (h : f_X9_reckon_L208 k259 rec208 x1 x3 x4 x5 x6 s_o = some out) (H : Heap) (locs : List Loc) (ls : Array Slot) (hZ : K_S D A s (wd_X9 aC a_o s_o) H locs) (hl : lv_has ls 8 [(0, .ref (a_o 0)), (1, .int x1), (3, .int x3), (4, .int x4), (5, .int x5), (6, .int x6)]) : W p l e (R_m 3 77) s m args below meth c H locs 0 0 (MQ below (Q_W (none) D A (wd_X9 aC a_o out)) args s 0 0 A) (F0 m 208 ls []) := by
  obtain ⟨hx, hb, hml, hown, hts, hK, hA, hlk⟩ := id hX
  unfold f_X9_reckon_L208 at h
  refine lv_iload hx hb dX9_reckon_208 (lv_at hl 5 rfl) ?_
  refine lv_iload_n hx hb dX9_reckon_210 rfl (lv_at hl 2 rfl) ?_
  refine lv_bipush (v := 6) hx hb dX9_reckon_211 (by decide) ?_
  refine lv_icmp_ne (tgt := 224) hx hb dX9_reckon_213 (by decide) (fun cd => ?_) (fun cd => ?_)
  · replace h := k_f cd h
    clear cd
    refine lv_iconst (v := 1) hx hb dX9_reckon_224 (by decide) ?_
    exact t_X9_reckon_J225 hX hr hk259 hrec208 x1 x3 x4 x5 x6 x6 (1 : Int32) s_o h H locs ls hZ (lv_sub hl [0, 1, 2, 3, 4, 5] rfl)
  · replace h := k_t cd h
    clear cd
    refine lv_aload_n hx hb dX9_reckon_216 rfl (lv_at hl 0 rfl) ?_
    refine lv_iload_n hx hb dX9_reckon_217 rfl (lv_at hl 1 rfl) ?_
    obtain ⟨u10, hu, h⟩ := k_bd h
    refine k_vRs (As := [.int x1]) (rest := [.int x6]) (v := some (.int u10)) (st1 := [.int u10, .int x6]) hX hl.1 hZ (c_X9_longOf (a_o := a_o) s_o x1 hu) (gv_ wm_79 wm_81 wm_82 wm_11 wm_80) rfl hd_X9_longOf ⟨rfl, rfl⟩ 9 0 rfl rfl rfl rfl rfl dX9_reckon_218 rfl ⟨rfl, rfl⟩ (fun locs hZ => ?_)
    clear hu
    refine lv_goto (tgt := 225) hx hb dX9_reckon_221 (by decide) ?_
    exact t_X9_reckon_J225 hX hr hk259 hrec208 x1 x3 x4 x5 x6 x6 u10 s_o h H locs ls hZ (lv_sub hl [0, 1, 2, 3, 4, 5] rfl)
set_option maxHeartbeats 4000000 in
set_option maxRecDepth 100000 in
theorem t_X9_reckon_L263 {p : Program} {l : Launch} {e : Env} {s : State} {m : MethodId} {args : Array Value} {below : List Frame} {meth : Method} {c : Code} {D : va_G} {aC : Nat → ClassId} {A : Nat → Prop} {a_o : Nat → Nat} {out : Ob_T} {k292 : Int32 → Ob_T → Option Ob_T} {rec263 : (Int32 × Int32 × Int32 × Ob_T) → Option Ob_T} (hX : K_X p s m args meth c cX9_reckon 8 WL_ RX9 D aC A) (hr : meth.sig.returnType = none) (hk292 : ∀ (y1 : Int32) (t_o : Ob_T), k292 y1 t_o = some out → ∀ (H : Heap) (locs : List Loc) (ls : Array Slot), K_S D A s (wd_X9 aC a_o t_o) H locs → lv_has ls 8 [(0, .ref (a_o 0)), (1, .int y1)] → W p l e (R_m 3 77) s m args below meth c H locs 0 0 (MQ below (Q_W (none) D A (wd_X9 aC a_o out)) args s 0 0 A) (F0 m 292 ls [])) (hrec263 : ∀ x : Int32 × Int32 × Int32 × Ob_T, rec263 x = some out → ∀ (H : Heap) (locs : List Loc) (ls : Array Slot), K_S D A s (wd_X9 aC a_o x.2.2.2) H locs → lv_has ls 8 [(0, .ref (a_o 0)), (1, .int x.1), (4, .int x.2.1), (6, .int x.2.2.1)] → W p l e (R_m 3 77) s m args below meth c H locs 0 0 (MQ below (Q_W (none) D A (wd_X9 aC a_o out)) args s 0 0 A) (F0 m 263 ls [])) (x1 : Int32) (x4 : Int32) (x6 : Int32) (s_o : Ob_T) (h : f_X9_reckon_L263 k292 rec263 x1 x4 x6 s_o = some out) (H : Heap) (locs : List Loc) (ls : Array Slot) (hZ : K_S D A s (wd_X9 aC a_o s_o) H locs) (hl : lv_has ls 8 [(0, .ref (a_o 0)), (1, .int x1), (4, .int x4), (6, .int x6)]) : W p l e (R_m 3 77) s m args below meth c H locs 0 0 (MQ below (Q_W (none) D A (wd_X9 aC a_o out)) args s 0 0 A) (F0 m 263 ls []) := by
  obtain ⟨hx, hb, hml, hown, hts, hK, hA, hlk⟩ := id hX
  unfold f_X9_reckon_L263 at h
  refine lv_iload hx hb dX9_reckon_263 (lv_at hl 3 rfl) ?_
  refine lv_aload_n hx hb dX9_reckon_265 rfl (lv_at hl 0 rfl) ?_
  refine lv_iload hx hb dX9_reckon_266 (lv_at hl 2 rfl) ?_
  obtain ⟨u11, hu, h⟩ := k_bd h
  refine k_vRs (As := [.int x4]) (rest := [.int x6]) (v := some (.int u11)) (st1 := [.int u11, .int x6]) hX hl.1 hZ (c_X9_longOf (a_o := a_o) s_o x4 hu) (gv_ wm_79 wm_81 wm_82 wm_11 wm_80) rfl hd_X9_longOf ⟨rfl, rfl⟩ 9 0 rfl rfl rfl rfl rfl dX9_reckon_268 rfl ⟨rfl, rfl⟩ (fun locs hZ => ?_)
  clear hu
  refine lv_icmp_ge (tgt := 292) hx hb dX9_reckon_271 (by decide) (fun cd => ?_) (fun cd => ?_)
  · replace h := k_t cd h
    clear cd
    exact hk292 x1 s_o h H locs ls hZ (lv_sub hl [0, 1] rfl)
  · replace h := k_f cd h
    clear cd
    refine lv_aload_n hx hb dX9_reckon_274 rfl (lv_at hl 0 rfl) ?_
    refine lv_aload_n hx hb dX9_reckon_275 rfl (lv_at hl 0 rfl) ?_
    refine lv_iload hx hb dX9_reckon_276 (lv_at hl 2 rfl) ?_
    refine lv_iload hx hb dX9_reckon_278 (lv_at hl 3 rfl) ?_
    obtain ⟨u12, hu, h⟩ := k_bd h
    refine k_vRs (As := [.int x4, .int x6]) (rest := [.ref (a_o 0)]) (v := some (.int u12)) (st1 := [.int u12, .ref (a_o 0)]) hX hl.1 hZ (c_X9_extentOf (a_o := a_o) s_o x4 x6 hu) (gv_ wm_71 wm_73 wm_74 wm_11 wm_72) rfl hd_X9_extentOf ⟨rfl, rfl⟩ 9 0 rfl rfl rfl rfl rfl dX9_reckon_280 rfl ⟨rfl, rfl⟩ (fun locs hZ => ?_)
    clear hu
    obtain ⟨u13, hu, h⟩ := k_bd h
    refine k_vWs (As := [.int u12]) (rest := []) (v := none) (st1 := []) hX hl.1 hZ (c_X9_layRight (a_o := a_o) s_o u12 hu) (gv_ wm_173 wm_175 wm_176 wm_11 wm_174) rfl hd_X9_layRight ⟨rfl, rfl⟩ 9 0 rfl rfl rfl rfl rfl dX9_reckon_283 rfl ⟨rfl, rfl⟩ rfl (fun H locs hZ => ?_)
    clear hu
    refine lv_iinc (v := (x6 + (1 : Int32))) (lv' := [(6, .int (x6 + (1 : Int32))), (0, .ref (a_o 0)), (1, .int x1), (4, .int x4)]) hx hb dX9_reckon_286 hl (k := 3) rfl rfl (by decide) rfl (fun ls hl => ?_)
    refine lv_goto (tgt := 263) hx hb dX9_reckon_289 (by decide) ?_
    exact hrec263 (x1, x4, (x6 + (1 : Int32)), u13) h H locs ls hZ (lv_sub hl [1, 2, 3, 0] rfl)
set_option maxHeartbeats 4000000 in
set_option maxRecDepth 100000 in
theorem t_X9_reckon_J292 {p : Program} {l : Launch} {e : Env} {s : State} {m : MethodId} {args : Array Value} {below : List Frame} {meth : Method} {c : Code} {D : va_G} {aC : Nat → ClassId} {A : Nat → Prop} {a_o : Nat → Nat} {out : Ob_T} (hX : K_X p s m args meth c cX9_reckon 8 WL_ RX9 D aC A) (hr : meth.sig.returnType = none) (x1 : Int32) (s_o : Ob_T) (h : f_X9_reckon_J292 x1 s_o = some out) (H : Heap) (locs : List Loc) (ls : Array Slot) (hZ : K_S D A s (wd_X9 aC a_o s_o) H locs) (hl : lv_has ls 8 [(0, .ref (a_o 0)), (1, .int x1)]) : W p l e (R_m 3 77) s m args below meth c H locs 0 0 (MQ below (Q_W (none) D A (wd_X9 aC a_o out)) args s 0 0 A) (F0 m 292 ls []) := by
  obtain ⟨hx, hb, hml, hown, hts, hK, hA, hlk⟩ := id hX
  unfold f_X9_reckon_J292 at h
  refine lv_aload_n hx hb dX9_reckon_292 rfl (lv_at hl 0 rfl) ?_
  obtain ⟨u14, hu, h⟩ := k_bd h
  refine k_vWs (As := []) (rest := []) (v := some (.int u14.1)) (st1 := [.int u14.1]) hX hl.1 hZ (c_X9_isAlmostKnown (a_o := a_o) s_o hu) (gv_ wm_181 wm_183 wm_184 wm_11 wm_182) rfl hd_X9_isAlmostKnown ⟨rfl, rfl⟩ 9 0 rfl rfl rfl rfl rfl dX9_reckon_293 rfl ⟨rfl, rfl⟩ rfl (fun H locs hZ => ?_)
  clear hu
  refine lv_if_eq (tgt := 304) hx hb dX9_reckon_296 (by decide) (fun cd => ?_) (fun cd => ?_)
  · replace h := k_t cd h
    clear cd
    cases h
    exact k_vretW hX hr hZ dX9_reckon_304
  · replace h := k_f cd h
    clear cd
    refine lv_aload_n hx hb dX9_reckon_299 rfl (lv_at hl 0 rfl) ?_
    refine lv_iload_n hx hb dX9_reckon_300 rfl (lv_at hl 1 rfl) ?_
    obtain ⟨u15, hu, h⟩ := k_bd h
    refine k_vWs (As := [.int x1]) (rest := []) (v := none) (st1 := []) hX hl.1 hZ (c_X9_multiply (a_o := a_o) u14.2 x1 hu) (gv_ wm_177 wm_179 wm_180 wm_11 wm_178) rfl hd_X9_multiply ⟨rfl, rfl⟩ 9 0 rfl rfl rfl rfl rfl dX9_reckon_301 rfl ⟨rfl, rfl⟩ rfl (fun H locs hZ => ?_)
    clear hu
    cases h
    exact k_vretW hX hr hZ dX9_reckon_304
set_option maxHeartbeats 4000000 in
set_option maxRecDepth 100000 in
theorem t_X9_reckon_J259 {p : Program} {l : Launch} {e : Env} {s : State} {m : MethodId} {args : Array Value} {below : List Frame} {meth : Method} {c : Code} {D : va_G} {aC : Nat → ClassId} {A : Nat → Prop} {a_o : Nat → Nat} {out : Ob_T} (hX : K_X p s m args meth c cX9_reckon 8 WL_ RX9 D aC A) (hr : meth.sig.returnType = none) (x1 : Int32) (x4 : Int32) (x5 : Int32) (s_o : Ob_T) (h : f_X9_reckon_J259 x1 x4 x5 s_o = some out) (H : Heap) (locs : List Loc) (ls : Array Slot) (hZ : K_S D A s (wd_X9 aC a_o s_o) H locs) (hl : lv_has ls 8 [(0, .ref (a_o 0)), (1, .int x1), (4, .int x4), (5, .int x5)]) : W p l e (R_m 3 77) s m args below meth c H locs 0 0 (MQ below (Q_W (none) D A (wd_X9 aC a_o out)) args s 0 0 A) (F0 m 259 ls []) := by
  obtain ⟨hx, hb, hml, hown, hts, hK, hA, hlk⟩ := id hX
  unfold f_X9_reckon_J259 at h
  refine lv_iload hx hb dX9_reckon_259 (lv_at hl 3 rfl) ?_
  refine lv_istore (lv' := [(6, .int x5), (0, .ref (a_o 0)), (1, .int x1), (4, .int x4), (5, .int x5)]) hx hb dX9_reckon_261 hl (by decide) rfl (fun ls hl => ?_)
  exact Lp_ok (body := (fun (rec : (Int32 × Int32 × Int32 × Ob_T) → Option Ob_T) x => f_X9_reckon_L263 (fun y1 t_o => f_X9_reckon_J292 y1 t_o) rec x.1 x.2.1 x.2.2.1 x.2.2.2)) (out := out) (fun x => ∀ (H : Heap) (locs : List Loc) (ls : Array Slot), K_S D A s (wd_X9 aC a_o x.2.2.2) H locs → lv_has ls 8 [(0, .ref (a_o 0)), (1, .int x.1), (4, .int x.2.1), (6, .int x.2.2.1)] → W p l e (R_m 3 77) s m args below meth c H locs 0 0 (MQ below (Q_W (none) D A (wd_X9 aC a_o out)) args s 0 0 A) (F0 m 263 ls [])) (fun rec hrec x h H locs ls hZ hl => t_X9_reckon_L263 hX hr (fun y1 t_o h H locs ls hZ hl => t_X9_reckon_J292 hX hr y1 t_o h H locs ls hZ (lv_sub hl [0, 1] rfl)) hrec x.1 x.2.1 x.2.2.1 x.2.2.2 h H locs ls hZ hl) FU_ (x1, x4, x5, s_o) h H locs ls hZ (lv_sub hl [1, 2, 3, 0] rfl)
set_option maxHeartbeats 4000000 in
set_option maxRecDepth 100000 in
theorem t_X9_reckon_J203 {p : Program} {l : Launch} {e : Env} {s : State} {m : MethodId} {args : Array Value} {below : List Frame} {meth : Method} {c : Code} {D : va_G} {aC : Nat → ClassId} {A : Nat → Prop} {a_o : Nat → Nat} {out : Ob_T} (hX : K_X p s m args meth c cX9_reckon 8 WL_ RX9 D aC A) (hr : meth.sig.returnType = none) (x1 : Int32) (x3 : Int32) (x4 : Int32) (k0 : Int32) (s_o : Ob_T) (h : f_X9_reckon_J203 x1 x3 x4 k0 s_o = some out) (H : Heap) (locs : List Loc) (ls : Array Slot) (hZ : K_S D A s (wd_X9 aC a_o s_o) H locs) (hl : lv_has ls 8 [(0, .ref (a_o 0)), (1, .int x1), (3, .int x3), (4, .int x4)]) : W p l e (R_m 3 77) s m args below meth c H locs 0 0 (MQ below (Q_W (none) D A (wd_X9 aC a_o out)) args s 0 0 A) (F0 m 203 ls [.int k0]) := by
  obtain ⟨hx, hb, hml, hown, hts, hK, hA, hlk⟩ := id hX
  unfold f_X9_reckon_J203 at h
  refine lv_istore (lv' := [(5, .int k0), (0, .ref (a_o 0)), (1, .int x1), (3, .int x3), (4, .int x4)]) hx hb dX9_reckon_203 hl (by decide) rfl (fun ls hl => ?_)
  refine lv_iconst (v := 0) hx hb dX9_reckon_205 (by decide) ?_
  refine lv_istore (lv' := [(6, .int (0 : Int32)), (5, .int k0), (0, .ref (a_o 0)), (1, .int x1), (3, .int x3), (4, .int x4)]) hx hb dX9_reckon_206 hl (by decide) rfl (fun ls hl => ?_)
  exact Lp_ok (body := (fun (rec : (Int32 × Int32 × Int32 × Int32 × Int32 × Ob_T) → Option Ob_T) x => f_X9_reckon_L208 (fun y1 y4 y5 t_o => f_X9_reckon_J259 y1 y4 y5 t_o) rec x.1 x.2.1 x.2.2.1 x.2.2.2.1 x.2.2.2.2.1 x.2.2.2.2.2)) (out := out) (fun x => ∀ (H : Heap) (locs : List Loc) (ls : Array Slot), K_S D A s (wd_X9 aC a_o x.2.2.2.2.2) H locs → lv_has ls 8 [(0, .ref (a_o 0)), (1, .int x.1), (3, .int x.2.1), (4, .int x.2.2.1), (5, .int x.2.2.2.1), (6, .int x.2.2.2.2.1)] → W p l e (R_m 3 77) s m args below meth c H locs 0 0 (MQ below (Q_W (none) D A (wd_X9 aC a_o out)) args s 0 0 A) (F0 m 208 ls [])) (fun rec hrec x h H locs ls hZ hl => t_X9_reckon_L208 hX hr (fun y1 y4 y5 t_o h H locs ls hZ hl => t_X9_reckon_J259 hX hr y1 y4 y5 t_o h H locs ls hZ (lv_sub hl [0, 1, 2, 3] rfl)) hrec x.1 x.2.1 x.2.2.1 x.2.2.2.1 x.2.2.2.2.1 x.2.2.2.2.2 h H locs ls hZ hl) FU_ (x1, x3, x4, k0, (0 : Int32), s_o) h H locs ls hZ (lv_sub hl [2, 3, 4, 5, 1, 0] rfl)
set_option maxHeartbeats 4000000 in
set_option maxRecDepth 100000 in
theorem t_X9_reckon_J176 {p : Program} {l : Launch} {e : Env} {s : State} {m : MethodId} {args : Array Value} {below : List Frame} {meth : Method} {c : Code} {D : va_G} {aC : Nat → ClassId} {A : Nat → Prop} {a_o : Nat → Nat} {out : Ob_T} (hX : K_X p s m args meth c cX9_reckon 8 WL_ RX9 D aC A) (hr : meth.sig.returnType = none) (x1 : Int32) (x2 : Int32) (x3 : Int32) (x4 : Int32) (s_o : Ob_T) (h : f_X9_reckon_J176 x1 x2 x3 x4 s_o = some out) (H : Heap) (locs : List Loc) (ls : Array Slot) (hZ : K_S D A s (wd_X9 aC a_o s_o) H locs) (hl : lv_has ls 8 [(0, .ref (a_o 0)), (1, .int x1), (2, .int x2), (3, .int x3), (4, .int x4)]) : W p l e (R_m 3 77) s m args below meth c H locs 0 0 (MQ below (Q_W (none) D A (wd_X9 aC a_o out)) args s 0 0 A) (F0 m 176 ls []) := by
  obtain ⟨hx, hb, hml, hown, hts, hK, hA, hlk⟩ := id hX
  unfold f_X9_reckon_J176 at h
  refine lv_iload_n hx hb dX9_reckon_176 rfl (lv_at hl 3 rfl) ?_
  refine lv_bipush (v := 6) hx hb dX9_reckon_177 (by decide) ?_
  refine lv_icmp_ne (tgt := 186) hx hb dX9_reckon_179 (by decide) (fun cd => ?_) (fun cd => ?_)
  · replace h := k_f cd h
    clear cd
    refine lv_aload_n hx hb dX9_reckon_186 rfl (lv_at hl 0 rfl) ?_
    refine lv_iload hx hb dX9_reckon_187 (lv_at hl 4 rfl) ?_
    obtain ⟨u5, hu, h⟩ := k_bd h
    refine k_vRs (As := [.int x4]) (rest := []) (v := some (.int u5)) (st1 := [.int u5]) hX hl.1 hZ (c_X9_longOf (a_o := a_o) s_o x4 hu) (gv_ wm_79 wm_81 wm_82 wm_11 wm_80) rfl hd_X9_longOf ⟨rfl, rfl⟩ 9 0 rfl rfl rfl rfl rfl dX9_reckon_189 rfl ⟨rfl, rfl⟩ (fun locs hZ => ?_)
    clear hu
    refine lv_aload_n hx hb dX9_reckon_192 rfl (lv_at hl 0 rfl) ?_
    refine k_get hX hZ.1 0 9 rfl rfl iw_X9 1 rfl (wm_31) (v := .ref (a_o 2)) rfl dX9_reckon_193 ?_
    refine lv_iload_n hx hb dX9_reckon_196 rfl (lv_at hl 2 rfl) ?_
    refine lv_iconst (v := 3) hx hb dX9_reckon_197 (by decide) ?_
    refine lv_iadd hx hb dX9_reckon_198 ?_
    refine k_iald hX hZ.1 2 rfl h dX9_reckon_199 (fun v6 h => ?_)
    obtain ⟨u7, hu, h⟩ := k_bd h
    refine k_sR (As := [.int u5, .int v6]) (rest := []) (wc := []) (v := some (.int u7)) (st1 := [.int u7]) hX hl.1 hZ (c_X9_frameOf  u5 v6 hu) (gs_ wm_83 wm_85 wm_11 wm_84) rfl hd_X9_frameOf ⟨rfl, rfl⟩ [] rfl rfl rfl rfl rfl dX9_reckon_200 rfl ⟨rfl, rfl⟩ (fun locs hZ => ?_)
    clear hu
    exact t_X9_reckon_J203 hX hr x1 x3 x4 u7 s_o h H locs ls hZ (lv_sub hl [0, 1, 3, 4] rfl)
  · replace h := k_t cd h
    clear cd
    refine lv_iconst (v := 0) hx hb dX9_reckon_182 (by decide) ?_
    refine lv_goto (tgt := 203) hx hb dX9_reckon_183 (by decide) ?_
    exact t_X9_reckon_J203 hX hr x1 x3 x4 (0 : Int32) s_o h H locs ls hZ (lv_sub hl [0, 1, 3, 4] rfl)
set_option maxHeartbeats 4000000 in
set_option maxRecDepth 100000 in
theorem t_X9_reckon_J147 {p : Program} {l : Launch} {e : Env} {s : State} {m : MethodId} {args : Array Value} {below : List Frame} {meth : Method} {c : Code} {D : va_G} {aC : Nat → ClassId} {A : Nat → Prop} {a_o : Nat → Nat} {out : Ob_T} (hX : K_X p s m args meth c cX9_reckon 8 WL_ RX9 D aC A) (hr : meth.sig.returnType = none) (x1 : Int32) (k1 : Int32) (s_o : Ob_T) (h : f_X9_reckon_J147 x1 k1 s_o = some out) (H : Heap) (locs : List Loc) (ls : Array Slot) (hZ : K_S D A s (wd_X9 aC a_o s_o) H locs) (hl : lv_has ls 8 [(0, .ref (a_o 0)), (1, .int x1)]) : W p l e (R_m 3 77) s m args below meth c H locs 0 0 (MQ below (Q_W (none) D A (wd_X9 aC a_o out)) args s 0 0 A) (F0 m 147 ls [.int k1, .ref (a_o 0)]) := by
  obtain ⟨hx, hb, hml, hown, hts, hK, hA, hlk⟩ := id hX
  unfold f_X9_reckon_J147 at h
  obtain ⟨u27, hu, h⟩ := k_bd h
  refine k_vWs (As := [.int k1]) (rest := []) (v := none) (st1 := []) hX hl.1 hZ (c_X9_layRight (a_o := a_o) s_o k1 hu) (gv_ wm_173 wm_175 wm_176 wm_11 wm_174) rfl hd_X9_layRight ⟨rfl, rfl⟩ 9 0 rfl rfl rfl rfl rfl dX9_reckon_147 rfl ⟨rfl, rfl⟩ rfl (fun H locs hZ => ?_)
  clear hu
  refine lv_aload_n hx hb dX9_reckon_150 rfl (lv_at hl 0 rfl) ?_
  obtain ⟨u28, hu, h⟩ := k_bd h
  refine k_vWs (As := []) (rest := []) (v := some (.int u28.1)) (st1 := [.int u28.1]) hX hl.1 hZ (c_X9_isAlmostKnown (a_o := a_o) u27 hu) (gv_ wm_181 wm_183 wm_184 wm_11 wm_182) rfl hd_X9_isAlmostKnown ⟨rfl, rfl⟩ 9 0 rfl rfl rfl rfl rfl dX9_reckon_151 rfl ⟨rfl, rfl⟩ rfl (fun H locs hZ => ?_)
  clear hu
  refine lv_if_eq (tgt := 162) hx hb dX9_reckon_154 (by decide) (fun cd => ?_) (fun cd => ?_)
  · replace h := k_t cd h
    clear cd
    refine lv_goto (tgt := 304) hx hb dX9_reckon_162 (by decide) ?_
    cases h
    exact k_vretW hX hr hZ dX9_reckon_304
  · replace h := k_f cd h
    clear cd
    refine lv_aload_n hx hb dX9_reckon_157 rfl (lv_at hl 0 rfl) ?_
    refine lv_iload_n hx hb dX9_reckon_158 rfl (lv_at hl 1 rfl) ?_
    obtain ⟨u29, hu, h⟩ := k_bd h
    refine k_vWs (As := [.int x1]) (rest := []) (v := none) (st1 := []) hX hl.1 hZ (c_X9_sumUp (a_o := a_o) u28.2 x1 hu) (gv_ wm_185 wm_187 wm_188 wm_11 wm_186) rfl hd_X9_sumUp ⟨rfl, rfl⟩ 9 0 rfl rfl rfl rfl rfl dX9_reckon_159 rfl ⟨rfl, rfl⟩ rfl (fun H locs hZ => ?_)
    clear hu
    refine lv_goto (tgt := 304) hx hb dX9_reckon_162 (by decide) ?_
    cases h
    exact k_vretW hX hr hZ dX9_reckon_304
set_option maxHeartbeats 4000000 in
set_option maxRecDepth 100000 in
theorem t_X9_reckon_J120 {p : Program} {l : Launch} {e : Env} {s : State} {m : MethodId} {args : Array Value} {below : List Frame} {meth : Method} {c : Code} {D : va_G} {aC : Nat → ClassId} {A : Nat → Prop} {a_o : Nat → Nat} {out : Ob_T} (hX : K_X p s m args meth c cX9_reckon 8 WL_ RX9 D aC A) (hr : meth.sig.returnType = none) (x1 : Int32) (x5 : Int32) (x7 : Int32) (k1 : Int32) (s_o : Ob_T) (h : f_X9_reckon_J120 x1 x5 x7 k1 s_o = some out) (H : Heap) (locs : List Loc) (ls : Array Slot) (hZ : K_S D A s (wd_X9 aC a_o s_o) H locs) (hl : lv_has ls 8 [(0, .ref (a_o 0)), (1, .int x1), (5, .int x5), (7, .int x7)]) : W p l e (R_m 3 77) s m args below meth c H locs 0 0 (MQ below (Q_W (none) D A (wd_X9 aC a_o out)) args s 0 0 A) (F0 m 120 ls [.int k1, .ref (a_o 0)]) := by
  obtain ⟨hx, hb, hml, hown, hts, hK, hA, hlk⟩ := id hX
  unfold f_X9_reckon_J120 at h
  obtain ⟨u25, hu, h⟩ := k_bd h
  refine k_vWs (As := [.int k1]) (rest := []) (v := none) (st1 := []) hX hl.1 hZ (c_X9_layRight (a_o := a_o) s_o k1 hu) (gv_ wm_173 wm_175 wm_176 wm_11 wm_174) rfl hd_X9_layRight ⟨rfl, rfl⟩ 9 0 rfl rfl rfl rfl rfl dX9_reckon_120 rfl ⟨rfl, rfl⟩ rfl (fun H locs hZ => ?_)
  clear hu
  refine lv_aload_n hx hb dX9_reckon_123 rfl (lv_at hl 0 rfl) ?_
  refine lv_iload hx hb dX9_reckon_124 (lv_at hl 3 rfl) ?_
  refine lv_aload_n hx hb dX9_reckon_126 rfl (lv_at hl 0 rfl) ?_
  refine lv_iload hx hb dX9_reckon_127 (lv_at hl 2 rfl) ?_
  obtain ⟨u26, hu, h⟩ := k_bd h
  refine k_vRs (As := [.int x5]) (rest := [.int x7, .ref (a_o 0)]) (v := some (.int u26)) (st1 := [.int u26, .int x7, .ref (a_o 0)]) hX hl.1 hZ (c_X9_longOf (a_o := a_o) u25 x5 hu) (gv_ wm_79 wm_81 wm_82 wm_11 wm_80) rfl hd_X9_longOf ⟨rfl, rfl⟩ 9 0 rfl rfl rfl rfl rfl dX9_reckon_129 rfl ⟨rfl, rfl⟩ (fun locs hZ => ?_)
  clear hu
  refine lv_icmp_ge (tgt := 146) hx hb dX9_reckon_132 (by decide) (fun cd => ?_) (fun cd => ?_)
  · replace h := k_t cd h
    clear cd
    refine lv_iconst (v := 1) hx hb dX9_reckon_146 (by decide) ?_
    exact t_X9_reckon_J147 hX hr x1 (1 : Int32) u25 h H locs ls hZ (lv_sub hl [0, 1] rfl)
  · replace h := k_f cd h
    clear cd
    refine lv_aload_n hx hb dX9_reckon_135 rfl (lv_at hl 0 rfl) ?_
    refine lv_iload hx hb dX9_reckon_136 (lv_at hl 2 rfl) ?_
    refine lv_iload hx hb dX9_reckon_138 (lv_at hl 3 rfl) ?_
    obtain ⟨u30, hu, h⟩ := k_bd h
    refine k_vRs (As := [.int x5, .int x7]) (rest := [.ref (a_o 0)]) (v := some (.int u30)) (st1 := [.int u30, .ref (a_o 0)]) hX hl.1 hZ (c_X9_extentOf (a_o := a_o) u25 x5 x7 hu) (gv_ wm_71 wm_73 wm_74 wm_11 wm_72) rfl hd_X9_extentOf ⟨rfl, rfl⟩ 9 0 rfl rfl rfl rfl rfl dX9_reckon_140 rfl ⟨rfl, rfl⟩ (fun locs hZ => ?_)
    clear hu
    refine lv_goto (tgt := 147) hx hb dX9_reckon_143 (by decide) ?_
    exact t_X9_reckon_J147 hX hr x1 u30 u25 h H locs ls hZ (lv_sub hl [0, 1] rfl)
set_option maxHeartbeats 4000000 in
set_option maxRecDepth 100000 in
theorem c_X9_reckon {l : Launch} {D : va_G} {aC : Nat → ClassId} {a_o : Nat → Nat} (s_o : Ob_T) (x1 : Int32) {out : Ob_T} (h : f_X9_reckon s_o x1 = some out) : M_W l yX9_reckon wlX9_reckon 3 77 D aC [.ref (a_o 0), .int x1] (wd_X9 aC a_o s_o) (none) (wd_X9 aC a_o out) := by
  refine k_entW (cc := cX9_reckon) (ret := none) (maxL := 8) (own := RX9) (by decide) rfl rfl rfl ?_
  intro p e s m below meth c A ls hX hr hZ hl
  have hl : lv_has ls 8 [(0, .ref (a_o 0)), (1, .int x1)] := hl
  generalize ([.ref (a_o 0), .int x1] : List Value).toArray = args at hX ⊢
  obtain ⟨hx, hb, hml, hown, hts, hK, hA, hlk⟩ := id hX
  unfold f_X9_reckon at h
  generalize s.heap = H at hZ ⊢
  generalize ([] : List Loc) = locs at hZ ⊢
  refine lv_bipush (v := 15) hx hb dX9_reckon_0 (by decide) ?_
  refine lv_iload_n hx hb dX9_reckon_2 rfl (lv_at hl 1 rfl) ?_
  refine lv_imul hx hb dX9_reckon_3 ?_
  refine lv_istore_n (lv' := [(2, .int ((15 : Int32) * x1)), (0, .ref (a_o 0)), (1, .int x1)]) hx hb dX9_reckon_4 rfl hl (by decide) rfl (fun ls hl => ?_)
  refine lv_aload_n hx hb dX9_reckon_5 rfl (lv_at hl 1 rfl) ?_
  refine k_get hX hZ.1 0 9 rfl rfl iw_X9 1 rfl (wm_31) (v := .ref (a_o 2)) rfl dX9_reckon_6 ?_
  refine lv_iload_n hx hb dX9_reckon_9 rfl (lv_at hl 0 rfl) ?_
  refine lv_iconst (v := 0) hx hb dX9_reckon_10 (by decide) ?_
  refine lv_iadd hx hb dX9_reckon_11 ?_
  refine k_iald hX hZ.1 2 rfl h dX9_reckon_12 (fun v1 h => ?_)
  refine lv_istore_n (lv' := [(3, .int v1), (2, .int ((15 : Int32) * x1)), (0, .ref (a_o 0)), (1, .int x1)]) hx hb dX9_reckon_13 rfl hl (by decide) rfl (fun ls hl => ?_)
  refine lv_aload_n hx hb dX9_reckon_14 rfl (lv_at hl 2 rfl) ?_
  refine k_get hX hZ.1 0 9 rfl rfl iw_X9 1 rfl (wm_31) (v := .ref (a_o 2)) rfl dX9_reckon_15 ?_
  refine lv_iload_n hx hb dX9_reckon_18 rfl (lv_at hl 1 rfl) ?_
  refine lv_iconst (v := 1) hx hb dX9_reckon_19 (by decide) ?_
  refine lv_iadd hx hb dX9_reckon_20 ?_
  refine k_iald hX hZ.1 2 rfl h dX9_reckon_21 (fun v2 h => ?_)
  refine lv_istore (lv' := [(4, .int v2), (3, .int v1), (2, .int ((15 : Int32) * x1)), (0, .ref (a_o 0)), (1, .int x1)]) hx hb dX9_reckon_22 hl (by decide) rfl (fun ls hl => ?_)
  refine lv_aload_n hx hb dX9_reckon_24 rfl (lv_at hl 3 rfl) ?_
  refine lv_iconst (v := 0) hx hb dX9_reckon_25 (by decide) ?_
  refine k_put (wf := (fun o => wd_X9 aC a_o o)) (o := s_o) hX hZ 0 9 rfl rfl iw_X9 tyX9 tyX9_ok nmX9 39 rfl (wm_144) rfl rfl rfl rfl rfl h dX9_reckon_26 (fun o3 H locs hZ h => ?_)
  refine lv_aload_n hx hb dX9_reckon_29 rfl (lv_at hl 3 rfl) ?_
  refine lv_iconst (v := 0) hx hb dX9_reckon_30 (by decide) ?_
  refine k_put (wf := (fun o => wd_X9 aC a_o o)) (o := o3) hX hZ 0 9 rfl rfl iw_X9 tyX9 tyX9_ok nmX9 40 rfl (wm_146) rfl rfl rfl rfl rfl h dX9_reckon_31 (fun o4 H locs hZ h => ?_)
  refine lv_iload_n hx hb dX9_reckon_34 rfl (lv_at hl 1 rfl) ?_
  refine lv_iconst (v := 2) hx hb dX9_reckon_35 (by decide) ?_
  refine lv_icmp_ne (tgt := 165) hx hb dX9_reckon_36 (by decide) (fun cd => ?_) (fun cd => ?_)
  · replace h := k_f cd h
    clear cd
    refine lv_iload_n hx hb dX9_reckon_165 rfl (lv_at hl 1 rfl) ?_
    refine lv_iconst (v := 5) hx hb dX9_reckon_166 (by decide) ?_
    refine lv_icmp_eq (tgt := 176) hx hb dX9_reckon_167 (by decide) (fun cd => ?_) (fun cd => ?_)
    · replace h := k_t cd h
      clear cd
      exact t_X9_reckon_J176 hX hr x1 ((15 : Int32) * x1) v1 v2 o4 h H locs ls hZ (lv_sub hl [3, 4, 2, 1, 0] rfl)
    · replace h := k_f cd h
      clear cd
      refine lv_iload_n hx hb dX9_reckon_170 rfl (lv_at hl 1 rfl) ?_
      refine lv_bipush (v := 6) hx hb dX9_reckon_171 (by decide) ?_
      refine lv_icmp_ne (tgt := 304) hx hb dX9_reckon_173 (by decide) (fun cd => ?_) (fun cd => ?_)
      · replace h := k_f cd h
        clear cd
        cases h
        exact k_vretW hX hr hZ dX9_reckon_304
      · replace h := k_t cd h
        clear cd
        exact t_X9_reckon_J176 hX hr x1 ((15 : Int32) * x1) v1 v2 o4 h H locs ls hZ (lv_sub hl [3, 4, 2, 1, 0] rfl)
  · replace h := k_t cd h
    clear cd
    refine lv_aload_n hx hb dX9_reckon_39 rfl (lv_at hl 3 rfl) ?_
    refine k_get hX hZ.1 0 9 rfl rfl iw_X9 1 rfl (wm_31) (v := .ref (a_o 2)) rfl dX9_reckon_40 ?_
    refine lv_iload_n hx hb dX9_reckon_43 rfl (lv_at hl 2 rfl) ?_
    refine lv_iconst (v := 2) hx hb dX9_reckon_44 (by decide) ?_
    refine lv_iadd hx hb dX9_reckon_45 ?_
    refine k_iald hX hZ.1 2 rfl h dX9_reckon_46 (fun v16 h => ?_)
    refine lv_istore (lv' := [(5, .int v16), (4, .int v2), (3, .int v1), (2, .int ((15 : Int32) * x1)), (0, .ref (a_o 0)), (1, .int x1)]) hx hb dX9_reckon_47 hl (by decide) rfl (fun ls hl => ?_)
    refine lv_aload_n hx hb dX9_reckon_49 rfl (lv_at hl 4 rfl) ?_
    refine lv_iload hx hb dX9_reckon_50 (lv_at hl 1 rfl) ?_
    obtain ⟨u17, hu, h⟩ := k_bd h
    refine k_vRs (As := [.int v2]) (rest := []) (v := some (.int u17)) (st1 := [.int u17]) hX hl.1 hZ (c_X9_longOf (a_o := a_o) o4 v2 hu) (gv_ wm_79 wm_81 wm_82 wm_11 wm_80) rfl hd_X9_longOf ⟨rfl, rfl⟩ 9 0 rfl rfl rfl rfl rfl dX9_reckon_52 rfl ⟨rfl, rfl⟩ (fun locs hZ => ?_)
    clear hu
    refine lv_aload_n hx hb dX9_reckon_55 rfl (lv_at hl 4 rfl) ?_
    refine k_get hX hZ.1 0 9 rfl rfl iw_X9 1 rfl (wm_31) (v := .ref (a_o 2)) rfl dX9_reckon_56 ?_
    refine lv_iload_n hx hb dX9_reckon_59 rfl (lv_at hl 3 rfl) ?_
    refine lv_iconst (v := 3) hx hb dX9_reckon_60 (by decide) ?_
    refine lv_iadd hx hb dX9_reckon_61 ?_
    refine k_iald hX hZ.1 2 rfl h dX9_reckon_62 (fun v18 h => ?_)
    obtain ⟨u19, hu, h⟩ := k_bd h
    refine k_sR (As := [.int u17, .int v18]) (rest := []) (wc := []) (v := some (.int u19)) (st1 := [.int u19]) hX hl.1 hZ (c_X9_frameOf  u17 v18 hu) (gs_ wm_83 wm_85 wm_11 wm_84) rfl hd_X9_frameOf ⟨rfl, rfl⟩ [] rfl rfl rfl rfl rfl dX9_reckon_63 rfl ⟨rfl, rfl⟩ (fun locs hZ => ?_)
    clear hu
    refine lv_istore (lv' := [(6, .int u19), (5, .int v16), (4, .int v2), (3, .int v1), (2, .int ((15 : Int32) * x1)), (0, .ref (a_o 0)), (1, .int x1)]) hx hb dX9_reckon_66 hl (by decide) rfl (fun ls hl => ?_)
    refine lv_aload_n hx hb dX9_reckon_68 rfl (lv_at hl 5 rfl) ?_
    refine lv_iload hx hb dX9_reckon_69 (lv_at hl 1 rfl) ?_
    obtain ⟨u20, hu, h⟩ := k_bd h
    refine k_vRs (As := [.int v16]) (rest := []) (v := some (.int u20)) (st1 := [.int u20]) hX hl.1 hZ (c_X9_longOf (a_o := a_o) o4 v16 hu) (gv_ wm_79 wm_81 wm_82 wm_11 wm_80) rfl hd_X9_longOf ⟨rfl, rfl⟩ 9 0 rfl rfl rfl rfl rfl dX9_reckon_71 rfl ⟨rfl, rfl⟩ (fun locs hZ => ?_)
    clear hu
    refine lv_aload_n hx hb dX9_reckon_74 rfl (lv_at hl 5 rfl) ?_
    refine k_get hX hZ.1 0 9 rfl rfl iw_X9 1 rfl (wm_31) (v := .ref (a_o 2)) rfl dX9_reckon_75 ?_
    refine lv_iload_n hx hb dX9_reckon_78 rfl (lv_at hl 4 rfl) ?_
    refine lv_iconst (v := 3) hx hb dX9_reckon_79 (by decide) ?_
    refine lv_iadd hx hb dX9_reckon_80 ?_
    refine k_iald hX hZ.1 2 rfl h dX9_reckon_81 (fun v21 h => ?_)
    obtain ⟨u22, hu, h⟩ := k_bd h
    refine k_sR (As := [.int u20, .int v21]) (rest := []) (wc := []) (v := some (.int u22)) (st1 := [.int u22]) hX hl.1 hZ (c_X9_frameOf  u20 v21 hu) (gs_ wm_83 wm_85 wm_11 wm_84) rfl hd_X9_frameOf ⟨rfl, rfl⟩ [] rfl rfl rfl rfl rfl dX9_reckon_82 rfl ⟨rfl, rfl⟩ (fun locs hZ => ?_)
    clear hu
    refine lv_istore (lv' := [(7, .int u22), (6, .int u19), (5, .int v16), (4, .int v2), (3, .int v1), (2, .int ((15 : Int32) * x1)), (0, .ref (a_o 0)), (1, .int x1)]) hx hb dX9_reckon_85 hl (by decide) rfl (fun ls hl => ?_)
    refine lv_aload_n hx hb dX9_reckon_87 rfl (lv_at hl 6 rfl) ?_
    refine lv_sipush (v := 20004) hx hb dX9_reckon_88 (by decide) ?_
    refine lv_iload_n hx hb dX9_reckon_91 rfl (lv_at hl 7 rfl) ?_
    refine lv_iadd hx hb dX9_reckon_92 ?_
    obtain ⟨u23, hu, h⟩ := k_bd h
    refine k_vWs (As := [.int ((20004 : Int32) + x1)]) (rest := []) (v := none) (st1 := []) hX hl.1 hZ (c_X9_layLeft (a_o := a_o) o4 ((20004 : Int32) + x1) hu) (gv_ wm_169 wm_171 wm_172 wm_11 wm_170) rfl hd_X9_layLeft ⟨rfl, rfl⟩ 9 0 rfl rfl rfl rfl rfl dX9_reckon_93 rfl ⟨rfl, rfl⟩ rfl (fun H locs hZ => ?_)
    clear hu
    refine lv_aload_n hx hb dX9_reckon_96 rfl (lv_at hl 6 rfl) ?_
    refine lv_iload hx hb dX9_reckon_97 (lv_at hl 1 rfl) ?_
    refine lv_aload_n hx hb dX9_reckon_99 rfl (lv_at hl 6 rfl) ?_
    refine lv_iload hx hb dX9_reckon_100 (lv_at hl 3 rfl) ?_
    obtain ⟨u24, hu, h⟩ := k_bd h
    refine k_vRs (As := [.int v2]) (rest := [.int u19, .ref (a_o 0)]) (v := some (.int u24)) (st1 := [.int u24, .int u19, .ref (a_o 0)]) hX hl.1 hZ (c_X9_longOf (a_o := a_o) u23 v2 hu) (gv_ wm_79 wm_81 wm_82 wm_11 wm_80) rfl hd_X9_longOf ⟨rfl, rfl⟩ 9 0 rfl rfl rfl rfl rfl dX9_reckon_102 rfl ⟨rfl, rfl⟩ (fun locs hZ => ?_)
    clear hu
    refine lv_icmp_ge (tgt := 119) hx hb dX9_reckon_105 (by decide) (fun cd => ?_) (fun cd => ?_)
    · replace h := k_t cd h
      clear cd
      refine lv_iconst (v := 1) hx hb dX9_reckon_119 (by decide) ?_
      exact t_X9_reckon_J120 hX hr x1 v16 u22 (1 : Int32) u23 h H locs ls hZ (lv_sub hl [6, 7, 2, 0] rfl)
    · replace h := k_f cd h
      clear cd
      refine lv_aload_n hx hb dX9_reckon_108 rfl (lv_at hl 6 rfl) ?_
      refine lv_iload hx hb dX9_reckon_109 (lv_at hl 3 rfl) ?_
      refine lv_iload hx hb dX9_reckon_111 (lv_at hl 1 rfl) ?_
      obtain ⟨u31, hu, h⟩ := k_bd h
      refine k_vRs (As := [.int v2, .int u19]) (rest := [.ref (a_o 0)]) (v := some (.int u31)) (st1 := [.int u31, .ref (a_o 0)]) hX hl.1 hZ (c_X9_extentOf (a_o := a_o) u23 v2 u19 hu) (gv_ wm_71 wm_73 wm_74 wm_11 wm_72) rfl hd_X9_extentOf ⟨rfl, rfl⟩ 9 0 rfl rfl rfl rfl rfl dX9_reckon_113 rfl ⟨rfl, rfl⟩ (fun locs hZ => ?_)
      clear hu
      refine lv_goto (tgt := 120) hx hb dX9_reckon_116 (by decide) ?_
      exact t_X9_reckon_J120 hX hr x1 v16 u22 u31 u23 h H locs ls hZ (lv_sub hl [6, 7, 2, 0] rfl)
