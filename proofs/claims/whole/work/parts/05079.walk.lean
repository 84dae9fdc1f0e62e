def wlX5_gatherSides : List Cond := .code yX5_gatherSides cX5_gatherSides 7 (some .boolean) :: WL_
theorem hd_X5_gatherSides : yX5_gatherSides.cls = RX5 ∧ yX5_gatherSides.cls ≠ "java/lang/invoke/MethodHandle" ∧ yX5_gatherSides.cls ≠ "java/lang/invoke/VarHandle" ∧ (parseMethodDescriptor yX5_gatherSides.desc).map (fun d => d.parameters.length) = some 1 := by decide +kernel
theorem dX5_gatherSides_0 : decode cX5_gatherSides 0 = .ok (.aload_n 0, 1) := by decide +kernel
theorem dX5_gatherSides_1 : decode cX5_gatherSides 1 = .ok (.getfield 31, 3) := by decide +kernel
theorem dX5_gatherSides_4 : decode cX5_gatherSides 4 = .ok (.iload_n 1, 1) := by decide +kernel
theorem dX5_gatherSides_5 : decode cX5_gatherSides 5 = .ok (.invokevirtual 74, 3) := by decide +kernel
theorem dX5_gatherSides_8 : decode cX5_gatherSides 8 = .ok (.istore_n 2, 1) := by decide +kernel
theorem dX5_gatherSides_9 : decode cX5_gatherSides 9 = .ok (.iload_n 2, 1) := by decide +kernel
theorem dX5_gatherSides_10 : decode cX5_gatherSides 10 = .ok (.iconst 2, 1) := by decide +kernel
theorem dX5_gatherSides_11 : decode cX5_gatherSides 11 = .ok (.if_icmp .eq 16, 3) := by decide +kernel
theorem dX5_gatherSides_14 : decode cX5_gatherSides 14 = .ok (.iload_n 2, 1) := by decide +kernel
theorem dX5_gatherSides_15 : decode cX5_gatherSides 15 = .ok (.iconst 5, 1) := by decide +kernel
theorem dX5_gatherSides_16 : decode cX5_gatherSides 16 = .ok (.if_icmp .eq 11, 3) := by decide +kernel
theorem dX5_gatherSides_19 : decode cX5_gatherSides 19 = .ok (.iload_n 2, 1) := by decide +kernel
theorem dX5_gatherSides_20 : decode cX5_gatherSides 20 = .ok (.bipush 6, 2) := by decide +kernel
theorem dX5_gatherSides_22 : decode cX5_gatherSides 22 = .ok (.if_icmp .eq 5, 3) := by decide +kernel
theorem dX5_gatherSides_25 : decode cX5_gatherSides 25 = .ok (.iconst 0, 1) := by decide +kernel
theorem dX5_gatherSides_26 : decode cX5_gatherSides 26 = .ok (.ireturn, 1) := by decide +kernel
theorem dX5_gatherSides_27 : decode cX5_gatherSides 27 = .ok (.aload_n 0, 1) := by decide +kernel
theorem dX5_gatherSides_28 : decode cX5_gatherSides 28 = .ok (.getfield 31, 3) := by decide +kernel
theorem dX5_gatherSides_31 : decode cX5_gatherSides 31 = .ok (.iload_n 1, 1) := by decide +kernel
theorem dX5_gatherSides_32 : decode cX5_gatherSides 32 = .ok (.invokevirtual 97, 3) := by decide +kernel
theorem dX5_gatherSides_35 : decode cX5_gatherSides 35 = .ok (.istore_n 3, 1) := by decide +kernel
theorem dX5_gatherSides_36 : decode cX5_gatherSides 36 = .ok (.aload_n 0, 1) := by decide +kernel
theorem dX5_gatherSides_37 : decode cX5_gatherSides 37 = .ok (.getfield 31, 3) := by decide +kernel
theorem dX5_gatherSides_40 : decode cX5_gatherSides 40 = .ok (.iload_n 1, 1) := by decide +kernel
theorem dX5_gatherSides_41 : decode cX5_gatherSides 41 = .ok (.invokevirtual 103, 3) := by decide +kernel
theorem dX5_gatherSides_44 : decode cX5_gatherSides 44 = .ok (.istore 4, 2) := by decide +kernel
theorem dX5_gatherSides_46 : decode cX5_gatherSides 46 = .ok (.aload_n 0, 1) := by decide +kernel
theorem dX5_gatherSides_47 : decode cX5_gatherSides 47 = .ok (.getfield 12, 3) := by decide +kernel
theorem dX5_gatherSides_50 : decode cX5_gatherSides 50 = .ok (.invokevirtual 136, 3) := by decide +kernel
theorem dX5_gatherSides_53 : decode cX5_gatherSides 53 = .ok (.iload_n 2, 1) := by decide +kernel
theorem dX5_gatherSides_54 : decode cX5_gatherSides 54 = .ok (.iconst 2, 1) := by decide +kernel
theorem dX5_gatherSides_55 : decode cX5_gatherSides 55 = .ok (.if_icmp .ne 93, 3) := by decide +kernel
theorem dX5_gatherSides_58 : decode cX5_gatherSides 58 = .ok (.aload_n 0, 1) := by decide +kernel
theorem dX5_gatherSides_59 : decode cX5_gatherSides 59 = .ok (.getfield 12, 3) := by decide +kernel
theorem dX5_gatherSides_62 : decode cX5_gatherSides 62 = .ok (.iconst 0, 1) := by decide +kernel
theorem dX5_gatherSides_63 : decode cX5_gatherSides 63 = .ok (.aload_n 0, 1) := by decide +kernel
theorem dX5_gatherSides_64 : decode cX5_gatherSides 64 = .ok (.iload_n 1, 1) := by decide +kernel
theorem dX5_gatherSides_65 : decode cX5_gatherSides 65 = .ok (.invokestatic 139, 3) := by decide +kernel
theorem dX5_gatherSides_68 : decode cX5_gatherSides 68 = .ok (.invokevirtual 64, 3) := by decide +kernel
theorem dX5_gatherSides_71 : decode cX5_gatherSides 71 = .ok (.invokevirtual 142, 3) := by decide +kernel
theorem dX5_gatherSides_74 : decode cX5_gatherSides 74 = .ok (.aload_n 0, 1) := by decide +kernel
theorem dX5_gatherSides_75 : decode cX5_gatherSides 75 = .ok (.getfield 31, 3) := by decide +kernel
theorem dX5_gatherSides_78 : decode cX5_gatherSides 78 = .ok (.iload_n 1, 1) := by decide +kernel
theorem dX5_gatherSides_79 : decode cX5_gatherSides 79 = .ok (.invokevirtual 100, 3) := by decide +kernel
theorem dX5_gatherSides_82 : decode cX5_gatherSides 82 = .ok (.istore 5, 2) := by decide +kernel
theorem dX5_gatherSides_84 : decode cX5_gatherSides 84 = .ok (.aload_n 0, 1) := by decide +kernel
theorem dX5_gatherSides_85 : decode cX5_gatherSides 85 = .ok (.getfield 12, 3) := by decide +kernel
theorem dX5_gatherSides_88 : decode cX5_gatherSides 88 = .ok (.iconst 1, 1) := by decide +kernel
theorem dX5_gatherSides_89 : decode cX5_gatherSides 89 = .ok (.aload_n 0, 1) := by decide +kernel
theorem dX5_gatherSides_90 : decode cX5_gatherSides 90 = .ok (.aload_n 0, 1) := by decide +kernel
theorem dX5_gatherSides_91 : decode cX5_gatherSides 91 = .ok (.getfield 31, 3) := by decide +kernel
theorem dX5_gatherSides_94 : decode cX5_gatherSides 94 = .ok (.iload_n 3, 1) := by decide +kernel
theorem dX5_gatherSides_95 : decode cX5_gatherSides 95 = .ok (.aload_n 0, 1) := by decide +kernel
theorem dX5_gatherSides_96 : decode cX5_gatherSides 96 = .ok (.getfield 31, 3) := by decide +kernel
theorem dX5_gatherSides_99 : decode cX5_gatherSides 99 = .ok (.iload_n 3, 1) := by decide +kernel
theorem dX5_gatherSides_100 : decode cX5_gatherSides 100 = .ok (.iload 4, 2) := by decide +kernel
theorem dX5_gatherSides_102 : decode cX5_gatherSides 102 = .ok (.invokevirtual 106, 3) := by decide +kernel
theorem dX5_gatherSides_105 : decode cX5_gatherSides 105 = .ok (.invokevirtual 145, 3) := by decide +kernel
theorem dX5_gatherSides_108 : decode cX5_gatherSides 108 = .ok (.invokevirtual 64, 3) := by decide +kernel
theorem dX5_gatherSides_111 : decode cX5_gatherSides 111 = .ok (.invokevirtual 142, 3) := by decide +kernel
theorem dX5_gatherSides_114 : decode cX5_gatherSides 114 = .ok (.aload_n 0, 1) := by decide +kernel
theorem dX5_gatherSides_115 : decode cX5_gatherSides 115 = .ok (.getfield 12, 3) := by decide +kernel
theorem dX5_gatherSides_118 : decode cX5_gatherSides 118 = .ok (.iconst 1, 1) := by decide +kernel
theorem dX5_gatherSides_119 : decode cX5_gatherSides 119 = .ok (.aload_n 0, 1) := by decide +kernel
theorem dX5_gatherSides_120 : decode cX5_gatherSides 120 = .ok (.aload_n 0, 1) := by decide +kernel
theorem dX5_gatherSides_121 : decode cX5_gatherSides 121 = .ok (.getfield 31, 3) := by decide +kernel
theorem dX5_gatherSides_124 : decode cX5_gatherSides 124 = .ok (.iload 5, 2) := by decide +kernel
theorem dX5_gatherSides_126 : decode cX5_gatherSides 126 = .ok (.aload_n 0, 1) := by decide +kernel
theorem dX5_gatherSides_127 : decode cX5_gatherSides 127 = .ok (.getfield 31, 3) := by decide +kernel
theorem dX5_gatherSides_130 : decode cX5_gatherSides 130 = .ok (.iload 5, 2) := by decide +kernel
theorem dX5_gatherSides_132 : decode cX5_gatherSides 132 = .ok (.iload 4, 2) := by decide +kernel
theorem dX5_gatherSides_134 : decode cX5_gatherSides 134 = .ok (.invokevirtual 106, 3) := by decide +kernel
theorem dX5_gatherSides_137 : decode cX5_gatherSides 137 = .ok (.invokevirtual 145, 3) := by decide +kernel
theorem dX5_gatherSides_140 : decode cX5_gatherSides 140 = .ok (.invokevirtual 64, 3) := by decide +kernel
theorem dX5_gatherSides_143 : decode cX5_gatherSides 143 = .ok (.invokevirtual 142, 3) := by decide +kernel
theorem dX5_gatherSides_146 : decode cX5_gatherSides 146 = .ok (.iconst 1, 1) := by decide +kernel
theorem dX5_gatherSides_147 : decode cX5_gatherSides 147 = .ok (.ireturn, 1) := by decide +kernel
theorem dX5_gatherSides_148 : decode cX5_gatherSides 148 = .ok (.iload_n 2, 1) := by decide +kernel
theorem dX5_gatherSides_149 : decode cX5_gatherSides 149 = .ok (.iconst 5, 1) := by decide +kernel
theorem dX5_gatherSides_150 : decode cX5_gatherSides 150 = .ok (.if_icmp .ne 16, 3) := by decide +kernel
theorem dX5_gatherSides_153 : decode cX5_gatherSides 153 = .ok (.aload_n 0, 1) := by decide +kernel
theorem dX5_gatherSides_154 : decode cX5_gatherSides 154 = .ok (.getfield 31, 3) := by decide +kernel
theorem dX5_gatherSides_157 : decode cX5_gatherSides 157 = .ok (.iload_n 3, 1) := by decide +kernel
theorem dX5_gatherSides_158 : decode cX5_gatherSides 158 = .ok (.iload 4, 2) := by decide +kernel
theorem dX5_gatherSides_160 : decode cX5_gatherSides 160 = .ok (.invokevirtual 106, 3) := by decide +kernel
theorem dX5_gatherSides_163 : decode cX5_gatherSides 163 = .ok (.goto 4, 3) := by decide +kernel
theorem dX5_gatherSides_166 : decode cX5_gatherSides 166 = .ok (.iconst 0, 1) := by decide +kernel
theorem dX5_gatherSides_167 : decode cX5_gatherSides 167 = .ok (.istore 5, 2) := by decide +kernel
theorem dX5_gatherSides_169 : decode cX5_gatherSides 169 = .ok (.iload 5, 2) := by decide +kernel
theorem dX5_gatherSides_171 : decode cX5_gatherSides 171 = .ok (.istore 6, 2) := by decide +kernel
theorem dX5_gatherSides_173 : decode cX5_gatherSides 173 = .ok (.iload 6, 2) := by decide +kernel
theorem dX5_gatherSides_175 : decode cX5_gatherSides 175 = .ok (.aload_n 0, 1) := by decide +kernel
theorem dX5_gatherSides_176 : decode cX5_gatherSides 176 = .ok (.getfield 31, 3) := by decide +kernel
theorem dX5_gatherSides_179 : decode cX5_gatherSides 179 = .ok (.iload_n 1, 1) := by decide +kernel
theorem dX5_gatherSides_180 : decode cX5_gatherSides 180 = .ok (.invokevirtual 56, 3) := by decide +kernel
theorem dX5_gatherSides_183 : decode cX5_gatherSides 183 = .ok (.if_icmp .ge 31, 3) := by decide +kernel
theorem dX5_gatherSides_186 : decode cX5_gatherSides 186 = .ok (.aload_n 0, 1) := by decide +kernel
theorem dX5_gatherSides_187 : decode cX5_gatherSides 187 = .ok (.getfield 12, 3) := by decide +kernel
theorem dX5_gatherSides_190 : decode cX5_gatherSides 190 = .ok (.iconst 0, 1) := by decide +kernel
theorem dX5_gatherSides_191 : decode cX5_gatherSides 191 = .ok (.aload_n 0, 1) := by decide +kernel
theorem dX5_gatherSides_192 : decode cX5_gatherSides 192 = .ok (.aload_n 0, 1) := by decide +kernel
theorem dX5_gatherSides_193 : decode cX5_gatherSides 193 = .ok (.getfield 31, 3) := by decide +kernel
theorem dX5_gatherSides_196 : decode cX5_gatherSides 196 = .ok (.iload_n 1, 1) := by decide +kernel
theorem dX5_gatherSides_197 : decode cX5_gatherSides 197 = .ok (.iload 6, 2) := by decide +kernel
theorem dX5_gatherSides_199 : decode cX5_gatherSides 199 = .ok (.invokevirtual 60, 3) := by decide +kernel
theorem dX5_gatherSides_202 : decode cX5_gatherSides 202 = .ok (.invokevirtual 64, 3) := by decide +kernel
theorem dX5_gatherSides_205 : decode cX5_gatherSides 205 = .ok (.invokevirtual 142, 3) := by decide +kernel
theorem dX5_gatherSides_208 : decode cX5_gatherSides 208 = .ok (.iinc 6 1, 3) := by decide +kernel
theorem dX5_gatherSides_211 : decode cX5_gatherSides 211 = .ok (.goto (-38), 3) := by decide +kernel
theorem dX5_gatherSides_214 : decode cX5_gatherSides 214 = .ok (.iload 5, 2) := by decide +kernel
theorem dX5_gatherSides_216 : decode cX5_gatherSides 216 = .ok (.istore 6, 2) := by decide +kernel
theorem dX5_gatherSides_218 : decode cX5_gatherSides 218 = .ok (.iload 6, 2) := by decide +kernel
theorem dX5_gatherSides_220 : decode cX5_gatherSides 220 = .ok (.aload_n 0, 1) := by decide +kernel
theorem dX5_gatherSides_221 : decode cX5_gatherSides 221 = .ok (.getfield 31, 3) := by decide +kernel
theorem dX5_gatherSides_224 : decode cX5_gatherSides 224 = .ok (.iload_n 3, 1) := by decide +kernel
theorem dX5_gatherSides_225 : decode cX5_gatherSides 225 = .ok (.invokevirtual 56, 3) := by decide +kernel
theorem dX5_gatherSides_228 : decode cX5_gatherSides 228 = .ok (.if_icmp .ge 31, 3) := by decide +kernel
theorem dX5_gatherSides_231 : decode cX5_gatherSides 231 = .ok (.aload_n 0, 1) := by decide +kernel
theorem dX5_gatherSides_232 : decode cX5_gatherSides 232 = .ok (.getfield 12, 3) := by decide +kernel
theorem dX5_gatherSides_235 : decode cX5_gatherSides 235 = .ok (.iconst 1, 1) := by decide +kernel
theorem dX5_gatherSides_236 : decode cX5_gatherSides 236 = .ok (.aload_n 0, 1) := by decide +kernel
theorem dX5_gatherSides_237 : decode cX5_gatherSides 237 = .ok (.aload_n 0, 1) := by decide +kernel
theorem dX5_gatherSides_238 : decode cX5_gatherSides 238 = .ok (.getfield 31, 3) := by decide +kernel
theorem dX5_gatherSides_241 : decode cX5_gatherSides 241 = .ok (.iload_n 3, 1) := by decide +kernel
theorem dX5_gatherSides_242 : decode cX5_gatherSides 242 = .ok (.iload 6, 2) := by decide +kernel
theorem dX5_gatherSides_244 : decode cX5_gatherSides 244 = .ok (.invokevirtual 60, 3) := by decide +kernel
theorem dX5_gatherSides_247 : decode cX5_gatherSides 247 = .ok (.invokevirtual 64, 3) := by decide +kernel
theorem dX5_gatherSides_250 : decode cX5_gatherSides 250 = .ok (.invokevirtual 142, 3) := by decide +kernel
theorem dX5_gatherSides_253 : decode cX5_gatherSides 253 = .ok (.iinc 6 1, 3) := by decide +kernel
theorem dX5_gatherSides_256 : decode cX5_gatherSides 256 = .ok (.goto (-38), 3) := by decide +kernel
theorem dX5_gatherSides_259 : decode cX5_gatherSides 259 = .ok (.iconst 1, 1) := by decide +kernel
theorem dX5_gatherSides_260 : decode cX5_gatherSides 260 = .ok (.ireturn, 1) := by decide +kernel
set_option maxHeartbeats 4000000 in
set_option maxRecDepth 100000 in
theorem t_X5_gatherSides_L173 {p : Program} {l : Launch} {e : Env} {s : State} {m : MethodId} {args : Array Value} {below : List Frame} {meth : Method} {c : Code} {D : va_G} {aC : Nat → ClassId} {A : Nat → Prop} {a_v a_d a_n : Nat → Nat} {out : Int32 × Ob_T} {s_v : Ob_T} {s_n : Ob_T} {k214 : Int32 → Int32 → Ob_T → Option (Int32 × Ob_T)} {rec173 : (Int32 × Int32 × Int32 × Int32 × Ob_T) → Option (Int32 × Ob_T)} (hX : K_X p s m args meth c cX5_gatherSides 7 WL_ RX5 D aC A) (hr : meth.sig.returnType = (some .boolean)) (hk214 : ∀ (y3 : Int32) (y5 : Int32) (t_d : Ob_T), k214 y3 y5 t_d = some out → ∀ (H : Heap) (locs : List Loc) (ls : Array Slot), K_S D A s (wd_X5 aC a_v (a_n 0) (a_d 0) s_v ++ (wd_X4 aC a_d t_d ++ wd_X1 aC a_n s_n)) H locs → lv_has ls 7 [(0, .ref (a_v 0)), (3, .int y3), (5, .int y5)] → W p l e (R_m 1 23) s m args below meth c H locs 0 0 (MQ below (Q_W (some (.int out.1)) D A (wd_X5 aC a_v (a_n 0) (a_d 0) s_v ++ (wd_X4 aC a_d out.2 ++ wd_X1 aC a_n s_n))) args s 0 0 A) (F0 m 214 ls [])) (hrec173 : ∀ x : Int32 × Int32 × Int32 × Int32 × Ob_T, rec173 x = some out → ∀ (H : Heap) (locs : List Loc) (ls : Array Slot), K_S D A s (wd_X5 aC a_v (a_n 0) (a_d 0) s_v ++ (wd_X4 aC a_d x.2.2.2.2 ++ wd_X1 aC a_n s_n)) H locs → lv_has ls 7 [(0, .ref (a_v 0)), (1, .int x.1), (3, .int x.2.1), (5, .int x.2.2.1), (6, .int x.2.2.2.1)] → W p l e (R_m 1 23) s m args below meth c H locs 0 0 (MQ below (Q_W (some (.int out.1)) D A (wd_X5 aC a_v (a_n 0) (a_d 0) s_v ++ (wd_X4 aC a_d out.2 ++ wd_X1 aC a_n s_n))) args s 0 0 A) (F0 m 173 ls [])) (x1 : Int32) (x3 : Int32) (x5 : Int32) (x6 : Int32) (s_d : Ob_T) (h : f_X5_gatherSides_L173 k214 rec173 x1 x3 x5 x6 s_d s_v s_n = some out) (H : Heap) (locs : List Loc) (ls : Array Slot) (hZ : K_S D A s (wd_X5 aC a_v (a_n 0) (a_d 0) s_v ++ (wd_X4 aC a_d s_d ++ wd_X1 aC a_n s_n)) H locs) (hl : lv_has ls 7 [(0, .ref (a_v 0)), (1, .int x1), (3, .int x3), (5, .int x5), (6, .int x6)]) : W p l e (R_m 1 23) s m args below meth c H locs 0 0 (MQ below (Q_W (some (.int out.1)) D A (wd_X5 aC a_v (a_n 0) (a_d 0) s_v ++ (wd_X4 aC a_d out.2 ++ wd_X1 aC a_n s_n))) args s 0 0 A) (F0 m 173 ls []) := by
  obtain ⟨hx, hb, hml, hown, hts, hK, hA, hlk⟩ := id hX
  unfold f_X5_gatherSides_L173 at h
  refine lv_iload hx hb dX5_gatherSides_173 (lv_at hl 4 rfl) ?_
  refine lv_aload_n hx hb dX5_gatherSides_175 rfl (lv_at hl 0 rfl) ?_
  refine k_get hX hZ.1 0 5 rfl rfl iw_X5 0 rfl (wm_448) (v := .ref (a_n 0)) rfl dX5_gatherSides_176 ?_
  refine lv_iload_n hx hb dX5_gatherSides_179 rfl (lv_at hl 1 rfl) ?_
  obtain ⟨u5, hu, h⟩ := k_bd h
  refine k_vR (As := [.int x1]) (rest := [.int x6]) (wc := wd_X1 aC a_n s_n) (v := some (.int u5)) (st1 := [.int u5, .int x6]) hX hl.1 hZ (c_X1_axesOf (a_n := a_n) s_n x1 hu) (gv_ wm_500 wm_502 wm_503 wm_321 wm_501) rfl hd_X1_axesOf ⟨rfl, rfl⟩ 1 0 rfl rfl [8, 9, 10, 11, 12, 13, 14] rfl rfl rfl rfl rfl dX5_gatherSides_180 rfl ⟨rfl, rfl⟩ (fun locs hZ => ?_)
  clear hu
  refine lv_icmp_ge (tgt := 214) hx hb dX5_gatherSides_183 (by decide) (fun cd => ?_) (fun cd => ?_)
  · replace h := k_t cd h
    clear cd
    exact hk214 x3 x5 s_d h H locs ls hZ (lv_sub hl [0, 2, 3] rfl)
  · replace h := k_f cd h
    clear cd
    refine lv_aload_n hx hb dX5_gatherSides_186 rfl (lv_at hl 0 rfl) ?_
    refine k_get hX hZ.1 0 5 rfl rfl iw_X5 1 rfl (wm_494) (v := .ref (a_d 0)) rfl dX5_gatherSides_187 ?_
    refine lv_iconst (v := 0) hx hb dX5_gatherSides_190 (by decide) ?_
    refine lv_aload_n hx hb dX5_gatherSides_191 rfl (lv_at hl 0 rfl) ?_
    refine lv_aload_n hx hb dX5_gatherSides_192 rfl (lv_at hl 0 rfl) ?_
    refine k_get hX hZ.1 0 5 rfl rfl iw_X5 0 rfl (wm_448) (v := .ref (a_n 0)) rfl dX5_gatherSides_193 ?_
    refine lv_iload_n hx hb dX5_gatherSides_196 rfl (lv_at hl 1 rfl) ?_
    refine lv_iload hx hb dX5_gatherSides_197 (lv_at hl 4 rfl) ?_
    obtain ⟨u6, hu, h⟩ := k_bd h
    refine k_vR (As := [.int x1, .int x6]) (rest := [.ref (a_v 0), .int (0 : Int32), .ref (a_d 0)]) (wc := wd_X1 aC a_n s_n) (v := some (.int u6)) (st1 := [.int u6, .ref (a_v 0), .int (0 : Int32), .ref (a_d 0)]) hX hl.1 hZ (c_X1_at (a_n := a_n) s_n x1 x6 hu) (gv_ wm_453 wm_327 wm_328 wm_321 wm_326) rfl hd_X1_at ⟨rfl, rfl⟩ 1 0 rfl rfl [8, 9, 10, 11, 12, 13, 14] rfl rfl rfl rfl rfl dX5_gatherSides_199 rfl ⟨rfl, rfl⟩ (fun locs hZ => ?_)
    clear hu
    obtain ⟨u7, hu, h⟩ := k_bd h
    refine k_vR (As := [.int u6]) (rest := [.int (0 : Int32), .ref (a_d 0)]) (wc := wd_X5 aC a_v (a_n 0) (a_d 0) s_v) (v := some (.int u7)) (st1 := [.int u7, .int (0 : Int32), .ref (a_d 0)]) hX hl.1 hZ (c_X5_valueOf (a_v := a_v) (a_n := a_n) (a_d := a_d) s_v u6 hu) (gv_ wm_444 wm_446 wm_447 wm_432 wm_445) rfl hd_X5_valueOf ⟨rfl, rfl⟩ 5 0 rfl rfl [0, 1, 2, 3, 4] rfl rfl rfl rfl rfl dX5_gatherSides_202 rfl ⟨rfl, rfl⟩ (fun locs hZ => ?_)
    clear hu
    obtain ⟨u8, hu, h⟩ := k_bd h
    refine k_vW (As := [.int (0 : Int32), .int u7]) (rest := []) (wc := wd_X4 aC a_d s_d) (v := none) (st1 := []) (w' := wd_X5 aC a_v (a_n 0) (a_d 0) s_v ++ (wd_X4 aC a_d u8 ++ wd_X1 aC a_n s_n)) hX hl.1 hZ (c_X4_add (a_d := a_d) s_d (0 : Int32) u7 hu) (gv_ wm_495 wm_498 wm_499 wm_496 wm_497) rfl hd_X4_add ⟨rfl, rfl⟩ 4 0 rfl rfl [5, 6, 7] rfl rfl rfl rfl rfl dX5_gatherSides_205 rfl ⟨rfl, rfl⟩ rfl rfl rfl (fun H locs hZ => ?_)
    clear hu
    refine lv_iinc (v := (x6 + (1 : Int32))) (lv' := [(6, .int (x6 + (1 : Int32))), (0, .ref (a_v 0)), (1, .int x1), (3, .int x3), (5, .int x5)]) hx hb dX5_gatherSides_208 hl (k := 4) rfl rfl (by decide) rfl (fun ls hl => ?_)
    refine lv_goto (tgt := 173) hx hb dX5_gatherSides_211 (by decide) ?_
    exact hrec173 (x1, x3, x5, (x6 + (1 : Int32)), u8) h H locs ls hZ (lv_sub hl [1, 2, 3, 4, 0] rfl)
set_option maxHeartbeats 4000000 in
set_option maxRecDepth 100000 in
theorem t_X5_gatherSides_L218 {p : Program} {l : Launch} {e : Env} {s : State} {m : MethodId} {args : Array Value} {below : List Frame} {meth : Method} {c : Code} {D : va_G} {aC : Nat → ClassId} {A : Nat → Prop} {a_v a_d a_n : Nat → Nat} {out : Int32 × Ob_T} {s_v : Ob_T} {s_n : Ob_T} {rec218 : (Int32 × Int32 × Ob_T) → Option (Int32 × Ob_T)} (hX : K_X p s m args meth c cX5_gatherSides 7 WL_ RX5 D aC A) (hr : meth.sig.returnType = (some .boolean)) (hrec218 : ∀ x : Int32 × Int32 × Ob_T, rec218 x = some out → ∀ (H : Heap) (locs : List Loc) (ls : Array Slot), K_S D A s (wd_X5 aC a_v (a_n 0) (a_d 0) s_v ++ (wd_X4 aC a_d x.2.2 ++ wd_X1 aC a_n s_n)) H locs → lv_has ls 7 [(0, .ref (a_v 0)), (3, .int x.1), (6, .int x.2.1)] → W p l e (R_m 1 23) s m args below meth c H locs 0 0 (MQ below (Q_W (some (.int out.1)) D A (wd_X5 aC a_v (a_n 0) (a_d 0) s_v ++ (wd_X4 aC a_d out.2 ++ wd_X1 aC a_n s_n))) args s 0 0 A) (F0 m 218 ls [])) (x3 : Int32) (x6 : Int32) (s_d : Ob_T) (h : f_X5_gatherSides_L218 rec218 x3 x6 s_d s_v s_n = some out) (H : Heap) (locs : List Loc) (ls : Array Slot) (hZ : K_S D A s (wd_X5 aC a_v (a_n 0) (a_d 0) s_v ++ (wd_X4 aC a_d s_d ++ wd_X1 aC a_n s_n)) H locs) (hl : lv_has ls 7 [(0, .ref (a_v 0)), (3, .int x3), (6, .int x6)]) : W p l e (R_m 1 23) s m args below meth c H locs 0 0 (MQ below (Q_W (some (.int out.1)) D A (wd_X5 aC a_v (a_n 0) (a_d 0) s_v ++ (wd_X4 aC a_d out.2 ++ wd_X1 aC a_n s_n))) args s 0 0 A) (F0 m 218 ls []) := by
  obtain ⟨hx, hb, hml, hown, hts, hK, hA, hlk⟩ := id hX
  unfold f_X5_gatherSides_L218 at h
  refine lv_iload hx hb dX5_gatherSides_218 (lv_at hl 2 rfl) ?_
  refine lv_aload_n hx hb dX5_gatherSides_220 rfl (lv_at hl 0 rfl) ?_
  refine k_get hX hZ.1 0 5 rfl rfl iw_X5 0 rfl (wm_448) (v := .ref (a_n 0)) rfl dX5_gatherSides_221 ?_
  refine lv_iload_n hx hb dX5_gatherSides_224 rfl (lv_at hl 1 rfl) ?_
  obtain ⟨u9, hu, h⟩ := k_bd h
  refine k_vR (As := [.int x3]) (rest := [.int x6]) (wc := wd_X1 aC a_n s_n) (v := some (.int u9)) (st1 := [.int u9, .int x6]) hX hl.1 hZ (c_X1_axesOf (a_n := a_n) s_n x3 hu) (gv_ wm_500 wm_502 wm_503 wm_321 wm_501) rfl hd_X1_axesOf ⟨rfl, rfl⟩ 1 0 rfl rfl [8, 9, 10, 11, 12, 13, 14] rfl rfl rfl rfl rfl dX5_gatherSides_225 rfl ⟨rfl, rfl⟩ (fun locs hZ => ?_)
  clear hu
  refine lv_icmp_ge (tgt := 259) hx hb dX5_gatherSides_228 (by decide) (fun cd => ?_) (fun cd => ?_)
  · replace h := k_t cd h
    clear cd
    refine lv_iconst (v := 1) hx hb dX5_gatherSides_259 (by decide) ?_
    cases h
    exact k_zretW (v := (1 : Int32)) hX hr rfl hZ dX5_gatherSides_260
  · replace h := k_f cd h
    clear cd
    refine lv_aload_n hx hb dX5_gatherSides_231 rfl (lv_at hl 0 rfl) ?_
    refine k_get hX hZ.1 0 5 rfl rfl iw_X5 1 rfl (wm_494) (v := .ref (a_d 0)) rfl dX5_gatherSides_232 ?_
    refine lv_iconst (v := 1) hx hb dX5_gatherSides_235 (by decide) ?_
    refine lv_aload_n hx hb dX5_gatherSides_236 rfl (lv_at hl 0 rfl) ?_
    refine lv_aload_n hx hb dX5_gatherSides_237 rfl (lv_at hl 0 rfl) ?_
    refine k_get hX hZ.1 0 5 rfl rfl iw_X5 0 rfl (wm_448) (v := .ref (a_n 0)) rfl dX5_gatherSides_238 ?_
    refine lv_iload_n hx hb dX5_gatherSides_241 rfl (lv_at hl 1 rfl) ?_
    refine lv_iload hx hb dX5_gatherSides_242 (lv_at hl 2 rfl) ?_
    obtain ⟨u10, hu, h⟩ := k_bd h
    refine k_vR (As := [.int x3, .int x6]) (rest := [.ref (a_v 0), .int (1 : Int32), .ref (a_d 0)]) (wc := wd_X1 aC a_n s_n) (v := some (.int u10)) (st1 := [.int u10, .ref (a_v 0), .int (1 : Int32), .ref (a_d 0)]) hX hl.1 hZ (c_X1_at (a_n := a_n) s_n x3 x6 hu) (gv_ wm_453 wm_327 wm_328 wm_321 wm_326) rfl hd_X1_at ⟨rfl, rfl⟩ 1 0 rfl rfl [8, 9, 10, 11, 12, 13, 14] rfl rfl rfl rfl rfl dX5_gatherSides_244 rfl ⟨rfl, rfl⟩ (fun locs hZ => ?_)
    clear hu
    obtain ⟨u11, hu, h⟩ := k_bd h
    refine k_vR (As := [.int u10]) (rest := [.int (1 : Int32), .ref (a_d 0)]) (wc := wd_X5 aC a_v (a_n 0) (a_d 0) s_v) (v := some (.int u11)) (st1 := [.int u11, .int (1 : Int32), .ref (a_d 0)]) hX hl.1 hZ (c_X5_valueOf (a_v := a_v) (a_n := a_n) (a_d := a_d) s_v u10 hu) (gv_ wm_444 wm_446 wm_447 wm_432 wm_445) rfl hd_X5_valueOf ⟨rfl, rfl⟩ 5 0 rfl rfl [0, 1, 2, 3, 4] rfl rfl rfl rfl rfl dX5_gatherSides_247 rfl ⟨rfl, rfl⟩ (fun locs hZ => ?_)
    clear hu
    obtain ⟨u12, hu, h⟩ := k_bd h
    refine k_vW (As := [.int (1 : Int32), .int u11]) (rest := []) (wc := wd_X4 aC a_d s_d) (v := none) (st1 := []) (w' := wd_X5 aC a_v (a_n 0) (a_d 0) s_v ++ (wd_X4 aC a_d u12 ++ wd_X1 aC a_n s_n)) hX hl.1 hZ (c_X4_add (a_d := a_d) s_d (1 : Int32) u11 hu) (gv_ wm_495 wm_498 wm_499 wm_496 wm_497) rfl hd_X4_add ⟨rfl, rfl⟩ 4 0 rfl rfl [5, 6, 7] rfl rfl rfl rfl rfl dX5_gatherSides_250 rfl ⟨rfl, rfl⟩ rfl rfl rfl (fun H locs hZ => ?_)
    clear hu
    refine lv_iinc (v := (x6 + (1 : Int32))) (lv' := [(6, .int (x6 + (1 : Int32))), (0, .ref (a_v 0)), (3, .int x3)]) hx hb dX5_gatherSides_253 hl (k := 2) rfl rfl (by decide) rfl (fun ls hl => ?_)
    refine lv_goto (tgt := 218) hx hb dX5_gatherSides_256 (by decide) ?_
    exact hrec218 (x3, (x6 + (1 : Int32)), u12) h H locs ls hZ (lv_sub hl [1, 2, 0] rfl)
set_option maxHeartbeats 4000000 in
set_option maxRecDepth 100000 in
theorem t_X5_gatherSides_J214 {p : Program} {l : Launch} {e : Env} {s : State} {m : MethodId} {args : Array Value} {below : List Frame} {meth : Method} {c : Code} {D : va_G} {aC : Nat → ClassId} {A : Nat → Prop} {a_v a_d a_n : Nat → Nat} {out : Int32 × Ob_T} {s_v : Ob_T} {s_n : Ob_T} (hX : K_X p s m args meth c cX5_gatherSides 7 WL_ RX5 D aC A) (hr : meth.sig.returnType = (some .boolean)) (x3 : Int32) (x5 : Int32) (s_d : Ob_T) (h : f_X5_gatherSides_J214 x3 x5 s_d s_v s_n = some out) (H : Heap) (locs : List Loc) (ls : Array Slot) (hZ : K_S D A s (wd_X5 aC a_v (a_n 0) (a_d 0) s_v ++ (wd_X4 aC a_d s_d ++ wd_X1 aC a_n s_n)) H locs) (hl : lv_has ls 7 [(0, .ref (a_v 0)), (3, .int x3), (5, .int x5)]) : W p l e (R_m 1 23) s m args below meth c H locs 0 0 (MQ below (Q_W (some (.int out.1)) D A (wd_X5 aC a_v (a_n 0) (a_d 0) s_v ++ (wd_X4 aC a_d out.2 ++ wd_X1 aC a_n s_n))) args s 0 0 A) (F0 m 214 ls []) := by
  obtain ⟨hx, hb, hml, hown, hts, hK, hA, hlk⟩ := id hX
  unfold f_X5_gatherSides_J214 at h
  refine lv_iload hx hb dX5_gatherSides_214 (lv_at hl 2 rfl) ?_
  refine lv_istore (lv' := [(6, .int x5), (0, .ref (a_v 0)), (3, .int x3), (5, .int x5)]) hx hb dX5_gatherSides_216 hl (by decide) rfl (fun ls hl => ?_)
  exact Lp_ok (body := (fun (rec : (Int32 × Int32 × Ob_T) → Option (Int32 × Ob_T)) x => f_X5_gatherSides_L218 rec x.1 x.2.1 x.2.2 s_v s_n)) (out := out) (fun x => ∀ (H : Heap) (locs : List Loc) (ls : Array Slot), K_S D A s (wd_X5 aC a_v (a_n 0) (a_d 0) s_v ++ (wd_X4 aC a_d x.2.2 ++ wd_X1 aC a_n s_n)) H locs → lv_has ls 7 [(0, .ref (a_v 0)), (3, .int x.1), (6, .int x.2.1)] → W p l e (R_m 1 23) s m args below meth c H locs 0 0 (MQ below (Q_W (some (.int out.1)) D A (wd_X5 aC a_v (a_n 0) (a_d 0) s_v ++ (wd_X4 aC a_d out.2 ++ wd_X1 aC a_n s_n))) args s 0 0 A) (F0 m 218 ls [])) (fun rec hrec x h H locs ls hZ hl => t_X5_gatherSides_L218 hX hr hrec x.1 x.2.1 x.2.2 h H locs ls hZ hl) FU_ (x3, x5, s_d) h H locs ls hZ (lv_sub hl [1, 2, 0] rfl)
set_option maxHeartbeats 4000000 in
set_option maxRecDepth 100000 in
theorem t_X5_gatherSides_J167 {p : Program} {l : Launch} {e : Env} {s : State} {m : MethodId} {args : Array Value} {below : List Frame} {meth : Method} {c : Code} {D : va_G} {aC : Nat → ClassId} {A : Nat → Prop} {a_v a_d a_n : Nat → Nat} {out : Int32 × Ob_T} {s_v : Ob_T} {s_n : Ob_T} (hX : K_X p s m args meth c cX5_gatherSides 7 WL_ RX5 D aC A) (hr : meth.sig.returnType = (some .boolean)) (x1 : Int32) (x3 : Int32) (k0 : Int32) (s_d : Ob_T) (h : f_X5_gatherSides_J167 x1 x3 k0 s_d s_v s_n = some out) (H : Heap) (locs : List Loc) (ls : Array Slot) (hZ : K_S D A s (wd_X5 aC a_v (a_n 0) (a_d 0) s_v ++ (wd_X4 aC a_d s_d ++ wd_X1 aC a_n s_n)) H locs) (hl : lv_has ls 7 [(0, .ref (a_v 0)), (1, .int x1), (3, .int x3)]) : W p l e (R_m 1 23) s m args below meth c H locs 0 0 (MQ below (Q_W (some (.int out.1)) D A (wd_X5 aC a_v (a_n 0) (a_d 0) s_v ++ (wd_X4 aC a_d out.2 ++ wd_X1 aC a_n s_n))) args s 0 0 A) (F0 m 167 ls [.int k0]) := by
  obtain ⟨hx, hb, hml, hown, hts, hK, hA, hlk⟩ := id hX
  unfold f_X5_gatherSides_J167 at h
  refine lv_istore (lv' := [(5, .int k0), (0, .ref (a_v 0)), (1, .int x1), (3, .int x3)]) hx hb dX5_gatherSides_167 hl (by decide) rfl (fun ls hl => ?_)
  refine lv_iload hx hb dX5_gatherSides_169 (lv_at hl 0 rfl) ?_
  refine lv_istore (lv' := [(6, .int k0), (5, .int k0), (0, .ref (a_v 0)), (1, .int x1), (3, .int x3)]) hx hb dX5_gatherSides_171 hl (by decide) rfl (fun ls hl => ?_)
  exact Lp_ok (body := (fun (rec : (Int32 × Int32 × Int32 × Int32 × Ob_T) → Option (Int32 × Ob_T)) x => f_X5_gatherSides_L173 (fun y3 y5 t_d => f_X5_gatherSides_J214 y3 y5 t_d s_v s_n) rec x.1 x.2.1 x.2.2.1 x.2.2.2.1 x.2.2.2.2 s_v s_n)) (out := out) (fun x => ∀ (H : Heap) (locs : List Loc) (ls : Array Slot), K_S D A s (wd_X5 aC a_v (a_n 0) (a_d 0) s_v ++ (wd_X4 aC a_d x.2.2.2.2 ++ wd_X1 aC a_n s_n)) H locs → lv_has ls 7 [(0, .ref (a_v 0)), (1, .int x.1), (3, .int x.2.1), (5, .int x.2.2.1), (6, .int x.2.2.2.1)] → W p l e (R_m 1 23) s m args below meth c H locs 0 0 (MQ below (Q_W (some (.int out.1)) D A (wd_X5 aC a_v (a_n 0) (a_d 0) s_v ++ (wd_X4 aC a_d out.2 ++ wd_X1 aC a_n s_n))) args s 0 0 A) (F0 m 173 ls [])) (fun rec hrec x h H locs ls hZ hl => t_X5_gatherSides_L173 hX hr (fun y3 y5 t_d h H locs ls hZ hl => t_X5_gatherSides_J214 hX hr y3 y5 t_d h H locs ls hZ (lv_sub hl [0, 1, 2] rfl)) hrec x.1 x.2.1 x.2.2.1 x.2.2.2.1 x.2.2.2.2 h H locs ls hZ hl) FU_ (x1, x3, k0, k0, s_d) h H locs ls hZ (lv_sub hl [2, 3, 4, 1, 0] rfl)
set_option maxHeartbeats 4000000 in
set_option maxRecDepth 100000 in
theorem t_X5_gatherSides_J27 {p : Program} {l : Launch} {e : Env} {s : State} {m : MethodId} {args : Array Value} {below : List Frame} {meth : Method} {c : Code} {D : va_G} {aC : Nat → ClassId} {A : Nat → Prop} {a_v a_d a_n : Nat → Nat} {out : Int32 × Ob_T} {s_v : Ob_T} {s_n : Ob_T} (hX : K_X p s m args meth c cX5_gatherSides 7 WL_ RX5 D aC A) (hr : meth.sig.returnType = (some .boolean)) (x1 : Int32) (x2 : Int32) (s_d : Ob_T) (h : f_X5_gatherSides_J27 x1 x2 s_d s_v s_n = some out) (H : Heap) (locs : List Loc) (ls : Array Slot) (hZ : K_S D A s (wd_X5 aC a_v (a_n 0) (a_d 0) s_v ++ (wd_X4 aC a_d s_d ++ wd_X1 aC a_n s_n)) H locs) (hl : lv_has ls 7 [(0, .ref (a_v 0)), (1, .int x1), (2, .int x2)]) : W p l e (R_m 1 23) s m args below meth c H locs 0 0 (MQ below (Q_W (some (.int out.1)) D A (wd_X5 aC a_v (a_n 0) (a_d 0) s_v ++ (wd_X4 aC a_d out.2 ++ wd_X1 aC a_n s_n))) args s 0 0 A) (F0 m 27 ls []) := by
  obtain ⟨hx, hb, hml, hown, hts, hK, hA, hlk⟩ := id hX
  unfold f_X5_gatherSides_J27 at h
  refine lv_aload_n hx hb dX5_gatherSides_27 rfl (lv_at hl 0 rfl) ?_
  refine k_get hX hZ.1 0 5 rfl rfl iw_X5 0 rfl (wm_448) (v := .ref (a_n 0)) rfl dX5_gatherSides_28 ?_
  refine lv_iload_n hx hb dX5_gatherSides_31 rfl (lv_at hl 1 rfl) ?_
  obtain ⟨u2, hu, h⟩ := k_bd h
  refine k_vR (As := [.int x1]) (rest := []) (wc := wd_X1 aC a_n s_n) (v := some (.int u2)) (st1 := [.int u2]) hX hl.1 hZ (c_X1_firstOf (a_n := a_n) s_n x1 hu) (gv_ wm_467 wm_469 wm_470 wm_321 wm_468) rfl hd_X1_firstOf ⟨rfl, rfl⟩ 1 0 rfl rfl [8, 9, 10, 11, 12, 13, 14] rfl rfl rfl rfl rfl dX5_gatherSides_32 rfl ⟨rfl, rfl⟩ (fun locs hZ => ?_)
  clear hu
  refine lv_istore_n (lv' := [(3, .int u2), (0, .ref (a_v 0)), (1, .int x1), (2, .int x2)]) hx hb dX5_gatherSides_35 rfl hl (by decide) rfl (fun ls hl => ?_)
  refine lv_aload_n hx hb dX5_gatherSides_36 rfl (lv_at hl 1 rfl) ?_
  refine k_get hX hZ.1 0 5 rfl rfl iw_X5 0 rfl (wm_448) (v := .ref (a_n 0)) rfl dX5_gatherSides_37 ?_
  refine lv_iload_n hx hb dX5_gatherSides_40 rfl (lv_at hl 2 rfl) ?_
  obtain ⟨u3, hu, h⟩ := k_bd h
  refine k_vR (As := [.int x1]) (rest := []) (wc := wd_X1 aC a_n s_n) (v := some (.int u3)) (st1 := [.int u3]) hX hl.1 hZ (c_X1_rankOf (a_n := a_n) s_n x1 hu) (gv_ wm_459 wm_461 wm_462 wm_321 wm_460) rfl hd_X1_rankOf ⟨rfl, rfl⟩ 1 0 rfl rfl [8, 9, 10, 11, 12, 13, 14] rfl rfl rfl rfl rfl dX5_gatherSides_41 rfl ⟨rfl, rfl⟩ (fun locs hZ => ?_)
  clear hu
  refine lv_istore (lv' := [(4, .int u3), (3, .int u2), (0, .ref (a_v 0)), (1, .int x1), (2, .int x2)]) hx hb dX5_gatherSides_44 hl (by decide) rfl (fun ls hl => ?_)
  refine lv_aload_n hx hb dX5_gatherSides_46 rfl (lv_at hl 2 rfl) ?_
  refine k_get hX hZ.1 0 5 rfl rfl iw_X5 1 rfl (wm_494) (v := .ref (a_d 0)) rfl dX5_gatherSides_47 ?_
  obtain ⟨u4, hu, h⟩ := k_bd h
  refine k_vW (As := []) (rest := []) (wc := wd_X4 aC a_d s_d) (v := none) (st1 := []) (w' := wd_X5 aC a_v (a_n 0) (a_d 0) s_v ++ (wd_X4 aC a_d u4 ++ wd_X1 aC a_n s_n)) hX hl.1 hZ (c_X4_clear (a_d := a_d) s_d hu) (gv_ wm_509 wm_511 wm_512 wm_496 wm_510) rfl hd_X4_clear ⟨rfl, rfl⟩ 4 0 rfl rfl [5, 6, 7] rfl rfl rfl rfl rfl dX5_gatherSides_50 rfl ⟨rfl, rfl⟩ rfl rfl rfl (fun H locs hZ => ?_)
  clear hu
  refine lv_iload_n hx hb dX5_gatherSides_53 rfl (lv_at hl 4 rfl) ?_
  refine lv_iconst (v := 2) hx hb dX5_gatherSides_54 (by decide) ?_
  refine lv_icmp_ne (tgt := 148) hx hb dX5_gatherSides_55 (by decide) (fun cd => ?_) (fun cd => ?_)
  · replace h := k_f cd h
    clear cd
    refine lv_iload_n hx hb dX5_gatherSides_148 rfl (lv_at hl 4 rfl) ?_
    refine lv_iconst (v := 5) hx hb dX5_gatherSides_149 (by decide) ?_
    refine lv_icmp_ne (tgt := 166) hx hb dX5_gatherSides_150 (by decide) (fun cd => ?_) (fun cd => ?_)
    · replace h := k_f cd h
      clear cd
      refine lv_iconst (v := 0) hx hb dX5_gatherSides_166 (by decide) ?_
      exact t_X5_gatherSides_J167 hX hr x1 u2 (0 : Int32) u4 h H locs ls hZ (lv_sub hl [2, 3, 1] rfl)
    · replace h := k_t cd h
      clear cd
      refine lv_aload_n hx hb dX5_gatherSides_153 rfl (lv_at hl 2 rfl) ?_
      refine k_get hX hZ.1 0 5 rfl rfl iw_X5 0 rfl (wm_448) (v := .ref (a_n 0)) rfl dX5_gatherSides_154 ?_
      refine lv_iload_n hx hb dX5_gatherSides_157 rfl (lv_at hl 1 rfl) ?_
      refine lv_iload hx hb dX5_gatherSides_158 (lv_at hl 0 rfl) ?_
      obtain ⟨u13, hu, h⟩ := k_bd h
      refine k_vR (As := [.int u2, .int u3]) (rest := []) (wc := wd_X1 aC a_n s_n) (v := some (.int u13)) (st1 := [.int u13]) hX hl.1 hZ (c_X1_frameOf (a_n := a_n) s_n u2 u3 hu) (gv_ wm_458 wm_335 wm_336 wm_321 wm_334) rfl hd_X1_frameOf ⟨rfl, rfl⟩ 1 0 rfl rfl [8, 9, 10, 11, 12, 13, 14] rfl rfl rfl rfl rfl dX5_gatherSides_160 rfl ⟨rfl, rfl⟩ (fun locs hZ => ?_)
      clear hu
      refine lv_goto (tgt := 167) hx hb dX5_gatherSides_163 (by decide) ?_
      exact t_X5_gatherSides_J167 hX hr x1 u2 u13 u4 h H locs ls hZ (lv_sub hl [2, 3, 1] rfl)
  · replace h := k_t cd h
    clear cd
    refine lv_aload_n hx hb dX5_gatherSides_58 rfl (lv_at hl 2 rfl) ?_
    refine k_get hX hZ.1 0 5 rfl rfl iw_X5 1 rfl (wm_494) (v := .ref (a_d 0)) rfl dX5_gatherSides_59 ?_
    refine lv_iconst (v := 0) hx hb dX5_gatherSides_62 (by decide) ?_
    refine lv_aload_n hx hb dX5_gatherSides_63 rfl (lv_at hl 2 rfl) ?_
    refine lv_iload_n hx hb dX5_gatherSides_64 rfl (lv_at hl 3 rfl) ?_
    obtain ⟨u14, hu, h⟩ := k_bd h
    refine k_sR (As := [.int x1]) (rest := [.ref (a_v 0), .int (0 : Int32), .ref (a_d 0)]) (wc := []) (v := some (.int u14)) (st1 := [.int u14, .ref (a_v 0), .int (0 : Int32), .ref (a_d 0)]) hX hl.1 hZ (c_X1_ownLetter  x1 hu) (gs_ wm_508 wm_367 wm_321 wm_366) rfl hd_X1_ownLetter ⟨rfl, rfl⟩ [] rfl rfl rfl rfl rfl dX5_gatherSides_65 rfl ⟨rfl, rfl⟩ (fun locs hZ => ?_)
    clear hu
    obtain ⟨u15, hu, h⟩ := k_bd h
    refine k_vR (As := [.int u14]) (rest := [.int (0 : Int32), .ref (a_d 0)]) (wc := wd_X5 aC a_v (a_n 0) (a_d 0) s_v) (v := some (.int u15)) (st1 := [.int u15, .int (0 : Int32), .ref (a_d 0)]) hX hl.1 hZ (c_X5_valueOf (a_v := a_v) (a_n := a_n) (a_d := a_d) s_v u14 hu) (gv_ wm_444 wm_446 wm_447 wm_432 wm_445) rfl hd_X5_valueOf ⟨rfl, rfl⟩ 5 0 rfl rfl [0, 1, 2, 3, 4] rfl rfl rfl rfl rfl dX5_gatherSides_68 rfl ⟨rfl, rfl⟩ (fun locs hZ => ?_)
    clear hu
    obtain ⟨u16, hu, h⟩ := k_bd h
    refine k_vW (As := [.int (0 : Int32), .int u15]) (rest := []) (wc := wd_X4 aC a_d u4) (v := none) (st1 := []) (w' := wd_X5 aC a_v (a_n 0) (a_d 0) s_v ++ (wd_X4 aC a_d u16 ++ wd_X1 aC a_n s_n)) hX hl.1 hZ (c_X4_add (a_d := a_d) u4 (0 : Int32) u15 hu) (gv_ wm_495 wm_498 wm_499 wm_496 wm_497) rfl hd_X4_add ⟨rfl, rfl⟩ 4 0 rfl rfl [5, 6, 7] rfl rfl rfl rfl rfl dX5_gatherSides_71 rfl ⟨rfl, rfl⟩ rfl rfl rfl (fun H locs hZ => ?_)
    clear hu
    refine lv_aload_n hx hb dX5_gatherSides_74 rfl (lv_at hl 2 rfl) ?_
    refine k_get hX hZ.1 0 5 rfl rfl iw_X5 0 rfl (wm_448) (v := .ref (a_n 0)) rfl dX5_gatherSides_75 ?_
    refine lv_iload_n hx hb dX5_gatherSides_78 rfl (lv_at hl 3 rfl) ?_
    obtain ⟨u17, hu, h⟩ := k_bd h
    refine k_vR (As := [.int x1]) (rest := []) (wc := wd_X1 aC a_n s_n) (v := some (.int u17)) (st1 := [.int u17]) hX hl.1 hZ (c_X1_secondOf (a_n := a_n) s_n x1 hu) (gv_ wm_463 wm_465 wm_466 wm_321 wm_464) rfl hd_X1_secondOf ⟨rfl, rfl⟩ 1 0 rfl rfl [8, 9, 10, 11, 12, 13, 14] rfl rfl rfl rfl rfl dX5_gatherSides_79 rfl ⟨rfl, rfl⟩ (fun locs hZ => ?_)
    clear hu
    refine lv_istore (lv' := [(5, .int u17), (4, .int u3), (3, .int u2), (0, .ref (a_v 0)), (1, .int x1), (2, .int x2)]) hx hb dX5_gatherSides_82 hl (by decide) rfl (fun ls hl => ?_)
    refine lv_aload_n hx hb dX5_gatherSides_84 rfl (lv_at hl 3 rfl) ?_
    refine k_get hX hZ.1 0 5 rfl rfl iw_X5 1 rfl (wm_494) (v := .ref (a_d 0)) rfl dX5_gatherSides_85 ?_
    refine lv_iconst (v := 1) hx hb dX5_gatherSides_88 (by decide) ?_
    refine lv_aload_n hx hb dX5_gatherSides_89 rfl (lv_at hl 3 rfl) ?_
    refine lv_aload_n hx hb dX5_gatherSides_90 rfl (lv_at hl 3 rfl) ?_
    refine k_get hX hZ.1 0 5 rfl rfl iw_X5 0 rfl (wm_448) (v := .ref (a_n 0)) rfl dX5_gatherSides_91 ?_
    refine lv_iload_n hx hb dX5_gatherSides_94 rfl (lv_at hl 2 rfl) ?_
    refine lv_aload_n hx hb dX5_gatherSides_95 rfl (lv_at hl 3 rfl) ?_
    refine k_get hX hZ.1 0 5 rfl rfl iw_X5 0 rfl (wm_448) (v := .ref (a_n 0)) rfl dX5_gatherSides_96 ?_
    refine lv_iload_n hx hb dX5_gatherSides_99 rfl (lv_at hl 2 rfl) ?_
    refine lv_iload hx hb dX5_gatherSides_100 (lv_at hl 1 rfl) ?_
    obtain ⟨u18, hu, h⟩ := k_bd h
    refine k_vR (As := [.int u2, .int u3]) (rest := [.int u2, .ref (a_n 0), .ref (a_v 0), .int (1 : Int32), .ref (a_d 0)]) (wc := wd_X1 aC a_n s_n) (v := some (.int u18)) (st1 := [.int u18, .int u2, .ref (a_n 0), .ref (a_v 0), .int (1 : Int32), .ref (a_d 0)]) hX hl.1 hZ (c_X1_frameOf (a_n := a_n) s_n u2 u3 hu) (gv_ wm_458 wm_335 wm_336 wm_321 wm_334) rfl hd_X1_frameOf ⟨rfl, rfl⟩ 1 0 rfl rfl [8, 9, 10, 11, 12, 13, 14] rfl rfl rfl rfl rfl dX5_gatherSides_102 rfl ⟨rfl, rfl⟩ (fun locs hZ => ?_)
    clear hu
    obtain ⟨u19, hu, h⟩ := k_bd h
    refine k_vR (As := [.int u2, .int u18]) (rest := [.ref (a_v 0), .int (1 : Int32), .ref (a_d 0)]) (wc := wd_X1 aC a_n s_n) (v := some (.int u19)) (st1 := [.int u19, .ref (a_v 0), .int (1 : Int32), .ref (a_d 0)]) hX hl.1 hZ (c_X1_joinedAt (a_n := a_n) s_n u2 u18 hu) (gv_ wm_504 wm_506 wm_507 wm_321 wm_505) rfl hd_X1_joinedAt ⟨rfl, rfl⟩ 1 0 rfl rfl [8, 9, 10, 11, 12, 13, 14] rfl rfl rfl rfl rfl dX5_gatherSides_105 rfl ⟨rfl, rfl⟩ (fun locs hZ => ?_)
    clear hu
    obtain ⟨u20, hu, h⟩ := k_bd h
    refine k_vR (As := [.int u19]) (rest := [.int (1 : Int32), .ref (a_d 0)]) (wc := wd_X5 aC a_v (a_n 0) (a_d 0) s_v) (v := some (.int u20)) (st1 := [.int u20, .int (1 : Int32), .ref (a_d 0)]) hX hl.1 hZ (c_X5_valueOf (a_v := a_v) (a_n := a_n) (a_d := a_d) s_v u19 hu) (gv_ wm_444 wm_446 wm_447 wm_432 wm_445) rfl hd_X5_valueOf ⟨rfl, rfl⟩ 5 0 rfl rfl [0, 1, 2, 3, 4] rfl rfl rfl rfl rfl dX5_gatherSides_108 rfl ⟨rfl, rfl⟩ (fun locs hZ => ?_)
    clear hu
    obtain ⟨u21, hu, h⟩ := k_bd h
    refine k_vW (As := [.int (1 : Int32), .int u20]) (rest := []) (wc := wd_X4 aC a_d u16) (v := none) (st1 := []) (w' := wd_X5 aC a_v (a_n 0) (a_d 0) s_v ++ (wd_X4 aC a_d u21 ++ wd_X1 aC a_n s_n)) hX hl.1 hZ (c_X4_add (a_d := a_d) u16 (1 : Int32) u20 hu) (gv_ wm_495 wm_498 wm_499 wm_496 wm_497) rfl hd_X4_add ⟨rfl, rfl⟩ 4 0 rfl rfl [5, 6, 7] rfl rfl rfl rfl rfl dX5_gatherSides_111 rfl ⟨rfl, rfl⟩ rfl rfl rfl (fun H locs hZ => ?_)
    clear hu
    refine lv_aload_n hx hb dX5_gatherSides_114 rfl (lv_at hl 3 rfl) ?_
    refine k_get hX hZ.1 0 5 rfl rfl iw_X5 1 rfl (wm_494) (v := .ref (a_d 0)) rfl dX5_gatherSides_115 ?_
    refine lv_iconst (v := 1) hx hb dX5_gatherSides_118 (by decide) ?_
    refine lv_aload_n hx hb dX5_gatherSides_119 rfl (lv_at hl 3 rfl) ?_
    refine lv_aload_n hx hb dX5_gatherSides_120 rfl (lv_at hl 3 rfl) ?_
    refine k_get hX hZ.1 0 5 rfl rfl iw_X5 0 rfl (wm_448) (v := .ref (a_n 0)) rfl dX5_gatherSides_121 ?_
    refine lv_iload hx hb dX5_gatherSides_124 (lv_at hl 0 rfl) ?_
    refine lv_aload_n hx hb dX5_gatherSides_126 rfl (lv_at hl 3 rfl) ?_
    refine k_get hX hZ.1 0 5 rfl rfl iw_X5 0 rfl (wm_448) (v := .ref (a_n 0)) rfl dX5_gatherSides_127 ?_
    refine lv_iload hx hb dX5_gatherSides_130 (lv_at hl 0 rfl) ?_
    refine lv_iload hx hb dX5_gatherSides_132 (lv_at hl 1 rfl) ?_
    obtain ⟨u22, hu, h⟩ := k_bd h
    refine k_vR (As := [.int u17, .int u3]) (rest := [.int u17, .ref (a_n 0), .ref (a_v 0), .int (1 : Int32), .ref (a_d 0)]) (wc := wd_X1 aC a_n s_n) (v := some (.int u22)) (st1 := [.int u22, .int u17, .ref (a_n 0), .ref (a_v 0), .int (1 : Int32), .ref (a_d 0)]) hX hl.1 hZ (c_X1_frameOf (a_n := a_n) s_n u17 u3 hu) (gv_ wm_458 wm_335 wm_336 wm_321 wm_334) rfl hd_X1_frameOf ⟨rfl, rfl⟩ 1 0 rfl rfl [8, 9, 10, 11, 12, 13, 14] rfl rfl rfl rfl rfl dX5_gatherSides_134 rfl ⟨rfl, rfl⟩ (fun locs hZ => ?_)
    clear hu
    obtain ⟨u23, hu, h⟩ := k_bd h
    refine k_vR (As := [.int u17, .int u22]) (rest := [.ref (a_v 0), .int (1 : Int32), .ref (a_d 0)]) (wc := wd_X1 aC a_n s_n) (v := some (.int u23)) (st1 := [.int u23, .ref (a_v 0), .int (1 : Int32), .ref (a_d 0)]) hX hl.1 hZ (c_X1_joinedAt (a_n := a_n) s_n u17 u22 hu) (gv_ wm_504 wm_506 wm_507 wm_321 wm_505) rfl hd_X1_joinedAt ⟨rfl, rfl⟩ 1 0 rfl rfl [8, 9, 10, 11, 12, 13, 14] rfl rfl rfl rfl rfl dX5_gatherSides_137 rfl ⟨rfl, rfl⟩ (fun locs hZ => ?_)
    clear hu
    obtain ⟨u24, hu, h⟩ := k_bd h
    refine k_vR (As := [.int u23]) (rest := [.int (1 : Int32), .ref (a_d 0)]) (wc := wd_X5 aC a_v (a_n 0) (a_d 0) s_v) (v := some (.int u24)) (st1 := [.int u24, .int (1 : Int32), .ref (a_d 0)]) hX hl.1 hZ (c_X5_valueOf (a_v := a_v) (a_n := a_n) (a_d := a_d) s_v u23 hu) (gv_ wm_444 wm_446 wm_447 wm_432 wm_445) rfl hd_X5_valueOf ⟨rfl, rfl⟩ 5 0 rfl rfl [0, 1, 2, 3, 4] rfl rfl rfl rfl rfl dX5_gatherSides_140 rfl ⟨rfl, rfl⟩ (fun locs hZ => ?_)
    clear hu
    obtain ⟨u25, hu, h⟩ := k_bd h
    refine k_vW (As := [.int (1 : Int32), .int u24]) (rest := []) (wc := wd_X4 aC a_d u21) (v := none) (st1 := []) (w' := wd_X5 aC a_v (a_n 0) (a_d 0) s_v ++ (wd_X4 aC a_d u25 ++ wd_X1 aC a_n s_n)) hX hl.1 hZ (c_X4_add (a_d := a_d) u21 (1 : Int32) u24 hu) (gv_ wm_495 wm_498 wm_499 wm_496 wm_497) rfl hd_X4_add ⟨rfl, rfl⟩ 4 0 rfl rfl [5, 6, 7] rfl rfl rfl rfl rfl dX5_gatherSides_143 rfl ⟨rfl, rfl⟩ rfl rfl rfl (fun H locs hZ => ?_)
    clear hu
    refine lv_iconst (v := 1) hx hb dX5_gatherSides_146 (by decide) ?_
    cases h
    exact k_zretW (v := (1 : Int32)) hX hr rfl hZ dX5_gatherSides_147
set_option maxHeartbeats 4000000 in
set_option maxRecDepth 100000 in
theorem c_X5_gatherSides {l : Launch} {D : va_G} {aC : Nat → ClassId} {a_v : Nat → Nat} {a_d : Nat → Nat} {a_n : Nat → Nat} (s_v : Ob_T) (s_d : Ob_T) (s_n : Ob_T) (x1 : Int32) {out : Int32 × Ob_T} (h : f_X5_gatherSides s_v s_d s_n x1 = some out) : M_W l yX5_gatherSides wlX5_gatherSides 1 23 D aC [.ref (a_v 0), .int x1] (wd_X5 aC a_v (a_n 0) (a_d 0) s_v ++ (wd_X4 aC a_d s_d ++ wd_X1 aC a_n s_n)) (some (.int out.1)) (wd_X5 aC a_v (a_n 0) (a_d 0) s_v ++ (wd_X4 aC a_d out.2 ++ wd_X1 aC a_n s_n)) := by
  refine k_entW (cc := cX5_gatherSides) (ret := (some .boolean)) (maxL := 7) (own := RX5) (by decide) rfl rfl rfl ?_
  intro p e s m below meth c A ls hX hr hZ hl
  have hl : lv_has ls 7 [(0, .ref (a_v 0)), (1, .int x1)] := hl
  generalize ([.ref (a_v 0), .int x1] : List Value).toArray = args at hX ⊢
  obtain ⟨hx, hb, hml, hown, hts, hK, hA, hlk⟩ := id hX
  unfold f_X5_gatherSides at h
  generalize s.heap = H at hZ ⊢
  generalize ([] : List Loc) = locs at hZ ⊢
  refine lv_aload_n hx hb dX5_gatherSides_0 rfl (lv_at hl 0 rfl) ?_
  refine k_get hX hZ.1 0 5 rfl rfl iw_X5 0 rfl (wm_448) (v := .ref (a_n 0)) rfl dX5_gatherSides_1 ?_
  refine lv_iload_n hx hb dX5_gatherSides_4 rfl (lv_at hl 1 rfl) ?_
  obtain ⟨u1, hu, h⟩ := k_bd h
  refine k_vR (As := [.int x1]) (rest := []) (wc := wd_X1 aC a_n s_n) (v := some (.int u1)) (st1 := [.int u1]) hX hl.1 hZ (c_X1_kindOf (a_n := a_n) s_n x1 hu) (gv_ wm_480 wm_482 wm_483 wm_321 wm_481) rfl hd_X1_kindOf ⟨rfl, rfl⟩ 1 0 rfl rfl [8, 9, 10, 11, 12, 13, 14] rfl rfl rfl rfl rfl dX5_gatherSides_5 rfl ⟨rfl, rfl⟩ (fun locs hZ => ?_)
  clear hu
  refine lv_istore_n (lv' := [(2, .int u1), (0, .ref (a_v 0)), (1, .int x1)]) hx hb dX5_gatherSides_8 rfl hl (by decide) rfl (fun ls hl => ?_)
  refine lv_iload_n hx hb dX5_gatherSides_9 rfl (lv_at hl 0 rfl) ?_
  refine lv_iconst (v := 2) hx hb dX5_gatherSides_10 (by decide) ?_
  refine lv_icmp_eq (tgt := 27) hx hb dX5_gatherSides_11 (by decide) (fun cd => ?_) (fun cd => ?_)
  · replace h := k_t cd h
    clear cd
    exact t_X5_gatherSides_J27 hX hr x1 u1 s_d h H locs ls hZ (lv_sub hl [1, 2, 0] rfl)
  · replace h := k_f cd h
    clear cd
    refine lv_iload_n hx hb dX5_gatherSides_14 rfl (lv_at hl 0 rfl) ?_
    refine lv_iconst (v := 5) hx hb dX5_gatherSides_15 (by decide) ?_
    refine lv_icmp_eq (tgt := 27) hx hb dX5_gatherSides_16 (by decide) (fun cd => ?_) (fun cd => ?_)
    · replace h := k_t cd h
      clear cd
      exact t_X5_gatherSides_J27 hX hr x1 u1 s_d h H locs ls hZ (lv_sub hl [1, 2, 0] rfl)
    · replace h := k_f cd h
      clear cd
      refine lv_iload_n hx hb dX5_gatherSides_19 rfl (lv_at hl 0 rfl) ?_
      refine lv_bipush (v := 6) hx hb dX5_gatherSides_20 (by decide) ?_
      refine lv_icmp_eq (tgt := 27) hx hb dX5_gatherSides_22 (by decide) (fun cd => ?_) (fun cd => ?_)
      · replace h := k_t cd h
        clear cd
        exact t_X5_gatherSides_J27 hX hr x1 u1 s_d h H locs ls hZ (lv_sub hl [1, 2, 0] rfl)
      · replace h := k_f cd h
        clear cd
        refine lv_iconst (v := 0) hx hb dX5_gatherSides_25 (by decide) ?_
        cases h
        exact k_zretW (v := (0 : Int32)) hX hr rfl hZ dX5_gatherSides_26
