def wlX5_gatherSides : List Cond := .code yX5_gatherSides cX5_gatherSides 7 (some .boolean) :: WL_
theorem hd_X5_gatherSides : yX5_gatherSides.cls = RX5 ∧ yX5_gatherSides.cls ≠ "java/lang/invoke/MethodHandle" ∧ yX5_gatherSides.cls ≠ "java/lang/invoke/VarHandle" ∧ (parseMethodDescriptor yX5_gatherSides.desc).map (fun d => d.parameters.length) = some 1 := by decide +kernel
theorem dX5_gatherSides_0 : decode cX5_gatherSides 0 = .ok (.aload_n 0, 1) := by decide +kernel
theorem dX5_gatherSides_1 : decode cX5_gatherSides 1 = .ok (.getfield 31, 3) := by decide +kernel
theorem dX5_gatherSides_4 : decode cX5_gatherSides 4 = .ok (.iload_n 1, 1) := by decide +kernel
theorem dX5_gatherSides_5 : decode cX5_gatherSides 5 = .ok (.invokevirtual 74, 3) := by decide +kernel
theorem dX5_gatherSides_8 : decode cX5_gatherSides 8 = .ok (.istore_n 2, 1) := by decide +kernel
theorem dX5_gatherSides_9 : decode cX5_gatherSides 9 = .ok (.iload_n 2, 1) := by decide +kernel
theorem dX5_gatherSides_10 : decode cX5_gatherSides 10 = .ok (.iconst 2, 1) := by decide +kernel
theorem dX5_gatherSides_11 : decode cX5_gatherSides 11 = .ok (.if_icmp .eq 16, 3) := by decide +kernel
theorem dX5_gatherSides_14 : decode cX5_gatherSides 14 = .ok (.iload_n 2, 1) := by decide +kernel
theorem dX5_gatherSides_15 : decode cX5_gatherSides 15 = .ok (.iconst 5, 1) := by decide +kernel
theorem dX5_gatherSides_16 : decode cX5_gatherSides 16 = .ok (.if_icmp .eq 11, 3) := by decide +kernel
theorem dX5_gatherSides_19 : decode cX5_gatherSides 19 = .ok (.iload_n 2, 1) := by decide +kernel
theorem dX5_gatherSides_20 : decode cX5_gatherSides 20 = .ok (.bipush 6, 2) := by decide +kernel
theorem dX5_gatherSides_22 : decode cX5_gatherSides 22 = .ok (.if_icmp .eq 5, 3) := by decide +kernel
theorem dX5_gatherSides_25 : decode cX5_gatherSides 25 = .ok (.iconst 0, 1) := by decide +kernel
theorem dX5_gatherSides_26 : decode cX5_gatherSides 26 = .ok (.ireturn, 1) := by decide +kernel
theorem dX5_gatherSides_27 : decode cX5_gatherSides 27 = .ok (.aload_n 0, 1) := by decide +kernel
theorem dX5_gatherSides_28 : decode cX5_gatherSides 28 = .ok (.getfield 31, 3) := by decide +kernel
theorem dX5_gatherSides_31 : decode cX5_gatherSides 31 = .ok (.iload_n 1, 1) := by decide +kernel
theorem dX5_gatherSides_32 : decode cX5_gatherSides 32 = .ok (.invokevirtual 97, 3) := by decide +kernel
theorem dX5_gatherSides_35 : decode cX5_gatherSides 35 = .ok (.istore_n 3, 1) := by decide +kernel
theorem dX5_gatherSides_36 : decode cX5_gatherSides 36 = .ok (.aload_n 0, 1) := by decide +kernel
theorem dX5_gatherSides_37 : decode cX5_gatherSides 37 = .ok (.getfield 31, 3) := by decide +kernel
theorem dX5_gatherSides_40 : decode cX5_gatherSides 40 = .ok (.iload_n 1, 1) := by decide +kernel
theorem dX5_gatherSides_41 : decode cX5_gatherSides 41 = .ok (.invokevirtual 103, 3) := by decide +kernel
theorem dX5_gatherSides_44 : decode cX5_gatherSides 44 = .ok (.istore 4, 2) := by decide +kernel
theorem dX5_gatherSides_46 : decode cX5_gatherSides 46 = .ok (.aload_n 0, 1) := by decide +kernel
theorem dX5_gatherSides_47 : decode cX5_gatherSides 47 = .ok (.getfield 12, 3) := by decide +kernel
theorem dX5_gatherSides_50 : decode cX5_gatherSides 50 = .ok (.invokevirtual 136, 3) := by decide +kernel
theorem dX5_gatherSides_53 : decode cX5_gatherSides 53 = .ok (.iload_n 2, 1) := by decide +kernel
theorem dX5_gatherSides_54 : decode cX5_gatherSides 54 = .ok (.iconst 2, 1) := by decide +kernel
theorem dX5_gatherSides_55 : decode cX5_gatherSides 55 = .ok (.if_icmp .ne 79, 3) := by decide +kernel
theorem dX5_gatherSides_58 : decode cX5_gatherSides 58 = .ok (.aload_n 0, 1) := by decide +kernel
theorem dX5_gatherSides_59 : decode cX5_gatherSides 59 = .ok (.getfield 12, 3) := by decide +kernel
theorem dX5_gatherSides_62 : decode cX5_gatherSides 62 = .ok (.iconst 0, 1) := by decide +kernel
theorem dX5_gatherSides_63 : decode cX5_gatherSides 63 = .ok (.aload_n 0, 1) := by decide +kernel
theorem dX5_gatherSides_64 : decode cX5_gatherSides 64 = .ok (.iload_n 1, 1) := by decide +kernel
theorem dX5_gatherSides_65 : decode cX5_gatherSides 65 = .ok (.invokestatic 139, 3) := by decide +kernel
theorem dX5_gatherSides_68 : decode cX5_gatherSides 68 = .ok (.invokevirtual 64, 3) := by decide +kernel
theorem dX5_gatherSides_71 : decode cX5_gatherSides 71 = .ok (.invokevirtual 142, 3) := by decide +kernel
theorem dX5_gatherSides_74 : decode cX5_gatherSides 74 = .ok (.aload_n 0, 1) := by decide +kernel
theorem dX5_gatherSides_75 : decode cX5_gatherSides 75 = .ok (.getfield 12, 3) := by decide +kernel
theorem dX5_gatherSides_78 : decode cX5_gatherSides 78 = .ok (.iconst 1, 1) := by decide +kernel
theorem dX5_gatherSides_79 : decode cX5_gatherSides 79 = .ok (.aload_n 0, 1) := by decide +kernel
theorem dX5_gatherSides_80 : decode cX5_gatherSides 80 = .ok (.iload_n 3, 1) := by decide +kernel
theorem dX5_gatherSides_81 : decode cX5_gatherSides 81 = .ok (.aload_n 0, 1) := by decide +kernel
theorem dX5_gatherSides_82 : decode cX5_gatherSides 82 = .ok (.getfield 31, 3) := by decide +kernel
theorem dX5_gatherSides_85 : decode cX5_gatherSides 85 = .ok (.iload_n 3, 1) := by decide +kernel
theorem dX5_gatherSides_86 : decode cX5_gatherSides 86 = .ok (.iload 4, 2) := by decide +kernel
theorem dX5_gatherSides_88 : decode cX5_gatherSides 88 = .ok (.invokevirtual 106, 3) := by decide +kernel
theorem dX5_gatherSides_91 : decode cX5_gatherSides 91 = .ok (.invokevirtual 145, 3) := by decide +kernel
theorem dX5_gatherSides_94 : decode cX5_gatherSides 94 = .ok (.invokevirtual 142, 3) := by decide +kernel
theorem dX5_gatherSides_97 : decode cX5_gatherSides 97 = .ok (.aload_n 0, 1) := by decide +kernel
theorem dX5_gatherSides_98 : decode cX5_gatherSides 98 = .ok (.getfield 31, 3) := by decide +kernel
theorem dX5_gatherSides_101 : decode cX5_gatherSides 101 = .ok (.iload_n 1, 1) := by decide +kernel
theorem dX5_gatherSides_102 : decode cX5_gatherSides 102 = .ok (.invokevirtual 100, 3) := by decide +kernel
theorem dX5_gatherSides_105 : decode cX5_gatherSides 105 = .ok (.istore 5, 2) := by decide +kernel
theorem dX5_gatherSides_107 : decode cX5_gatherSides 107 = .ok (.aload_n 0, 1) := by decide +kernel
theorem dX5_gatherSides_108 : decode cX5_gatherSides 108 = .ok (.getfield 12, 3) := by decide +kernel
theorem dX5_gatherSides_111 : decode cX5_gatherSides 111 = .ok (.iconst 1, 1) := by decide +kernel
theorem dX5_gatherSides_112 : decode cX5_gatherSides 112 = .ok (.aload_n 0, 1) := by decide +kernel
theorem dX5_gatherSides_113 : decode cX5_gatherSides 113 = .ok (.iload 5, 2) := by decide +kernel
theorem dX5_gatherSides_115 : decode cX5_gatherSides 115 = .ok (.aload_n 0, 1) := by decide +kernel
theorem dX5_gatherSides_116 : decode cX5_gatherSides 116 = .ok (.getfield 31, 3) := by decide +kernel
theorem dX5_gatherSides_119 : decode cX5_gatherSides 119 = .ok (.iload 5, 2) := by decide +kernel
theorem dX5_gatherSides_121 : decode cX5_gatherSides 121 = .ok (.iload 4, 2) := by decide +kernel
theorem dX5_gatherSides_123 : decode cX5_gatherSides 123 = .ok (.invokevirtual 106, 3) := by decide +kernel
theorem dX5_gatherSides_126 : decode cX5_gatherSides 126 = .ok (.invokevirtual 145, 3) := by decide +kernel
theorem dX5_gatherSides_129 : decode cX5_gatherSides 129 = .ok (.invokevirtual 142, 3) := by decide +kernel
theorem dX5_gatherSides_132 : decode cX5_gatherSides 132 = .ok (.iconst 1, 1) := by decide +kernel
theorem dX5_gatherSides_133 : decode cX5_gatherSides 133 = .ok (.ireturn, 1) := by decide +kernel
theorem dX5_gatherSides_134 : decode cX5_gatherSides 134 = .ok (.iload_n 2, 1) := by decide +kernel
theorem dX5_gatherSides_135 : decode cX5_gatherSides 135 = .ok (.iconst 5, 1) := by decide +kernel
theorem dX5_gatherSides_136 : decode cX5_gatherSides 136 = .ok (.if_icmp .ne 16, 3) := by decide +kernel
theorem dX5_gatherSides_139 : decode cX5_gatherSides 139 = .ok (.aload_n 0, 1) := by decide +kernel
theorem dX5_gatherSides_140 : decode cX5_gatherSides 140 = .ok (.getfield 31, 3) := by decide +kernel
theorem dX5_gatherSides_143 : decode cX5_gatherSides 143 = .ok (.iload_n 3, 1) := by decide +kernel
theorem dX5_gatherSides_144 : decode cX5_gatherSides 144 = .ok (.iload 4, 2) := by decide +kernel
theorem dX5_gatherSides_146 : decode cX5_gatherSides 146 = .ok (.invokevirtual 106, 3) := by decide +kernel
theorem dX5_gatherSides_149 : decode cX5_gatherSides 149 = .ok (.goto 4, 3) := by decide +kernel
theorem dX5_gatherSides_152 : decode cX5_gatherSides 152 = .ok (.iconst 0, 1) := by decide +kernel
theorem dX5_gatherSides_153 : decode cX5_gatherSides 153 = .ok (.istore 5, 2) := by decide +kernel
theorem dX5_gatherSides_155 : decode cX5_gatherSides 155 = .ok (.iload 5, 2) := by decide +kernel
theorem dX5_gatherSides_157 : decode cX5_gatherSides 157 = .ok (.istore 6, 2) := by decide +kernel
theorem dX5_gatherSides_159 : decode cX5_gatherSides 159 = .ok (.iload 6, 2) := by decide +kernel
theorem dX5_gatherSides_161 : decode cX5_gatherSides 161 = .ok (.aload_n 0, 1) := by decide +kernel
theorem dX5_gatherSides_162 : decode cX5_gatherSides 162 = .ok (.getfield 31, 3) := by decide +kernel
theorem dX5_gatherSides_165 : decode cX5_gatherSides 165 = .ok (.iload_n 1, 1) := by decide +kernel
theorem dX5_gatherSides_166 : decode cX5_gatherSides 166 = .ok (.invokevirtual 56, 3) := by decide +kernel
theorem dX5_gatherSides_169 : decode cX5_gatherSides 169 = .ok (.if_icmp .ge 31, 3) := by decide +kernel
theorem dX5_gatherSides_172 : decode cX5_gatherSides 172 = .ok (.aload_n 0, 1) := by decide +kernel
theorem dX5_gatherSides_173 : decode cX5_gatherSides 173 = .ok (.getfield 12, 3) := by decide +kernel
theorem dX5_gatherSides_176 : decode cX5_gatherSides 176 = .ok (.iconst 0, 1) := by decide +kernel
theorem dX5_gatherSides_177 : decode cX5_gatherSides 177 = .ok (.aload_n 0, 1) := by decide +kernel
theorem dX5_gatherSides_178 : decode cX5_gatherSides 178 = .ok (.aload_n 0, 1) := by decide +kernel
theorem dX5_gatherSides_179 : decode cX5_gatherSides 179 = .ok (.getfield 31, 3) := by decide +kernel
theorem dX5_gatherSides_182 : decode cX5_gatherSides 182 = .ok (.iload_n 1, 1) := by decide +kernel
theorem dX5_gatherSides_183 : decode cX5_gatherSides 183 = .ok (.iload 6, 2) := by decide +kernel
theorem dX5_gatherSides_185 : decode cX5_gatherSides 185 = .ok (.invokevirtual 60, 3) := by decide +kernel
theorem dX5_gatherSides_188 : decode cX5_gatherSides 188 = .ok (.invokevirtual 64, 3) := by decide +kernel
theorem dX5_gatherSides_191 : decode cX5_gatherSides 191 = .ok (.invokevirtual 142, 3) := by decide +kernel
theorem dX5_gatherSides_194 : decode cX5_gatherSides 194 = .ok (.iinc 6 1, 3) := by decide +kernel
theorem dX5_gatherSides_197 : decode cX5_gatherSides 197 = .ok (.goto (-38), 3) := by decide +kernel
theorem dX5_gatherSides_200 : decode cX5_gatherSides 200 = .ok (.iload 5, 2) := by decide +kernel
theorem dX5_gatherSides_202 : decode cX5_gatherSides 202 = .ok (.istore 6, 2) := by decide +kernel
theorem dX5_gatherSides_204 : decode cX5_gatherSides 204 = .ok (.iload 6, 2) := by decide +kernel
theorem dX5_gatherSides_206 : decode cX5_gatherSides 206 = .ok (.aload_n 0, 1) := by decide +kernel
theorem dX5_gatherSides_207 : decode cX5_gatherSides 207 = .ok (.getfield 31, 3) := by decide +kernel
theorem dX5_gatherSides_210 : decode cX5_gatherSides 210 = .ok (.iload_n 3, 1) := by decide +kernel
theorem dX5_gatherSides_211 : decode cX5_gatherSides 211 = .ok (.invokevirtual 56, 3) := by decide +kernel
theorem dX5_gatherSides_214 : decode cX5_gatherSides 214 = .ok (.if_icmp .ge 31, 3) := by decide +kernel
theorem dX5_gatherSides_217 : decode cX5_gatherSides 217 = .ok (.aload_n 0, 1) := by decide +kernel
theorem dX5_gatherSides_218 : decode cX5_gatherSides 218 = .ok (.getfield 12, 3) := by decide +kernel
theorem dX5_gatherSides_221 : decode cX5_gatherSides 221 = .ok (.iconst 1, 1) := by decide +kernel
theorem dX5_gatherSides_222 : decode cX5_gatherSides 222 = .ok (.aload_n 0, 1) := by decide +kernel
theorem dX5_gatherSides_223 : decode cX5_gatherSides 223 = .ok (.aload_n 0, 1) := by decide +kernel
theorem dX5_gatherSides_224 : decode cX5_gatherSides 224 = .ok (.getfield 31, 3) := by decide +kernel
theorem dX5_gatherSides_227 : decode cX5_gatherSides 227 = .ok (.iload_n 3, 1) := by decide +kernel
theorem dX5_gatherSides_228 : decode cX5_gatherSides 228 = .ok (.iload 6, 2) := by decide +kernel
theorem dX5_gatherSides_230 : decode cX5_gatherSides 230 = .ok (.invokevirtual 60, 3) := by decide +kernel
theorem dX5_gatherSides_233 : decode cX5_gatherSides 233 = .ok (.invokevirtual 64, 3) := by decide +kernel
theorem dX5_gatherSides_236 : decode cX5_gatherSides 236 = .ok (.invokevirtual 142, 3) := by decide +kernel
theorem dX5_gatherSides_239 : decode cX5_gatherSides 239 = .ok (.iinc 6 1, 3) := by decide +kernel
theorem dX5_gatherSides_242 : decode cX5_gatherSides 242 = .ok (.goto (-38), 3) := by decide +kernel
theorem dX5_gatherSides_245 : decode cX5_gatherSides 245 = .ok (.iconst 1, 1) := by decide +kernel
theorem dX5_gatherSides_246 : decode cX5_gatherSides 246 = .ok (.ireturn, 1) := by decide +kernel
set_option maxHeartbeats 4000000 in
set_option maxRecDepth 100000 in
theorem t_X5_gatherSides_L159 {p : Program} {l : Launch} {e : Env} {s : State} {m : MethodId} {args : Array Value} {below : List Frame} {meth : Method} {c : Code} {D : va_G} {aC : Nat → ClassId} {A : Nat → Prop} {a_v a_d a_n : Nat → Nat} {out : Int32 × Ob_T} {s_v : Ob_T} {s_n : Ob_T} {k200 : Int32 → Int32 → Ob_T → Option (Int32 × Ob_T)} {rec159 : (Int32 × Int32 × Int32 × Int32 × Ob_T) → Option (Int32 × Ob_T)} (hX : K_X p s m args meth c cX5_gatherSides 7 WL_ RX5 D aC A) (hr : meth.sig.returnType = (some .boolean)) (hk200 : ∀ (y3 : Int32) (y5 : Int32) (t_d : Ob_T), k200 y3 y5 t_d = some out → ∀ (H : Heap) (locs : List Loc) (ls : Array Slot), K_S D A s (wd_X5 aC a_v (a_n 0) (a_d 0) s_v ++ (wd_X4 aC a_d t_d ++ wd_X1 aC a_n s_n)) H locs → lv_has ls 7 [(0, .ref (a_v 0)), (3, .int y3), (5, .int y5)] → W p l e (R_m 2 44) s m args below meth c H locs 0 0 (MQ below (Q_W (some (.int out.1)) D A (wd_X5 aC a_v (a_n 0) (a_d 0) s_v ++ (wd_X4 aC a_d out.2 ++ wd_X1 aC a_n s_n))) args s 0 0 A) (F0 m 200 ls [])) (hrec159 : ∀ x : Int32 × Int32 × Int32 × Int32 × Ob_T, rec159 x = some out → ∀ (H : Heap) (locs : List Loc) (ls : Array Slot), K_S D A s (wd_X5 aC a_v (a_n 0) (a_d 0) s_v ++ (wd_X4 aC a_d x.2.2.2.2 ++ wd_X1 aC a_n s_n)) H locs → lv_has ls 7 [(0, .ref (a_v 0)), (1, .int x.1), (3, .int x.2.1), (5, .int x.2.2.1), (6, .int x.2.2.2.1)] → W p l e (R_m 2 44) s m args below meth c H locs 0 0 (MQ below (Q_W (some (.int out.1)) D A (wd_X5 aC a_v (a_n 0) (a_d 0) s_v ++ (wd_X4 aC a_d out.2 ++ wd_X1 aC a_n s_n))) args s 0 0 A) (F0 m 159 ls [])) (x1 : Int32) (x3 : Int32) (x5 : Int32) (x6 : Int32) (s_d : Ob_T) (h : f_X5_gatherSides_L159 k200 rec159 x1 x3 x5 x6 s_d s_v s_n = some out) (H : Heap) (locs : List Loc) (ls : Array Slot) (hZ : K_S D A s (wd_X5 aC a_v (a_n 0) (a_d 0) s_v ++ (wd_X4 aC a_d s_d ++ wd_X1 aC a_n s_n)) H locs) (hl : lv_has ls 7 [(0, .ref (a_v 0)), (1, .int x1), (3, .int x3), (5, .int x5), (6, .int x6)]) : W p l e (R_m 2 44) s m args below meth c H locs 0 0 (MQ below (Q_W (some (.int out.1)) D A (wd_X5 aC a_v (a_n 0) (a_d 0) s_v ++ (wd_X4 aC a_d out.2 ++ wd_X1 aC a_n s_n))) args s 0 0 A) (F0 m 159 ls []) := by
  obtain ⟨hx, hb, hml, hown, hts, hK, hA, hlk⟩ := id hX
  unfold f_X5_gatherSides_L159 at h
  refine lv_iload hx hb dX5_gatherSides_159 (lv_at hl 4 rfl) ?_
  refine lv_aload_n hx hb dX5_gatherSides_161 rfl (lv_at hl 0 rfl) ?_
  refine k_get hX hZ.1 0 5 rfl rfl iw_X5 0 rfl (wm_454) (v := .ref (a_n 0)) rfl dX5_gatherSides_162 ?_
  refine lv_iload_n hx hb dX5_gatherSides_165 rfl (lv_at hl 1 rfl) ?_
  obtain ⟨u5, hu, h⟩ := k_bd h
  refine k_vR (As := [.int x1]) (rest := [.int x6]) (wc := wd_X1 aC a_n s_n) (v := some (.int u5)) (st1 := [.int u5, .int x6]) hX hl.1 hZ (c_X1_axesOf (a_n := a_n) s_n x1 hu) (gv_ wm_500 wm_502 wm_503 wm_321 wm_501) rfl hd_X1_axesOf ⟨rfl, rfl⟩ 1 0 rfl rfl [9, 10, 11, 12, 13, 14, 15] rfl rfl rfl rfl rfl dX5_gatherSides_166 rfl ⟨rfl, rfl⟩ (fun locs hZ => ?_)
  clear hu
  refine lv_icmp_ge (tgt := 200) hx hb dX5_gatherSides_169 (by decide) (fun cd => ?_) (fun cd => ?_)
  · replace h := k_t cd h
    clear cd
    exact hk200 x3 x5 s_d h H locs ls hZ (lv_sub hl [0, 2, 3] rfl)
  · replace h := k_f cd h
    clear cd
    refine lv_aload_n hx hb dX5_gatherSides_172 rfl (lv_at hl 0 rfl) ?_
    refine k_get hX hZ.1 0 5 rfl rfl iw_X5 1 rfl (wm_504) (v := .ref (a_d 0)) rfl dX5_gatherSides_173 ?_
    refine lv_iconst (v := 0) hx hb dX5_gatherSides_176 (by decide) ?_
    refine lv_aload_n hx hb dX5_gatherSides_177 rfl (lv_at hl 0 rfl) ?_
    refine lv_aload_n hx hb dX5_gatherSides_178 rfl (lv_at hl 0 rfl) ?_
    refine k_get hX hZ.1 0 5 rfl rfl iw_X5 0 rfl (wm_454) (v := .ref (a_n 0)) rfl dX5_gatherSides_179 ?_
    refine lv_iload_n hx hb dX5_gatherSides_182 rfl (lv_at hl 1 rfl) ?_
    refine lv_iload hx hb dX5_gatherSides_183 (lv_at hl 4 rfl) ?_
    obtain ⟨u6, hu, h⟩ := k_bd h
    refine k_vR (As := [.int x1, .int x6]) (rest := [.ref (a_v 0), .int (0 : Int32), .ref (a_d 0)]) (wc := wd_X1 aC a_n s_n) (v := some (.int u6)) (st1 := [.int u6, .ref (a_v 0), .int (0 : Int32), .ref (a_d 0)]) hX hl.1 hZ (c_X1_at (a_n := a_n) s_n x1 x6 hu) (gv_ wm_459 wm_327 wm_328 wm_321 wm_326) rfl hd_X1_at ⟨rfl, rfl⟩ 1 0 rfl rfl [9, 10, 11, 12, 13, 14, 15] rfl rfl rfl rfl rfl dX5_gatherSides_185 rfl ⟨rfl, rfl⟩ (fun locs hZ => ?_)
    clear hu
    obtain ⟨u7, hu, h⟩ := k_bd h
    refine k_vR (As := [.int u6]) (rest := [.int (0 : Int32), .ref (a_d 0)]) (wc := wd_X5 aC a_v (a_n 0) (a_d 0) s_v) (v := some (.int u7)) (st1 := [.int u7, .int (0 : Int32), .ref (a_d 0)]) hX hl.1 hZ (c_X5_valueOf (a_v := a_v) (a_n := a_n) (a_d := a_d) s_v u6 hu) (gv_ wm_450 wm_452 wm_453 wm_438 wm_451) rfl hd_X5_valueOf ⟨rfl, rfl⟩ 5 0 rfl rfl [0, 1, 2, 3, 4] rfl rfl rfl rfl rfl dX5_gatherSides_188 rfl ⟨rfl, rfl⟩ (fun locs hZ => ?_)
    clear hu
    obtain ⟨u8, hu, h⟩ := k_bd h
    refine k_vW (As := [.int (0 : Int32), .int u7]) (rest := []) (wc := wd_X4 aC a_d s_d) (v := none) (st1 := []) (w' := wd_X5 aC a_v (a_n 0) (a_d 0) s_v ++ (wd_X4 aC a_d u8 ++ wd_X1 aC a_n s_n)) hX hl.1 hZ (c_X4_add (a_d := a_d) s_d (0 : Int32) u7 hu) (gv_ wm_505 wm_507 wm_508 wm_426 wm_506) rfl hd_X4_add ⟨rfl, rfl⟩ 4 0 rfl rfl [5, 6, 7, 8] rfl rfl rfl rfl rfl dX5_gatherSides_191 rfl ⟨rfl, rfl⟩ rfl rfl rfl (fun H locs hZ => ?_)
    clear hu
    refine lv_iinc (v := (x6 + (1 : Int32))) (lv' := [(6, .int (x6 + (1 : Int32))), (0, .ref (a_v 0)), (1, .int x1), (3, .int x3), (5, .int x5)]) hx hb dX5_gatherSides_194 hl (k := 4) rfl rfl (by decide) rfl (fun ls hl => ?_)
    refine lv_goto (tgt := 159) hx hb dX5_gatherSides_197 (by decide) ?_
    exact hrec159 (x1, x3, x5, (x6 + (1 : Int32)), u8) h H locs ls hZ (lv_sub hl [1, 2, 3, 4, 0] rfl)
set_option maxHeartbeats 4000000 in
set_option maxRecDepth 100000 in
theorem t_X5_gatherSides_L204 {p : Program} {l : Launch} {e : Env} {s : State} {m : MethodId} {args : Array Value} {below : List Frame} {meth : Method} {c : Code} {D : va_G} {aC : Nat → ClassId} {A : Nat → Prop} {a_v a_d a_n : Nat → Nat} {out : Int32 × Ob_T} {s_v : Ob_T} {s_n : Ob_T} {rec204 : (Int32 × Int32 × Ob_T) → Option (Int32 × Ob_T)} (hX : K_X p s m args meth c cX5_gatherSides 7 WL_ RX5 D aC A) (hr : meth.sig.returnType = (some .boolean)) (hrec204 : ∀ x : Int32 × Int32 × Ob_T, rec204 x = some out → ∀ (H : Heap) (locs : List Loc) (ls : Array Slot), K_S D A s (wd_X5 aC a_v (a_n 0) (a_d 0) s_v ++ (wd_X4 aC a_d x.2.2 ++ wd_X1 aC a_n s_n)) H locs → lv_has ls 7 [(0, .ref (a_v 0)), (3, .int x.1), (6, .int x.2.1)] → W p l e (R_m 2 44) s m args below meth c H locs 0 0 (MQ below (Q_W (some (.int out.1)) D A (wd_X5 aC a_v (a_n 0) (a_d 0) s_v ++ (wd_X4 aC a_d out.2 ++ wd_X1 aC a_n s_n))) args s 0 0 A) (F0 m 204 ls [])) (x3 : Int32) (x6 : Int32) (s_d : Ob_T) (h : f_X5_gatherSides_L204 rec204 x3 x6 s_d s_v s_n = some out) (H : Heap) (locs : List Loc) (ls : Array Slot) (hZ : K_S D A s (wd_X5 aC a_v (a_n 0) (a_d 0) s_v ++ (wd_X4 aC a_d s_d ++ wd_X1 aC a_n s_n)) H locs) (hl : lv_has ls 7 [(0, .ref (a_v 0)), (3, .int x3), (6, .int x6)]) : W p l e (R_m 2 44) s m args below meth c H locs 0 0 (MQ below (Q_W (some (.int out.1)) D A (wd_X5 aC a_v (a_n 0) (a_d 0) s_v ++ (wd_X4 aC a_d out.2 ++ wd_X1 aC a_n s_n))) args s 0 0 A) (F0 m 204 ls []) := by
  obtain ⟨hx, hb, hml, hown, hts, hK, hA, hlk⟩ := id hX
  unfold f_X5_gatherSides_L204 at h
  refine lv_iload hx hb dX5_gatherSides_204 (lv_at hl 2 rfl) ?_
  refine lv_aload_n hx hb dX5_gatherSides_206 rfl (lv_at hl 0 rfl) ?_
  refine k_get hX hZ.1 0 5 rfl rfl iw_X5 0 rfl (wm_454) (v := .ref (a_n 0)) rfl dX5_gatherSides_207 ?_
  refine lv_iload_n hx hb dX5_gatherSides_210 rfl (lv_at hl 1 rfl) ?_
  obtain ⟨u9, hu, h⟩ := k_bd h
  refine k_vR (As := [.int x3]) (rest := [.int x6]) (wc := wd_X1 aC a_n s_n) (v := some (.int u9)) (st1 := [.int u9, .int x6]) hX hl.1 hZ (c_X1_axesOf (a_n := a_n) s_n x3 hu) (gv_ wm_500 wm_502 wm_503 wm_321 wm_501) rfl hd_X1_axesOf ⟨rfl, rfl⟩ 1 0 rfl rfl [9, 10, 11, 12, 13, 14, 15] rfl rfl rfl rfl rfl dX5_gatherSides_211 rfl ⟨rfl, rfl⟩ (fun locs hZ => ?_)
  clear hu
  refine lv_icmp_ge (tgt := 245) hx hb dX5_gatherSides_214 (by decide) (fun cd => ?_) (fun cd => ?_)
  · replace h := k_t cd h
    clear cd
    refine lv_iconst (v := 1) hx hb dX5_gatherSides_245 (by decide) ?_
    cases h
    exact k_zretW (v := (1 : Int32)) hX hr rfl hZ dX5_gatherSides_246
  · replace h := k_f cd h
    clear cd
    refine lv_aload_n hx hb dX5_gatherSides_217 rfl (lv_at hl 0 rfl) ?_
    refine k_get hX hZ.1 0 5 rfl rfl iw_X5 1 rfl (wm_504) (v := .ref (a_d 0)) rfl dX5_gatherSides_218 ?_
    refine lv_iconst (v := 1) hx hb dX5_gatherSides_221 (by decide) ?_
    refine lv_aload_n hx hb dX5_gatherSides_222 rfl (lv_at hl 0 rfl) ?_
    refine lv_aload_n hx hb dX5_gatherSides_223 rfl (lv_at hl 0 rfl) ?_
    refine k_get hX hZ.1 0 5 rfl rfl iw_X5 0 rfl (wm_454) (v := .ref (a_n 0)) rfl dX5_gatherSides_224 ?_
    refine lv_iload_n hx hb dX5_gatherSides_227 rfl (lv_at hl 1 rfl) ?_
    refine lv_iload hx hb dX5_gatherSides_228 (lv_at hl 2 rfl) ?_
    obtain ⟨u10, hu, h⟩ := k_bd h
    refine k_vR (As := [.int x3, .int x6]) (rest := [.ref (a_v 0), .int (1 : Int32), .ref (a_d 0)]) (wc := wd_X1 aC a_n s_n) (v := some (.int u10)) (st1 := [.int u10, .ref (a_v 0), .int (1 : Int32), .ref (a_d 0)]) hX hl.1 hZ (c_X1_at (a_n := a_n) s_n x3 x6 hu) (gv_ wm_459 wm_327 wm_328 wm_321 wm_326) rfl hd_X1_at ⟨rfl, rfl⟩ 1 0 rfl rfl [9, 10, 11, 12, 13, 14, 15] rfl rfl rfl rfl rfl dX5_gatherSides_230 rfl ⟨rfl, rfl⟩ (fun locs hZ => ?_)
    clear hu
    obtain ⟨u11, hu, h⟩ := k_bd h
    refine k_vR (As := [.int u10]) (rest := [.int (1 : Int32), .ref (a_d 0)]) (wc := wd_X5 aC a_v (a_n 0) (a_d 0) s_v) (v := some (.int u11)) (st1 := [.int u11, .int (1 : Int32), .ref (a_d 0)]) hX hl.1 hZ (c_X5_valueOf (a_v := a_v) (a_n := a_n) (a_d := a_d) s_v u10 hu) (gv_ wm_450 wm_452 wm_453 wm_438 wm_451) rfl hd_X5_valueOf ⟨rfl, rfl⟩ 5 0 rfl rfl [0, 1, 2, 3, 4] rfl rfl rfl rfl rfl dX5_gatherSides_233 rfl ⟨rfl, rfl⟩ (fun locs hZ => ?_)
    clear hu
    obtain ⟨u12, hu, h⟩ := k_bd h
    refine k_vW (As := [.int (1 : Int32), .int u11]) (rest := []) (wc := wd_X4 aC a_d s_d) (v := none) (st1 := []) (w' := wd_X5 aC a_v (a_n 0) (a_d 0) s_v ++ (wd_X4 aC a_d u12 ++ wd_X1 aC a_n s_n)) hX hl.1 hZ (c_X4_add (a_d := a_d) s_d (1 : Int32) u11 hu) (gv_ wm_505 wm_507 wm_508 wm_426 wm_506) rfl hd_X4_add ⟨rfl, rfl⟩ 4 0 rfl rfl [5, 6, 7, 8] rfl rfl rfl rfl rfl dX5_gatherSides_236 rfl ⟨rfl, rfl⟩ rfl rfl rfl (fun H locs hZ => ?_)
    clear hu
    refine lv_iinc (v := (x6 + (1 : Int32))) (lv' := [(6, .int (x6 + (1 : Int32))), (0, .ref (a_v 0)), (3, .int x3)]) hx hb dX5_gatherSides_239 hl (k := 2) rfl rfl (by decide) rfl (fun ls hl => ?_)
    refine lv_goto (tgt := 204) hx hb dX5_gatherSides_242 (by decide) ?_
    exact hrec204 (x3, (x6 + (1 : Int32)), u12) h H locs ls hZ (lv_sub hl [1, 2, 0] rfl)
set_option maxHeartbeats 4000000 in
set_option maxRecDepth 100000 in
theorem t_X5_gatherSides_J200 {p : Program} {l : Launch} {e : Env} {s : State} {m : MethodId} {args : Array Value} {below : List Frame} {meth : Method} {c : Code} {D : va_G} {aC : Nat → ClassId} {A : Nat → Prop} {a_v a_d a_n : Nat → Nat} {out : Int32 × Ob_T} {s_v : Ob_T} {s_n : Ob_T} (hX : K_X p s m args meth c cX5_gatherSides 7 WL_ RX5 D aC A) (hr : meth.sig.returnType = (some .boolean)) (x3 : Int32) (x5 : Int32) (s_d : Ob_T) (h : f_X5_gatherSides_J200 x3 x5 s_d s_v s_n = some out) (H : Heap) (locs : List Loc) (ls : Array Slot) (hZ : K_S D A s (wd_X5 aC a_v (a_n 0) (a_d 0) s_v ++ (wd_X4 aC a_d s_d ++ wd_X1 aC a_n s_n)) H locs) (hl : lv_has ls 7 [(0, .ref (a_v 0)), (3, .int x3), (5, .int x5)]) : W p l e (R_m 2 44) s m args below meth c H locs 0 0 (MQ below (Q_W (some (.int out.1)) D A (wd_X5 aC a_v (a_n 0) (a_d 0) s_v ++ (wd_X4 aC a_d out.2 ++ wd_X1 aC a_n s_n))) args s 0 0 A) (F0 m 200 ls []) := by
  obtain ⟨hx, hb, hml, hown, hts, hK, hA, hlk⟩ := id hX
  unfold f_X5_gatherSides_J200 at h
  refine lv_iload hx hb dX5_gatherSides_200 (lv_at hl 2 rfl) ?_
  refine lv_istore (lv' := [(6, .int x5), (0, .ref (a_v 0)), (3, .int x3), (5, .int x5)]) hx hb dX5_gatherSides_202 hl (by decide) rfl (fun ls hl => ?_)
  exact Lp_ok (body := (fun (rec : (Int32 × Int32 × Ob_T) → Option (Int32 × Ob_T)) x => f_X5_gatherSides_L204 rec x.1 x.2.1 x.2.2 s_v s_n)) (out := out) (fun x => ∀ (H : Heap) (locs : List Loc) (ls : Array Slot), K_S D A s (wd_X5 aC a_v (a_n 0) (a_d 0) s_v ++ (wd_X4 aC a_d x.2.2 ++ wd_X1 aC a_n s_n)) H locs → lv_has ls 7 [(0, .ref (a_v 0)), (3, .int x.1), (6, .int x.2.1)] → W p l e (R_m 2 44) s m args below meth c H locs 0 0 (MQ below (Q_W (some (.int out.1)) D A (wd_X5 aC a_v (a_n 0) (a_d 0) s_v ++ (wd_X4 aC a_d out.2 ++ wd_X1 aC a_n s_n))) args s 0 0 A) (F0 m 204 ls [])) (fun rec hrec x h H locs ls hZ hl => t_X5_gatherSides_L204 hX hr hrec x.1 x.2.1 x.2.2 h H locs ls hZ hl) FU_ (x3, x5, s_d) h H locs ls hZ (lv_sub hl [1, 2, 0] rfl)
set_option maxHeartbeats 4000000 in
set_option maxRecDepth 100000 in
theorem t_X5_gatherSides_J153 {p : Program} {l : Launch} {e : Env} {s : State} {m : MethodId} {args : Array Value} {below : List Frame} {meth : Method} {c : Code} {D : va_G} {aC : Nat → ClassId} {A : Nat → Prop} {a_v a_d a_n : Nat → Nat} {out : Int32 × Ob_T} {s_v : Ob_T} {s_n : Ob_T} (hX : K_X p s m args meth c cX5_gatherSides 7 WL_ RX5 D aC A) (hr : meth.sig.returnType = (some .boolean)) (x1 : Int32) (x3 : Int32) (k0 : Int32) (s_d : Ob_T) (h : f_X5_gatherSides_J153 x1 x3 k0 s_d s_v s_n = some out) (H : Heap) (locs : List Loc) (ls : Array Slot) (hZ : K_S D A s (wd_X5 aC a_v (a_n 0) (a_d 0) s_v ++ (wd_X4 aC a_d s_d ++ wd_X1 aC a_n s_n)) H locs) (hl : lv_has ls 7 [(0, .ref (a_v 0)), (1, .int x1), (3, .int x3)]) : W p l e (R_m 2 44) s m args below meth c H locs 0 0 (MQ below (Q_W (some (.int out.1)) D A (wd_X5 aC a_v (a_n 0) (a_d 0) s_v ++ (wd_X4 aC a_d out.2 ++ wd_X1 aC a_n s_n))) args s 0 0 A) (F0 m 153 ls [.int k0]) := by
  obtain ⟨hx, hb, hml, hown, hts, hK, hA, hlk⟩ := id hX
  unfold f_X5_gatherSides_J153 at h
  refine lv_istore (lv' := [(5, .int k0), (0, .ref (a_v 0)), (1, .int x1), (3, .int x3)]) hx hb dX5_gatherSides_153 hl (by decide) rfl (fun ls hl => ?_)
  refine lv_iload hx hb dX5_gatherSides_155 (lv_at hl 0 rfl) ?_
  refine lv_istore (lv' := [(6, .int k0), (5, .int k0), (0, .ref (a_v 0)), (1, .int x1), (3, .int x3)]) hx hb dX5_gatherSides_157 hl (by decide) rfl (fun ls hl => ?_)
  exact Lp_ok (body := (fun (rec : (Int32 × Int32 × Int32 × Int32 × Ob_T) → Option (Int32 × Ob_T)) x => f_X5_gatherSides_L159 (fun y3 y5 t_d => f_X5_gatherSides_J200 y3 y5 t_d s_v s_n) rec x.1 x.2.1 x.2.2.1 x.2.2.2.1 x.2.2.2.2 s_v s_n)) (out := out) (fun x => ∀ (H : Heap) (locs : List Loc) (ls : Array Slot), K_S D A s (wd_X5 aC a_v (a_n 0) (a_d 0) s_v ++ (wd_X4 aC a_d x.2.2.2.2 ++ wd_X1 aC a_n s_n)) H locs → lv_has ls 7 [(0, .ref (a_v 0)), (1, .int x.1), (3, .int x.2.1), (5, .int x.2.2.1), (6, .int x.2.2.2.1)] → W p l e (R_m 2 44) s m args below meth c H locs 0 0 (MQ below (Q_W (some (.int out.1)) D A (wd_X5 aC a_v (a_n 0) (a_d 0) s_v ++ (wd_X4 aC a_d out.2 ++ wd_X1 aC a_n s_n))) args s 0 0 A) (F0 m 159 ls [])) (fun rec hrec x h H locs ls hZ hl => t_X5_gatherSides_L159 hX hr (fun y3 y5 t_d h H locs ls hZ hl => t_X5_gatherSides_J200 hX hr y3 y5 t_d h H locs ls hZ (lv_sub hl [0, 1, 2] rfl)) hrec x.1 x.2.1 x.2.2.1 x.2.2.2.1 x.2.2.2.2 h H locs ls hZ hl) FU_ (x1, x3, k0, k0, s_d) h H locs ls hZ (lv_sub hl [2, 3, 4, 1, 0] rfl)
set_option maxHeartbeats 4000000 in
set_option maxRecDepth 100000 in
theorem t_X5_gatherSides_J27 {p : Program} {l : Launch} {e : Env} {s : State} {m : MethodId} {args : Array Value} {below : List Frame} {meth : Method} {c : Code} {D : va_G} {aC : Nat → ClassId} {A : Nat → Prop} {a_v a_d a_n : Nat → Nat} {out : Int32 × Ob_T} {s_v : Ob_T} {s_n : Ob_T} (hX : K_X p s m args meth c cX5_gatherSides 7 WL_ RX5 D aC A) (hr : meth.sig.returnType = (some .boolean)) (x1 : Int32) (x2 : Int32) (s_d : Ob_T) (h : f_X5_gatherSides_J27 x1 x2 s_d s_v s_n = some out) (H : Heap) (locs : List Loc) (ls : Array Slot) (hZ : K_S D A s (wd_X5 aC a_v (a_n 0) (a_d 0) s_v ++ (wd_X4 aC a_d s_d ++ wd_X1 aC a_n s_n)) H locs) (hl : lv_has ls 7 [(0, .ref (a_v 0)), (1, .int x1), (2, .int x2)]) : W p l e (R_m 2 44) s m args below meth c H locs 0 0 (MQ below (Q_W (some (.int out.1)) D A (wd_X5 aC a_v (a_n 0) (a_d 0) s_v ++ (wd_X4 aC a_d out.2 ++ wd_X1 aC a_n s_n))) args s 0 0 A) (F0 m 27 ls []) := by
  obtain ⟨hx, hb, hml, hown, hts, hK, hA, hlk⟩ := id hX
  unfold f_X5_gatherSides_J27 at h
  refine lv_aload_n hx hb dX5_gatherSides_27 rfl (lv_at hl 0 rfl) ?_
  refine k_get hX hZ.1 0 5 rfl rfl iw_X5 0 rfl (wm_454) (v := .ref (a_n 0)) rfl dX5_gatherSides_28 ?_
  refine lv_iload_n hx hb dX5_gatherSides_31 rfl (lv_at hl 1 rfl) ?_
  obtain ⟨u2, hu, h⟩ := k_bd h
  refine k_vR (As := [.int x1]) (rest := []) (wc := wd_X1 aC a_n s_n) (v := some (.int u2)) (st1 := [.int u2]) hX hl.1 hZ (c_X1_firstOf (a_n := a_n) s_n x1 hu) (gv_ wm_473 wm_475 wm_476 wm_321 wm_474) rfl hd_X1_firstOf ⟨rfl, rfl⟩ 1 0 rfl rfl [9, 10, 11, 12, 13, 14, 15] rfl rfl rfl rfl rfl dX5_gatherSides_32 rfl ⟨rfl, rfl⟩ (fun locs hZ => ?_)
  clear hu
  refine lv_istore_n (lv' := [(3, .int u2), (0, .ref (a_v 0)), (1, .int x1), (2, .int x2)]) hx hb dX5_gatherSides_35 rfl hl (by decide) rfl (fun ls hl => ?_)
  refine lv_aload_n hx hb dX5_gatherSides_36 rfl (lv_at hl 1 rfl) ?_
  refine k_get hX hZ.1 0 5 rfl rfl iw_X5 0 rfl (wm_454) (v := .ref (a_n 0)) rfl dX5_gatherSides_37 ?_
  refine lv_iload_n hx hb dX5_gatherSides_40 rfl (lv_at hl 2 rfl) ?_
  obtain ⟨u3, hu, h⟩ := k_bd h
  refine k_vR (As := [.int x1]) (rest := []) (wc := wd_X1 aC a_n s_n) (v := some (.int u3)) (st1 := [.int u3]) hX hl.1 hZ (c_X1_rankOf (a_n := a_n) s_n x1 hu) (gv_ wm_465 wm_467 wm_468 wm_321 wm_466) rfl hd_X1_rankOf ⟨rfl, rfl⟩ 1 0 rfl rfl [9, 10, 11, 12, 13, 14, 15] rfl rfl rfl rfl rfl dX5_gatherSides_41 rfl ⟨rfl, rfl⟩ (fun locs hZ => ?_)
  clear hu
  refine lv_istore (lv' := [(4, .int u3), (3, .int u2), (0, .ref (a_v 0)), (1, .int x1), (2, .int x2)]) hx hb dX5_gatherSides_44 hl (by decide) rfl (fun ls hl => ?_)
  refine lv_aload_n hx hb dX5_gatherSides_46 rfl (lv_at hl 2 rfl) ?_
  refine k_get hX hZ.1 0 5 rfl rfl iw_X5 1 rfl (wm_504) (v := .ref (a_d 0)) rfl dX5_gatherSides_47 ?_
  obtain ⟨u4, hu, h⟩ := k_bd h
  refine k_vW (As := []) (rest := []) (wc := wd_X4 aC a_d s_d) (v := none) (st1 := []) (w' := wd_X5 aC a_v (a_n 0) (a_d 0) s_v ++ (wd_X4 aC a_d u4 ++ wd_X1 aC a_n s_n)) hX hl.1 hZ (c_X4_clear (a_d := a_d) s_d hu) (gv_ wm_514 wm_516 wm_517 wm_426 wm_515) rfl hd_X4_clear ⟨rfl, rfl⟩ 4 0 rfl rfl [5, 6, 7, 8] rfl rfl rfl rfl rfl dX5_gatherSides_50 rfl ⟨rfl, rfl⟩ rfl rfl rfl (fun H locs hZ => ?_)
  clear hu
  refine lv_iload_n hx hb dX5_gatherSides_53 rfl (lv_at hl 4 rfl) ?_
  refine lv_iconst (v := 2) hx hb dX5_gatherSides_54 (by decide) ?_
  refine lv_icmp_ne (tgt := 134) hx hb dX5_gatherSides_55 (by decide) (fun cd => ?_) (fun cd => ?_)
  · replace h := k_f cd h
    clear cd
    refine lv_iload_n hx hb dX5_gatherSides_134 rfl (lv_at hl 4 rfl) ?_
    refine lv_iconst (v := 5) hx hb dX5_gatherSides_135 (by decide) ?_
    refine lv_icmp_ne (tgt := 152) hx hb dX5_gatherSides_136 (by decide) (fun cd => ?_) (fun cd => ?_)
    · replace h := k_f cd h
      clear cd
      refine lv_iconst (v := 0) hx hb dX5_gatherSides_152 (by decide) ?_
      exact t_X5_gatherSides_J153 hX hr x1 u2 (0 : Int32) u4 h H locs ls hZ (lv_sub hl [2, 3, 1] rfl)
    · replace h := k_t cd h
      clear cd
      refine lv_aload_n hx hb dX5_gatherSides_139 rfl (lv_at hl 2 rfl) ?_
      refine k_get hX hZ.1 0 5 rfl rfl iw_X5 0 rfl (wm_454) (v := .ref (a_n 0)) rfl dX5_gatherSides_140 ?_
      refine lv_iload_n hx hb dX5_gatherSides_143 rfl (lv_at hl 1 rfl) ?_
      refine lv_iload hx hb dX5_gatherSides_144 (lv_at hl 0 rfl) ?_
      obtain ⟨u13, hu, h⟩ := k_bd h
      refine k_vR (As := [.int u2, .int u3]) (rest := []) (wc := wd_X1 aC a_n s_n) (v := some (.int u13)) (st1 := [.int u13]) hX hl.1 hZ (c_X1_frameOf (a_n := a_n) s_n u2 u3 hu) (gv_ wm_464 wm_335 wm_336 wm_321 wm_334) rfl hd_X1_frameOf ⟨rfl, rfl⟩ 1 0 rfl rfl [9, 10, 11, 12, 13, 14, 15] rfl rfl rfl rfl rfl dX5_gatherSides_146 rfl ⟨rfl, rfl⟩ (fun locs hZ => ?_)
      clear hu
      refine lv_goto (tgt := 153) hx hb dX5_gatherSides_149 (by decide) ?_
      exact t_X5_gatherSides_J153 hX hr x1 u2 u13 u4 h H locs ls hZ (lv_sub hl [2, 3, 1] rfl)
  · replace h := k_t cd h
    clear cd
    refine lv_aload_n hx hb dX5_gatherSides_58 rfl (lv_at hl 2 rfl) ?_
    refine k_get hX hZ.1 0 5 rfl rfl iw_X5 1 rfl (wm_504) (v := .ref (a_d 0)) rfl dX5_gatherSides_59 ?_
    refine lv_iconst (v := 0) hx hb dX5_gatherSides_62 (by decide) ?_
    refine lv_aload_n hx hb dX5_gatherSides_63 rfl (lv_at hl 2 rfl) ?_
    refine lv_iload_n hx hb dX5_gatherSides_64 rfl (lv_at hl 3 rfl) ?_
    obtain ⟨u14, hu, h⟩ := k_bd h
    refine k_sR (As := [.int x1]) (rest := [.ref (a_v 0), .int (0 : Int32), .ref (a_d 0)]) (wc := []) (v := some (.int u14)) (st1 := [.int u14, .ref (a_v 0), .int (0 : Int32), .ref (a_d 0)]) hX hl.1 hZ (c_X1_ownLetter  x1 hu) (gs_ wm_513 wm_367 wm_321 wm_366) rfl hd_X1_ownLetter ⟨rfl, rfl⟩ [] rfl rfl rfl rfl rfl dX5_gatherSides_65 rfl ⟨rfl, rfl⟩ (fun locs hZ => ?_)
    clear hu
    obtain ⟨u15, hu, h⟩ := k_bd h
    refine k_vR (As := [.int u14]) (rest := [.int (0 : Int32), .ref (a_d 0)]) (wc := wd_X5 aC a_v (a_n 0) (a_d 0) s_v) (v := some (.int u15)) (st1 := [.int u15, .int (0 : Int32), .ref (a_d 0)]) hX hl.1 hZ (c_X5_valueOf (a_v := a_v) (a_n := a_n) (a_d := a_d) s_v u14 hu) (gv_ wm_450 wm_452 wm_453 wm_438 wm_451) rfl hd_X5_valueOf ⟨rfl, rfl⟩ 5 0 rfl rfl [0, 1, 2, 3, 4] rfl rfl rfl rfl rfl dX5_gatherSides_68 rfl ⟨rfl, rfl⟩ (fun locs hZ => ?_)
    clear hu
    obtain ⟨u16, hu, h⟩ := k_bd h
    refine k_vW (As := [.int (0 : Int32), .int u15]) (rest := []) (wc := wd_X4 aC a_d u4) (v := none) (st1 := []) (w' := wd_X5 aC a_v (a_n 0) (a_d 0) s_v ++ (wd_X4 aC a_d u16 ++ wd_X1 aC a_n s_n)) hX hl.1 hZ (c_X4_add (a_d := a_d) u4 (0 : Int32) u15 hu) (gv_ wm_505 wm_507 wm_508 wm_426 wm_506) rfl hd_X4_add ⟨rfl, rfl⟩ 4 0 rfl rfl [5, 6, 7, 8] rfl rfl rfl rfl rfl dX5_gatherSides_71 rfl ⟨rfl, rfl⟩ rfl rfl rfl (fun H locs hZ => ?_)
    clear hu
    refine lv_aload_n hx hb dX5_gatherSides_74 rfl (lv_at hl 2 rfl) ?_
    refine k_get hX hZ.1 0 5 rfl rfl iw_X5 1 rfl (wm_504) (v := .ref (a_d 0)) rfl dX5_gatherSides_75 ?_
    refine lv_iconst (v := 1) hx hb dX5_gatherSides_78 (by decide) ?_
    refine lv_aload_n hx hb dX5_gatherSides_79 rfl (lv_at hl 2 rfl) ?_
    refine lv_iload_n hx hb dX5_gatherSides_80 rfl (lv_at hl 1 rfl) ?_
    refine lv_aload_n hx hb dX5_gatherSides_81 rfl (lv_at hl 2 rfl) ?_
    refine k_get hX hZ.1 0 5 rfl rfl iw_X5 0 rfl (wm_454) (v := .ref (a_n 0)) rfl dX5_gatherSides_82 ?_
    refine lv_iload_n hx hb dX5_gatherSides_85 rfl (lv_at hl 1 rfl) ?_
    refine lv_iload hx hb dX5_gatherSides_86 (lv_at hl 0 rfl) ?_
    obtain ⟨u17, hu, h⟩ := k_bd h
    refine k_vR (As := [.int u2, .int u3]) (rest := [.int u2, .ref (a_v 0), .int (1 : Int32), .ref (a_d 0)]) (wc := wd_X1 aC a_n s_n) (v := some (.int u17)) (st1 := [.int u17, .int u2, .ref (a_v 0), .int (1 : Int32), .ref (a_d 0)]) hX hl.1 hZ (c_X1_frameOf (a_n := a_n) s_n u2 u3 hu) (gv_ wm_464 wm_335 wm_336 wm_321 wm_334) rfl hd_X1_frameOf ⟨rfl, rfl⟩ 1 0 rfl rfl [9, 10, 11, 12, 13, 14, 15] rfl rfl rfl rfl rfl dX5_gatherSides_88 rfl ⟨rfl, rfl⟩ (fun locs hZ => ?_)
    clear hu
    obtain ⟨u18, hu, h⟩ := k_bd h
    refine k_vR (As := [.int u2, .int u17]) (rest := [.int (1 : Int32), .ref (a_d 0)]) (wc := wd_X5 aC a_v (a_n 0) (a_d 0) s_v ++ wd_X1 aC a_n s_n) (v := some (.int u18)) (st1 := [.int u18, .int (1 : Int32), .ref (a_d 0)]) hX hl.1 hZ (c_X5_firstOfCell (a_v := a_v) (a_n := a_n) (a_d := a_d) s_v s_n u2 u17 hu) (gv_ wm_509 wm_511 wm_512 wm_438 wm_510) rfl hd_X5_firstOfCell ⟨rfl, rfl⟩ 5 0 rfl rfl [0, 1, 2, 3, 4, 9, 10, 11, 12, 13, 14, 15] rfl rfl rfl rfl rfl dX5_gatherSides_91 rfl ⟨rfl, rfl⟩ (fun locs hZ => ?_)
    clear hu
    obtain ⟨u19, hu, h⟩ := k_bd h
    refine k_vW (As := [.int (1 : Int32), .int u18]) (rest := []) (wc := wd_X4 aC a_d u16) (v := none) (st1 := []) (w' := wd_X5 aC a_v (a_n 0) (a_d 0) s_v ++ (wd_X4 aC a_d u19 ++ wd_X1 aC a_n s_n)) hX hl.1 hZ (c_X4_add (a_d := a_d) u16 (1 : Int32) u18 hu) (gv_ wm_505 wm_507 wm_508 wm_426 wm_506) rfl hd_X4_add ⟨rfl, rfl⟩ 4 0 rfl rfl [5, 6, 7, 8] rfl rfl rfl rfl rfl dX5_gatherSides_94 rfl ⟨rfl, rfl⟩ rfl rfl rfl (fun H locs hZ => ?_)
    clear hu
    refine lv_aload_n hx hb dX5_gatherSides_97 rfl (lv_at hl 2 rfl) ?_
    refine k_get hX hZ.1 0 5 rfl rfl iw_X5 0 rfl (wm_454) (v := .ref (a_n 0)) rfl dX5_gatherSides_98 ?_
    refine lv_iload_n hx hb dX5_gatherSides_101 rfl (lv_at hl 3 rfl) ?_
    obtain ⟨u20, hu, h⟩ := k_bd h
    refine k_vR (As := [.int x1]) (rest := []) (wc := wd_X1 aC a_n s_n) (v := some (.int u20)) (st1 := [.int u20]) hX hl.1 hZ (c_X1_secondOf (a_n := a_n) s_n x1 hu) (gv_ wm_469 wm_471 wm_472 wm_321 wm_470) rfl hd_X1_secondOf ⟨rfl, rfl⟩ 1 0 rfl rfl [9, 10, 11, 12, 13, 14, 15] rfl rfl rfl rfl rfl dX5_gatherSides_102 rfl ⟨rfl, rfl⟩ (fun locs hZ => ?_)
    clear hu
    refine lv_istore (lv' := [(5, .int u20), (4, .int u3), (3, .int u2), (0, .ref (a_v 0)), (1, .int x1), (2, .int x2)]) hx hb dX5_gatherSides_105 hl (by decide) rfl (fun ls hl => ?_)
    refine lv_aload_n hx hb dX5_gatherSides_107 rfl (lv_at hl 3 rfl) ?_
    refine k_get hX hZ.1 0 5 rfl rfl iw_X5 1 rfl (wm_504) (v := .ref (a_d 0)) rfl dX5_gatherSides_108 ?_
    refine lv_iconst (v := 1) hx hb dX5_gatherSides_111 (by decide) ?_
    refine lv_aload_n hx hb dX5_gatherSides_112 rfl (lv_at hl 3 rfl) ?_
    refine lv_iload hx hb dX5_gatherSides_113 (lv_at hl 0 rfl) ?_
    refine lv_aload_n hx hb dX5_gatherSides_115 rfl (lv_at hl 3 rfl) ?_
    refine k_get hX hZ.1 0 5 rfl rfl iw_X5 0 rfl (wm_454) (v := .ref (a_n 0)) rfl dX5_gatherSides_116 ?_
    refine lv_iload hx hb dX5_gatherSides_119 (lv_at hl 0 rfl) ?_
    refine lv_iload hx hb dX5_gatherSides_121 (lv_at hl 1 rfl) ?_
    obtain ⟨u21, hu, h⟩ := k_bd h
    refine k_vR (As := [.int u20, .int u3]) (rest := [.int u20, .ref (a_v 0), .int (1 : Int32), .ref (a_d 0)]) (wc := wd_X1 aC a_n s_n) (v := some (.int u21)) (st1 := [.int u21, .int u20, .ref (a_v 0), .int (1 : Int32), .ref (a_d 0)]) hX hl.1 hZ (c_X1_frameOf (a_n := a_n) s_n u20 u3 hu) (gv_ wm_464 wm_335 wm_336 wm_321 wm_334) rfl hd_X1_frameOf ⟨rfl, rfl⟩ 1 0 rfl rfl [9, 10, 11, 12, 13, 14, 15] rfl rfl rfl rfl rfl dX5_gatherSides_123 rfl ⟨rfl, rfl⟩ (fun locs hZ => ?_)
    clear hu
    obtain ⟨u22, hu, h⟩ := k_bd h
    refine k_vR (As := [.int u20, .int u21]) (rest := [.int (1 : Int32), .ref (a_d 0)]) (wc := wd_X5 aC a_v (a_n 0) (a_d 0) s_v ++ wd_X1 aC a_n s_n) (v := some (.int u22)) (st1 := [.int u22, .int (1 : Int32), .ref (a_d 0)]) hX hl.1 hZ (c_X5_firstOfCell (a_v := a_v) (a_n := a_n) (a_d := a_d) s_v s_n u20 u21 hu) (gv_ wm_509 wm_511 wm_512 wm_438 wm_510) rfl hd_X5_firstOfCell ⟨rfl, rfl⟩ 5 0 rfl rfl [0, 1, 2, 3, 4, 9, 10, 11, 12, 13, 14, 15] rfl rfl rfl rfl rfl dX5_gatherSides_126 rfl ⟨rfl, rfl⟩ (fun locs hZ => ?_)
    clear hu
    obtain ⟨u23, hu, h⟩ := k_bd h
    refine k_vW (As := [.int (1 : Int32), .int u22]) (rest := []) (wc := wd_X4 aC a_d u19) (v := none) (st1 := []) (w' := wd_X5 aC a_v (a_n 0) (a_d 0) s_v ++ (wd_X4 aC a_d u23 ++ wd_X1 aC a_n s_n)) hX hl.1 hZ (c_X4_add (a_d := a_d) u19 (1 : Int32) u22 hu) (gv_ wm_505 wm_507 wm_508 wm_426 wm_506) rfl hd_X4_add ⟨rfl, rfl⟩ 4 0 rfl rfl [5, 6, 7, 8] rfl rfl rfl rfl rfl dX5_gatherSides_129 rfl ⟨rfl, rfl⟩ rfl rfl rfl (fun H locs hZ => ?_)
    clear hu
    refine lv_iconst (v := 1) hx hb dX5_gatherSides_132 (by decide) ?_
    cases h
    exact k_zretW (v := (1 : Int32)) hX hr rfl hZ dX5_gatherSides_133
set_option maxHeartbeats 4000000 in
set_option maxRecDepth 100000 in
theorem c_X5_gatherSides {l : Launch} {D : va_G} {aC : Nat → ClassId} {a_v : Nat → Nat} {a_d : Nat → Nat} {a_n : Nat → Nat} (s_v : Ob_T) (s_d : Ob_T) (s_n : Ob_T) (x1 : Int32) {out : Int32 × Ob_T} (h : f_X5_gatherSides s_v s_d s_n x1 = some out) : M_W l yX5_gatherSides wlX5_gatherSides 2 44 D aC [.ref (a_v 0), .int x1] (wd_X5 aC a_v (a_n 0) (a_d 0) s_v ++ (wd_X4 aC a_d s_d ++ wd_X1 aC a_n s_n)) (some (.int out.1)) (wd_X5 aC a_v (a_n 0) (a_d 0) s_v ++ (wd_X4 aC a_d out.2 ++ wd_X1 aC a_n s_n)) := by
  refine k_entW (cc := cX5_gatherSides) (ret := (some .boolean)) (maxL := 7) (own := RX5) (by decide) rfl rfl rfl ?_
  intro p e s m below meth c A ls hX hr hZ hl
  have hl : lv_has ls 7 [(0, .ref (a_v 0)), (1, .int x1)] := hl
  generalize ([.ref (a_v 0), .int x1] : List Value).toArray = args at hX ⊢
  obtain ⟨hx, hb, hml, hown, hts, hK, hA, hlk⟩ := id hX
  unfold f_X5_gatherSides at h
  generalize s.heap = H at hZ ⊢
  generalize ([] : List Loc) = locs at hZ ⊢
  refine lv_aload_n hx hb dX5_gatherSides_0 rfl (lv_at hl 0 rfl) ?_
  refine k_get hX hZ.1 0 5 rfl rfl iw_X5 0 rfl (wm_454) (v := .ref (a_n 0)) rfl dX5_gatherSides_1 ?_
  refine lv_iload_n hx hb dX5_gatherSides_4 rfl (lv_at hl 1 rfl) ?_
  obtain ⟨u1, hu, h⟩ := k_bd h
  refine k_vR (As := [.int x1]) (rest := []) (wc := wd_X1 aC a_n s_n) (v := some (.int u1)) (st1 := [.int u1]) hX hl.1 hZ (c_X1_kindOf (a_n := a_n) s_n x1 hu) (gv_ wm_486 wm_488 wm_489 wm_321 wm_487) rfl hd_X1_kindOf ⟨rfl, rfl⟩ 1 0 rfl rfl [9, 10, 11, 12, 13, 14, 15] rfl rfl rfl rfl rfl dX5_gatherSides_5 rfl ⟨rfl, rfl⟩ (fun locs hZ => ?_)
  clear hu
  refine lv_istore_n (lv' := [(2, .int u1), (0, .ref (a_v 0)), (1, .int x1)]) hx hb dX5_gatherSides_8 rfl hl (by decide) rfl (fun ls hl => ?_)
  refine lv_iload_n hx hb dX5_gatherSides_9 rfl (lv_at hl 0 rfl) ?_
  refine lv_iconst (v := 2) hx hb dX5_gatherSides_10 (by decide) ?_
  refine lv_icmp_eq (tgt := 27) hx hb dX5_gatherSides_11 (by decide) (fun cd => ?_) (fun cd => ?_)
  · replace h := k_t cd h
    clear cd
    exact t_X5_gatherSides_J27 hX hr x1 u1 s_d h H locs ls hZ (lv_sub hl [1, 2, 0] rfl)
  · replace h := k_f cd h
    clear cd
    refine lv_iload_n hx hb dX5_gatherSides_14 rfl (lv_at hl 0 rfl) ?_
    refine lv_iconst (v := 5) hx hb dX5_gatherSides_15 (by decide) ?_
    refine lv_icmp_eq (tgt := 27) hx hb dX5_gatherSides_16 (by decide) (fun cd => ?_) (fun cd => ?_)
    · replace h := k_t cd h
      clear cd
      exact t_X5_gatherSides_J27 hX hr x1 u1 s_d h H locs ls hZ (lv_sub hl [1, 2, 0] rfl)
    · replace h := k_f cd h
      clear cd
      refine lv_iload_n hx hb dX5_gatherSides_19 rfl (lv_at hl 0 rfl) ?_
      refine lv_bipush (v := 6) hx hb dX5_gatherSides_20 (by decide) ?_
      refine lv_icmp_eq (tgt := 27) hx hb dX5_gatherSides_22 (by decide) (fun cd => ?_) (fun cd => ?_)
      · replace h := k_t cd h
        clear cd
        exact t_X5_gatherSides_J27 hX hr x1 u1 s_d h H locs ls hZ (lv_sub hl [1, 2, 0] rfl)
      · replace h := k_f cd h
        clear cd
        refine lv_iconst (v := 0) hx hb dX5_gatherSides_25 (by decide) ?_
        cases h
        exact k_zretW (v := (0 : Int32)) hX hr rfl hZ dX5_gatherSides_26
