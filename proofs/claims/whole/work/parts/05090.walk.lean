def wlX7_waysFrom : List Cond := .code yX7_waysFrom cX7_waysFrom 8 (some .int) :: WL_
theorem hd_X7_waysFrom : yX7_waysFrom.cls = RX7 ∧ yX7_waysFrom.cls ≠ "java/lang/invoke/MethodHandle" ∧ yX7_waysFrom.cls ≠ "java/lang/invoke/VarHandle" ∧ (parseMethodDescriptor yX7_waysFrom.desc).map (fun d => d.parameters.length) = some 2 := by decide +kernel
theorem dX7_waysFrom_0 : decode cX7_waysFrom 0 = .ok (.iload_n 1, 1) := by decide +kernel
theorem dX7_waysFrom_1 : decode cX7_waysFrom 1 = .ok (.iconst 4, 1) := by decide +kernel
theorem dX7_waysFrom_2 : decode cX7_waysFrom 2 = .ok (.if_icmp .lt 20, 3) := by decide +kernel
theorem dX7_waysFrom_5 : decode cX7_waysFrom 5 = .ok (.aload_n 0, 1) := by decide +kernel
theorem dX7_waysFrom_6 : decode cX7_waysFrom 6 = .ok (.getfield 18, 3) := by decide +kernel
theorem dX7_waysFrom_9 : decode cX7_waysFrom 9 = .ok (.aload_n 0, 1) := by decide +kernel
theorem dX7_waysFrom_10 : decode cX7_waysFrom 10 = .ok (.getfield 9, 3) := by decide +kernel
theorem dX7_waysFrom_13 : decode cX7_waysFrom 13 = .ok (.invokevirtual 60, 3) := by decide +kernel
theorem dX7_waysFrom_16 : decode cX7_waysFrom 16 = .ok (.aload_n 0, 1) := by decide +kernel
theorem dX7_waysFrom_17 : decode cX7_waysFrom 17 = .ok (.iload_n 2, 1) := by decide +kernel
theorem dX7_waysFrom_18 : decode cX7_waysFrom 18 = .ok (.invokevirtual 63, 3) := by decide +kernel
theorem dX7_waysFrom_21 : decode cX7_waysFrom 21 = .ok (.ireturn, 1) := by decide +kernel
theorem dX7_waysFrom_22 : decode cX7_waysFrom 22 = .ok (.aload_n 0, 1) := by decide +kernel
theorem dX7_waysFrom_23 : decode cX7_waysFrom 23 = .ok (.iload_n 1, 1) := by decide +kernel
theorem dX7_waysFrom_24 : decode cX7_waysFrom 24 = .ok (.invokevirtual 26, 3) := by decide +kernel
theorem dX7_waysFrom_27 : decode cX7_waysFrom 27 = .ok (.ifCond .ne 12, 3) := by decide +kernel
theorem dX7_waysFrom_30 : decode cX7_waysFrom 30 = .ok (.aload_n 0, 1) := by decide +kernel
theorem dX7_waysFrom_31 : decode cX7_waysFrom 31 = .ok (.iload_n 1, 1) := by decide +kernel
theorem dX7_waysFrom_32 : decode cX7_waysFrom 32 = .ok (.iconst 1, 1) := by decide +kernel
theorem dX7_waysFrom_33 : decode cX7_waysFrom 33 = .ok (.iadd, 1) := by decide +kernel
theorem dX7_waysFrom_34 : decode cX7_waysFrom 34 = .ok (.iload_n 2, 1) := by decide +kernel
theorem dX7_waysFrom_35 : decode cX7_waysFrom 35 = .ok (.invokevirtual 50, 3) := by decide +kernel
theorem dX7_waysFrom_38 : decode cX7_waysFrom 38 = .ok (.ireturn, 1) := by decide +kernel
theorem dX7_waysFrom_39 : decode cX7_waysFrom 39 = .ok (.aload_n 0, 1) := by decide +kernel
theorem dX7_waysFrom_40 : decode cX7_waysFrom 40 = .ok (.getfield 47, 3) := by decide +kernel
theorem dX7_waysFrom_43 : decode cX7_waysFrom 43 = .ok (.iload_n 1, 1) := by decide +kernel
theorem dX7_waysFrom_44 : decode cX7_waysFrom 44 = .ok (.ishr, 1) := by decide +kernel
theorem dX7_waysFrom_45 : decode cX7_waysFrom 45 = .ok (.iconst 1, 1) := by decide +kernel
theorem dX7_waysFrom_46 : decode cX7_waysFrom 46 = .ok (.iand, 1) := by decide +kernel
theorem dX7_waysFrom_47 : decode cX7_waysFrom 47 = .ok (.ifCond .ne 31, 3) := by decide +kernel
theorem dX7_waysFrom_50 : decode cX7_waysFrom 50 = .ok (.aload_n 0, 1) := by decide +kernel
theorem dX7_waysFrom_51 : decode cX7_waysFrom 51 = .ok (.getfield 9, 3) := by decide +kernel
theorem dX7_waysFrom_54 : decode cX7_waysFrom 54 = .ok (.iload_n 1, 1) := by decide +kernel
theorem dX7_waysFrom_55 : decode cX7_waysFrom 55 = .ok (.iconst 0, 1) := by decide +kernel
theorem dX7_waysFrom_56 : decode cX7_waysFrom 56 = .ok (.iastore, 1) := by decide +kernel
theorem dX7_waysFrom_57 : decode cX7_waysFrom 57 = .ok (.aload_n 0, 1) := by decide +kernel
theorem dX7_waysFrom_58 : decode cX7_waysFrom 58 = .ok (.iload_n 1, 1) := by decide +kernel
theorem dX7_waysFrom_59 : decode cX7_waysFrom 59 = .ok (.iconst 1, 1) := by decide +kernel
theorem dX7_waysFrom_60 : decode cX7_waysFrom 60 = .ok (.iadd, 1) := by decide +kernel
theorem dX7_waysFrom_61 : decode cX7_waysFrom 61 = .ok (.iload_n 2, 1) := by decide +kernel
theorem dX7_waysFrom_62 : decode cX7_waysFrom 62 = .ok (.invokevirtual 50, 3) := by decide +kernel
theorem dX7_waysFrom_65 : decode cX7_waysFrom 65 = .ok (.istore_n 3, 1) := by decide +kernel
theorem dX7_waysFrom_66 : decode cX7_waysFrom 66 = .ok (.aload_n 0, 1) := by decide +kernel
theorem dX7_waysFrom_67 : decode cX7_waysFrom 67 = .ok (.getfield 9, 3) := by decide +kernel
theorem dX7_waysFrom_70 : decode cX7_waysFrom 70 = .ok (.iload_n 1, 1) := by decide +kernel
theorem dX7_waysFrom_71 : decode cX7_waysFrom 71 = .ok (.iconst (-1), 1) := by decide +kernel
theorem dX7_waysFrom_72 : decode cX7_waysFrom 72 = .ok (.iastore, 1) := by decide +kernel
theorem dX7_waysFrom_73 : decode cX7_waysFrom 73 = .ok (.iload_n 3, 1) := by decide +kernel
theorem dX7_waysFrom_74 : decode cX7_waysFrom 74 = .ok (.bipush 10, 2) := by decide +kernel
theorem dX7_waysFrom_76 : decode cX7_waysFrom 76 = .ok (.imul, 1) := by decide +kernel
theorem dX7_waysFrom_77 : decode cX7_waysFrom 77 = .ok (.ireturn, 1) := by decide +kernel
theorem dX7_waysFrom_78 : decode cX7_waysFrom 78 = .ok (.aload_n 0, 1) := by decide +kernel
theorem dX7_waysFrom_79 : decode cX7_waysFrom 79 = .ok (.getfield 18, 3) := by decide +kernel
theorem dX7_waysFrom_82 : decode cX7_waysFrom 82 = .ok (.aload_n 0, 1) := by decide +kernel
theorem dX7_waysFrom_83 : decode cX7_waysFrom 83 = .ok (.getfield 9, 3) := by decide +kernel
theorem dX7_waysFrom_86 : decode cX7_waysFrom 86 = .ok (.invokevirtual 60, 3) := by decide +kernel
theorem dX7_waysFrom_89 : decode cX7_waysFrom 89 = .ok (.aload_n 0, 1) := by decide +kernel
theorem dX7_waysFrom_90 : decode cX7_waysFrom 90 = .ok (.getfield 18, 3) := by decide +kernel
theorem dX7_waysFrom_93 : decode cX7_waysFrom 93 = .ok (.invokevirtual 67, 3) := by decide +kernel
theorem dX7_waysFrom_96 : decode cX7_waysFrom 96 = .ok (.ifCond .eq 15, 3) := by decide +kernel
theorem dX7_waysFrom_99 : decode cX7_waysFrom 99 = .ok (.aload_n 0, 1) := by decide +kernel
theorem dX7_waysFrom_100 : decode cX7_waysFrom 100 = .ok (.getfield 18, 3) := by decide +kernel
theorem dX7_waysFrom_103 : decode cX7_waysFrom 103 = .ok (.invokevirtual 71, 3) := by decide +kernel
theorem dX7_waysFrom_106 : decode cX7_waysFrom 106 = .ok (.ifCond .ne 5, 3) := by decide +kernel
theorem dX7_waysFrom_109 : decode cX7_waysFrom 109 = .ok (.iconst 0, 1) := by decide +kernel
theorem dX7_waysFrom_110 : decode cX7_waysFrom 110 = .ok (.ireturn, 1) := by decide +kernel
theorem dX7_waysFrom_111 : decode cX7_waysFrom 111 = .ok (.aload_n 0, 1) := by decide +kernel
theorem dX7_waysFrom_112 : decode cX7_waysFrom 112 = .ok (.getfield 18, 3) := by decide +kernel
theorem dX7_waysFrom_115 : decode cX7_waysFrom 115 = .ok (.invokevirtual 67, 3) := by decide +kernel
theorem dX7_waysFrom_118 : decode cX7_waysFrom 118 = .ok (.ifCond .eq 9, 3) := by decide +kernel
theorem dX7_waysFrom_121 : decode cX7_waysFrom 121 = .ok (.sipush 20000, 3) := by decide +kernel
theorem dX7_waysFrom_124 : decode cX7_waysFrom 124 = .ok (.goto 15, 3) := by decide +kernel
theorem dX7_waysFrom_127 : decode cX7_waysFrom 127 = .ok (.aload_n 0, 1) := by decide +kernel
theorem dX7_waysFrom_128 : decode cX7_waysFrom 128 = .ok (.getfield 18, 3) := by decide +kernel
theorem dX7_waysFrom_131 : decode cX7_waysFrom 131 = .ok (.sipush 20000, 3) := by decide +kernel
theorem dX7_waysFrom_134 : decode cX7_waysFrom 134 = .ok (.iload_n 1, 1) := by decide +kernel
theorem dX7_waysFrom_135 : decode cX7_waysFrom 135 = .ok (.iadd, 1) := by decide +kernel
theorem dX7_waysFrom_136 : decode cX7_waysFrom 136 = .ok (.invokevirtual 74, 3) := by decide +kernel
theorem dX7_waysFrom_139 : decode cX7_waysFrom 139 = .ok (.istore_n 3, 1) := by decide +kernel
theorem dX7_waysFrom_140 : decode cX7_waysFrom 140 = .ok (.iload_n 3, 1) := by decide +kernel
theorem dX7_waysFrom_141 : decode cX7_waysFrom 141 = .ok (.sipush 20000, 3) := by decide +kernel
theorem dX7_waysFrom_144 : decode cX7_waysFrom 144 = .ok (.if_icmp .ge 7, 3) := by decide +kernel
theorem dX7_waysFrom_147 : decode cX7_waysFrom 147 = .ok (.iload_n 3, 1) := by decide +kernel
theorem dX7_waysFrom_148 : decode cX7_waysFrom 148 = .ok (.goto 4, 3) := by decide +kernel
theorem dX7_waysFrom_151 : decode cX7_waysFrom 151 = .ok (.iconst 0, 1) := by decide +kernel
theorem dX7_waysFrom_152 : decode cX7_waysFrom 152 = .ok (.istore 4, 2) := by decide +kernel
theorem dX7_waysFrom_154 : decode cX7_waysFrom 154 = .ok (.iload_n 3, 1) := by decide +kernel
theorem dX7_waysFrom_155 : decode cX7_waysFrom 155 = .ok (.sipush 20000, 3) := by decide +kernel
theorem dX7_waysFrom_158 : decode cX7_waysFrom 158 = .ok (.if_icmp .ge 12, 3) := by decide +kernel
theorem dX7_waysFrom_161 : decode cX7_waysFrom 161 = .ok (.iload_n 3, 1) := by decide +kernel
theorem dX7_waysFrom_162 : decode cX7_waysFrom 162 = .ok (.bipush 9, 2) := by decide +kernel
theorem dX7_waysFrom_164 : decode cX7_waysFrom 164 = .ok (.invokestatic 77, 3) := by decide +kernel
theorem dX7_waysFrom_167 : decode cX7_waysFrom 167 = .ok (.goto 5, 3) := by decide +kernel
theorem dX7_waysFrom_170 : decode cX7_waysFrom 170 = .ok (.bipush 9, 2) := by decide +kernel
theorem dX7_waysFrom_172 : decode cX7_waysFrom 172 = .ok (.istore 5, 2) := by decide +kernel
theorem dX7_waysFrom_174 : decode cX7_waysFrom 174 = .ok (.iconst 0, 1) := by decide +kernel
theorem dX7_waysFrom_175 : decode cX7_waysFrom 175 = .ok (.istore 6, 2) := by decide +kernel
theorem dX7_waysFrom_177 : decode cX7_waysFrom 177 = .ok (.iload 4, 2) := by decide +kernel
theorem dX7_waysFrom_179 : decode cX7_waysFrom 179 = .ok (.istore 7, 2) := by decide +kernel
theorem dX7_waysFrom_181 : decode cX7_waysFrom 181 = .ok (.iload 7, 2) := by decide +kernel
theorem dX7_waysFrom_183 : decode cX7_waysFrom 183 = .ok (.iload 5, 2) := by decide +kernel
theorem dX7_waysFrom_185 : decode cX7_waysFrom 185 = .ok (.if_icmp .gt 33, 3) := by decide +kernel
theorem dX7_waysFrom_188 : decode cX7_waysFrom 188 = .ok (.aload_n 0, 1) := by decide +kernel
theorem dX7_waysFrom_189 : decode cX7_waysFrom 189 = .ok (.getfield 9, 3) := by decide +kernel
theorem dX7_waysFrom_192 : decode cX7_waysFrom 192 = .ok (.iload_n 1, 1) := by decide +kernel
theorem dX7_waysFrom_193 : decode cX7_waysFrom 193 = .ok (.iload 7, 2) := by decide +kernel
theorem dX7_waysFrom_195 : decode cX7_waysFrom 195 = .ok (.iastore, 1) := by decide +kernel
theorem dX7_waysFrom_196 : decode cX7_waysFrom 196 = .ok (.iload 6, 2) := by decide +kernel
theorem dX7_waysFrom_198 : decode cX7_waysFrom 198 = .ok (.aload_n 0, 1) := by decide +kernel
theorem dX7_waysFrom_199 : decode cX7_waysFrom 199 = .ok (.iload_n 1, 1) := by decide +kernel
theorem dX7_waysFrom_200 : decode cX7_waysFrom 200 = .ok (.iconst 1, 1) := by decide +kernel
theorem dX7_waysFrom_201 : decode cX7_waysFrom 201 = .ok (.iadd, 1) := by decide +kernel
theorem dX7_waysFrom_202 : decode cX7_waysFrom 202 = .ok (.iload_n 2, 1) := by decide +kernel
theorem dX7_waysFrom_203 : decode cX7_waysFrom 203 = .ok (.iload 6, 2) := by decide +kernel
theorem dX7_waysFrom_205 : decode cX7_waysFrom 205 = .ok (.iadd, 1) := by decide +kernel
theorem dX7_waysFrom_206 : decode cX7_waysFrom 206 = .ok (.invokevirtual 50, 3) := by decide +kernel
theorem dX7_waysFrom_209 : decode cX7_waysFrom 209 = .ok (.iadd, 1) := by decide +kernel
theorem dX7_waysFrom_210 : decode cX7_waysFrom 210 = .ok (.istore 6, 2) := by decide +kernel
theorem dX7_waysFrom_212 : decode cX7_waysFrom 212 = .ok (.iinc 7 1, 3) := by decide +kernel
theorem dX7_waysFrom_215 : decode cX7_waysFrom 215 = .ok (.goto (-34), 3) := by decide +kernel
theorem dX7_waysFrom_218 : decode cX7_waysFrom 218 = .ok (.aload_n 0, 1) := by decide +kernel
theorem dX7_waysFrom_219 : decode cX7_waysFrom 219 = .ok (.getfield 9, 3) := by decide +kernel
theorem dX7_waysFrom_222 : decode cX7_waysFrom 222 = .ok (.iload_n 1, 1) := by decide +kernel
theorem dX7_waysFrom_223 : decode cX7_waysFrom 223 = .ok (.iconst (-1), 1) := by decide +kernel
theorem dX7_waysFrom_224 : decode cX7_waysFrom 224 = .ok (.iastore, 1) := by decide +kernel
theorem dX7_waysFrom_225 : decode cX7_waysFrom 225 = .ok (.iload 6, 2) := by decide +kernel
theorem dX7_waysFrom_227 : decode cX7_waysFrom 227 = .ok (.ireturn, 1) := by decide +kernel
set_option maxHeartbeats 4000000 in
set_option maxRecDepth 100000 in
theorem t_X7_waysFrom_L181 {p : Program} {l : Launch} {e : Env} {s : State} {m : MethodId} {args : Array Value} {below : List Frame} {meth : Method} {c : Code} {D : va_G} {aC : Nat → ClassId} {A : Nat → Prop} {a_w a_v a_d a_n : Nat → Nat} {dd : Nat} {out : Int32 × Ob_T × Ob_T × Ob_T} {s_n : Ob_T} {k218 : Int32 → Int32 → Ob_T → Ob_T → Ob_T → Option (Int32 × Ob_T × Ob_T × Ob_T)} {rec181 : (Int32 × Int32 × Int32 × Int32 × Int32 × Ob_T × Ob_T × Ob_T) → Option (Int32 × Ob_T × Ob_T × Ob_T)} {slf : Ob_T → Ob_T → Ob_T → Ob_T → Int32 → Int32 → Option (Int32 × Ob_T × Ob_T × Ob_T)} (hslf : ∀ (s_w s_v s_d s_n : Ob_T) (x1 x2 : Int32) (out : Int32 × Ob_T × Ob_T × Ob_T), slf s_w s_v s_d s_n x1 x2 = some out → M_W l yX7_waysFrom wlX7_waysFrom (4 + dd) (122 + 27 * dd) D aC [.ref (a_w 0), .int x1, .int x2] (wd_X7 aC a_w (a_v 0) s_w ++ (wd_X5 aC a_v (a_n 0) (a_d 0) s_v ++ (wd_X4 aC a_d s_d ++ wd_X1 aC a_n s_n))) (some (.int out.1)) (wd_X7 aC a_w (a_v 0) out.2.1 ++ (wd_X5 aC a_v (a_n 0) (a_d 0) out.2.2.1 ++ (wd_X4 aC a_d out.2.2.2 ++ wd_X1 aC a_n s_n)))) (hX : K_X p s m args meth c cX7_waysFrom 8 WL_ RX7 D aC A) (hr : meth.sig.returnType = (some .int)) (hk218 : ∀ (y1 : Int32) (y6 : Int32) (t_w : Ob_T) (t_v : Ob_T) (t_d : Ob_T), k218 y1 y6 t_w t_v t_d = some out → ∀ (H : Heap) (locs : List Loc) (ls : Array Slot), K_S D A s (wd_X7 aC a_w (a_v 0) t_w ++ (wd_X5 aC a_v (a_n 0) (a_d 0) t_v ++ (wd_X4 aC a_d t_d ++ wd_X1 aC a_n s_n))) H locs → lv_has ls 8 [(0, .ref (a_w 0)), (1, .int y1), (6, .int y6)] → W p l e (R_m (4 + (dd + 1)) (122 + 27 * (dd + 1))) s m args below meth c H locs 0 0 (MQ below (Q_W (some (.int out.1)) D A (wd_X7 aC a_w (a_v 0) out.2.1 ++ (wd_X5 aC a_v (a_n 0) (a_d 0) out.2.2.1 ++ (wd_X4 aC a_d out.2.2.2 ++ wd_X1 aC a_n s_n)))) args s 0 0 A) (F0 m 218 ls [])) (hrec181 : ∀ x : Int32 × Int32 × Int32 × Int32 × Int32 × Ob_T × Ob_T × Ob_T, rec181 x = some out → ∀ (H : Heap) (locs : List Loc) (ls : Array Slot), K_S D A s (wd_X7 aC a_w (a_v 0) x.2.2.2.2.2.1 ++ (wd_X5 aC a_v (a_n 0) (a_d 0) x.2.2.2.2.2.2.1 ++ (wd_X4 aC a_d x.2.2.2.2.2.2.2 ++ wd_X1 aC a_n s_n))) H locs → lv_has ls 8 [(0, .ref (a_w 0)), (1, .int x.1), (2, .int x.2.1), (5, .int x.2.2.1), (6, .int x.2.2.2.1), (7, .int x.2.2.2.2.1)] → W p l e (R_m (4 + (dd + 1)) (122 + 27 * (dd + 1))) s m args below meth c H locs 0 0 (MQ below (Q_W (some (.int out.1)) D A (wd_X7 aC a_w (a_v 0) out.2.1 ++ (wd_X5 aC a_v (a_n 0) (a_d 0) out.2.2.1 ++ (wd_X4 aC a_d out.2.2.2 ++ wd_X1 aC a_n s_n)))) args s 0 0 A) (F0 m 181 ls [])) (x1 : Int32) (x2 : Int32) (x5 : Int32) (x6 : Int32) (x7 : Int32) (s_w : Ob_T) (s_v : Ob_T) (s_d : Ob_T) (h : f_X7_waysFrom_L181 slf k218 rec181 x1 x2 x5 x6 x7 s_w s_v s_d s_n = some out) (H : Heap) (locs : List Loc) (ls : Array Slot) (hZ : K_S D A s (wd_X7 aC a_w (a_v 0) s_w ++ (wd_X5 aC a_v (a_n 0) (a_d 0) s_v ++ (wd_X4 aC a_d s_d ++ wd_X1 aC a_n s_n))) H locs) (hl : lv_has ls 8 [(0, .ref (a_w 0)), (1, .int x1), (2, .int x2), (5, .int x5), (6, .int x6), (7, .int x7)]) : W p l e (R_m (4 + (dd + 1)) (122 + 27 * (dd + 1))) s m args below meth c H locs 0 0 (MQ below (Q_W (some (.int out.1)) D A (wd_X7 aC a_w (a_v 0) out.2.1 ++ (wd_X5 aC a_v (a_n 0) (a_d 0) out.2.2.1 ++ (wd_X4 aC a_d out.2.2.2 ++ wd_X1 aC a_n s_n)))) args s 0 0 A) (F0 m 181 ls []) := by
  obtain ⟨hx, hb, hml, hown, hts, hK, hA, hlk⟩ := id hX
  unfold f_X7_waysFrom_L181 at h
  refine lv_iload hx hb dX7_waysFrom_181 (lv_at hl 5 rfl) ?_
  refine lv_iload hx hb dX7_waysFrom_183 (lv_at hl 3 rfl) ?_
  refine lv_icmp_gt (tgt := 218) hx hb dX7_waysFrom_185 (by decide) (fun cd => ?_) (fun cd => ?_)
  · replace h := k_t cd h
    clear cd
    exact hk218 x1 x6 s_w s_v s_d h H locs ls hZ (lv_sub hl [0, 1, 4] rfl)
  · replace h := k_f cd h
    clear cd
    refine lv_aload_n hx hb dX7_waysFrom_188 rfl (lv_at hl 0 rfl) ?_
    refine k_get hX hZ.1 0 7 rfl rfl iw_X7 1 rfl (wm_605) (v := .ref (a_w 1)) rfl dX7_waysFrom_189 ?_
    refine lv_iload_n hx hb dX7_waysFrom_192 rfl (lv_at hl 1 rfl) ?_
    refine lv_iload hx hb dX7_waysFrom_193 (lv_at hl 5 rfl) ?_
    refine k_iast (wf := (fun o => wd_X7 aC a_w (a_v 0) o ++ (wd_X5 aC a_v (a_n 0) (a_d 0) s_v ++ (wd_X4 aC a_d s_d ++ wd_X1 aC a_n s_n)))) (o := s_w) hX hZ 1 1 rfl (fun _ => rfl) h dX7_waysFrom_195 (fun o6 H locs hZ h => ?_)
    refine lv_iload hx hb dX7_waysFrom_196 (lv_at hl 4 rfl) ?_
    refine lv_aload_n hx hb dX7_waysFrom_198 rfl (lv_at hl 0 rfl) ?_
    refine lv_iload_n hx hb dX7_waysFrom_199 rfl (lv_at hl 1 rfl) ?_
    refine lv_iconst (v := 1) hx hb dX7_waysFrom_200 (by decide) ?_
    refine lv_iadd hx hb dX7_waysFrom_201 ?_
    refine lv_iload_n hx hb dX7_waysFrom_202 rfl (lv_at hl 2 rfl) ?_
    refine lv_iload hx hb dX7_waysFrom_203 (lv_at hl 4 rfl) ?_
    refine lv_iadd hx hb dX7_waysFrom_205 ?_
    obtain ⟨u7, hu, h⟩ := k_bd h
    refine k_vWs (As := [.int (x1 + (1 : Int32)), .int (x2 + x6)]) (rest := [.int x6]) (v := some (.int u7.1)) (st1 := [.int u7.1, .int x6]) hX hl.1 hZ (hslf o6 s_v s_d s_n (x1 + (1 : Int32)) (x2 + x6) _ hu) (gv_ wm_611 wm_613 wm_614 wm_600 wm_612) rfl hd_X7_waysFrom ⟨k_bl (show _ ≤ 4 + (dd + 1) by omega), k_bl (show _ ≤ 122 + 27 * (dd + 1) by omega)⟩ 7 0 rfl rfl rfl rfl rfl dX7_waysFrom_206 rfl ⟨rfl, rfl⟩ rfl (fun H locs hZ => ?_)
    clear hu
    refine lv_iadd hx hb dX7_waysFrom_209 ?_
    refine lv_istore (lv' := [(6, .int (x6 + u7.1)), (0, .ref (a_w 0)), (1, .int x1), (2, .int x2), (5, .int x5), (7, .int x7)]) hx hb dX7_waysFrom_210 hl (by decide) rfl (fun ls hl => ?_)
    refine lv_iinc (v := (x7 + (1 : Int32))) (lv' := [(7, .int (x7 + (1 : Int32))), (6, .int (x6 + u7.1)), (0, .ref (a_w 0)), (1, .int x1), (2, .int x2), (5, .int x5)]) hx hb dX7_waysFrom_212 hl (k := 5) rfl rfl (by decide) rfl (fun ls hl => ?_)
    refine lv_goto (tgt := 181) hx hb dX7_waysFrom_215 (by decide) ?_
    exact hrec181 (x1, x2, x5, (x6 + u7.1), (x7 + (1 : Int32)), u7.2.1, u7.2.2.1, u7.2.2.2) h H locs ls hZ (lv_sub hl [2, 3, 4, 5, 1, 0] rfl)
set_option maxHeartbeats 4000000 in
set_option maxRecDepth 100000 in
theorem t_X7_waysFrom_J218 {p : Program} {l : Launch} {e : Env} {s : State} {m : MethodId} {args : Array Value} {below : List Frame} {meth : Method} {c : Code} {D : va_G} {aC : Nat → ClassId} {A : Nat → Prop} {a_w a_v a_d a_n : Nat → Nat} {dd : Nat} {out : Int32 × Ob_T × Ob_T × Ob_T} {s_n : Ob_T} {slf : Ob_T → Ob_T → Ob_T → Ob_T → Int32 → Int32 → Option (Int32 × Ob_T × Ob_T × Ob_T)} (hslf : ∀ (s_w s_v s_d s_n : Ob_T) (x1 x2 : Int32) (out : Int32 × Ob_T × Ob_T × Ob_T), slf s_w s_v s_d s_n x1 x2 = some out → M_W l yX7_waysFrom wlX7_waysFrom (4 + dd) (122 + 27 * dd) D aC [.ref (a_w 0), .int x1, .int x2] (wd_X7 aC a_w (a_v 0) s_w ++ (wd_X5 aC a_v (a_n 0) (a_d 0) s_v ++ (wd_X4 aC a_d s_d ++ wd_X1 aC a_n s_n))) (some (.int out.1)) (wd_X7 aC a_w (a_v 0) out.2.1 ++ (wd_X5 aC a_v (a_n 0) (a_d 0) out.2.2.1 ++ (wd_X4 aC a_d out.2.2.2 ++ wd_X1 aC a_n s_n)))) (hX : K_X p s m args meth c cX7_waysFrom 8 WL_ RX7 D aC A) (hr : meth.sig.returnType = (some .int)) (x1 : Int32) (x6 : Int32) (s_w : Ob_T) (s_v : Ob_T) (s_d : Ob_T) (h : f_X7_waysFrom_J218 slf x1 x6 s_w s_v s_d s_n = some out) (H : Heap) (locs : List Loc) (ls : Array Slot) (hZ : K_S D A s (wd_X7 aC a_w (a_v 0) s_w ++ (wd_X5 aC a_v (a_n 0) (a_d 0) s_v ++ (wd_X4 aC a_d s_d ++ wd_X1 aC a_n s_n))) H locs) (hl : lv_has ls 8 [(0, .ref (a_w 0)), (1, .int x1), (6, .int x6)]) : W p l e (R_m (4 + (dd + 1)) (122 + 27 * (dd + 1))) s m args below meth c H locs 0 0 (MQ below (Q_W (some (.int out.1)) D A (wd_X7 aC a_w (a_v 0) out.2.1 ++ (wd_X5 aC a_v (a_n 0) (a_d 0) out.2.2.1 ++ (wd_X4 aC a_d out.2.2.2 ++ wd_X1 aC a_n s_n)))) args s 0 0 A) (F0 m 218 ls []) := by
  obtain ⟨hx, hb, hml, hown, hts, hK, hA, hlk⟩ := id hX
  unfold f_X7_waysFrom_J218 at h
  refine lv_aload_n hx hb dX7_waysFrom_218 rfl (lv_at hl 0 rfl) ?_
  refine k_get hX hZ.1 0 7 rfl rfl iw_X7 1 rfl (wm_605) (v := .ref (a_w 1)) rfl dX7_waysFrom_219 ?_
  refine lv_iload_n hx hb dX7_waysFrom_222 rfl (lv_at hl 1 rfl) ?_
  refine lv_iconst (v := -1) hx hb dX7_waysFrom_223 (by decide) ?_
  refine k_iast (wf := (fun o => wd_X7 aC a_w (a_v 0) o ++ (wd_X5 aC a_v (a_n 0) (a_d 0) s_v ++ (wd_X4 aC a_d s_d ++ wd_X1 aC a_n s_n)))) (o := s_w) hX hZ 1 1 rfl (fun _ => rfl) h dX7_waysFrom_224 (fun o8 H locs hZ h => ?_)
  refine lv_iload hx hb dX7_waysFrom_225 (lv_at hl 2 rfl) ?_
  cases h
  exact k_iretW hX hr hZ dX7_waysFrom_227
set_option maxHeartbeats 4000000 in
set_option maxRecDepth 100000 in
theorem t_X7_waysFrom_J172 {p : Program} {l : Launch} {e : Env} {s : State} {m : MethodId} {args : Array Value} {below : List Frame} {meth : Method} {c : Code} {D : va_G} {aC : Nat → ClassId} {A : Nat → Prop} {a_w a_v a_d a_n : Nat → Nat} {dd : Nat} {out : Int32 × Ob_T × Ob_T × Ob_T} {s_n : Ob_T} {slf : Ob_T → Ob_T → Ob_T → Ob_T → Int32 → Int32 → Option (Int32 × Ob_T × Ob_T × Ob_T)} (hslf : ∀ (s_w s_v s_d s_n : Ob_T) (x1 x2 : Int32) (out : Int32 × Ob_T × Ob_T × Ob_T), slf s_w s_v s_d s_n x1 x2 = some out → M_W l yX7_waysFrom wlX7_waysFrom (4 + dd) (122 + 27 * dd) D aC [.ref (a_w 0), .int x1, .int x2] (wd_X7 aC a_w (a_v 0) s_w ++ (wd_X5 aC a_v (a_n 0) (a_d 0) s_v ++ (wd_X4 aC a_d s_d ++ wd_X1 aC a_n s_n))) (some (.int out.1)) (wd_X7 aC a_w (a_v 0) out.2.1 ++ (wd_X5 aC a_v (a_n 0) (a_d 0) out.2.2.1 ++ (wd_X4 aC a_d out.2.2.2 ++ wd_X1 aC a_n s_n)))) (hX : K_X p s m args meth c cX7_waysFrom 8 WL_ RX7 D aC A) (hr : meth.sig.returnType = (some .int)) (x1 : Int32) (x2 : Int32) (x4 : Int32) (k0 : Int32) (s_w : Ob_T) (s_v : Ob_T) (s_d : Ob_T) (h : f_X7_waysFrom_J172 slf x1 x2 x4 k0 s_w s_v s_d s_n = some out) (H : Heap) (locs : List Loc) (ls : Array Slot) (hZ : K_S D A s (wd_X7 aC a_w (a_v 0) s_w ++ (wd_X5 aC a_v (a_n 0) (a_d 0) s_v ++ (wd_X4 aC a_d s_d ++ wd_X1 aC a_n s_n))) H locs) (hl : lv_has ls 8 [(0, .ref (a_w 0)), (1, .int x1), (2, .int x2), (4, .int x4)]) : W p l e (R_m (4 + (dd + 1)) (122 + 27 * (dd + 1))) s m args below meth c H locs 0 0 (MQ below (Q_W (some (.int out.1)) D A (wd_X7 aC a_w (a_v 0) out.2.1 ++ (wd_X5 aC a_v (a_n 0) (a_d 0) out.2.2.1 ++ (wd_X4 aC a_d out.2.2.2 ++ wd_X1 aC a_n s_n)))) args s 0 0 A) (F0 m 172 ls [.int k0]) := by
  obtain ⟨hx, hb, hml, hown, hts, hK, hA, hlk⟩ := id hX
  unfold f_X7_waysFrom_J172 at h
  refine lv_istore (lv' := [(5, .int k0), (0, .ref (a_w 0)), (1, .int x1), (2, .int x2), (4, .int x4)]) hx hb dX7_waysFrom_172 hl (by decide) rfl (fun ls hl => ?_)
  refine lv_iconst (v := 0) hx hb dX7_waysFrom_174 (by decide) ?_
  refine lv_istore (lv' := [(6, .int (0 : Int32)), (5, .int k0), (0, .ref (a_w 0)), (1, .int x1), (2, .int x2), (4, .int x4)]) hx hb dX7_waysFrom_175 hl (by decide) rfl (fun ls hl => ?_)
  refine lv_iload hx hb dX7_waysFrom_177 (lv_at hl 5 rfl) ?_
  refine lv_istore (lv' := [(7, .int x4), (6, .int (0 : Int32)), (5, .int k0), (0, .ref (a_w 0)), (1, .int x1), (2, .int x2), (4, .int x4)]) hx hb dX7_waysFrom_179 hl (by decide) rfl (fun ls hl => ?_)
  exact Lp_ok (body := (fun (rec : (Int32 × Int32 × Int32 × Int32 × Int32 × Ob_T × Ob_T × Ob_T) → Option (Int32 × Ob_T × Ob_T × Ob_T)) x => f_X7_waysFrom_L181 slf (fun y1 y6 t_w t_v t_d => f_X7_waysFrom_J218 slf y1 y6 t_w t_v t_d s_n) rec x.1 x.2.1 x.2.2.1 x.2.2.2.1 x.2.2.2.2.1 x.2.2.2.2.2.1 x.2.2.2.2.2.2.1 x.2.2.2.2.2.2.2 s_n)) (out := out) (fun x => ∀ (H : Heap) (locs : List Loc) (ls : Array Slot), K_S D A s (wd_X7 aC a_w (a_v 0) x.2.2.2.2.2.1 ++ (wd_X5 aC a_v (a_n 0) (a_d 0) x.2.2.2.2.2.2.1 ++ (wd_X4 aC a_d x.2.2.2.2.2.2.2 ++ wd_X1 aC a_n s_n))) H locs → lv_has ls 8 [(0, .ref (a_w 0)), (1, .int x.1), (2, .int x.2.1), (5, .int x.2.2.1), (6, .int x.2.2.2.1), (7, .int x.2.2.2.2.1)] → W p l e (R_m (4 + (dd + 1)) (122 + 27 * (dd + 1))) s m args below meth c H locs 0 0 (MQ below (Q_W (some (.int out.1)) D A (wd_X7 aC a_w (a_v 0) out.2.1 ++ (wd_X5 aC a_v (a_n 0) (a_d 0) out.2.2.1 ++ (wd_X4 aC a_d out.2.2.2 ++ wd_X1 aC a_n s_n)))) args s 0 0 A) (F0 m 181 ls [])) (fun rec hrec x h H locs ls hZ hl => t_X7_waysFrom_L181 hslf hX hr (fun y1 y6 t_w t_v t_d h H locs ls hZ hl => t_X7_waysFrom_J218 hslf hX hr y1 y6 t_w t_v t_d h H locs ls hZ (lv_sub hl [0, 1, 2] rfl)) hrec x.1 x.2.1 x.2.2.1 x.2.2.2.1 x.2.2.2.2.1 x.2.2.2.2.2.1 x.2.2.2.2.2.2.1 x.2.2.2.2.2.2.2 h H locs ls hZ hl) FU_ (x1, x2, k0, (0 : Int32), x4, s_w, s_v, s_d) h H locs ls hZ (lv_sub hl [3, 4, 5, 2, 1, 0] rfl)
set_option maxHeartbeats 4000000 in
set_option maxRecDepth 100000 in
theorem t_X7_waysFrom_J152 {p : Program} {l : Launch} {e : Env} {s : State} {m : MethodId} {args : Array Value} {below : List Frame} {meth : Method} {c : Code} {D : va_G} {aC : Nat → ClassId} {A : Nat → Prop} {a_w a_v a_d a_n : Nat → Nat} {dd : Nat} {out : Int32 × Ob_T × Ob_T × Ob_T} {s_n : Ob_T} {slf : Ob_T → Ob_T → Ob_T → Ob_T → Int32 → Int32 → Option (Int32 × Ob_T × Ob_T × Ob_T)} (hslf : ∀ (s_w s_v s_d s_n : Ob_T) (x1 x2 : Int32) (out : Int32 × Ob_T × Ob_T × Ob_T), slf s_w s_v s_d s_n x1 x2 = some out → M_W l yX7_waysFrom wlX7_waysFrom (4 + dd) (122 + 27 * dd) D aC [.ref (a_w 0), .int x1, .int x2] (wd_X7 aC a_w (a_v 0) s_w ++ (wd_X5 aC a_v (a_n 0) (a_d 0) s_v ++ (wd_X4 aC a_d s_d ++ wd_X1 aC a_n s_n))) (some (.int out.1)) (wd_X7 aC a_w (a_v 0) out.2.1 ++ (wd_X5 aC a_v (a_n 0) (a_d 0) out.2.2.1 ++ (wd_X4 aC a_d out.2.2.2 ++ wd_X1 aC a_n s_n)))) (hX : K_X p s m args meth c cX7_waysFrom 8 WL_ RX7 D aC A) (hr : meth.sig.returnType = (some .int)) (x1 : Int32) (x2 : Int32) (x3 : Int32) (k0 : Int32) (s_w : Ob_T) (s_v : Ob_T) (s_d : Ob_T) (h : f_X7_waysFrom_J152 slf x1 x2 x3 k0 s_w s_v s_d s_n = some out) (H : Heap) (locs : List Loc) (ls : Array Slot) (hZ : K_S D A s (wd_X7 aC a_w (a_v 0) s_w ++ (wd_X5 aC a_v (a_n 0) (a_d 0) s_v ++ (wd_X4 aC a_d s_d ++ wd_X1 aC a_n s_n))) H locs) (hl : lv_has ls 8 [(0, .ref (a_w 0)), (1, .int x1), (2, .int x2), (3, .int x3)]) : W p l e (R_m (4 + (dd + 1)) (122 + 27 * (dd + 1))) s m args below meth c H locs 0 0 (MQ below (Q_W (some (.int out.1)) D A (wd_X7 aC a_w (a_v 0) out.2.1 ++ (wd_X5 aC a_v (a_n 0) (a_d 0) out.2.2.1 ++ (wd_X4 aC a_d out.2.2.2 ++ wd_X1 aC a_n s_n)))) args s 0 0 A) (F0 m 152 ls [.int k0]) := by
  obtain ⟨hx, hb, hml, hown, hts, hK, hA, hlk⟩ := id hX
  unfold f_X7_waysFrom_J152 at h
  refine lv_istore (lv' := [(4, .int k0), (0, .ref (a_w 0)), (1, .int x1), (2, .int x2), (3, .int x3)]) hx hb dX7_waysFrom_152 hl (by decide) rfl (fun ls hl => ?_)
  refine lv_iload_n hx hb dX7_waysFrom_154 rfl (lv_at hl 4 rfl) ?_
  refine lv_sipush (v := 20000) hx hb dX7_waysFrom_155 (by decide) ?_
  refine lv_icmp_ge (tgt := 170) hx hb dX7_waysFrom_158 (by decide) (fun cd => ?_) (fun cd => ?_)
  · replace h := k_t cd h
    clear cd
    refine lv_bipush (v := 9) hx hb dX7_waysFrom_170 (by decide) ?_
    exact t_X7_waysFrom_J172 hslf hX hr x1 x2 k0 (9 : Int32) s_w s_v s_d h H locs ls hZ (lv_sub hl [1, 2, 3, 0] rfl)
  · replace h := k_f cd h
    clear cd
    refine lv_iload_n hx hb dX7_waysFrom_161 rfl (lv_at hl 4 rfl) ?_
    refine lv_bipush (v := 9) hx hb dX7_waysFrom_162 (by decide) ?_
    refine va_mmin (x := x3) (y := (9 : Int32)) hx hb (hml.trans hl.1.symm) hown (hts _ wm_615) (hts _ wm_438) (hts _ wm_339) (hts _ wm_439) (show 1 ≤ 4 + (dd + 1) by omega) (show _ ≤ 122 + 27 * (dd + 1) by simp [Value.category]; omega) (Nat.zero_le _) (Nat.zero_le _) dX7_waysFrom_164 ?_
    refine lv_goto (tgt := 172) hx hb dX7_waysFrom_167 (by decide) ?_
    exact t_X7_waysFrom_J172 hslf hX hr x1 x2 k0 (if (9 : Int32) < x3 then (9 : Int32) else x3) s_w s_v s_d h H locs ls hZ (lv_sub hl [1, 2, 3, 0] rfl)
set_option maxHeartbeats 4000000 in
set_option maxRecDepth 100000 in
theorem t_X7_waysFrom_J139 {p : Program} {l : Launch} {e : Env} {s : State} {m : MethodId} {args : Array Value} {below : List Frame} {meth : Method} {c : Code} {D : va_G} {aC : Nat → ClassId} {A : Nat → Prop} {a_w a_v a_d a_n : Nat → Nat} {dd : Nat} {out : Int32 × Ob_T × Ob_T × Ob_T} {s_n : Ob_T} {slf : Ob_T → Ob_T → Ob_T → Ob_T → Int32 → Int32 → Option (Int32 × Ob_T × Ob_T × Ob_T)} (hslf : ∀ (s_w s_v s_d s_n : Ob_T) (x1 x2 : Int32) (out : Int32 × Ob_T × Ob_T × Ob_T), slf s_w s_v s_d s_n x1 x2 = some out → M_W l yX7_waysFrom wlX7_waysFrom (4 + dd) (122 + 27 * dd) D aC [.ref (a_w 0), .int x1, .int x2] (wd_X7 aC a_w (a_v 0) s_w ++ (wd_X5 aC a_v (a_n 0) (a_d 0) s_v ++ (wd_X4 aC a_d s_d ++ wd_X1 aC a_n s_n))) (some (.int out.1)) (wd_X7 aC a_w (a_v 0) out.2.1 ++ (wd_X5 aC a_v (a_n 0) (a_d 0) out.2.2.1 ++ (wd_X4 aC a_d out.2.2.2 ++ wd_X1 aC a_n s_n)))) (hX : K_X p s m args meth c cX7_waysFrom 8 WL_ RX7 D aC A) (hr : meth.sig.returnType = (some .int)) (x1 : Int32) (x2 : Int32) (k0 : Int32) (s_w : Ob_T) (s_v : Ob_T) (s_d : Ob_T) (h : f_X7_waysFrom_J139 slf x1 x2 k0 s_w s_v s_d s_n = some out) (H : Heap) (locs : List Loc) (ls : Array Slot) (hZ : K_S D A s (wd_X7 aC a_w (a_v 0) s_w ++ (wd_X5 aC a_v (a_n 0) (a_d 0) s_v ++ (wd_X4 aC a_d s_d ++ wd_X1 aC a_n s_n))) H locs) (hl : lv_has ls 8 [(0, .ref (a_w 0)), (1, .int x1), (2, .int x2)]) : W p l e (R_m (4 + (dd + 1)) (122 + 27 * (dd + 1))) s m args below meth c H locs 0 0 (MQ below (Q_W (some (.int out.1)) D A (wd_X7 aC a_w (a_v 0) out.2.1 ++ (wd_X5 aC a_v (a_n 0) (a_d 0) out.2.2.1 ++ (wd_X4 aC a_d out.2.2.2 ++ wd_X1 aC a_n s_n)))) args s 0 0 A) (F0 m 139 ls [.int k0]) := by
  obtain ⟨hx, hb, hml, hown, hts, hK, hA, hlk⟩ := id hX
  unfold f_X7_waysFrom_J139 at h
  refine lv_istore_n (lv' := [(3, .int k0), (0, .ref (a_w 0)), (1, .int x1), (2, .int x2)]) hx hb dX7_waysFrom_139 rfl hl (by decide) rfl (fun ls hl => ?_)
  refine lv_iload_n hx hb dX7_waysFrom_140 rfl (lv_at hl 0 rfl) ?_
  refine lv_sipush (v := 20000) hx hb dX7_waysFrom_141 (by decide) ?_
  refine lv_icmp_ge (tgt := 151) hx hb dX7_waysFrom_144 (by decide) (fun cd => ?_) (fun cd => ?_)
  · replace h := k_t cd h
    clear cd
    refine lv_iconst (v := 0) hx hb dX7_waysFrom_151 (by decide) ?_
    exact t_X7_waysFrom_J152 hslf hX hr x1 x2 k0 (0 : Int32) s_w s_v s_d h H locs ls hZ (lv_sub hl [1, 2, 3, 0] rfl)
  · replace h := k_f cd h
    clear cd
    refine lv_iload_n hx hb dX7_waysFrom_147 rfl (lv_at hl 0 rfl) ?_
    refine lv_goto (tgt := 152) hx hb dX7_waysFrom_148 (by decide) ?_
    exact t_X7_waysFrom_J152 hslf hX hr x1 x2 k0 k0 s_w s_v s_d h H locs ls hZ (lv_sub hl [1, 2, 3, 0] rfl)
set_option maxHeartbeats 4000000 in
set_option maxRecDepth 100000 in
theorem t_X7_waysFrom_J111 {p : Program} {l : Launch} {e : Env} {s : State} {m : MethodId} {args : Array Value} {below : List Frame} {meth : Method} {c : Code} {D : va_G} {aC : Nat → ClassId} {A : Nat → Prop} {a_w a_v a_d a_n : Nat → Nat} {dd : Nat} {out : Int32 × Ob_T × Ob_T × Ob_T} {s_n : Ob_T} {slf : Ob_T → Ob_T → Ob_T → Ob_T → Int32 → Int32 → Option (Int32 × Ob_T × Ob_T × Ob_T)} (hslf : ∀ (s_w s_v s_d s_n : Ob_T) (x1 x2 : Int32) (out : Int32 × Ob_T × Ob_T × Ob_T), slf s_w s_v s_d s_n x1 x2 = some out → M_W l yX7_waysFrom wlX7_waysFrom (4 + dd) (122 + 27 * dd) D aC [.ref (a_w 0), .int x1, .int x2] (wd_X7 aC a_w (a_v 0) s_w ++ (wd_X5 aC a_v (a_n 0) (a_d 0) s_v ++ (wd_X4 aC a_d s_d ++ wd_X1 aC a_n s_n))) (some (.int out.1)) (wd_X7 aC a_w (a_v 0) out.2.1 ++ (wd_X5 aC a_v (a_n 0) (a_d 0) out.2.2.1 ++ (wd_X4 aC a_d out.2.2.2 ++ wd_X1 aC a_n s_n)))) (hX : K_X p s m args meth c cX7_waysFrom 8 WL_ RX7 D aC A) (hr : meth.sig.returnType = (some .int)) (x1 : Int32) (x2 : Int32) (s_w : Ob_T) (s_v : Ob_T) (s_d : Ob_T) (h : f_X7_waysFrom_J111 slf x1 x2 s_w s_v s_d s_n = some out) (H : Heap) (locs : List Loc) (ls : Array Slot) (hZ : K_S D A s (wd_X7 aC a_w (a_v 0) s_w ++ (wd_X5 aC a_v (a_n 0) (a_d 0) s_v ++ (wd_X4 aC a_d s_d ++ wd_X1 aC a_n s_n))) H locs) (hl : lv_has ls 8 [(0, .ref (a_w 0)), (1, .int x1), (2, .int x2)]) : W p l e (R_m (4 + (dd + 1)) (122 + 27 * (dd + 1))) s m args below meth c H locs 0 0 (MQ below (Q_W (some (.int out.1)) D A (wd_X7 aC a_w (a_v 0) out.2.1 ++ (wd_X5 aC a_v (a_n 0) (a_d 0) out.2.2.1 ++ (wd_X4 aC a_d out.2.2.2 ++ wd_X1 aC a_n s_n)))) args s 0 0 A) (F0 m 111 ls []) := by
  obtain ⟨hx, hb, hml, hown, hts, hK, hA, hlk⟩ := id hX
  unfold f_X7_waysFrom_J111 at h
  refine lv_aload_n hx hb dX7_waysFrom_111 rfl (lv_at hl 0 rfl) ?_
  refine k_get hX hZ.1 0 7 rfl rfl iw_X7 0 rfl (wm_607) (v := .ref (a_v 0)) rfl dX7_waysFrom_112 ?_
  obtain ⟨u4, hu, h⟩ := k_bd h
  refine k_vR (As := []) (rest := []) (wc := wd_X5 aC a_v (a_n 0) (a_d 0) s_v) (v := some (.int u4)) (st1 := [.int u4]) hX hl.1 hZ (c_X5_hasFailed (a_v := a_v) (a_n := a_n) (a_d := a_d) s_v hu) (gv_ wm_609 wm_456 wm_457 wm_432 wm_455) rfl hd_X5_hasFailed ⟨k_bl (show _ ≤ 4 + (dd + 1) by omega), k_bl (show _ ≤ 122 + 27 * (dd + 1) by omega)⟩ 5 0 rfl rfl [3, 4, 5, 6, 7] rfl rfl rfl rfl rfl dX7_waysFrom_115 rfl ⟨rfl, rfl⟩ (fun locs hZ => ?_)
  clear hu
  refine lv_if_eq (tgt := 127) hx hb dX7_waysFrom_118 (by decide) (fun cd => ?_) (fun cd => ?_)
  · replace h := k_t cd h
    clear cd
    refine lv_aload_n hx hb dX7_waysFrom_127 rfl (lv_at hl 0 rfl) ?_
    refine k_get hX hZ.1 0 7 rfl rfl iw_X7 0 rfl (wm_607) (v := .ref (a_v 0)) rfl dX7_waysFrom_128 ?_
    refine lv_sipush (v := 20000) hx hb dX7_waysFrom_131 (by decide) ?_
    refine lv_iload_n hx hb dX7_waysFrom_134 rfl (lv_at hl 1 rfl) ?_
    refine lv_iadd hx hb dX7_waysFrom_135 ?_
    obtain ⟨u5, hu, h⟩ := k_bd h
    refine k_vR (As := [.int ((20000 : Int32) + x1)]) (rest := []) (wc := wd_X5 aC a_v (a_n 0) (a_d 0) s_v) (v := some (.int u5)) (st1 := [.int u5]) hX hl.1 hZ (c_X5_valueOf (a_v := a_v) (a_n := a_n) (a_d := a_d) s_v ((20000 : Int32) + x1) hu) (gv_ wm_616 wm_446 wm_447 wm_432 wm_445) rfl hd_X5_valueOf ⟨k_bl (show _ ≤ 4 + (dd + 1) by omega), k_bl (show _ ≤ 122 + 27 * (dd + 1) by omega)⟩ 5 0 rfl rfl [3, 4, 5, 6, 7] rfl rfl rfl rfl rfl dX7_waysFrom_136 rfl ⟨rfl, rfl⟩ (fun locs hZ => ?_)
    clear hu
    exact t_X7_waysFrom_J139 hslf hX hr x1 x2 u5 s_w s_v s_d h H locs ls hZ (lv_sub hl [0, 1, 2] rfl)
  · replace h := k_f cd h
    clear cd
    refine lv_sipush (v := 20000) hx hb dX7_waysFrom_121 (by decide) ?_
    refine lv_goto (tgt := 139) hx hb dX7_waysFrom_124 (by decide) ?_
    exact t_X7_waysFrom_J139 hslf hX hr x1 x2 (20000 : Int32) s_w s_v s_d h H locs ls hZ (lv_sub hl [0, 1, 2] rfl)
set_option maxHeartbeats 4000000 in
set_option maxRecDepth 100000 in
theorem c_X7_waysFrom_B {l : Launch} {D : va_G} {aC : Nat → ClassId} {a_w : Nat → Nat} {a_v : Nat → Nat} {a_d : Nat → Nat} {a_n : Nat → Nat} {dd : Nat} {slf : Ob_T → Ob_T → Ob_T → Ob_T → Int32 → Int32 → Option (Int32 × Ob_T × Ob_T × Ob_T)} (hslf : ∀ (s_w s_v s_d s_n : Ob_T) (x1 x2 : Int32) (out : Int32 × Ob_T × Ob_T × Ob_T), slf s_w s_v s_d s_n x1 x2 = some out → M_W l yX7_waysFrom wlX7_waysFrom (4 + dd) (122 + 27 * dd) D aC [.ref (a_w 0), .int x1, .int x2] (wd_X7 aC a_w (a_v 0) s_w ++ (wd_X5 aC a_v (a_n 0) (a_d 0) s_v ++ (wd_X4 aC a_d s_d ++ wd_X1 aC a_n s_n))) (some (.int out.1)) (wd_X7 aC a_w (a_v 0) out.2.1 ++ (wd_X5 aC a_v (a_n 0) (a_d 0) out.2.2.1 ++ (wd_X4 aC a_d out.2.2.2 ++ wd_X1 aC a_n s_n)))) (s_w : Ob_T) (s_v : Ob_T) (s_d : Ob_T) (s_n : Ob_T) (x1 : Int32) (x2 : Int32) {out : Int32 × Ob_T × Ob_T × Ob_T} (h : f_X7_waysFrom_B slf s_w s_v s_d s_n x1 x2 = some out) : M_W l yX7_waysFrom wlX7_waysFrom (4 + (dd + 1)) (122 + 27 * (dd + 1)) D aC [.ref (a_w 0), .int x1, .int x2] (wd_X7 aC a_w (a_v 0) s_w ++ (wd_X5 aC a_v (a_n 0) (a_d 0) s_v ++ (wd_X4 aC a_d s_d ++ wd_X1 aC a_n s_n))) (some (.int out.1)) (wd_X7 aC a_w (a_v 0) out.2.1 ++ (wd_X5 aC a_v (a_n 0) (a_d 0) out.2.2.1 ++ (wd_X4 aC a_d out.2.2.2 ++ wd_X1 aC a_n s_n))) := by
  refine k_entW (cc := cX7_waysFrom) (ret := (some .int)) (maxL := 8) (own := RX7) (by decide) rfl rfl rfl ?_
  intro p e s m below meth c A ls hX hr hZ hl
  have hl : lv_has ls 8 [(0, .ref (a_w 0)), (1, .int x1), (2, .int x2)] := hl
  generalize ([.ref (a_w 0), .int x1, .int x2] : List Value).toArray = args at hX ⊢
  obtain ⟨hx, hb, hml, hown, hts, hK, hA, hlk⟩ := id hX
  unfold f_X7_waysFrom_B at h
  generalize s.heap = H at hZ ⊢
  generalize ([] : List Loc) = locs at hZ ⊢
  refine lv_iload_n hx hb dX7_waysFrom_0 rfl (lv_at hl 1 rfl) ?_
  refine lv_iconst (v := 4) hx hb dX7_waysFrom_1 (by decide) ?_
  refine lv_icmp_lt (tgt := 22) hx hb dX7_waysFrom_2 (by decide) (fun cd => ?_) (fun cd => ?_)
  · replace h := k_t cd h
    clear cd
    refine lv_aload_n hx hb dX7_waysFrom_22 rfl (lv_at hl 0 rfl) ?_
    refine lv_iload_n hx hb dX7_waysFrom_23 rfl (lv_at hl 1 rfl) ?_
    obtain ⟨u1, hu, h⟩ := k_bd h
    refine k_vR (As := [.int x1]) (rest := []) (wc := wd_X7 aC a_w (a_v 0) s_w) (v := some (.int u1)) (st1 := [.int u1]) hX hl.1 hZ (c_X7_isOpen (a_w := a_w) (a_v := a_v) s_w x1 hu) (gv_ wm_599 wm_602 wm_603 wm_600 wm_601) rfl hd_X7_isOpen ⟨k_bl (show _ ≤ 4 + (dd + 1) by omega), k_bl (show _ ≤ 122 + 27 * (dd + 1) by omega)⟩ 7 0 rfl rfl [0, 1, 2] rfl rfl rfl rfl rfl dX7_waysFrom_24 rfl ⟨rfl, rfl⟩ (fun locs hZ => ?_)
    clear hu
    refine lv_if_ne (tgt := 39) hx hb dX7_waysFrom_27 (by decide) (fun cd => ?_) (fun cd => ?_)
    · replace h := k_f cd h
      clear cd
      refine lv_aload_n hx hb dX7_waysFrom_39 rfl (lv_at hl 0 rfl) ?_
      refine k_get hX hZ.1 0 7 rfl rfl iw_X7 4 rfl (wm_610) (v := .int (o_F s_w 4)) rfl dX7_waysFrom_40 ?_
      refine lv_iload_n hx hb dX7_waysFrom_43 rfl (lv_at hl 1 rfl) ?_
      refine lv_ishr hx hb dX7_waysFrom_44 ?_
      refine lv_iconst (v := 1) hx hb dX7_waysFrom_45 (by decide) ?_
      refine lv_iand hx hb dX7_waysFrom_46 ?_
      refine lv_if_ne (tgt := 78) hx hb dX7_waysFrom_47 (by decide) (fun cd => ?_) (fun cd => ?_)
      · replace h := k_f cd h
        clear cd
        refine lv_aload_n hx hb dX7_waysFrom_78 rfl (lv_at hl 0 rfl) ?_
        refine k_get hX hZ.1 0 7 rfl rfl iw_X7 0 rfl (wm_607) (v := .ref (a_v 0)) rfl dX7_waysFrom_79 ?_
        refine lv_aload_n hx hb dX7_waysFrom_82 rfl (lv_at hl 0 rfl) ?_
        refine k_get hX hZ.1 0 7 rfl rfl iw_X7 1 rfl (wm_605) (v := .ref (a_w 1)) rfl dX7_waysFrom_83 ?_
        obtain ⟨u2, hu, h⟩ := k_bd h
        refine k_vW (As := [.ref (a_w 1)]) (rest := []) (wc := wd_X5 aC a_v (a_n 0) (a_d 0) s_v ++ (wd_X4 aC a_d s_d ++ (wd_X1 aC a_n s_n ++ [((a_w 1), .inl (aC 0, 4, .inl (o_A s_w 1)))]))) (v := none) (st1 := []) (w' := wd_X7 aC a_w (a_v 0) s_w ++ (wd_X5 aC a_v (a_n 0) (a_d 0) u2.1 ++ (wd_X4 aC a_d u2.2 ++ wd_X1 aC a_n s_n))) hX hl.1 hZ (c_X5_settleWith (a_v := a_v) (a_d := a_d) (a_n := a_n) (q1 := (a_w 1)) (f1 := o_A s_w 1) (z1 := 4) s_v s_d s_n hu) (gv_ wm_621 wm_623 wm_624 wm_432 wm_622) rfl hd_X5_settleWith ⟨k_bl (show _ ≤ 4 + (dd + 1) by omega), k_bl (show _ ≤ 122 + 27 * (dd + 1) by omega)⟩ 5 0 rfl rfl [3, 4, 5, 6, 7, 8, 9, 10, 11, 12, 13, 14, 15, 16, 17, 1] rfl rfl rfl rfl rfl dX7_waysFrom_86 rfl ⟨rfl, rfl⟩ rfl rfl rfl (fun H locs hZ => ?_)
        clear hu
        refine lv_aload_n hx hb dX7_waysFrom_89 rfl (lv_at hl 0 rfl) ?_
        refine k_get hX hZ.1 0 7 rfl rfl iw_X7 0 rfl (wm_607) (v := .ref (a_v 0)) rfl dX7_waysFrom_90 ?_
        obtain ⟨u3, hu, h⟩ := k_bd h
        refine k_vR (As := []) (rest := []) (wc := wd_X5 aC a_v (a_n 0) (a_d 0) u2.1) (v := some (.int u3)) (st1 := [.int u3]) hX hl.1 hZ (c_X5_hasFailed (a_v := a_v) (a_n := a_n) (a_d := a_d) u2.1 hu) (gv_ wm_609 wm_456 wm_457 wm_432 wm_455) rfl hd_X5_hasFailed ⟨k_bl (show _ ≤ 4 + (dd + 1) by omega), k_bl (show _ ≤ 122 + 27 * (dd + 1) by omega)⟩ 5 0 rfl rfl [3, 4, 5, 6, 7] rfl rfl rfl rfl rfl dX7_waysFrom_93 rfl ⟨rfl, rfl⟩ (fun locs hZ => ?_)
        clear hu
        refine lv_if_eq (tgt := 111) hx hb dX7_waysFrom_96 (by decide) (fun cd => ?_) (fun cd => ?_)
        · replace h := k_t cd h
          clear cd
          exact t_X7_waysFrom_J111 hslf hX hr x1 x2 s_w u2.1 u2.2 h H locs ls hZ (lv_sub hl [0, 1, 2] rfl)
        · replace h := k_f cd h
          clear cd
          refine lv_aload_n hx hb dX7_waysFrom_99 rfl (lv_at hl 0 rfl) ?_
          refine k_get hX hZ.1 0 7 rfl rfl iw_X7 0 rfl (wm_607) (v := .ref (a_v 0)) rfl dX7_waysFrom_100 ?_
          obtain ⟨u9, hu, h⟩ := k_bd h
          refine k_vR (As := []) (rest := []) (wc := wd_X5 aC a_v (a_n 0) (a_d 0) u2.1) (v := some (.int u9)) (st1 := [.int u9]) hX hl.1 hZ (c_X5_hasTooGreat (a_v := a_v) (a_n := a_n) (a_d := a_d) u2.1 hu) (gv_ wm_617 wm_619 wm_620 wm_432 wm_618) rfl hd_X5_hasTooGreat ⟨k_bl (show _ ≤ 4 + (dd + 1) by omega), k_bl (show _ ≤ 122 + 27 * (dd + 1) by omega)⟩ 5 0 rfl rfl [3, 4, 5, 6, 7] rfl rfl rfl rfl rfl dX7_waysFrom_103 rfl ⟨rfl, rfl⟩ (fun locs hZ => ?_)
          clear hu
          refine lv_if_ne (tgt := 111) hx hb dX7_waysFrom_106 (by decide) (fun cd => ?_) (fun cd => ?_)
          · replace h := k_f cd h
            clear cd
            exact t_X7_waysFrom_J111 hslf hX hr x1 x2 s_w u2.1 u2.2 h H locs ls hZ (lv_sub hl [0, 1, 2] rfl)
          · replace h := k_t cd h
            clear cd
            refine lv_iconst (v := 0) hx hb dX7_waysFrom_109 (by decide) ?_
            cases h
            exact k_iretW hX hr hZ dX7_waysFrom_110
      · replace h := k_t cd h
        clear cd
        refine lv_aload_n hx hb dX7_waysFrom_50 rfl (lv_at hl 0 rfl) ?_
        refine k_get hX hZ.1 0 7 rfl rfl iw_X7 1 rfl (wm_605) (v := .ref (a_w 1)) rfl dX7_waysFrom_51 ?_
        refine lv_iload_n hx hb dX7_waysFrom_54 rfl (lv_at hl 1 rfl) ?_
        refine lv_iconst (v := 0) hx hb dX7_waysFrom_55 (by decide) ?_
        refine k_iast (wf := (fun o => wd_X7 aC a_w (a_v 0) o ++ (wd_X5 aC a_v (a_n 0) (a_d 0) s_v ++ (wd_X4 aC a_d s_d ++ wd_X1 aC a_n s_n)))) (o := s_w) hX hZ 1 1 rfl (fun _ => rfl) h dX7_waysFrom_56 (fun o10 H locs hZ h => ?_)
        refine lv_aload_n hx hb dX7_waysFrom_57 rfl (lv_at hl 0 rfl) ?_
        refine lv_iload_n hx hb dX7_waysFrom_58 rfl (lv_at hl 1 rfl) ?_
        refine lv_iconst (v := 1) hx hb dX7_waysFrom_59 (by decide) ?_
        refine lv_iadd hx hb dX7_waysFrom_60 ?_
        refine lv_iload_n hx hb dX7_waysFrom_61 rfl (lv_at hl 2 rfl) ?_
        obtain ⟨u11, hu, h⟩ := k_bd h
        refine k_vWs (As := [.int (x1 + (1 : Int32)), .int x2]) (rest := []) (v := some (.int u11.1)) (st1 := [.int u11.1]) hX hl.1 hZ (hslf o10 s_v s_d s_n (x1 + (1 : Int32)) x2 _ hu) (gv_ wm_611 wm_613 wm_614 wm_600 wm_612) rfl hd_X7_waysFrom ⟨k_bl (show _ ≤ 4 + (dd + 1) by omega), k_bl (show _ ≤ 122 + 27 * (dd + 1) by omega)⟩ 7 0 rfl rfl rfl rfl rfl dX7_waysFrom_62 rfl ⟨rfl, rfl⟩ rfl (fun H locs hZ => ?_)
        clear hu
        refine lv_istore_n (lv' := [(3, .int u11.1), (0, .ref (a_w 0)), (1, .int x1), (2, .int x2)]) hx hb dX7_waysFrom_65 rfl hl (by decide) rfl (fun ls hl => ?_)
        refine lv_aload_n hx hb dX7_waysFrom_66 rfl (lv_at hl 1 rfl) ?_
        refine k_get hX hZ.1 0 7 rfl rfl iw_X7 1 rfl (wm_605) (v := .ref (a_w 1)) rfl dX7_waysFrom_67 ?_
        refine lv_iload_n hx hb dX7_waysFrom_70 rfl (lv_at hl 2 rfl) ?_
        refine lv_iconst (v := -1) hx hb dX7_waysFrom_71 (by decide) ?_
        refine k_iast (wf := (fun o => wd_X7 aC a_w (a_v 0) o ++ (wd_X5 aC a_v (a_n 0) (a_d 0) u11.2.2.1 ++ (wd_X4 aC a_d u11.2.2.2 ++ wd_X1 aC a_n s_n)))) (o := u11.2.1) hX hZ 1 1 rfl (fun _ => rfl) h dX7_waysFrom_72 (fun o12 H locs hZ h => ?_)
        refine lv_iload_n hx hb dX7_waysFrom_73 rfl (lv_at hl 0 rfl) ?_
        refine lv_bipush (v := 10) hx hb dX7_waysFrom_74 (by decide) ?_
        refine lv_imul hx hb dX7_waysFrom_76 ?_
        cases h
        exact k_iretW hX hr hZ dX7_waysFrom_77
    · replace h := k_t cd h
      clear cd
      refine lv_aload_n hx hb dX7_waysFrom_30 rfl (lv_at hl 0 rfl) ?_
      refine lv_iload_n hx hb dX7_waysFrom_31 rfl (lv_at hl 1 rfl) ?_
      refine lv_iconst (v := 1) hx hb dX7_waysFrom_32 (by decide) ?_
      refine lv_iadd hx hb dX7_waysFrom_33 ?_
      refine lv_iload_n hx hb dX7_waysFrom_34 rfl (lv_at hl 2 rfl) ?_
      obtain ⟨u13, hu, h⟩ := k_bd h
      refine k_vWs (As := [.int (x1 + (1 : Int32)), .int x2]) (rest := []) (v := some (.int u13.1)) (st1 := [.int u13.1]) hX hl.1 hZ (hslf s_w s_v s_d s_n (x1 + (1 : Int32)) x2 _ hu) (gv_ wm_611 wm_613 wm_614 wm_600 wm_612) rfl hd_X7_waysFrom ⟨k_bl (show _ ≤ 4 + (dd + 1) by omega), k_bl (show _ ≤ 122 + 27 * (dd + 1) by omega)⟩ 7 0 rfl rfl rfl rfl rfl dX7_waysFrom_35 rfl ⟨rfl, rfl⟩ rfl (fun H locs hZ => ?_)
      clear hu
      cases h
      exact k_iretW hX hr hZ dX7_waysFrom_38
  · replace h := k_f cd h
    clear cd
    refine lv_aload_n hx hb dX7_waysFrom_5 rfl (lv_at hl 0 rfl) ?_
    refine k_get hX hZ.1 0 7 rfl rfl iw_X7 0 rfl (wm_607) (v := .ref (a_v 0)) rfl dX7_waysFrom_6 ?_
    refine lv_aload_n hx hb dX7_waysFrom_9 rfl (lv_at hl 0 rfl) ?_
    refine k_get hX hZ.1 0 7 rfl rfl iw_X7 1 rfl (wm_605) (v := .ref (a_w 1)) rfl dX7_waysFrom_10 ?_
    obtain ⟨u14, hu, h⟩ := k_bd h
    refine k_vW (As := [.ref (a_w 1)]) (rest := []) (wc := wd_X5 aC a_v (a_n 0) (a_d 0) s_v ++ (wd_X4 aC a_d s_d ++ (wd_X1 aC a_n s_n ++ [((a_w 1), .inl (aC 0, 4, .inl (o_A s_w 1)))]))) (v := none) (st1 := []) (w' := wd_X7 aC a_w (a_v 0) s_w ++ (wd_X5 aC a_v (a_n 0) (a_d 0) u14.1 ++ (wd_X4 aC a_d u14.2 ++ wd_X1 aC a_n s_n))) hX hl.1 hZ (c_X5_settleWith (a_v := a_v) (a_d := a_d) (a_n := a_n) (q1 := (a_w 1)) (f1 := o_A s_w 1) (z1 := 4) s_v s_d s_n hu) (gv_ wm_621 wm_623 wm_624 wm_432 wm_622) rfl hd_X5_settleWith ⟨k_bl (show _ ≤ 4 + (dd + 1) by omega), k_bl (show _ ≤ 122 + 27 * (dd + 1) by omega)⟩ 5 0 rfl rfl [3, 4, 5, 6, 7, 8, 9, 10, 11, 12, 13, 14, 15, 16, 17, 1] rfl rfl rfl rfl rfl dX7_waysFrom_13 rfl ⟨rfl, rfl⟩ rfl rfl rfl (fun H locs hZ => ?_)
    clear hu
    refine lv_aload_n hx hb dX7_waysFrom_16 rfl (lv_at hl 0 rfl) ?_
    refine lv_iload_n hx hb dX7_waysFrom_17 rfl (lv_at hl 2 rfl) ?_
    obtain ⟨u15, hu, h⟩ := k_bd h
    refine k_vW (As := [.int x2]) (rest := []) (wc := wd_X7 aC a_w (a_v 0) s_w ++ wd_X5 aC a_v (a_n 0) (a_d 0) u14.1) (v := some (.int u15.1)) (st1 := [.int u15.1]) (w' := wd_X7 aC a_w (a_v 0) u15.2 ++ (wd_X5 aC a_v (a_n 0) (a_d 0) u14.1 ++ (wd_X4 aC a_d u14.2 ++ wd_X1 aC a_n s_n))) hX hl.1 hZ (c_X7_waysAsSettled (a_w := a_w) (a_v := a_v) (a_n := a_n) (a_d := a_d) s_w u14.1 x2 hu) (gv_ wm_625 wm_627 wm_628 wm_600 wm_626) rfl hd_X7_waysAsSettled ⟨k_bl (show _ ≤ 4 + (dd + 1) by omega), k_bl (show _ ≤ 122 + 27 * (dd + 1) by omega)⟩ 7 0 rfl rfl [0, 1, 2, 3, 4, 5, 6, 7] rfl rfl rfl rfl rfl dX7_waysFrom_18 rfl ⟨rfl, rfl⟩ rfl rfl rfl (fun H locs hZ => ?_)
    clear hu
    cases h
    exact k_iretW hX hr hZ dX7_waysFrom_21
theorem c_X7_waysFrom_all {l : Launch} {D : va_G} {aC : Nat → ClassId} {a_w : Nat → Nat} {a_v : Nat → Nat} {a_d : Nat → Nat} {a_n : Nat → Nat} : ∀ (dd : Nat) (s_w : Ob_T) (s_v : Ob_T) (s_d : Ob_T) (s_n : Ob_T) (x1 : Int32) (x2 : Int32) (out : Int32 × Ob_T × Ob_T × Ob_T), f_X7_waysFrom dd s_w s_v s_d s_n x1 x2 = some out → M_W l yX7_waysFrom wlX7_waysFrom (4 + dd) (122 + 27 * dd) D aC [.ref (a_w 0), .int x1, .int x2] (wd_X7 aC a_w (a_v 0) s_w ++ (wd_X5 aC a_v (a_n 0) (a_d 0) s_v ++ (wd_X4 aC a_d s_d ++ wd_X1 aC a_n s_n))) (some (.int out.1)) (wd_X7 aC a_w (a_v 0) out.2.1 ++ (wd_X5 aC a_v (a_n 0) (a_d 0) out.2.2.1 ++ (wd_X4 aC a_d out.2.2.2 ++ wd_X1 aC a_n s_n)))
  | 0, _, _, _, _, _, _, _, h => by cases h
  | dd + 1, s_w, s_v, s_d, s_n, x1, x2, _, h => c_X7_waysFrom_B (dd := dd) (c_X7_waysFrom_all dd) s_w s_v s_d s_n x1 x2 h
theorem c_X7_waysFrom (dd : Nat) {l : Launch} {D : va_G} {aC : Nat → ClassId} {a_w : Nat → Nat} {a_v : Nat → Nat} {a_d : Nat → Nat} {a_n : Nat → Nat} (s_w : Ob_T) (s_v : Ob_T) (s_d : Ob_T) (s_n : Ob_T) (x1 : Int32) (x2 : Int32) {out : Int32 × Ob_T × Ob_T × Ob_T} (h : f_X7_waysFrom dd s_w s_v s_d s_n x1 x2 = some out) : M_W l yX7_waysFrom wlX7_waysFrom (4 + dd) (122 + 27 * dd) D aC [.ref (a_w 0), .int x1, .int x2] (wd_X7 aC a_w (a_v 0) s_w ++ (wd_X5 aC a_v (a_n 0) (a_d 0) s_v ++ (wd_X4 aC a_d s_d ++ wd_X1 aC a_n s_n))) (some (.int out.1)) (wd_X7 aC a_w (a_v 0) out.2.1 ++ (wd_X5 aC a_v (a_n 0) (a_d 0) out.2.2.1 ++ (wd_X4 aC a_d out.2.2.2 ++ wd_X1 aC a_n s_n))) := c_X7_waysFrom_all dd s_w s_v s_d s_n x1 x2 out h
