def wlX9_copy : List Cond := .code yX9_copy cX9_copy 9 (some .int) :: WL_
theorem hd_X9_copy : yX9_copy.cls = RX9 ∧ yX9_copy.cls ≠ "java/lang/invoke/MethodHandle" ∧ yX9_copy.cls ≠ "java/lang/invoke/VarHandle" ∧ (parseMethodDescriptor yX9_copy.desc).map (fun d => d.parameters.length) = some 5 := by decide +kernel
theorem dX9_copy_0 : decode cX9_copy 0 = .ok (.iload_n 1, 1) := by decide +kernel
theorem dX9_copy_1 : decode cX9_copy 1 = .ok (.invokestatic 348, 3) := by decide +kernel
theorem dX9_copy_4 : decode cX9_copy 4 = .ok (.ifCond .eq 10, 3) := by decide +kernel
theorem dX9_copy_7 : decode cX9_copy 7 = .ok (.iload_n 3, 1) := by decide +kernel
theorem dX9_copy_8 : decode cX9_copy 8 = .ok (.invokestatic 348, 3) := by decide +kernel
theorem dX9_copy_11 : decode cX9_copy 11 = .ok (.ifCond .ne 6, 3) := by decide +kernel
theorem dX9_copy_14 : decode cX9_copy 14 = .ok (.bipush (-2), 2) := by decide +kernel
theorem dX9_copy_16 : decode cX9_copy 16 = .ok (.ireturn, 1) := by decide +kernel
theorem dX9_copy_17 : decode cX9_copy 17 = .ok (.aload_n 0, 1) := by decide +kernel
theorem dX9_copy_18 : decode cX9_copy 18 = .ok (.getfield 44, 3) := by decide +kernel
theorem dX9_copy_21 : decode cX9_copy 21 = .ok (.iload_n 1, 1) := by decide +kernel
theorem dX9_copy_22 : decode cX9_copy 22 = .ok (.iaload, 1) := by decide +kernel
theorem dX9_copy_23 : decode cX9_copy 23 = .ok (.ifCond .lt 12, 3) := by decide +kernel
theorem dX9_copy_26 : decode cX9_copy 26 = .ok (.aload_n 0, 1) := by decide +kernel
theorem dX9_copy_27 : decode cX9_copy 27 = .ok (.getfield 44, 3) := by decide +kernel
theorem dX9_copy_30 : decode cX9_copy 30 = .ok (.iload_n 3, 1) := by decide +kernel
theorem dX9_copy_31 : decode cX9_copy 31 = .ok (.iaload, 1) := by decide +kernel
theorem dX9_copy_32 : decode cX9_copy 32 = .ok (.ifCond .ge 6, 3) := by decide +kernel
theorem dX9_copy_35 : decode cX9_copy 35 = .ok (.bipush (-11), 2) := by decide +kernel
theorem dX9_copy_37 : decode cX9_copy 37 = .ok (.ireturn, 1) := by decide +kernel
theorem dX9_copy_38 : decode cX9_copy 38 = .ok (.iload 5, 2) := by decide +kernel
theorem dX9_copy_40 : decode cX9_copy 40 = .ok (.ifCond .ge 6, 3) := by decide +kernel
theorem dX9_copy_43 : decode cX9_copy 43 = .ok (.bipush (-12), 2) := by decide +kernel
theorem dX9_copy_45 : decode cX9_copy 45 = .ok (.ireturn, 1) := by decide +kernel
theorem dX9_copy_46 : decode cX9_copy 46 = .ok (.aload_n 0, 1) := by decide +kernel
theorem dX9_copy_47 : decode cX9_copy 47 = .ok (.getfield 41, 3) := by decide +kernel
theorem dX9_copy_50 : decode cX9_copy 50 = .ok (.iload_n 1, 1) := by decide +kernel
theorem dX9_copy_51 : decode cX9_copy 51 = .ok (.iaload, 1) := by decide +kernel
theorem dX9_copy_52 : decode cX9_copy 52 = .ok (.aload_n 0, 1) := by decide +kernel
theorem dX9_copy_53 : decode cX9_copy 53 = .ok (.getfield 41, 3) := by decide +kernel
theorem dX9_copy_56 : decode cX9_copy 56 = .ok (.iload_n 3, 1) := by decide +kernel
theorem dX9_copy_57 : decode cX9_copy 57 = .ok (.iaload, 1) := by decide +kernel
theorem dX9_copy_58 : decode cX9_copy 58 = .ok (.if_icmp .eq 6, 3) := by decide +kernel
theorem dX9_copy_61 : decode cX9_copy 61 = .ok (.bipush (-13), 2) := by decide +kernel
theorem dX9_copy_63 : decode cX9_copy 63 = .ok (.ireturn, 1) := by decide +kernel
theorem dX9_copy_64 : decode cX9_copy 64 = .ok (.aload_n 0, 1) := by decide +kernel
theorem dX9_copy_65 : decode cX9_copy 65 = .ok (.iload_n 1, 1) := by decide +kernel
theorem dX9_copy_66 : decode cX9_copy 66 = .ok (.iload_n 2, 1) := by decide +kernel
theorem dX9_copy_67 : decode cX9_copy 67 = .ok (.iload 5, 2) := by decide +kernel
theorem dX9_copy_69 : decode cX9_copy 69 = .ok (.invokevirtual 358, 3) := by decide +kernel
theorem dX9_copy_72 : decode cX9_copy 72 = .ok (.ifCond .eq 15, 3) := by decide +kernel
theorem dX9_copy_75 : decode cX9_copy 75 = .ok (.aload_n 0, 1) := by decide +kernel
theorem dX9_copy_76 : decode cX9_copy 76 = .ok (.iload_n 3, 1) := by decide +kernel
theorem dX9_copy_77 : decode cX9_copy 77 = .ok (.iload 4, 2) := by decide +kernel
theorem dX9_copy_79 : decode cX9_copy 79 = .ok (.iload 5, 2) := by decide +kernel
theorem dX9_copy_81 : decode cX9_copy 81 = .ok (.invokevirtual 358, 3) := by decide +kernel
theorem dX9_copy_84 : decode cX9_copy 84 = .ok (.ifCond .ne 6, 3) := by decide +kernel
theorem dX9_copy_87 : decode cX9_copy 87 = .ok (.bipush (-14), 2) := by decide +kernel
theorem dX9_copy_89 : decode cX9_copy 89 = .ok (.ireturn, 1) := by decide +kernel
theorem dX9_copy_90 : decode cX9_copy 90 = .ok (.iload_n 2, 1) := by decide +kernel
theorem dX9_copy_91 : decode cX9_copy 91 = .ok (.iload 4, 2) := by decide +kernel
theorem dX9_copy_93 : decode cX9_copy 93 = .ok (.if_icmp .ge 7, 3) := by decide +kernel
theorem dX9_copy_96 : decode cX9_copy 96 = .ok (.iconst 1, 1) := by decide +kernel
theorem dX9_copy_97 : decode cX9_copy 97 = .ok (.goto 4, 3) := by decide +kernel
theorem dX9_copy_100 : decode cX9_copy 100 = .ok (.iconst 0, 1) := by decide +kernel
theorem dX9_copy_101 : decode cX9_copy 101 = .ok (.istore 6, 2) := by decide +kernel
theorem dX9_copy_103 : decode cX9_copy 103 = .ok (.iconst 0, 1) := by decide +kernel
theorem dX9_copy_104 : decode cX9_copy 104 = .ok (.istore 7, 2) := by decide +kernel
theorem dX9_copy_106 : decode cX9_copy 106 = .ok (.iload 7, 2) := by decide +kernel
theorem dX9_copy_108 : decode cX9_copy 108 = .ok (.iload 5, 2) := by decide +kernel
theorem dX9_copy_110 : decode cX9_copy 110 = .ok (.if_icmp .ge 57, 3) := by decide +kernel
theorem dX9_copy_113 : decode cX9_copy 113 = .ok (.iload 6, 2) := by decide +kernel
theorem dX9_copy_115 : decode cX9_copy 115 = .ok (.ifCond .eq 13, 3) := by decide +kernel
theorem dX9_copy_118 : decode cX9_copy 118 = .ok (.iload 5, 2) := by decide +kernel
theorem dX9_copy_120 : decode cX9_copy 120 = .ok (.iconst 1, 1) := by decide +kernel
theorem dX9_copy_121 : decode cX9_copy 121 = .ok (.isub, 1) := by decide +kernel
theorem dX9_copy_122 : decode cX9_copy 122 = .ok (.iload 7, 2) := by decide +kernel
theorem dX9_copy_124 : decode cX9_copy 124 = .ok (.isub, 1) := by decide +kernel
theorem dX9_copy_125 : decode cX9_copy 125 = .ok (.goto 5, 3) := by decide +kernel
theorem dX9_copy_128 : decode cX9_copy 128 = .ok (.iload 7, 2) := by decide +kernel
theorem dX9_copy_130 : decode cX9_copy 130 = .ok (.istore 8, 2) := by decide +kernel
theorem dX9_copy_132 : decode cX9_copy 132 = .ok (.aload_n 0, 1) := by decide +kernel
theorem dX9_copy_133 : decode cX9_copy 133 = .ok (.getfield 47, 3) := by decide +kernel
theorem dX9_copy_136 : decode cX9_copy 136 = .ok (.bipush 10, 2) := by decide +kernel
theorem dX9_copy_138 : decode cX9_copy 138 = .ok (.iload_n 3, 1) := by decide +kernel
theorem dX9_copy_139 : decode cX9_copy 139 = .ok (.imul, 1) := by decide +kernel
theorem dX9_copy_140 : decode cX9_copy 140 = .ok (.iload 4, 2) := by decide +kernel
theorem dX9_copy_142 : decode cX9_copy 142 = .ok (.iadd, 1) := by decide +kernel
theorem dX9_copy_143 : decode cX9_copy 143 = .ok (.iload 8, 2) := by decide +kernel
theorem dX9_copy_145 : decode cX9_copy 145 = .ok (.iadd, 1) := by decide +kernel
theorem dX9_copy_146 : decode cX9_copy 146 = .ok (.aload_n 0, 1) := by decide +kernel
theorem dX9_copy_147 : decode cX9_copy 147 = .ok (.getfield 47, 3) := by decide +kernel
theorem dX9_copy_150 : decode cX9_copy 150 = .ok (.bipush 10, 2) := by decide +kernel
theorem dX9_copy_152 : decode cX9_copy 152 = .ok (.iload_n 1, 1) := by decide +kernel
theorem dX9_copy_153 : decode cX9_copy 153 = .ok (.imul, 1) := by decide +kernel
theorem dX9_copy_154 : decode cX9_copy 154 = .ok (.iload_n 2, 1) := by decide +kernel
theorem dX9_copy_155 : decode cX9_copy 155 = .ok (.iadd, 1) := by decide +kernel
theorem dX9_copy_156 : decode cX9_copy 156 = .ok (.iload 8, 2) := by decide +kernel
theorem dX9_copy_158 : decode cX9_copy 158 = .ok (.iadd, 1) := by decide +kernel
theorem dX9_copy_159 : decode cX9_copy 159 = .ok (.iaload, 1) := by decide +kernel
theorem dX9_copy_160 : decode cX9_copy 160 = .ok (.iastore, 1) := by decide +kernel
theorem dX9_copy_161 : decode cX9_copy 161 = .ok (.iinc 7 1, 3) := by decide +kernel
theorem dX9_copy_164 : decode cX9_copy 164 = .ok (.goto (-58), 3) := by decide +kernel
theorem dX9_copy_167 : decode cX9_copy 167 = .ok (.iload 5, 2) := by decide +kernel
theorem dX9_copy_169 : decode cX9_copy 169 = .ok (.ireturn, 1) := by decide +kernel
set_option maxHeartbeats 4000000 in
set_option maxRecDepth 100000 in
theorem t_X9_copy_J130 {p : Program} {l : Launch} {e : Env} {s : State} {m : MethodId} {args : Array Value} {below : List Frame} {meth : Method} {c : Code} {D : va_G} {aC : Nat → ClassId} {A : Nat → Prop} {a_o : Nat → Nat} {out : Int32 × Ob_T} {rec106 : (Int32 × Int32 × Int32 × Int32 × Int32 × Int32 × Int32 × Ob_T) → Option (Int32 × Ob_T)} (hX : K_X p s m args meth c cX9_copy 9 WL_ RX9 D aC A) (hr : meth.sig.returnType = (some .int)) (hrec106 : ∀ x : Int32 × Int32 × Int32 × Int32 × Int32 × Int32 × Int32 × Ob_T, rec106 x = some out → ∀ (H : Heap) (locs : List Loc) (ls : Array Slot), K_S D A s (wd_X9 aC a_o x.2.2.2.2.2.2.2) H locs → lv_has ls 9 [(0, .ref (a_o 0)), (1, .int x.1), (2, .int x.2.1), (3, .int x.2.2.1), (4, .int x.2.2.2.1), (5, .int x.2.2.2.2.1), (6, .int x.2.2.2.2.2.1), (7, .int x.2.2.2.2.2.2.1)] → W p l e (R_m 2 45) s m args below meth c H locs 0 0 (MQ below (Q_W (some (.int out.1)) D A (wd_X9 aC a_o out.2)) args s 0 0 A) (F0 m 106 ls [])) (x1 : Int32) (x2 : Int32) (x3 : Int32) (x4 : Int32) (x5 : Int32) (x6 : Int32) (x7 : Int32) (k0 : Int32) (s_o : Ob_T) (h : f_X9_copy_J130 rec106 x1 x2 x3 x4 x5 x6 x7 k0 s_o = some out) (H : Heap) (locs : List Loc) (ls : Array Slot) (hZ : K_S D A s (wd_X9 aC a_o s_o) H locs) (hl : lv_has ls 9 [(0, .ref (a_o 0)), (1, .int x1), (2, .int x2), (3, .int x3), (4, .int x4), (5, .int x5), (6, .int x6), (7, .int x7)]) : W p l e (R_m 2 45) s m args below meth c H locs 0 0 (MQ below (Q_W (some (.int out.1)) D A (wd_X9 aC a_o out.2)) args s 0 0 A) (F0 m 130 ls [.int k0]) := by
  obtain ⟨hx, hb, hml, hown, hts, hK, hA, hlk⟩ := id hX
  unfold f_X9_copy_J130 at h
  refine lv_istore (lv' := [(8, .int k0), (0, .ref (a_o 0)), (1, .int x1), (2, .int x2), (3, .int x3), (4, .int x4), (5, .int x5), (6, .int x6), (7, .int x7)]) hx hb dX9_copy_130 hl (by decide) rfl (fun ls hl => ?_)
  refine lv_aload_n hx hb dX9_copy_132 rfl (lv_at hl 1 rfl) ?_
  refine k_get hX hZ.1 0 9 rfl rfl iw_X9 17 rfl (wm_267) (v := .ref (a_o 13)) rfl dX9_copy_133 ?_
  refine lv_bipush (v := 10) hx hb dX9_copy_136 (by decide) ?_
  refine lv_iload_n hx hb dX9_copy_138 rfl (lv_at hl 4 rfl) ?_
  refine lv_imul hx hb dX9_copy_139 ?_
  refine lv_iload hx hb dX9_copy_140 (lv_at hl 5 rfl) ?_
  refine lv_iadd hx hb dX9_copy_142 ?_
  refine lv_iload hx hb dX9_copy_143 (lv_at hl 0 rfl) ?_
  refine lv_iadd hx hb dX9_copy_145 ?_
  refine lv_aload_n hx hb dX9_copy_146 rfl (lv_at hl 1 rfl) ?_
  refine k_get hX hZ.1 0 9 rfl rfl iw_X9 17 rfl (wm_267) (v := .ref (a_o 13)) rfl dX9_copy_147 ?_
  refine lv_bipush (v := 10) hx hb dX9_copy_150 (by decide) ?_
  refine lv_iload_n hx hb dX9_copy_152 rfl (lv_at hl 2 rfl) ?_
  refine lv_imul hx hb dX9_copy_153 ?_
  refine lv_iload_n hx hb dX9_copy_154 rfl (lv_at hl 3 rfl) ?_
  refine lv_iadd hx hb dX9_copy_155 ?_
  refine lv_iload hx hb dX9_copy_156 (lv_at hl 0 rfl) ?_
  refine lv_iadd hx hb dX9_copy_158 ?_
  refine k_iald hX hZ.1 13 rfl h dX9_copy_159 (fun v9 h => ?_)
  refine k_iast (wf := (fun o => wd_X9 aC a_o o)) (o := s_o) hX hZ 13 17 rfl (fun _ => rfl) h dX9_copy_160 (fun o10 H locs hZ h => ?_)
  refine lv_iinc (v := (x7 + (1 : Int32))) (lv' := [(7, .int (x7 + (1 : Int32))), (8, .int k0), (0, .ref (a_o 0)), (1, .int x1), (2, .int x2), (3, .int x3), (4, .int x4), (5, .int x5), (6, .int x6)]) hx hb dX9_copy_161 hl (k := 8) rfl rfl (by decide) rfl (fun ls hl => ?_)
  refine lv_goto (tgt := 106) hx hb dX9_copy_164 (by decide) ?_
  exact hrec106 (x1, x2, x3, x4, x5, x6, (x7 + (1 : Int32)), o10) h H locs ls hZ (lv_sub hl [2, 3, 4, 5, 6, 7, 8, 0] rfl)
set_option maxHeartbeats 4000000 in
set_option maxRecDepth 100000 in
theorem t_X9_copy_L106 {p : Program} {l : Launch} {e : Env} {s : State} {m : MethodId} {args : Array Value} {below : List Frame} {meth : Method} {c : Code} {D : va_G} {aC : Nat → ClassId} {A : Nat → Prop} {a_o : Nat → Nat} {out : Int32 × Ob_T} {rec106 : (Int32 × Int32 × Int32 × Int32 × Int32 × Int32 × Int32 × Ob_T) → Option (Int32 × Ob_T)} (hX : K_X p s m args meth c cX9_copy 9 WL_ RX9 D aC A) (hr : meth.sig.returnType = (some .int)) (hrec106 : ∀ x : Int32 × Int32 × Int32 × Int32 × Int32 × Int32 × Int32 × Ob_T, rec106 x = some out → ∀ (H : Heap) (locs : List Loc) (ls : Array Slot), K_S D A s (wd_X9 aC a_o x.2.2.2.2.2.2.2) H locs → lv_has ls 9 [(0, .ref (a_o 0)), (1, .int x.1), (2, .int x.2.1), (3, .int x.2.2.1), (4, .int x.2.2.2.1), (5, .int x.2.2.2.2.1), (6, .int x.2.2.2.2.2.1), (7, .int x.2.2.2.2.2.2.1)] → W p l e (R_m 2 45) s m args below meth c H locs 0 0 (MQ below (Q_W (some (.int out.1)) D A (wd_X9 aC a_o out.2)) args s 0 0 A) (F0 m 106 ls [])) (x1 : Int32) (x2 : Int32) (x3 : Int32) (x4 : Int32) (x5 : Int32) (x6 : Int32) (x7 : Int32) (s_o : Ob_T) (h : f_X9_copy_L106 rec106 x1 x2 x3 x4 x5 x6 x7 s_o = some out) (H : Heap) (locs : List Loc) (ls : Array Slot) (hZ : K_S D A s (wd_X9 aC a_o s_o) H locs) (hl : lv_has ls 9 [(0, .ref (a_o 0)), (1, .int x1), (2, .int x2), (3, .int x3), (4, .int x4), (5, .int x5), (6, .int x6), (7, .int x7)]) : W p l e (R_m 2 45) s m args below meth c H locs 0 0 (MQ below (Q_W (some (.int out.1)) D A (wd_X9 aC a_o out.2)) args s 0 0 A) (F0 m 106 ls []) := by
  obtain ⟨hx, hb, hml, hown, hts, hK, hA, hlk⟩ := id hX
  unfold f_X9_copy_L106 at h
  refine lv_iload hx hb dX9_copy_106 (lv_at hl 7 rfl) ?_
  refine lv_iload hx hb dX9_copy_108 (lv_at hl 5 rfl) ?_
  refine lv_icmp_ge (tgt := 167) hx hb dX9_copy_110 (by decide) (fun cd => ?_) (fun cd => ?_)
  · replace h := k_t cd h
    clear cd
    refine lv_iload hx hb dX9_copy_167 (lv_at hl 5 rfl) ?_
    cases h
    exact k_iretW hX hr hZ dX9_copy_169
  · replace h := k_f cd h
    clear cd
    refine lv_iload hx hb dX9_copy_113 (lv_at hl 6 rfl) ?_
    refine lv_if_eq (tgt := 128) hx hb dX9_copy_115 (by decide) (fun cd => ?_) (fun cd => ?_)
    · replace h := k_t cd h
      clear cd
      refine lv_iload hx hb dX9_copy_128 (lv_at hl 7 rfl) ?_
      exact t_X9_copy_J130 hX hr hrec106 x1 x2 x3 x4 x5 x6 x7 x7 s_o h H locs ls hZ (lv_sub hl [0, 1, 2, 3, 4, 5, 6, 7] rfl)
    · replace h := k_f cd h
      clear cd
      refine lv_iload hx hb dX9_copy_118 (lv_at hl 5 rfl) ?_
      refine lv_iconst (v := 1) hx hb dX9_copy_120 (by decide) ?_
      refine lv_isub hx hb dX9_copy_121 ?_
      refine lv_iload hx hb dX9_copy_122 (lv_at hl 7 rfl) ?_
      refine lv_isub hx hb dX9_copy_124 ?_
      refine lv_goto (tgt := 130) hx hb dX9_copy_125 (by decide) ?_
      exact t_X9_copy_J130 hX hr hrec106 x1 x2 x3 x4 x5 x6 x7 ((x5 - (1 : Int32)) - x7) s_o h H locs ls hZ (lv_sub hl [0, 1, 2, 3, 4, 5, 6, 7] rfl)
set_option maxHeartbeats 4000000 in
set_option maxRecDepth 100000 in
theorem t_X9_copy_J101 {p : Program} {l : Launch} {e : Env} {s : State} {m : MethodId} {args : Array Value} {below : List Frame} {meth : Method} {c : Code} {D : va_G} {aC : Nat → ClassId} {A : Nat → Prop} {a_o : Nat → Nat} {out : Int32 × Ob_T} (hX : K_X p s m args meth c cX9_copy 9 WL_ RX9 D aC A) (hr : meth.sig.returnType = (some .int)) (x1 : Int32) (x2 : Int32) (x3 : Int32) (x4 : Int32) (x5 : Int32) (k0 : Int32) (s_o : Ob_T) (h : f_X9_copy_J101 x1 x2 x3 x4 x5 k0 s_o = some out) (H : Heap) (locs : List Loc) (ls : Array Slot) (hZ : K_S D A s (wd_X9 aC a_o s_o) H locs) (hl : lv_has ls 9 [(0, .ref (a_o 0)), (1, .int x1), (2, .int x2), (3, .int x3), (4, .int x4), (5, .int x5)]) : W p l e (R_m 2 45) s m args below meth c H locs 0 0 (MQ below (Q_W (some (.int out.1)) D A (wd_X9 aC a_o out.2)) args s 0 0 A) (F0 m 101 ls [.int k0]) := by
  obtain ⟨hx, hb, hml, hown, hts, hK, hA, hlk⟩ := id hX
  unfold f_X9_copy_J101 at h
  refine lv_istore (lv' := [(6, .int k0), (0, .ref (a_o 0)), (1, .int x1), (2, .int x2), (3, .int x3), (4, .int x4), (5, .int x5)]) hx hb dX9_copy_101 hl (by decide) rfl (fun ls hl => ?_)
  refine lv_iconst (v := 0) hx hb dX9_copy_103 (by decide) ?_
  refine lv_istore (lv' := [(7, .int (0 : Int32)), (6, .int k0), (0, .ref (a_o 0)), (1, .int x1), (2, .int x2), (3, .int x3), (4, .int x4), (5, .int x5)]) hx hb dX9_copy_104 hl (by decide) rfl (fun ls hl => ?_)
  exact Lp_ok (body := (fun (rec : (Int32 × Int32 × Int32 × Int32 × Int32 × Int32 × Int32 × Ob_T) → Option (Int32 × Ob_T)) x => f_X9_copy_L106 rec x.1 x.2.1 x.2.2.1 x.2.2.2.1 x.2.2.2.2.1 x.2.2.2.2.2.1 x.2.2.2.2.2.2.1 x.2.2.2.2.2.2.2)) (out := out) (fun x => ∀ (H : Heap) (locs : List Loc) (ls : Array Slot), K_S D A s (wd_X9 aC a_o x.2.2.2.2.2.2.2) H locs → lv_has ls 9 [(0, .ref (a_o 0)), (1, .int x.1), (2, .int x.2.1), (3, .int x.2.2.1), (4, .int x.2.2.2.1), (5, .int x.2.2.2.2.1), (6, .int x.2.2.2.2.2.1), (7, .int x.2.2.2.2.2.2.1)] → W p l e (R_m 2 45) s m args below meth c H locs 0 0 (MQ below (Q_W (some (.int out.1)) D A (wd_X9 aC a_o out.2)) args s 0 0 A) (F0 m 106 ls [])) (fun rec hrec x h H locs ls hZ hl => t_X9_copy_L106 hX hr hrec x.1 x.2.1 x.2.2.1 x.2.2.2.1 x.2.2.2.2.1 x.2.2.2.2.2.1 x.2.2.2.2.2.2.1 x.2.2.2.2.2.2.2 h H locs ls hZ hl) FU_ (x1, x2, x3, x4, x5, k0, (0 : Int32), s_o) h H locs ls hZ (lv_sub hl [2, 3, 4, 5, 6, 7, 1, 0] rfl)
set_option maxHeartbeats 4000000 in
set_option maxRecDepth 100000 in
theorem c_X9_copy {l : Launch} {D : va_G} {aC : Nat → ClassId} {a_o : Nat → Nat} (s_o : Ob_T) (x1 : Int32) (x2 : Int32) (x3 : Int32) (x4 : Int32) (x5 : Int32) {out : Int32 × Ob_T} (h : f_X9_copy s_o x1 x2 x3 x4 x5 = some out) : M_W l yX9_copy wlX9_copy 2 45 D aC [.ref (a_o 0), .int x1, .int x2, .int x3, .int x4, .int x5] (wd_X9 aC a_o s_o) (some (.int out.1)) (wd_X9 aC a_o out.2) := by
  refine k_entW (cc := cX9_copy) (ret := (some .int)) (maxL := 9) (own := RX9) (by decide) rfl rfl rfl ?_
  intro p e s m below meth c A ls hX hr hZ hl
  have hl : lv_has ls 9 [(0, .ref (a_o 0)), (1, .int x1), (2, .int x2), (3, .int x3), (4, .int x4), (5, .int x5)] := hl
  generalize ([.ref (a_o 0), .int x1, .int x2, .int x3, .int x4, .int x5] : List Value).toArray = args at hX ⊢
  obtain ⟨hx, hb, hml, hown, hts, hK, hA, hlk⟩ := id hX
  unfold f_X9_copy at h
  generalize s.heap = H at hZ ⊢
  generalize ([] : List Loc) = locs at hZ ⊢
  refine lv_iload_n hx hb dX9_copy_0 rfl (lv_at hl 1 rfl) ?_
  obtain ⟨u1, hu, h⟩ := k_bd h
  refine k_sR (As := [.int x1]) (rest := []) (wc := []) (v := some (.int u1)) (st1 := [.int u1]) hX hl.1 hZ (c_X9_isRow  x1 hu) (gs_ wm_268 wm_270 wm_11 wm_269) rfl hd_X9_isRow ⟨rfl, rfl⟩ [] rfl rfl rfl rfl rfl dX9_copy_1 rfl ⟨rfl, rfl⟩ (fun locs hZ => ?_)
  clear hu
  refine lv_if_eq (tgt := 14) hx hb dX9_copy_4 (by decide) (fun cd => ?_) (fun cd => ?_)
  · replace h := k_t cd h
    clear cd
    refine lv_bipush (v := -2) hx hb dX9_copy_14 (by decide) ?_
    cases h
    exact k_iretW hX hr hZ dX9_copy_16
  · replace h := k_f cd h
    clear cd
    refine lv_iload_n hx hb dX9_copy_7 rfl (lv_at hl 3 rfl) ?_
    obtain ⟨u2, hu, h⟩ := k_bd h
    refine k_sR (As := [.int x3]) (rest := []) (wc := []) (v := some (.int u2)) (st1 := [.int u2]) hX hl.1 hZ (c_X9_isRow  x3 hu) (gs_ wm_268 wm_270 wm_11 wm_269) rfl hd_X9_isRow ⟨rfl, rfl⟩ [] rfl rfl rfl rfl rfl dX9_copy_8 rfl ⟨rfl, rfl⟩ (fun locs hZ => ?_)
    clear hu
    refine lv_if_ne (tgt := 17) hx hb dX9_copy_11 (by decide) (fun cd => ?_) (fun cd => ?_)
    · replace h := k_f cd h
      clear cd
      refine lv_aload_n hx hb dX9_copy_17 rfl (lv_at hl 0 rfl) ?_
      refine k_get hX hZ.1 0 9 rfl rfl iw_X9 16 rfl (wm_120) (v := .ref (a_o 12)) rfl dX9_copy_18 ?_
      refine lv_iload_n hx hb dX9_copy_21 rfl (lv_at hl 1 rfl) ?_
      refine k_iald hX hZ.1 12 rfl h dX9_copy_22 (fun v3 h => ?_)
      refine lv_if_lt (tgt := 35) hx hb dX9_copy_23 (by decide) (fun cd => ?_) (fun cd => ?_)
      · replace h := k_t cd h
        clear cd
        refine lv_bipush (v := -11) hx hb dX9_copy_35 (by decide) ?_
        cases h
        exact k_iretW hX hr hZ dX9_copy_37
      · replace h := k_f cd h
        clear cd
        refine lv_aload_n hx hb dX9_copy_26 rfl (lv_at hl 0 rfl) ?_
        refine k_get hX hZ.1 0 9 rfl rfl iw_X9 16 rfl (wm_120) (v := .ref (a_o 12)) rfl dX9_copy_27 ?_
        refine lv_iload_n hx hb dX9_copy_30 rfl (lv_at hl 3 rfl) ?_
        refine k_iald hX hZ.1 12 rfl h dX9_copy_31 (fun v4 h => ?_)
        refine lv_if_ge (tgt := 38) hx hb dX9_copy_32 (by decide) (fun cd => ?_) (fun cd => ?_)
        · replace h := k_t cd h
          clear cd
          refine lv_iload hx hb dX9_copy_38 (lv_at hl 5 rfl) ?_
          refine lv_if_ge (tgt := 46) hx hb dX9_copy_40 (by decide) (fun cd => ?_) (fun cd => ?_)
          · replace h := k_t cd h
            clear cd
            refine lv_aload_n hx hb dX9_copy_46 rfl (lv_at hl 0 rfl) ?_
            refine k_get hX hZ.1 0 9 rfl rfl iw_X9 15 rfl (wm_266) (v := .ref (a_o 11)) rfl dX9_copy_47 ?_
            refine lv_iload_n hx hb dX9_copy_50 rfl (lv_at hl 1 rfl) ?_
            refine k_iald hX hZ.1 11 rfl h dX9_copy_51 (fun v5 h => ?_)
            refine lv_aload_n hx hb dX9_copy_52 rfl (lv_at hl 0 rfl) ?_
            refine k_get hX hZ.1 0 9 rfl rfl iw_X9 15 rfl (wm_266) (v := .ref (a_o 11)) rfl dX9_copy_53 ?_
            refine lv_iload_n hx hb dX9_copy_56 rfl (lv_at hl 3 rfl) ?_
            refine k_iald hX hZ.1 11 rfl h dX9_copy_57 (fun v6 h => ?_)
            refine lv_icmp_eq (tgt := 64) hx hb dX9_copy_58 (by decide) (fun cd => ?_) (fun cd => ?_)
            · replace h := k_t cd h
              clear cd
              refine lv_aload_n hx hb dX9_copy_64 rfl (lv_at hl 0 rfl) ?_
              refine lv_iload_n hx hb dX9_copy_65 rfl (lv_at hl 1 rfl) ?_
              refine lv_iload_n hx hb dX9_copy_66 rfl (lv_at hl 2 rfl) ?_
              refine lv_iload hx hb dX9_copy_67 (lv_at hl 5 rfl) ?_
              obtain ⟨u7, hu, h⟩ := k_bd h
              refine k_vRs (As := [.int x1, .int x2, .int x5]) (rest := []) (v := some (.int u7)) (st1 := [.int u7]) hX hl.1 hZ (c_X9_isSpan (a_o := a_o) s_o x1 x2 x5 hu) (gv_ wm_277 wm_279 wm_280 wm_11 wm_278) rfl hd_X9_isSpan ⟨rfl, rfl⟩ 9 0 rfl rfl rfl rfl rfl dX9_copy_69 rfl ⟨rfl, rfl⟩ (fun locs hZ => ?_)
              clear hu
              refine lv_if_eq (tgt := 87) hx hb dX9_copy_72 (by decide) (fun cd => ?_) (fun cd => ?_)
              · replace h := k_t cd h
                clear cd
                refine lv_bipush (v := -14) hx hb dX9_copy_87 (by decide) ?_
                cases h
                exact k_iretW hX hr hZ dX9_copy_89
              · replace h := k_f cd h
                clear cd
                refine lv_aload_n hx hb dX9_copy_75 rfl (lv_at hl 0 rfl) ?_
                refine lv_iload_n hx hb dX9_copy_76 rfl (lv_at hl 3 rfl) ?_
                refine lv_iload hx hb dX9_copy_77 (lv_at hl 4 rfl) ?_
                refine lv_iload hx hb dX9_copy_79 (lv_at hl 5 rfl) ?_
                obtain ⟨u8, hu, h⟩ := k_bd h
                refine k_vRs (As := [.int x3, .int x4, .int x5]) (rest := []) (v := some (.int u8)) (st1 := [.int u8]) hX hl.1 hZ (c_X9_isSpan (a_o := a_o) s_o x3 x4 x5 hu) (gv_ wm_277 wm_279 wm_280 wm_11 wm_278) rfl hd_X9_isSpan ⟨rfl, rfl⟩ 9 0 rfl rfl rfl rfl rfl dX9_copy_81 rfl ⟨rfl, rfl⟩ (fun locs hZ => ?_)
                clear hu
                refine lv_if_ne (tgt := 90) hx hb dX9_copy_84 (by decide) (fun cd => ?_) (fun cd => ?_)
                · replace h := k_f cd h
                  clear cd
                  refine lv_iload_n hx hb dX9_copy_90 rfl (lv_at hl 2 rfl) ?_
                  refine lv_iload hx hb dX9_copy_91 (lv_at hl 4 rfl) ?_
                  refine lv_icmp_ge (tgt := 100) hx hb dX9_copy_93 (by decide) (fun cd => ?_) (fun cd => ?_)
                  · replace h := k_t cd h
                    clear cd
                    refine lv_iconst (v := 0) hx hb dX9_copy_100 (by decide) ?_
                    exact t_X9_copy_J101 hX hr x1 x2 x3 x4 x5 (0 : Int32) s_o h H locs ls hZ (lv_sub hl [0, 1, 2, 3, 4, 5] rfl)
                  · replace h := k_f cd h
                    clear cd
                    refine lv_iconst (v := 1) hx hb dX9_copy_96 (by decide) ?_
                    refine lv_goto (tgt := 101) hx hb dX9_copy_97 (by decide) ?_
                    exact t_X9_copy_J101 hX hr x1 x2 x3 x4 x5 (1 : Int32) s_o h H locs ls hZ (lv_sub hl [0, 1, 2, 3, 4, 5] rfl)
                · replace h := k_t cd h
                  clear cd
                  refine lv_bipush (v := -14) hx hb dX9_copy_87 (by decide) ?_
                  cases h
                  exact k_iretW hX hr hZ dX9_copy_89
            · replace h := k_f cd h
              clear cd
              refine lv_bipush (v := -13) hx hb dX9_copy_61 (by decide) ?_
              cases h
              exact k_iretW hX hr hZ dX9_copy_63
          · replace h := k_f cd h
            clear cd
            refine lv_bipush (v := -12) hx hb dX9_copy_43 (by decide) ?_
            cases h
            exact k_iretW hX hr hZ dX9_copy_45
        · replace h := k_f cd h
          clear cd
          refine lv_bipush (v := -11) hx hb dX9_copy_35 (by decide) ?_
          cases h
          exact k_iretW hX hr hZ dX9_copy_37
    · replace h := k_t cd h
      clear cd
      refine lv_bipush (v := -2) hx hb dX9_copy_14 (by decide) ?_
      cases h
      exact k_iretW hX hr hZ dX9_copy_16
