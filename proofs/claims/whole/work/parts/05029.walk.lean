def wlX9_solve : List Cond := .code yX9_solve cX9_solve 2 none :: WL_
theorem hd_X9_solve : yX9_solve.cls = RX9 ∧ yX9_solve.cls ≠ "java/lang/invoke/MethodHandle" ∧ yX9_solve.cls ≠ "java/lang/invoke/VarHandle" ∧ (parseMethodDescriptor yX9_solve.desc).map (fun d => d.parameters.length) = some 0 := by decide +kernel
theorem dX9_solve_0 : decode cX9_solve 0 = .ok (.iconst 0, 1) := by decide +kernel
theorem dX9_solve_1 : decode cX9_solve 1 = .ok (.istore_n 1, 1) := by decide +kernel
theorem dX9_solve_2 : decode cX9_solve 2 = .ok (.iload_n 1, 1) := by decide +kernel
theorem dX9_solve_3 : decode cX9_solve 3 = .ok (.bipush 14, 2) := by decide +kernel
theorem dX9_solve_5 : decode cX9_solve 5 = .ok (.if_icmp .ge 37, 3) := by decide +kernel
theorem dX9_solve_8 : decode cX9_solve 8 = .ok (.aload_n 0, 1) := by decide +kernel
theorem dX9_solve_9 : decode cX9_solve 9 = .ok (.getfield 74, 3) := by decide +kernel
theorem dX9_solve_12 : decode cX9_solve 12 = .ok (.iload_n 1, 1) := by decide +kernel
theorem dX9_solve_13 : decode cX9_solve 13 = .ok (.iload_n 1, 1) := by decide +kernel
theorem dX9_solve_14 : decode cX9_solve 14 = .ok (.iastore, 1) := by decide +kernel
theorem dX9_solve_15 : decode cX9_solve 15 = .ok (.aload_n 0, 1) := by decide +kernel
theorem dX9_solve_16 : decode cX9_solve 16 = .ok (.getfield 77, 3) := by decide +kernel
theorem dX9_solve_19 : decode cX9_solve 19 = .ok (.iload_n 1, 1) := by decide +kernel
theorem dX9_solve_20 : decode cX9_solve 20 = .ok (.iload_n 1, 1) := by decide +kernel
theorem dX9_solve_21 : decode cX9_solve 21 = .ok (.iconst 4, 1) := by decide +kernel
theorem dX9_solve_22 : decode cX9_solve 22 = .ok (.if_icmp .ge 12, 3) := by decide +kernel
theorem dX9_solve_25 : decode cX9_solve 25 = .ok (.aload_n 0, 1) := by decide +kernel
theorem dX9_solve_26 : decode cX9_solve 26 = .ok (.getfield 80, 3) := by decide +kernel
theorem dX9_solve_29 : decode cX9_solve 29 = .ok (.iload_n 1, 1) := by decide +kernel
theorem dX9_solve_30 : decode cX9_solve 30 = .ok (.iaload, 1) := by decide +kernel
theorem dX9_solve_31 : decode cX9_solve 31 = .ok (.goto 4, 3) := by decide +kernel
theorem dX9_solve_34 : decode cX9_solve 34 = .ok (.iconst (-1), 1) := by decide +kernel
theorem dX9_solve_35 : decode cX9_solve 35 = .ok (.iastore, 1) := by decide +kernel
theorem dX9_solve_36 : decode cX9_solve 36 = .ok (.iinc 1 1, 3) := by decide +kernel
theorem dX9_solve_39 : decode cX9_solve 39 = .ok (.goto (-37), 3) := by decide +kernel
theorem dX9_solve_42 : decode cX9_solve 42 = .ok (.aload_n 0, 1) := by decide +kernel
theorem dX9_solve_43 : decode cX9_solve 43 = .ok (.iconst 0, 1) := by decide +kernel
theorem dX9_solve_44 : decode cX9_solve 44 = .ok (.putfield 217, 3) := by decide +kernel
theorem dX9_solve_47 : decode cX9_solve 47 = .ok (.iconst 0, 1) := by decide +kernel
theorem dX9_solve_48 : decode cX9_solve 48 = .ok (.istore_n 1, 1) := by decide +kernel
theorem dX9_solve_49 : decode cX9_solve 49 = .ok (.iload_n 1, 1) := by decide +kernel
theorem dX9_solve_50 : decode cX9_solve 50 = .ok (.aload_n 0, 1) := by decide +kernel
theorem dX9_solve_51 : decode cX9_solve 51 = .ok (.getfield 144, 3) := by decide +kernel
theorem dX9_solve_54 : decode cX9_solve 54 = .ok (.if_icmp .ge 51, 3) := by decide +kernel
theorem dX9_solve_57 : decode cX9_solve 57 = .ok (.aload_n 0, 1) := by decide +kernel
theorem dX9_solve_58 : decode cX9_solve 58 = .ok (.getfield 217, 3) := by decide +kernel
theorem dX9_solve_61 : decode cX9_solve 61 = .ok (.ifCond .ne 44, 3) := by decide +kernel
theorem dX9_solve_64 : decode cX9_solve 64 = .ok (.aload_n 0, 1) := by decide +kernel
theorem dX9_solve_65 : decode cX9_solve 65 = .ok (.getfield 13, 3) := by decide +kernel
theorem dX9_solve_68 : decode cX9_solve 68 = .ok (.bipush 15, 2) := by decide +kernel
theorem dX9_solve_70 : decode cX9_solve 70 = .ok (.iload_n 1, 1) := by decide +kernel
theorem dX9_solve_71 : decode cX9_solve 71 = .ok (.imul, 1) := by decide +kernel
theorem dX9_solve_72 : decode cX9_solve 72 = .ok (.iconst 0, 1) := by decide +kernel
theorem dX9_solve_73 : decode cX9_solve 73 = .ok (.iadd, 1) := by decide +kernel
theorem dX9_solve_74 : decode cX9_solve 74 = .ok (.iaload, 1) := by decide +kernel
theorem dX9_solve_75 : decode cX9_solve 75 = .ok (.iconst 1, 1) := by decide +kernel
theorem dX9_solve_76 : decode cX9_solve 76 = .ok (.if_icmp .eq 18, 3) := by decide +kernel
theorem dX9_solve_79 : decode cX9_solve 79 = .ok (.aload_n 0, 1) := by decide +kernel
theorem dX9_solve_80 : decode cX9_solve 80 = .ok (.getfield 13, 3) := by decide +kernel
theorem dX9_solve_83 : decode cX9_solve 83 = .ok (.bipush 15, 2) := by decide +kernel
theorem dX9_solve_85 : decode cX9_solve 85 = .ok (.iload_n 1, 1) := by decide +kernel
theorem dX9_solve_86 : decode cX9_solve 86 = .ok (.imul, 1) := by decide +kernel
theorem dX9_solve_87 : decode cX9_solve 87 = .ok (.iconst 0, 1) := by decide +kernel
theorem dX9_solve_88 : decode cX9_solve 88 = .ok (.iadd, 1) := by decide +kernel
theorem dX9_solve_89 : decode cX9_solve 89 = .ok (.iaload, 1) := by decide +kernel
theorem dX9_solve_90 : decode cX9_solve 90 = .ok (.iconst 2, 1) := by decide +kernel
theorem dX9_solve_91 : decode cX9_solve 91 = .ok (.if_icmp .ne 8, 3) := by decide +kernel
theorem dX9_solve_94 : decode cX9_solve 94 = .ok (.aload_n 0, 1) := by decide +kernel
theorem dX9_solve_95 : decode cX9_solve 95 = .ok (.iload_n 1, 1) := by decide +kernel
theorem dX9_solve_96 : decode cX9_solve 96 = .ok (.invokevirtual 284, 3) := by decide +kernel
theorem dX9_solve_99 : decode cX9_solve 99 = .ok (.iinc 1 1, 3) := by decide +kernel
theorem dX9_solve_102 : decode cX9_solve 102 = .ok (.goto (-53), 3) := by decide +kernel
theorem dX9_solve_105 : decode cX9_solve 105 = .ok (.aload_n 0, 1) := by decide +kernel
theorem dX9_solve_106 : decode cX9_solve 106 = .ok (.iconst 1, 1) := by decide +kernel
theorem dX9_solve_107 : decode cX9_solve 107 = .ok (.putfield 250, 3) := by decide +kernel
theorem dX9_solve_110 : decode cX9_solve 110 = .ok (.aload_n 0, 1) := by decide +kernel
theorem dX9_solve_111 : decode cX9_solve 111 = .ok (.getfield 250, 3) := by decide +kernel
theorem dX9_solve_114 : decode cX9_solve 114 = .ok (.ifCond .eq 46, 3) := by decide +kernel
theorem dX9_solve_117 : decode cX9_solve 117 = .ok (.aload_n 0, 1) := by decide +kernel
theorem dX9_solve_118 : decode cX9_solve 118 = .ok (.getfield 217, 3) := by decide +kernel
theorem dX9_solve_121 : decode cX9_solve 121 = .ok (.ifCond .ne 39, 3) := by decide +kernel
theorem dX9_solve_124 : decode cX9_solve 124 = .ok (.aload_n 0, 1) := by decide +kernel
theorem dX9_solve_125 : decode cX9_solve 125 = .ok (.iconst 0, 1) := by decide +kernel
theorem dX9_solve_126 : decode cX9_solve 126 = .ok (.putfield 250, 3) := by decide +kernel
theorem dX9_solve_129 : decode cX9_solve 129 = .ok (.iconst 0, 1) := by decide +kernel
theorem dX9_solve_130 : decode cX9_solve 130 = .ok (.istore_n 1, 1) := by decide +kernel
theorem dX9_solve_131 : decode cX9_solve 131 = .ok (.iload_n 1, 1) := by decide +kernel
theorem dX9_solve_132 : decode cX9_solve 132 = .ok (.aload_n 0, 1) := by decide +kernel
theorem dX9_solve_133 : decode cX9_solve 133 = .ok (.getfield 144, 3) := by decide +kernel
theorem dX9_solve_136 : decode cX9_solve 136 = .ok (.if_icmp .ge 21, 3) := by decide +kernel
theorem dX9_solve_139 : decode cX9_solve 139 = .ok (.aload_n 0, 1) := by decide +kernel
theorem dX9_solve_140 : decode cX9_solve 140 = .ok (.getfield 217, 3) := by decide +kernel
theorem dX9_solve_143 : decode cX9_solve 143 = .ok (.ifCond .ne 14, 3) := by decide +kernel
theorem dX9_solve_146 : decode cX9_solve 146 = .ok (.aload_n 0, 1) := by decide +kernel
theorem dX9_solve_147 : decode cX9_solve 147 = .ok (.iload_n 1, 1) := by decide +kernel
theorem dX9_solve_148 : decode cX9_solve 148 = .ok (.invokevirtual 287, 3) := by decide +kernel
theorem dX9_solve_151 : decode cX9_solve 151 = .ok (.iinc 1 1, 3) := by decide +kernel
theorem dX9_solve_154 : decode cX9_solve 154 = .ok (.goto (-23), 3) := by decide +kernel
theorem dX9_solve_157 : decode cX9_solve 157 = .ok (.goto (-47), 3) := by decide +kernel
theorem dX9_solve_160 : decode cX9_solve 160 = .ok (.return_, 1) := by decide +kernel
set_option maxHeartbeats 4000000 in
set_option maxRecDepth 100000 in
theorem t_X9_solve_J35 {p : Program} {l : Launch} {e : Env} {s : State} {m : MethodId} {args : Array Value} {below : List Frame} {meth : Method} {c : Code} {D : va_G} {aC : Nat → ClassId} {A : Nat → Prop} {a_o : Nat → Nat} {out : Ob_T} {rec2 : (Int32 × Ob_T) → Option Ob_T} (hX : K_X p s m args meth c cX9_solve 2 WL_ RX9 D aC A) (hr : meth.sig.returnType = none) (hrec2 : ∀ x : Int32 × Ob_T, rec2 x = some out → ∀ (H : Heap) (locs : List Loc) (ls : Array Slot), K_S D A s (wd_X9 aC a_o x.2) H locs → lv_has ls 2 [(0, .ref (a_o 0)), (1, .int x.1)] → W p l e (R_m 4 104) s m args below meth c H locs 0 0 (MQ below (Q_W (none) D A (wd_X9 aC a_o out)) args s 0 0 A) (F0 m 2 ls [])) (x1 : Int32) (k1 : Int32) (k2 : Int32) (s_o : Ob_T) (h : f_X9_solve_J35 rec2 x1 k1 k2 s_o = some out) (H : Heap) (locs : List Loc) (ls : Array Slot) (hZ : K_S D A s (wd_X9 aC a_o s_o) H locs) (hl : lv_has ls 2 [(0, .ref (a_o 0)), (1, .int x1)]) : W p l e (R_m 4 104) s m args below meth c H locs 0 0 (MQ below (Q_W (none) D A (wd_X9 aC a_o out)) args s 0 0 A) (F0 m 35 ls [.int k2, .int k1, .ref (a_o 23)]) := by
  obtain ⟨hx, hb, hml, hown, hts, hK, hA, hlk⟩ := id hX
  unfold f_X9_solve_J35 at h
  refine k_iast (wf := (fun o => wd_X9 aC a_o o)) (o := s_o) hX hZ 23 32 rfl (fun _ => rfl) h dX9_solve_35 (fun o2 H locs hZ h => ?_)
  refine lv_iinc (v := (x1 + (1 : Int32))) (lv' := [(1, .int (x1 + (1 : Int32))), (0, .ref (a_o 0))]) hx hb dX9_solve_36 hl (k := 1) rfl rfl (by decide) rfl (fun ls hl => ?_)
  refine lv_goto (tgt := 2) hx hb dX9_solve_39 (by decide) ?_
  exact hrec2 ((x1 + (1 : Int32)), o2) h H locs ls hZ (lv_sub hl [1, 0] rfl)
set_option maxHeartbeats 4000000 in
set_option maxRecDepth 100000 in
theorem t_X9_solve_L2 {p : Program} {l : Launch} {e : Env} {s : State} {m : MethodId} {args : Array Value} {below : List Frame} {meth : Method} {c : Code} {D : va_G} {aC : Nat → ClassId} {A : Nat → Prop} {a_o : Nat → Nat} {out : Ob_T} {k42 : Ob_T → Option Ob_T} {rec2 : (Int32 × Ob_T) → Option Ob_T} (hX : K_X p s m args meth c cX9_solve 2 WL_ RX9 D aC A) (hr : meth.sig.returnType = none) (hk42 : ∀ (t_o : Ob_T), k42 t_o = some out → ∀ (H : Heap) (locs : List Loc) (ls : Array Slot), K_S D A s (wd_X9 aC a_o t_o) H locs → lv_has ls 2 [(0, .ref (a_o 0))] → W p l e (R_m 4 104) s m args below meth c H locs 0 0 (MQ below (Q_W (none) D A (wd_X9 aC a_o out)) args s 0 0 A) (F0 m 42 ls [])) (hrec2 : ∀ x : Int32 × Ob_T, rec2 x = some out → ∀ (H : Heap) (locs : List Loc) (ls : Array Slot), K_S D A s (wd_X9 aC a_o x.2) H locs → lv_has ls 2 [(0, .ref (a_o 0)), (1, .int x.1)] → W p l e (R_m 4 104) s m args below meth c H locs 0 0 (MQ below (Q_W (none) D A (wd_X9 aC a_o out)) args s 0 0 A) (F0 m 2 ls [])) (x1 : Int32) (s_o : Ob_T) (h : f_X9_solve_L2 k42 rec2 x1 s_o = some out) (H : Heap) (locs : List Loc) (ls : Array Slot) (hZ : K_S D A s (wd_X9 aC a_o s_o) H locs) (hl : lv_has ls 2 [(0, .ref (a_o 0)), (1, .int x1)]) : W p l e (R_m 4 104) s m args below meth c H locs 0 0 (MQ below (Q_W (none) D A (wd_X9 aC a_o out)) args s 0 0 A) (F0 m 2 ls []) := by
  obtain ⟨hx, hb, hml, hown, hts, hK, hA, hlk⟩ := id hX
  unfold f_X9_solve_L2 at h
  refine lv_iload_n hx hb dX9_solve_2 rfl (lv_at hl 1 rfl) ?_
  refine lv_bipush (v := 14) hx hb dX9_solve_3 (by decide) ?_
  refine lv_icmp_ge (tgt := 42) hx hb dX9_solve_5 (by decide) (fun cd => ?_) (fun cd => ?_)
  · replace h := k_t cd h
    clear cd
    exact hk42 s_o h H locs ls hZ (lv_sub hl [0] rfl)
  · replace h := k_f cd h
    clear cd
    refine lv_aload_n hx hb dX9_solve_8 rfl (lv_at hl 0 rfl) ?_
    refine k_get hX hZ.1 0 9 rfl rfl iw_X9 31 rfl (wm_123) (v := .ref (a_o 22)) rfl dX9_solve_9 ?_
    refine lv_iload_n hx hb dX9_solve_12 rfl (lv_at hl 1 rfl) ?_
    refine lv_iload_n hx hb dX9_solve_13 rfl (lv_at hl 1 rfl) ?_
    refine k_iast (wf := (fun o => wd_X9 aC a_o o)) (o := s_o) hX hZ 22 31 rfl (fun _ => rfl) h dX9_solve_14 (fun o1 H locs hZ h => ?_)
    refine lv_aload_n hx hb dX9_solve_15 rfl (lv_at hl 0 rfl) ?_
    refine k_get hX hZ.1 0 9 rfl rfl iw_X9 32 rfl (wm_124) (v := .ref (a_o 23)) rfl dX9_solve_16 ?_
    refine lv_iload_n hx hb dX9_solve_19 rfl (lv_at hl 1 rfl) ?_
    refine lv_iload_n hx hb dX9_solve_20 rfl (lv_at hl 1 rfl) ?_
    refine lv_iconst (v := 4) hx hb dX9_solve_21 (by decide) ?_
    refine lv_icmp_ge (tgt := 34) hx hb dX9_solve_22 (by decide) (fun cd => ?_) (fun cd => ?_)
    · replace h := k_t cd h
      clear cd
      refine lv_iconst (v := -1) hx hb dX9_solve_34 (by decide) ?_
      exact t_X9_solve_J35 hX hr hrec2 x1 x1 (-1 : Int32) o1 h H locs ls hZ (lv_sub hl [0, 1] rfl)
    · replace h := k_f cd h
      clear cd
      refine lv_aload_n hx hb dX9_solve_25 rfl (lv_at hl 0 rfl) ?_
      refine k_get hX hZ.1 0 9 rfl rfl iw_X9 33 rfl (wm_189) (v := .ref (a_o 24)) rfl dX9_solve_26 ?_
      refine lv_iload_n hx hb dX9_solve_29 rfl (lv_at hl 1 rfl) ?_
      refine k_iald hX hZ.1 24 rfl h dX9_solve_30 (fun v3 h => ?_)
      refine lv_goto (tgt := 35) hx hb dX9_solve_31 (by decide) ?_
      exact t_X9_solve_J35 hX hr hrec2 x1 x1 v3 o1 h H locs ls hZ (lv_sub hl [0, 1] rfl)
set_option maxHeartbeats 4000000 in
set_option maxRecDepth 100000 in
theorem t_X9_solve_J94 {p : Program} {l : Launch} {e : Env} {s : State} {m : MethodId} {args : Array Value} {below : List Frame} {meth : Method} {c : Code} {D : va_G} {aC : Nat → ClassId} {A : Nat → Prop} {a_o : Nat → Nat} {out : Ob_T} {rec49 : (Int32 × Ob_T) → Option Ob_T} (hX : K_X p s m args meth c cX9_solve 2 WL_ RX9 D aC A) (hr : meth.sig.returnType = none) (hrec49 : ∀ x : Int32 × Ob_T, rec49 x = some out → ∀ (H : Heap) (locs : List Loc) (ls : Array Slot), K_S D A s (wd_X9 aC a_o x.2) H locs → lv_has ls 2 [(0, .ref (a_o 0)), (1, .int x.1)] → W p l e (R_m 4 104) s m args below meth c H locs 0 0 (MQ below (Q_W (none) D A (wd_X9 aC a_o out)) args s 0 0 A) (F0 m 49 ls [])) (x1 : Int32) (s_o : Ob_T) (h : f_X9_solve_J94 rec49 x1 s_o = some out) (H : Heap) (locs : List Loc) (ls : Array Slot) (hZ : K_S D A s (wd_X9 aC a_o s_o) H locs) (hl : lv_has ls 2 [(0, .ref (a_o 0)), (1, .int x1)]) : W p l e (R_m 4 104) s m args below meth c H locs 0 0 (MQ below (Q_W (none) D A (wd_X9 aC a_o out)) args s 0 0 A) (F0 m 94 ls []) := by
  obtain ⟨hx, hb, hml, hown, hts, hK, hA, hlk⟩ := id hX
  unfold f_X9_solve_J94 at h
  refine lv_aload_n hx hb dX9_solve_94 rfl (lv_at hl 0 rfl) ?_
  refine lv_iload_n hx hb dX9_solve_95 rfl (lv_at hl 1 rfl) ?_
  obtain ⟨u6, hu, h⟩ := k_bd h
  refine k_vWs (As := [.int x1]) (rest := []) (v := none) (st1 := []) hX hl.1 hZ (c_X9_meetBoth (a_o := a_o) s_o x1 hu) (gv_ wm_190 wm_192 wm_193 wm_11 wm_191) rfl hd_X9_meetBoth ⟨rfl, rfl⟩ 9 0 rfl rfl rfl rfl rfl dX9_solve_96 rfl ⟨rfl, rfl⟩ rfl (fun H locs hZ => ?_)
  clear hu
  refine lv_iinc (v := (x1 + (1 : Int32))) (lv' := [(1, .int (x1 + (1 : Int32))), (0, .ref (a_o 0))]) hx hb dX9_solve_99 hl (k := 1) rfl rfl (by decide) rfl (fun ls hl => ?_)
  refine lv_goto (tgt := 49) hx hb dX9_solve_102 (by decide) ?_
  exact hrec49 ((x1 + (1 : Int32)), u6) h H locs ls hZ (lv_sub hl [1, 0] rfl)
set_option maxHeartbeats 4000000 in
set_option maxRecDepth 100000 in
theorem t_X9_solve_L49 {p : Program} {l : Launch} {e : Env} {s : State} {m : MethodId} {args : Array Value} {below : List Frame} {meth : Method} {c : Code} {D : va_G} {aC : Nat → ClassId} {A : Nat → Prop} {a_o : Nat → Nat} {out : Ob_T} {k105 : Ob_T → Option Ob_T} {rec49 : (Int32 × Ob_T) → Option Ob_T} (hX : K_X p s m args meth c cX9_solve 2 WL_ RX9 D aC A) (hr : meth.sig.returnType = none) (hk105 : ∀ (t_o : Ob_T), k105 t_o = some out → ∀ (H : Heap) (locs : List Loc) (ls : Array Slot), K_S D A s (wd_X9 aC a_o t_o) H locs → lv_has ls 2 [(0, .ref (a_o 0))] → W p l e (R_m 4 104) s m args below meth c H locs 0 0 (MQ below (Q_W (none) D A (wd_X9 aC a_o out)) args s 0 0 A) (F0 m 105 ls [])) (hrec49 : ∀ x : Int32 × Ob_T, rec49 x = some out → ∀ (H : Heap) (locs : List Loc) (ls : Array Slot), K_S D A s (wd_X9 aC a_o x.2) H locs → lv_has ls 2 [(0, .ref (a_o 0)), (1, .int x.1)] → W p l e (R_m 4 104) s m args below meth c H locs 0 0 (MQ below (Q_W (none) D A (wd_X9 aC a_o out)) args s 0 0 A) (F0 m 49 ls [])) (x1 : Int32) (s_o : Ob_T) (h : f_X9_solve_L49 k105 rec49 x1 s_o = some out) (H : Heap) (locs : List Loc) (ls : Array Slot) (hZ : K_S D A s (wd_X9 aC a_o s_o) H locs) (hl : lv_has ls 2 [(0, .ref (a_o 0)), (1, .int x1)]) : W p l e (R_m 4 104) s m args below meth c H locs 0 0 (MQ below (Q_W (none) D A (wd_X9 aC a_o out)) args s 0 0 A) (F0 m 49 ls []) := by
  obtain ⟨hx, hb, hml, hown, hts, hK, hA, hlk⟩ := id hX
  unfold f_X9_solve_L49 at h
  refine lv_iload_n hx hb dX9_solve_49 rfl (lv_at hl 1 rfl) ?_
  refine lv_aload_n hx hb dX9_solve_50 rfl (lv_at hl 0 rfl) ?_
  refine k_get hX hZ.1 0 9 rfl rfl iw_X9 3 rfl (wm_42) (v := .int (o_F s_o 3)) rfl dX9_solve_51 ?_
  refine lv_icmp_ge (tgt := 105) hx hb dX9_solve_54 (by decide) (fun cd => ?_) (fun cd => ?_)
  · replace h := k_t cd h
    clear cd
    exact hk105 s_o h H locs ls hZ (lv_sub hl [0] rfl)
  · replace h := k_f cd h
    clear cd
    refine lv_aload_n hx hb dX9_solve_57 rfl (lv_at hl 0 rfl) ?_
    refine k_get hX hZ.1 0 9 rfl rfl iw_X9 35 rfl (wm_126) (v := .int (o_F s_o 35)) rfl dX9_solve_58 ?_
    refine lv_if_ne (tgt := 105) hx hb dX9_solve_61 (by decide) (fun cd => ?_) (fun cd => ?_)
    · replace h := k_f cd h
      clear cd
      exact hk105 s_o h H locs ls hZ (lv_sub hl [0] rfl)
    · replace h := k_t cd h
      clear cd
      refine lv_aload_n hx hb dX9_solve_64 rfl (lv_at hl 0 rfl) ?_
      refine k_get hX hZ.1 0 9 rfl rfl iw_X9 1 rfl (wm_31) (v := .ref (a_o 2)) rfl dX9_solve_65 ?_
      refine lv_bipush (v := 15) hx hb dX9_solve_68 (by decide) ?_
      refine lv_iload_n hx hb dX9_solve_70 rfl (lv_at hl 1 rfl) ?_
      refine lv_imul hx hb dX9_solve_71 ?_
      refine lv_iconst (v := 0) hx hb dX9_solve_72 (by decide) ?_
      refine lv_iadd hx hb dX9_solve_73 ?_
      refine k_iald hX hZ.1 2 rfl h dX9_solve_74 (fun v5 h => ?_)
      refine lv_iconst (v := 1) hx hb dX9_solve_75 (by decide) ?_
      refine lv_icmp_eq (tgt := 94) hx hb dX9_solve_76 (by decide) (fun cd => ?_) (fun cd => ?_)
      · replace h := k_t cd h
        clear cd
        exact t_X9_solve_J94 hX hr hrec49 x1 s_o h H locs ls hZ (lv_sub hl [0, 1] rfl)
      · replace h := k_f cd h
        clear cd
        refine lv_aload_n hx hb dX9_solve_79 rfl (lv_at hl 0 rfl) ?_
        refine k_get hX hZ.1 0 9 rfl rfl iw_X9 1 rfl (wm_31) (v := .ref (a_o 2)) rfl dX9_solve_80 ?_
        refine lv_bipush (v := 15) hx hb dX9_solve_83 (by decide) ?_
        refine lv_iload_n hx hb dX9_solve_85 rfl (lv_at hl 1 rfl) ?_
        refine lv_imul hx hb dX9_solve_86 ?_
        refine lv_iconst (v := 0) hx hb dX9_solve_87 (by decide) ?_
        refine lv_iadd hx hb dX9_solve_88 ?_
        refine k_iald hX hZ.1 2 rfl h dX9_solve_89 (fun v7 h => ?_)
        refine lv_iconst (v := 2) hx hb dX9_solve_90 (by decide) ?_
        refine lv_icmp_ne (tgt := 99) hx hb dX9_solve_91 (by decide) (fun cd => ?_) (fun cd => ?_)
        · replace h := k_f cd h
          clear cd
          refine lv_iinc (v := (x1 + (1 : Int32))) (lv' := [(1, .int (x1 + (1 : Int32))), (0, .ref (a_o 0))]) hx hb dX9_solve_99 hl (k := 1) rfl rfl (by decide) rfl (fun ls hl => ?_)
          refine lv_goto (tgt := 49) hx hb dX9_solve_102 (by decide) ?_
          exact hrec49 ((x1 + (1 : Int32)), s_o) h H locs ls hZ (lv_sub hl [1, 0] rfl)
        · replace h := k_t cd h
          clear cd
          exact t_X9_solve_J94 hX hr hrec49 x1 s_o h H locs ls hZ (lv_sub hl [0, 1] rfl)
set_option maxHeartbeats 4000000 in
set_option maxRecDepth 100000 in
theorem t_X9_solve_L131 {p : Program} {l : Launch} {e : Env} {s : State} {m : MethodId} {args : Array Value} {below : List Frame} {meth : Method} {c : Code} {D : va_G} {aC : Nat → ClassId} {A : Nat → Prop} {a_o : Nat → Nat} {out : Ob_T} {rec110 : Ob_T → Option Ob_T} {rec131 : (Int32 × Ob_T) → Option Ob_T} (hX : K_X p s m args meth c cX9_solve 2 WL_ RX9 D aC A) (hr : meth.sig.returnType = none) (hrec110 : ∀ x : Ob_T, rec110 x = some out → ∀ (H : Heap) (locs : List Loc) (ls : Array Slot), K_S D A s (wd_X9 aC a_o x) H locs → lv_has ls 2 [(0, .ref (a_o 0))] → W p l e (R_m 4 104) s m args below meth c H locs 0 0 (MQ below (Q_W (none) D A (wd_X9 aC a_o out)) args s 0 0 A) (F0 m 110 ls [])) (hrec131 : ∀ x : Int32 × Ob_T, rec131 x = some out → ∀ (H : Heap) (locs : List Loc) (ls : Array Slot), K_S D A s (wd_X9 aC a_o x.2) H locs → lv_has ls 2 [(0, .ref (a_o 0)), (1, .int x.1)] → W p l e (R_m 4 104) s m args below meth c H locs 0 0 (MQ below (Q_W (none) D A (wd_X9 aC a_o out)) args s 0 0 A) (F0 m 131 ls [])) (x1 : Int32) (s_o : Ob_T) (h : f_X9_solve_L131 rec110 rec131 x1 s_o = some out) (H : Heap) (locs : List Loc) (ls : Array Slot) (hZ : K_S D A s (wd_X9 aC a_o s_o) H locs) (hl : lv_has ls 2 [(0, .ref (a_o 0)), (1, .int x1)]) : W p l e (R_m 4 104) s m args below meth c H locs 0 0 (MQ below (Q_W (none) D A (wd_X9 aC a_o out)) args s 0 0 A) (F0 m 131 ls []) := by
  obtain ⟨hx, hb, hml, hown, hts, hK, hA, hlk⟩ := id hX
  unfold f_X9_solve_L131 at h
  refine lv_iload_n hx hb dX9_solve_131 rfl (lv_at hl 1 rfl) ?_
  refine lv_aload_n hx hb dX9_solve_132 rfl (lv_at hl 0 rfl) ?_
  refine k_get hX hZ.1 0 9 rfl rfl iw_X9 3 rfl (wm_42) (v := .int (o_F s_o 3)) rfl dX9_solve_133 ?_
  refine lv_icmp_ge (tgt := 157) hx hb dX9_solve_136 (by decide) (fun cd => ?_) (fun cd => ?_)
  · replace h := k_t cd h
    clear cd
    refine lv_goto (tgt := 110) hx hb dX9_solve_157 (by decide) ?_
    exact hrec110 (s_o) h H locs ls hZ (lv_sub hl [0] rfl)
  · replace h := k_f cd h
    clear cd
    refine lv_aload_n hx hb dX9_solve_139 rfl (lv_at hl 0 rfl) ?_
    refine k_get hX hZ.1 0 9 rfl rfl iw_X9 35 rfl (wm_126) (v := .int (o_F s_o 35)) rfl dX9_solve_140 ?_
    refine lv_if_ne (tgt := 157) hx hb dX9_solve_143 (by decide) (fun cd => ?_) (fun cd => ?_)
    · replace h := k_f cd h
      clear cd
      refine lv_goto (tgt := 110) hx hb dX9_solve_157 (by decide) ?_
      exact hrec110 (s_o) h H locs ls hZ (lv_sub hl [0] rfl)
    · replace h := k_t cd h
      clear cd
      refine lv_aload_n hx hb dX9_solve_146 rfl (lv_at hl 0 rfl) ?_
      refine lv_iload_n hx hb dX9_solve_147 rfl (lv_at hl 1 rfl) ?_
      obtain ⟨u10, hu, h⟩ := k_bd h
      refine k_vWs (As := [.int x1]) (rest := []) (v := none) (st1 := []) hX hl.1 hZ (c_X9_reckon (a_o := a_o) s_o x1 hu) (gv_ wm_194 wm_196 wm_197 wm_11 wm_195) rfl hd_X9_reckon ⟨rfl, rfl⟩ 9 0 rfl rfl rfl rfl rfl dX9_solve_148 rfl ⟨rfl, rfl⟩ rfl (fun H locs hZ => ?_)
      clear hu
      refine lv_iinc (v := (x1 + (1 : Int32))) (lv' := [(1, .int (x1 + (1 : Int32))), (0, .ref (a_o 0))]) hx hb dX9_solve_151 hl (k := 1) rfl rfl (by decide) rfl (fun ls hl => ?_)
      refine lv_goto (tgt := 131) hx hb dX9_solve_154 (by decide) ?_
      exact hrec131 ((x1 + (1 : Int32)), u10) h H locs ls hZ (lv_sub hl [1, 0] rfl)
set_option maxHeartbeats 4000000 in
set_option maxRecDepth 100000 in
theorem t_X9_solve_L110 {p : Program} {l : Launch} {e : Env} {s : State} {m : MethodId} {args : Array Value} {below : List Frame} {meth : Method} {c : Code} {D : va_G} {aC : Nat → ClassId} {A : Nat → Prop} {a_o : Nat → Nat} {out : Ob_T} {rec110 : Ob_T → Option Ob_T} (hX : K_X p s m args meth c cX9_solve 2 WL_ RX9 D aC A) (hr : meth.sig.returnType = none) (hrec110 : ∀ x : Ob_T, rec110 x = some out → ∀ (H : Heap) (locs : List Loc) (ls : Array Slot), K_S D A s (wd_X9 aC a_o x) H locs → lv_has ls 2 [(0, .ref (a_o 0))] → W p l e (R_m 4 104) s m args below meth c H locs 0 0 (MQ below (Q_W (none) D A (wd_X9 aC a_o out)) args s 0 0 A) (F0 m 110 ls [])) (s_o : Ob_T) (h : f_X9_solve_L110 rec110 s_o = some out) (H : Heap) (locs : List Loc) (ls : Array Slot) (hZ : K_S D A s (wd_X9 aC a_o s_o) H locs) (hl : lv_has ls 2 [(0, .ref (a_o 0))]) : W p l e (R_m 4 104) s m args below meth c H locs 0 0 (MQ below (Q_W (none) D A (wd_X9 aC a_o out)) args s 0 0 A) (F0 m 110 ls []) := by
  obtain ⟨hx, hb, hml, hown, hts, hK, hA, hlk⟩ := id hX
  unfold f_X9_solve_L110 at h
  refine lv_aload_n hx hb dX9_solve_110 rfl (lv_at hl 0 rfl) ?_
  refine k_get hX hZ.1 0 9 rfl rfl iw_X9 36 rfl (wm_153) (v := .int (o_F s_o 36)) rfl dX9_solve_111 ?_
  refine lv_if_eq (tgt := 160) hx hb dX9_solve_114 (by decide) (fun cd => ?_) (fun cd => ?_)
  · replace h := k_t cd h
    clear cd
    cases h
    exact k_vretW hX hr hZ dX9_solve_160
  · replace h := k_f cd h
    clear cd
    refine lv_aload_n hx hb dX9_solve_117 rfl (lv_at hl 0 rfl) ?_
    refine k_get hX hZ.1 0 9 rfl rfl iw_X9 35 rfl (wm_126) (v := .int (o_F s_o 35)) rfl dX9_solve_118 ?_
    refine lv_if_ne (tgt := 160) hx hb dX9_solve_121 (by decide) (fun cd => ?_) (fun cd => ?_)
    · replace h := k_f cd h
      clear cd
      cases h
      exact k_vretW hX hr hZ dX9_solve_160
    · replace h := k_t cd h
      clear cd
      refine lv_aload_n hx hb dX9_solve_124 rfl (lv_at hl 0 rfl) ?_
      refine lv_iconst (v := 0) hx hb dX9_solve_125 (by decide) ?_
      refine k_put (wf := (fun o => wd_X9 aC a_o o)) (o := s_o) hX hZ 0 9 rfl rfl iw_X9 tyX9 tyX9_ok nmX9 36 rfl (wm_153) rfl rfl rfl rfl rfl h dX9_solve_126 (fun o9 H locs hZ h => ?_)
      refine lv_iconst (v := 0) hx hb dX9_solve_129 (by decide) ?_
      refine lv_istore_n (lv' := [(1, .int (0 : Int32)), (0, .ref (a_o 0))]) hx hb dX9_solve_130 rfl hl (by decide) rfl (fun ls hl => ?_)
      exact Lp_ok (body := (fun (rec : (Int32 × Ob_T) → Option Ob_T) x => f_X9_solve_L131 rec110 rec x.1 x.2)) (out := out) (fun x => ∀ (H : Heap) (locs : List Loc) (ls : Array Slot), K_S D A s (wd_X9 aC a_o x.2) H locs → lv_has ls 2 [(0, .ref (a_o 0)), (1, .int x.1)] → W p l e (R_m 4 104) s m args below meth c H locs 0 0 (MQ below (Q_W (none) D A (wd_X9 aC a_o out)) args s 0 0 A) (F0 m 131 ls [])) (fun rec hrec x h H locs ls hZ hl => t_X9_solve_L131 hX hr hrec110 hrec x.1 x.2 h H locs ls hZ hl) FU_ ((0 : Int32), o9) h H locs ls hZ (lv_sub hl [1, 0] rfl)
set_option maxHeartbeats 4000000 in
set_option maxRecDepth 100000 in
theorem t_X9_solve_J105 {p : Program} {l : Launch} {e : Env} {s : State} {m : MethodId} {args : Array Value} {below : List Frame} {meth : Method} {c : Code} {D : va_G} {aC : Nat → ClassId} {A : Nat → Prop} {a_o : Nat → Nat} {out : Ob_T} (hX : K_X p s m args meth c cX9_solve 2 WL_ RX9 D aC A) (hr : meth.sig.returnType = none) (s_o : Ob_T) (h : f_X9_solve_J105 s_o = some out) (H : Heap) (locs : List Loc) (ls : Array Slot) (hZ : K_S D A s (wd_X9 aC a_o s_o) H locs) (hl : lv_has ls 2 [(0, .ref (a_o 0))]) : W p l e (R_m 4 104) s m args below meth c H locs 0 0 (MQ below (Q_W (none) D A (wd_X9 aC a_o out)) args s 0 0 A) (F0 m 105 ls []) := by
  obtain ⟨hx, hb, hml, hown, hts, hK, hA, hlk⟩ := id hX
  unfold f_X9_solve_J105 at h
  refine lv_aload_n hx hb dX9_solve_105 rfl (lv_at hl 0 rfl) ?_
  refine lv_iconst (v := 1) hx hb dX9_solve_106 (by decide) ?_
  refine k_put (wf := (fun o => wd_X9 aC a_o o)) (o := s_o) hX hZ 0 9 rfl rfl iw_X9 tyX9 tyX9_ok nmX9 36 rfl (wm_153) rfl rfl rfl rfl rfl h dX9_solve_107 (fun o8 H locs hZ h => ?_)
  exact Lp_ok (body := (fun (rec : Ob_T → Option Ob_T) x => f_X9_solve_L110 rec x)) (out := out) (fun x => ∀ (H : Heap) (locs : List Loc) (ls : Array Slot), K_S D A s (wd_X9 aC a_o x) H locs → lv_has ls 2 [(0, .ref (a_o 0))] → W p l e (R_m 4 104) s m args below meth c H locs 0 0 (MQ below (Q_W (none) D A (wd_X9 aC a_o out)) args s 0 0 A) (F0 m 110 ls [])) (fun rec hrec x h H locs ls hZ hl => t_X9_solve_L110 hX hr hrec x h H locs ls hZ hl) FU_ (o8) h H locs ls hZ (lv_sub hl [0] rfl)
set_option maxHeartbeats 4000000 in
set_option maxRecDepth 100000 in
theorem t_X9_solve_J42 {p : Program} {l : Launch} {e : Env} {s : State} {m : MethodId} {args : Array Value} {below : List Frame} {meth : Method} {c : Code} {D : va_G} {aC : Nat → ClassId} {A : Nat → Prop} {a_o : Nat → Nat} {out : Ob_T} (hX : K_X p s m args meth c cX9_solve 2 WL_ RX9 D aC A) (hr : meth.sig.returnType = none) (s_o : Ob_T) (h : f_X9_solve_J42 s_o = some out) (H : Heap) (locs : List Loc) (ls : Array Slot) (hZ : K_S D A s (wd_X9 aC a_o s_o) H locs) (hl : lv_has ls 2 [(0, .ref (a_o 0))]) : W p l e (R_m 4 104) s m args below meth c H locs 0 0 (MQ below (Q_W (none) D A (wd_X9 aC a_o out)) args s 0 0 A) (F0 m 42 ls []) := by
  obtain ⟨hx, hb, hml, hown, hts, hK, hA, hlk⟩ := id hX
  unfold f_X9_solve_J42 at h
  refine lv_aload_n hx hb dX9_solve_42 rfl (lv_at hl 0 rfl) ?_
  refine lv_iconst (v := 0) hx hb dX9_solve_43 (by decide) ?_
  refine k_put (wf := (fun o => wd_X9 aC a_o o)) (o := s_o) hX hZ 0 9 rfl rfl iw_X9 tyX9 tyX9_ok nmX9 35 rfl (wm_126) rfl rfl rfl rfl rfl h dX9_solve_44 (fun o4 H locs hZ h => ?_)
  refine lv_iconst (v := 0) hx hb dX9_solve_47 (by decide) ?_
  refine lv_istore_n (lv' := [(1, .int (0 : Int32)), (0, .ref (a_o 0))]) hx hb dX9_solve_48 rfl hl (by decide) rfl (fun ls hl => ?_)
  exact Lp_ok (body := (fun (rec : (Int32 × Ob_T) → Option Ob_T) x => f_X9_solve_L49 (fun t_o => f_X9_solve_J105 t_o) rec x.1 x.2)) (out := out) (fun x => ∀ (H : Heap) (locs : List Loc) (ls : Array Slot), K_S D A s (wd_X9 aC a_o x.2) H locs → lv_has ls 2 [(0, .ref (a_o 0)), (1, .int x.1)] → W p l e (R_m 4 104) s m args below meth c H locs 0 0 (MQ below (Q_W (none) D A (wd_X9 aC a_o out)) args s 0 0 A) (F0 m 49 ls [])) (fun rec hrec x h H locs ls hZ hl => t_X9_solve_L49 hX hr (fun t_o h H locs ls hZ hl => t_X9_solve_J105 hX hr t_o h H locs ls hZ (lv_sub hl [0] rfl)) hrec x.1 x.2 h H locs ls hZ hl) FU_ ((0 : Int32), o4) h H locs ls hZ (lv_sub hl [1, 0] rfl)
set_option maxHeartbeats 4000000 in
set_option maxRecDepth 100000 in
theorem c_X9_solve {l : Launch} {D : va_G} {aC : Nat → ClassId} {a_o : Nat → Nat} (s_o : Ob_T) {out : Ob_T} (h : f_X9_solve s_o = some out) : M_W l yX9_solve wlX9_solve 4 104 D aC [.ref (a_o 0)] (wd_X9 aC a_o s_o) (none) (wd_X9 aC a_o out) := by
  refine k_entW (cc := cX9_solve) (ret := none) (maxL := 2) (own := RX9) (by decide) rfl rfl rfl ?_
  intro p e s m below meth c A ls hX hr hZ hl
  have hl : lv_has ls 2 [(0, .ref (a_o 0))] := hl
  generalize ([.ref (a_o 0)] : List Value).toArray = args at hX ⊢
  obtain ⟨hx, hb, hml, hown, hts, hK, hA, hlk⟩ := id hX
  unfold f_X9_solve at h
  generalize s.heap = H at hZ ⊢
  generalize ([] : List Loc) = locs at hZ ⊢
  refine lv_iconst (v := 0) hx hb dX9_solve_0 (by decide) ?_
  refine lv_istore_n (lv' := [(1, .int (0 : Int32)), (0, .ref (a_o 0))]) hx hb dX9_solve_1 rfl hl (by decide) rfl (fun ls hl => ?_)
  exact Lp_ok (body := (fun (rec : (Int32 × Ob_T) → Option Ob_T) x => f_X9_solve_L2 (fun t_o => f_X9_solve_J42 t_o) rec x.1 x.2)) (out := out) (fun x => ∀ (H : Heap) (locs : List Loc) (ls : Array Slot), K_S D A s (wd_X9 aC a_o x.2) H locs → lv_has ls 2 [(0, .ref (a_o 0)), (1, .int x.1)] → W p l e (R_m 4 104) s m args below meth c H locs 0 0 (MQ below (Q_W (none) D A (wd_X9 aC a_o out)) args s 0 0 A) (F0 m 2 ls [])) (fun rec hrec x h H locs ls hZ hl => t_X9_solve_L2 hX hr (fun t_o h H locs ls hZ hl => t_X9_solve_J42 hX hr t_o h H locs ls hZ (lv_sub hl [0] rfl)) hrec x.1 x.2 h H locs ls hZ hl) FU_ ((0 : Int32), s_o) h H locs ls hZ (lv_sub hl [1, 0] rfl)
