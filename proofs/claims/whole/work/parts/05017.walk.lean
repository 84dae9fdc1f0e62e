def wlX9_program : List Cond := .code yX9_program cX9_program 2 (some .int) :: WL_
theorem hd_X9_program : yX9_program.cls = RX9 ∧ yX9_program.cls ≠ "java/lang/invoke/MethodHandle" ∧ yX9_program.cls ≠ "java/lang/invoke/VarHandle" ∧ (parseMethodDescriptor yX9_program.desc).map (fun d => d.parameters.length) = some 0 := by decide +kernel
theorem dX9_program_0 : decode cX9_program 0 = .ok (.aload_n 0, 1) := by decide +kernel
theorem dX9_program_1 : decode cX9_program 1 = .ok (.invokevirtual 179, 3) := by decide +kernel
theorem dX9_program_4 : decode cX9_program 4 = .ok (.ifCond .ne 6, 3) := by decide +kernel
theorem dX9_program_7 : decode cX9_program 7 = .ok (.bipush (-4), 2) := by decide +kernel
theorem dX9_program_9 : decode cX9_program 9 = .ok (.ireturn, 1) := by decide +kernel
theorem dX9_program_10 : decode cX9_program 10 = .ok (.iconst 0, 1) := by decide +kernel
theorem dX9_program_11 : decode cX9_program 11 = .ok (.istore_n 1, 1) := by decide +kernel
theorem dX9_program_12 : decode cX9_program 12 = .ok (.iload_n 1, 1) := by decide +kernel
theorem dX9_program_13 : decode cX9_program 13 = .ok (.sipush 150, 3) := by decide +kernel
theorem dX9_program_16 : decode cX9_program 16 = .ok (.if_icmp .ge 21, 3) := by decide +kernel
theorem dX9_program_19 : decode cX9_program 19 = .ok (.aload_n 0, 1) := by decide +kernel
theorem dX9_program_20 : decode cX9_program 20 = .ok (.getfield 7, 3) := by decide +kernel
theorem dX9_program_23 : decode cX9_program 23 = .ok (.iload_n 1, 1) := by decide +kernel
theorem dX9_program_24 : decode cX9_program 24 = .ok (.aload_n 0, 1) := by decide +kernel
theorem dX9_program_25 : decode cX9_program 25 = .ok (.getfield 13, 3) := by decide +kernel
theorem dX9_program_28 : decode cX9_program 28 = .ok (.iload_n 1, 1) := by decide +kernel
theorem dX9_program_29 : decode cX9_program 29 = .ok (.iaload, 1) := by decide +kernel
theorem dX9_program_30 : decode cX9_program 30 = .ok (.iastore, 1) := by decide +kernel
theorem dX9_program_31 : decode cX9_program 31 = .ok (.iinc 1 1, 3) := by decide +kernel
theorem dX9_program_34 : decode cX9_program 34 = .ok (.goto (-22), 3) := by decide +kernel
theorem dX9_program_37 : decode cX9_program 37 = .ok (.aload_n 0, 1) := by decide +kernel
theorem dX9_program_38 : decode cX9_program 38 = .ok (.aload_n 0, 1) := by decide +kernel
theorem dX9_program_39 : decode cX9_program 39 = .ok (.getfield 144, 3) := by decide +kernel
theorem dX9_program_42 : decode cX9_program 42 = .ok (.putfield 170, 3) := by decide +kernel
theorem dX9_program_45 : decode cX9_program 45 = .ok (.aload_n 0, 1) := by decide +kernel
theorem dX9_program_46 : decode cX9_program 46 = .ok (.iconst 0, 1) := by decide +kernel
theorem dX9_program_47 : decode cX9_program 47 = .ok (.putfield 101, 3) := by decide +kernel
theorem dX9_program_50 : decode cX9_program 50 = .ok (.iconst 0, 1) := by decide +kernel
theorem dX9_program_51 : decode cX9_program 51 = .ok (.istore_n 1, 1) := by decide +kernel
theorem dX9_program_52 : decode cX9_program 52 = .ok (.iload_n 1, 1) := by decide +kernel
theorem dX9_program_53 : decode cX9_program 53 = .ok (.iconst 4, 1) := by decide +kernel
theorem dX9_program_54 : decode cX9_program 54 = .ok (.if_icmp .ge 16, 3) := by decide +kernel
theorem dX9_program_57 : decode cX9_program 57 = .ok (.aload_n 0, 1) := by decide +kernel
theorem dX9_program_58 : decode cX9_program 58 = .ok (.getfield 16, 3) := by decide +kernel
theorem dX9_program_61 : decode cX9_program 61 = .ok (.iload_n 1, 1) := by decide +kernel
theorem dX9_program_62 : decode cX9_program 62 = .ok (.iconst (-1), 1) := by decide +kernel
theorem dX9_program_63 : decode cX9_program 63 = .ok (.iastore, 1) := by decide +kernel
theorem dX9_program_64 : decode cX9_program 64 = .ok (.iinc 1 1, 3) := by decide +kernel
theorem dX9_program_67 : decode cX9_program 67 = .ok (.goto (-15), 3) := by decide +kernel
theorem dX9_program_70 : decode cX9_program 70 = .ok (.aload_n 0, 1) := by decide +kernel
theorem dX9_program_71 : decode cX9_program 71 = .ok (.iconst 0, 1) := by decide +kernel
theorem dX9_program_72 : decode cX9_program 72 = .ok (.putfield 182, 3) := by decide +kernel
theorem dX9_program_75 : decode cX9_program 75 = .ok (.aload_n 0, 1) := by decide +kernel
theorem dX9_program_76 : decode cX9_program 76 = .ok (.getfield 25, 3) := by decide +kernel
theorem dX9_program_79 : decode cX9_program 79 = .ok (.iconst 0, 1) := by decide +kernel
theorem dX9_program_80 : decode cX9_program 80 = .ok (.iconst 0, 1) := by decide +kernel
theorem dX9_program_81 : decode cX9_program 81 = .ok (.bastore, 1) := by decide +kernel
theorem dX9_program_82 : decode cX9_program 82 = .ok (.aload_n 0, 1) := by decide +kernel
theorem dX9_program_83 : decode cX9_program 83 = .ok (.getfield 25, 3) := by decide +kernel
theorem dX9_program_86 : decode cX9_program 86 = .ok (.iconst 1, 1) := by decide +kernel
theorem dX9_program_87 : decode cX9_program 87 = .ok (.iconst 0, 1) := by decide +kernel
theorem dX9_program_88 : decode cX9_program 88 = .ok (.bastore, 1) := by decide +kernel
theorem dX9_program_89 : decode cX9_program 89 = .ok (.aload_n 0, 1) := by decide +kernel
theorem dX9_program_90 : decode cX9_program 90 = .ok (.iconst 0, 1) := by decide +kernel
theorem dX9_program_91 : decode cX9_program 91 = .ok (.putfield 185, 3) := by decide +kernel
theorem dX9_program_94 : decode cX9_program 94 = .ok (.iconst 0, 1) := by decide +kernel
theorem dX9_program_95 : decode cX9_program 95 = .ok (.istore_n 1, 1) := by decide +kernel
theorem dX9_program_96 : decode cX9_program 96 = .ok (.iload_n 1, 1) := by decide +kernel
theorem dX9_program_97 : decode cX9_program 97 = .ok (.iconst 3, 1) := by decide +kernel
theorem dX9_program_98 : decode cX9_program 98 = .ok (.if_icmp .ge 16, 3) := by decide +kernel
theorem dX9_program_101 : decode cX9_program 101 = .ok (.aload_n 0, 1) := by decide +kernel
theorem dX9_program_102 : decode cX9_program 102 = .ok (.getfield 44, 3) := by decide +kernel
theorem dX9_program_105 : decode cX9_program 105 = .ok (.iload_n 1, 1) := by decide +kernel
theorem dX9_program_106 : decode cX9_program 106 = .ok (.iconst (-1), 1) := by decide +kernel
theorem dX9_program_107 : decode cX9_program 107 = .ok (.iastore, 1) := by decide +kernel
theorem dX9_program_108 : decode cX9_program 108 = .ok (.iinc 1 1, 3) := by decide +kernel
theorem dX9_program_111 : decode cX9_program 111 = .ok (.goto (-15), 3) := by decide +kernel
theorem dX9_program_114 : decode cX9_program 114 = .ok (.aload_n 0, 1) := by decide +kernel
theorem dX9_program_115 : decode cX9_program 115 = .ok (.getfield 173, 3) := by decide +kernel
theorem dX9_program_118 : decode cX9_program 118 = .ok (.ireturn, 1) := by decide +kernel
set_option maxHeartbeats 4000000 in
set_option maxRecDepth 100000 in
theorem t_X9_program_L12 {p : Program} {l : Launch} {e : Env} {s : State} {m : MethodId} {args : Array Value} {below : List Frame} {meth : Method} {c : Code} {D : va_G} {aC : Nat → ClassId} {A : Nat → Prop} {a_o : Nat → Nat} {out : Int32 × Ob_T} {k37 : Ob_T → Option (Int32 × Ob_T)} {rec12 : (Int32 × Ob_T) → Option (Int32 × Ob_T)} (hX : K_X p s m args meth c cX9_program 2 WL_ RX9 D aC A) (hr : meth.sig.returnType = (some .int)) (hk37 : ∀ (t_o : Ob_T), k37 t_o = some out → ∀ (H : Heap) (locs : List Loc) (ls : Array Slot), K_S D A s (wd_X9 aC a_o t_o) H locs → lv_has ls 2 [(0, .ref (a_o 0))] → W p l e (R_m 8 180) s m args below meth c H locs 0 0 (MQ below (Q_W (some (.int out.1)) D A (wd_X9 aC a_o out.2)) args s 0 0 A) (F0 m 37 ls [])) (hrec12 : ∀ x : Int32 × Ob_T, rec12 x = some out → ∀ (H : Heap) (locs : List Loc) (ls : Array Slot), K_S D A s (wd_X9 aC a_o x.2) H locs → lv_has ls 2 [(0, .ref (a_o 0)), (1, .int x.1)] → W p l e (R_m 8 180) s m args below meth c H locs 0 0 (MQ below (Q_W (some (.int out.1)) D A (wd_X9 aC a_o out.2)) args s 0 0 A) (F0 m 12 ls [])) (x1 : Int32) (s_o : Ob_T) (h : f_X9_program_L12 k37 rec12 x1 s_o = some out) (H : Heap) (locs : List Loc) (ls : Array Slot) (hZ : K_S D A s (wd_X9 aC a_o s_o) H locs) (hl : lv_has ls 2 [(0, .ref (a_o 0)), (1, .int x1)]) : W p l e (R_m 8 180) s m args below meth c H locs 0 0 (MQ below (Q_W (some (.int out.1)) D A (wd_X9 aC a_o out.2)) args s 0 0 A) (F0 m 12 ls []) := by
  obtain ⟨hx, hb, hml, hown, hts, hK, hA, hlk⟩ := id hX
  unfold f_X9_program_L12 at h
  refine lv_iload_n hx hb dX9_program_12 rfl (lv_at hl 1 rfl) ?_
  refine lv_sipush (v := 150) hx hb dX9_program_13 (by decide) ?_
  refine lv_icmp_ge (tgt := 37) hx hb dX9_program_16 (by decide) (fun cd => ?_) (fun cd => ?_)
  · replace h := k_t cd h
    clear cd
    exact hk37 s_o h H locs ls hZ (lv_sub hl [0] rfl)
  · replace h := k_f cd h
    clear cd
    refine lv_aload_n hx hb dX9_program_19 rfl (lv_at hl 0 rfl) ?_
    refine k_get hX hZ.1 0 9 rfl rfl iw_X9 0 rfl (wm_107) (v := .ref (a_o 1)) rfl dX9_program_20 ?_
    refine lv_iload_n hx hb dX9_program_23 rfl (lv_at hl 1 rfl) ?_
    refine lv_aload_n hx hb dX9_program_24 rfl (lv_at hl 0 rfl) ?_
    refine k_get hX hZ.1 0 9 rfl rfl iw_X9 1 rfl (wm_31) (v := .ref (a_o 2)) rfl dX9_program_25 ?_
    refine lv_iload_n hx hb dX9_program_28 rfl (lv_at hl 1 rfl) ?_
    refine k_iald hX hZ.1 2 rfl h dX9_program_29 (fun v2 h => ?_)
    refine k_iast (wf := (fun o => wd_X9 aC a_o o)) (o := s_o) hX hZ 1 0 rfl (fun _ => rfl) h dX9_program_30 (fun o3 H locs hZ h => ?_)
    refine lv_iinc (v := (x1 + (1 : Int32))) (lv' := [(1, .int (x1 + (1 : Int32))), (0, .ref (a_o 0))]) hx hb dX9_program_31 hl (k := 1) rfl rfl (by decide) rfl (fun ls hl => ?_)
    refine lv_goto (tgt := 12) hx hb dX9_program_34 (by decide) ?_
    exact hrec12 ((x1 + (1 : Int32)), o3) h H locs ls hZ (lv_sub hl [1, 0] rfl)
set_option maxHeartbeats 4000000 in
set_option maxRecDepth 100000 in
theorem t_X9_program_L52 {p : Program} {l : Launch} {e : Env} {s : State} {m : MethodId} {args : Array Value} {below : List Frame} {meth : Method} {c : Code} {D : va_G} {aC : Nat → ClassId} {A : Nat → Prop} {a_o : Nat → Nat} {out : Int32 × Ob_T} {k70 : Ob_T → Option (Int32 × Ob_T)} {rec52 : (Int32 × Ob_T) → Option (Int32 × Ob_T)} (hX : K_X p s m args meth c cX9_program 2 WL_ RX9 D aC A) (hr : meth.sig.returnType = (some .int)) (hk70 : ∀ (t_o : Ob_T), k70 t_o = some out → ∀ (H : Heap) (locs : List Loc) (ls : Array Slot), K_S D A s (wd_X9 aC a_o t_o) H locs → lv_has ls 2 [(0, .ref (a_o 0))] → W p l e (R_m 8 180) s m args below meth c H locs 0 0 (MQ below (Q_W (some (.int out.1)) D A (wd_X9 aC a_o out.2)) args s 0 0 A) (F0 m 70 ls [])) (hrec52 : ∀ x : Int32 × Ob_T, rec52 x = some out → ∀ (H : Heap) (locs : List Loc) (ls : Array Slot), K_S D A s (wd_X9 aC a_o x.2) H locs → lv_has ls 2 [(0, .ref (a_o 0)), (1, .int x.1)] → W p l e (R_m 8 180) s m args below meth c H locs 0 0 (MQ below (Q_W (some (.int out.1)) D A (wd_X9 aC a_o out.2)) args s 0 0 A) (F0 m 52 ls [])) (x1 : Int32) (s_o : Ob_T) (h : f_X9_program_L52 k70 rec52 x1 s_o = some out) (H : Heap) (locs : List Loc) (ls : Array Slot) (hZ : K_S D A s (wd_X9 aC a_o s_o) H locs) (hl : lv_has ls 2 [(0, .ref (a_o 0)), (1, .int x1)]) : W p l e (R_m 8 180) s m args below meth c H locs 0 0 (MQ below (Q_W (some (.int out.1)) D A (wd_X9 aC a_o out.2)) args s 0 0 A) (F0 m 52 ls []) := by
  obtain ⟨hx, hb, hml, hown, hts, hK, hA, hlk⟩ := id hX
  unfold f_X9_program_L52 at h
  refine lv_iload_n hx hb dX9_program_52 rfl (lv_at hl 1 rfl) ?_
  refine lv_iconst (v := 4) hx hb dX9_program_53 (by decide) ?_
  refine lv_icmp_ge (tgt := 70) hx hb dX9_program_54 (by decide) (fun cd => ?_) (fun cd => ?_)
  · replace h := k_t cd h
    clear cd
    exact hk70 s_o h H locs ls hZ (lv_sub hl [0] rfl)
  · replace h := k_f cd h
    clear cd
    refine lv_aload_n hx hb dX9_program_57 rfl (lv_at hl 0 rfl) ?_
    refine k_get hX hZ.1 0 9 rfl rfl iw_X9 4 rfl (wm_118) (v := .ref (a_o 3)) rfl dX9_program_58 ?_
    refine lv_iload_n hx hb dX9_program_61 rfl (lv_at hl 1 rfl) ?_
    refine lv_iconst (v := -1) hx hb dX9_program_62 (by decide) ?_
    refine k_iast (wf := (fun o => wd_X9 aC a_o o)) (o := s_o) hX hZ 3 4 rfl (fun _ => rfl) h dX9_program_63 (fun o6 H locs hZ h => ?_)
    refine lv_iinc (v := (x1 + (1 : Int32))) (lv' := [(1, .int (x1 + (1 : Int32))), (0, .ref (a_o 0))]) hx hb dX9_program_64 hl (k := 1) rfl rfl (by decide) rfl (fun ls hl => ?_)
    refine lv_goto (tgt := 52) hx hb dX9_program_67 (by decide) ?_
    exact hrec52 ((x1 + (1 : Int32)), o6) h H locs ls hZ (lv_sub hl [1, 0] rfl)
set_option maxHeartbeats 4000000 in
set_option maxRecDepth 100000 in
theorem t_X9_program_L96 {p : Program} {l : Launch} {e : Env} {s : State} {m : MethodId} {args : Array Value} {below : List Frame} {meth : Method} {c : Code} {D : va_G} {aC : Nat → ClassId} {A : Nat → Prop} {a_o : Nat → Nat} {out : Int32 × Ob_T} {rec96 : (Int32 × Ob_T) → Option (Int32 × Ob_T)} (hX : K_X p s m args meth c cX9_program 2 WL_ RX9 D aC A) (hr : meth.sig.returnType = (some .int)) (hrec96 : ∀ x : Int32 × Ob_T, rec96 x = some out → ∀ (H : Heap) (locs : List Loc) (ls : Array Slot), K_S D A s (wd_X9 aC a_o x.2) H locs → lv_has ls 2 [(0, .ref (a_o 0)), (1, .int x.1)] → W p l e (R_m 8 180) s m args below meth c H locs 0 0 (MQ below (Q_W (some (.int out.1)) D A (wd_X9 aC a_o out.2)) args s 0 0 A) (F0 m 96 ls [])) (x1 : Int32) (s_o : Ob_T) (h : f_X9_program_L96 rec96 x1 s_o = some out) (H : Heap) (locs : List Loc) (ls : Array Slot) (hZ : K_S D A s (wd_X9 aC a_o s_o) H locs) (hl : lv_has ls 2 [(0, .ref (a_o 0)), (1, .int x1)]) : W p l e (R_m 8 180) s m args below meth c H locs 0 0 (MQ below (Q_W (some (.int out.1)) D A (wd_X9 aC a_o out.2)) args s 0 0 A) (F0 m 96 ls []) := by
  obtain ⟨hx, hb, hml, hown, hts, hK, hA, hlk⟩ := id hX
  unfold f_X9_program_L96 at h
  refine lv_iload_n hx hb dX9_program_96 rfl (lv_at hl 1 rfl) ?_
  refine lv_iconst (v := 3) hx hb dX9_program_97 (by decide) ?_
  refine lv_icmp_ge (tgt := 114) hx hb dX9_program_98 (by decide) (fun cd => ?_) (fun cd => ?_)
  · replace h := k_t cd h
    clear cd
    refine lv_aload_n hx hb dX9_program_114 rfl (lv_at hl 0 rfl) ?_
    refine k_get hX hZ.1 0 9 rfl rfl iw_X9 20 rfl (wm_109) (v := .int (o_F s_o 20)) rfl dX9_program_115 ?_
    cases h
    exact k_iretW hX hr hZ dX9_program_118
  · replace h := k_f cd h
    clear cd
    refine lv_aload_n hx hb dX9_program_101 rfl (lv_at hl 0 rfl) ?_
    refine k_get hX hZ.1 0 9 rfl rfl iw_X9 16 rfl (wm_120) (v := .ref (a_o 12)) rfl dX9_program_102 ?_
    refine lv_iload_n hx hb dX9_program_105 rfl (lv_at hl 1 rfl) ?_
    refine lv_iconst (v := -1) hx hb dX9_program_106 (by decide) ?_
    refine k_iast (wf := (fun o => wd_X9 aC a_o o)) (o := s_o) hX hZ 12 16 rfl (fun _ => rfl) h dX9_program_107 (fun o11 H locs hZ h => ?_)
    refine lv_iinc (v := (x1 + (1 : Int32))) (lv' := [(1, .int (x1 + (1 : Int32))), (0, .ref (a_o 0))]) hx hb dX9_program_108 hl (k := 1) rfl rfl (by decide) rfl (fun ls hl => ?_)
    refine lv_goto (tgt := 96) hx hb dX9_program_111 (by decide) ?_
    exact hrec96 ((x1 + (1 : Int32)), o11) h H locs ls hZ (lv_sub hl [1, 0] rfl)
set_option maxHeartbeats 4000000 in
set_option maxRecDepth 100000 in
theorem t_X9_program_J70 {p : Program} {l : Launch} {e : Env} {s : State} {m : MethodId} {args : Array Value} {below : List Frame} {meth : Method} {c : Code} {D : va_G} {aC : Nat → ClassId} {A : Nat → Prop} {a_o : Nat → Nat} {out : Int32 × Ob_T} (hX : K_X p s m args meth c cX9_program 2 WL_ RX9 D aC A) (hr : meth.sig.returnType = (some .int)) (s_o : Ob_T) (h : f_X9_program_J70 s_o = some out) (H : Heap) (locs : List Loc) (ls : Array Slot) (hZ : K_S D A s (wd_X9 aC a_o s_o) H locs) (hl : lv_has ls 2 [(0, .ref (a_o 0))]) : W p l e (R_m 8 180) s m args below meth c H locs 0 0 (MQ below (Q_W (some (.int out.1)) D A (wd_X9 aC a_o out.2)) args s 0 0 A) (F0 m 70 ls []) := by
  obtain ⟨hx, hb, hml, hown, hts, hK, hA, hlk⟩ := id hX
  unfold f_X9_program_J70 at h
  refine lv_aload_n hx hb dX9_program_70 rfl (lv_at hl 0 rfl) ?_
  refine lv_iconst (v := 0) hx hb dX9_program_71 (by decide) ?_
  refine k_put (wf := (fun o => wd_X9 aC a_o o)) (o := s_o) hX hZ 0 9 rfl rfl iw_X9 tyX9 tyX9_ok nmX9 6 rfl (wm_122) rfl rfl rfl rfl rfl h dX9_program_72 (fun o7 H locs hZ h => ?_)
  refine lv_aload_n hx hb dX9_program_75 rfl (lv_at hl 0 rfl) ?_
  refine k_get hX hZ.1 0 9 rfl rfl iw_X9 8 rfl (wm_119) (v := .ref (a_o 6)) rfl dX9_program_76 ?_
  refine lv_iconst (v := 0) hx hb dX9_program_79 (by decide) ?_
  refine lv_iconst (v := 0) hx hb dX9_program_80 (by decide) ?_
  refine k_zast (wf := (fun o => wd_X9 aC a_o o)) (o := o7) hX hZ 6 8 rfl (fun _ => rfl) h dX9_program_81 (fun o8 H locs hZ h => ?_)
  refine lv_aload_n hx hb dX9_program_82 rfl (lv_at hl 0 rfl) ?_
  refine k_get hX hZ.1 0 9 rfl rfl iw_X9 8 rfl (wm_119) (v := .ref (a_o 6)) rfl dX9_program_83 ?_
  refine lv_iconst (v := 1) hx hb dX9_program_86 (by decide) ?_
  refine lv_iconst (v := 0) hx hb dX9_program_87 (by decide) ?_
  refine k_zast (wf := (fun o => wd_X9 aC a_o o)) (o := o8) hX hZ 6 8 rfl (fun _ => rfl) h dX9_program_88 (fun o9 H locs hZ h => ?_)
  refine lv_aload_n hx hb dX9_program_89 rfl (lv_at hl 0 rfl) ?_
  refine lv_iconst (v := 0) hx hb dX9_program_90 (by decide) ?_
  refine k_put (wf := (fun o => wd_X9 aC a_o o)) (o := o9) hX hZ 0 9 rfl rfl iw_X9 tyX9 tyX9_ok nmX9 11 rfl (wm_121) rfl rfl rfl rfl rfl h dX9_program_91 (fun o10 H locs hZ h => ?_)
  refine lv_iconst (v := 0) hx hb dX9_program_94 (by decide) ?_
  refine lv_istore_n (lv' := [(1, .int (0 : Int32)), (0, .ref (a_o 0))]) hx hb dX9_program_95 rfl hl (by decide) rfl (fun ls hl => ?_)
  exact Lp_ok (body := (fun (rec : (Int32 × Ob_T) → Option (Int32 × Ob_T)) x => f_X9_program_L96 rec x.1 x.2)) (out := out) (fun x => ∀ (H : Heap) (locs : List Loc) (ls : Array Slot), K_S D A s (wd_X9 aC a_o x.2) H locs → lv_has ls 2 [(0, .ref (a_o 0)), (1, .int x.1)] → W p l e (R_m 8 180) s m args below meth c H locs 0 0 (MQ below (Q_W (some (.int out.1)) D A (wd_X9 aC a_o out.2)) args s 0 0 A) (F0 m 96 ls [])) (fun rec hrec x h H locs ls hZ hl => t_X9_program_L96 hX hr hrec x.1 x.2 h H locs ls hZ hl) FU_ ((0 : Int32), o10) h H locs ls hZ (lv_sub hl [1, 0] rfl)
set_option maxHeartbeats 4000000 in
set_option maxRecDepth 100000 in
theorem t_X9_program_J37 {p : Program} {l : Launch} {e : Env} {s : State} {m : MethodId} {args : Array Value} {below : List Frame} {meth : Method} {c : Code} {D : va_G} {aC : Nat → ClassId} {A : Nat → Prop} {a_o : Nat → Nat} {out : Int32 × Ob_T} (hX : K_X p s m args meth c cX9_program 2 WL_ RX9 D aC A) (hr : meth.sig.returnType = (some .int)) (s_o : Ob_T) (h : f_X9_program_J37 s_o = some out) (H : Heap) (locs : List Loc) (ls : Array Slot) (hZ : K_S D A s (wd_X9 aC a_o s_o) H locs) (hl : lv_has ls 2 [(0, .ref (a_o 0))]) : W p l e (R_m 8 180) s m args below meth c H locs 0 0 (MQ below (Q_W (some (.int out.1)) D A (wd_X9 aC a_o out.2)) args s 0 0 A) (F0 m 37 ls []) := by
  obtain ⟨hx, hb, hml, hown, hts, hK, hA, hlk⟩ := id hX
  unfold f_X9_program_J37 at h
  refine lv_aload_n hx hb dX9_program_37 rfl (lv_at hl 0 rfl) ?_
  refine lv_aload_n hx hb dX9_program_38 rfl (lv_at hl 0 rfl) ?_
  refine k_get hX hZ.1 0 9 rfl rfl iw_X9 3 rfl (wm_42) (v := .int (o_F s_o 3)) rfl dX9_program_39 ?_
  refine k_put (wf := (fun o => wd_X9 aC a_o o)) (o := s_o) hX hZ 0 9 rfl rfl iw_X9 tyX9 tyX9_ok nmX9 2 rfl (wm_108) rfl rfl rfl rfl rfl h dX9_program_42 (fun o4 H locs hZ h => ?_)
  refine lv_aload_n hx hb dX9_program_45 rfl (lv_at hl 0 rfl) ?_
  refine lv_iconst (v := 0) hx hb dX9_program_46 (by decide) ?_
  refine k_put (wf := (fun o => wd_X9 aC a_o o)) (o := o4) hX hZ 0 9 rfl rfl iw_X9 tyX9 tyX9_ok nmX9 10 rfl (wm_8) rfl rfl rfl rfl rfl h dX9_program_47 (fun o5 H locs hZ h => ?_)
  refine lv_iconst (v := 0) hx hb dX9_program_50 (by decide) ?_
  refine lv_istore_n (lv' := [(1, .int (0 : Int32)), (0, .ref (a_o 0))]) hx hb dX9_program_51 rfl hl (by decide) rfl (fun ls hl => ?_)
  exact Lp_ok (body := (fun (rec : (Int32 × Ob_T) → Option (Int32 × Ob_T)) x => f_X9_program_L52 (fun t_o => f_X9_program_J70 t_o) rec x.1 x.2)) (out := out) (fun x => ∀ (H : Heap) (locs : List Loc) (ls : Array Slot), K_S D A s (wd_X9 aC a_o x.2) H locs → lv_has ls 2 [(0, .ref (a_o 0)), (1, .int x.1)] → W p l e (R_m 8 180) s m args below meth c H locs 0 0 (MQ below (Q_W (some (.int out.1)) D A (wd_X9 aC a_o out.2)) args s 0 0 A) (F0 m 52 ls [])) (fun rec hrec x h H locs ls hZ hl => t_X9_program_L52 hX hr (fun t_o h H locs ls hZ hl => t_X9_program_J70 hX hr t_o h H locs ls hZ (lv_sub hl [0] rfl)) hrec x.1 x.2 h H locs ls hZ hl) FU_ ((0 : Int32), o5) h H locs ls hZ (lv_sub hl [1, 0] rfl)
set_option maxHeartbeats 4000000 in
set_option maxRecDepth 100000 in
theorem c_X9_program {l : Launch} {D : va_G} {aC : Nat → ClassId} {a_o : Nat → Nat} (s_o : Ob_T) {out : Int32 × Ob_T} (h : f_X9_program s_o = some out) : M_W l yX9_program wlX9_program 8 180 D aC [.ref (a_o 0)] (wd_X9 aC a_o s_o) (some (.int out.1)) (wd_X9 aC a_o out.2) := by
  refine k_entW (cc := cX9_program) (ret := (some .int)) (maxL := 2) (own := RX9) (by decide) rfl rfl rfl ?_
  intro p e s m below meth c A ls hX hr hZ hl
  have hl : lv_has ls 2 [(0, .ref (a_o 0))] := hl
  generalize ([.ref (a_o 0)] : List Value).toArray = args at hX ⊢
  obtain ⟨hx, hb, hml, hown, hts, hK, hA, hlk⟩ := id hX
  unfold f_X9_program at h
  generalize s.heap = H at hZ ⊢
  generalize ([] : List Loc) = locs at hZ ⊢
  refine lv_aload_n hx hb dX9_program_0 rfl (lv_at hl 0 rfl) ?_
  obtain ⟨u1, hu, h⟩ := k_bd h
  refine k_vWs (As := []) (rest := []) (v := some (.int u1.1)) (st1 := [.int u1.1]) hX hl.1 hZ (c_X9_reads (a_o := a_o) s_o hu) (gv_ wm_114 wm_116 wm_117 wm_11 wm_115) rfl hd_X9_reads ⟨rfl, rfl⟩ 9 0 rfl rfl rfl rfl rfl dX9_program_1 rfl ⟨rfl, rfl⟩ rfl (fun H locs hZ => ?_)
  clear hu
  refine lv_if_ne (tgt := 10) hx hb dX9_program_4 (by decide) (fun cd => ?_) (fun cd => ?_)
  · replace h := k_f cd h
    clear cd
    refine lv_iconst (v := 0) hx hb dX9_program_10 (by decide) ?_
    refine lv_istore_n (lv' := [(1, .int (0 : Int32)), (0, .ref (a_o 0))]) hx hb dX9_program_11 rfl hl (by decide) rfl (fun ls hl => ?_)
    exact Lp_ok (body := (fun (rec : (Int32 × Ob_T) → Option (Int32 × Ob_T)) x => f_X9_program_L12 (fun t_o => f_X9_program_J37 t_o) rec x.1 x.2)) (out := out) (fun x => ∀ (H : Heap) (locs : List Loc) (ls : Array Slot), K_S D A s (wd_X9 aC a_o x.2) H locs → lv_has ls 2 [(0, .ref (a_o 0)), (1, .int x.1)] → W p l e (R_m 8 180) s m args below meth c H locs 0 0 (MQ below (Q_W (some (.int out.1)) D A (wd_X9 aC a_o out.2)) args s 0 0 A) (F0 m 12 ls [])) (fun rec hrec x h H locs ls hZ hl => t_X9_program_L12 hX hr (fun t_o h H locs ls hZ hl => t_X9_program_J37 hX hr t_o h H locs ls hZ (lv_sub hl [0] rfl)) hrec x.1 x.2 h H locs ls hZ hl) FU_ ((0 : Int32), u1.2) h H locs ls hZ (lv_sub hl [1, 0] rfl)
  · replace h := k_t cd h
    clear cd
    refine lv_bipush (v := -4) hx hb dX9_program_7 (by decide) ?_
    cases h
    exact k_iretW hX hr hZ dX9_program_9
