def wlX9_become : List Cond := .code yX9_become cX9_become 4 none :: WL_
theorem hd_X9_become : yX9_become.cls = RX9 ∧ yX9_become.cls ≠ "java/lang/invoke/MethodHandle" ∧ yX9_become.cls ≠ "java/lang/invoke/VarHandle" ∧ (parseMethodDescriptor yX9_become.desc).map (fun d => d.parameters.length) = some 2 := by decide +kernel
theorem dX9_become_0 : decode cX9_become 0 = .ok (.aload_n 0, 1) := by decide +kernel
theorem dX9_become_1 : decode cX9_become 1 = .ok (.getfield 182, 3) := by decide +kernel
theorem dX9_become_4 : decode cX9_become 4 = .ok (.bipush 8, 2) := by decide +kernel
theorem dX9_become_6 : decode cX9_become 6 = .ok (.if_icmp .ne 41, 3) := by decide +kernel
theorem dX9_become_9 : decode cX9_become 9 = .ok (.iconst 0, 1) := by decide +kernel
theorem dX9_become_10 : decode cX9_become 10 = .ok (.istore_n 3, 1) := by decide +kernel
theorem dX9_become_11 : decode cX9_become 11 = .ok (.iload_n 3, 1) := by decide +kernel
theorem dX9_become_12 : decode cX9_become 12 = .ok (.bipush 28, 2) := by decide +kernel
theorem dX9_become_14 : decode cX9_become 14 = .ok (.if_icmp .ge 23, 3) := by decide +kernel
theorem dX9_become_17 : decode cX9_become 17 = .ok (.aload_n 0, 1) := by decide +kernel
theorem dX9_become_18 : decode cX9_become 18 = .ok (.getfield 19, 3) := by decide +kernel
theorem dX9_become_21 : decode cX9_become 21 = .ok (.iload_n 3, 1) := by decide +kernel
theorem dX9_become_22 : decode cX9_become 22 = .ok (.aload_n 0, 1) := by decide +kernel
theorem dX9_become_23 : decode cX9_become 23 = .ok (.getfield 19, 3) := by decide +kernel
theorem dX9_become_26 : decode cX9_become 26 = .ok (.iload_n 3, 1) := by decide +kernel
theorem dX9_become_27 : decode cX9_become 27 = .ok (.iconst 4, 1) := by decide +kernel
theorem dX9_become_28 : decode cX9_become 28 = .ok (.iadd, 1) := by decide +kernel
theorem dX9_become_29 : decode cX9_become 29 = .ok (.iaload, 1) := by decide +kernel
theorem dX9_become_30 : decode cX9_become 30 = .ok (.iastore, 1) := by decide +kernel
theorem dX9_become_31 : decode cX9_become 31 = .ok (.iinc 3 1, 3) := by decide +kernel
theorem dX9_become_34 : decode cX9_become 34 = .ok (.goto (-23), 3) := by decide +kernel
theorem dX9_become_37 : decode cX9_become 37 = .ok (.aload_n 0, 1) := by decide +kernel
theorem dX9_become_38 : decode cX9_become 38 = .ok (.dup, 1) := by decide +kernel
theorem dX9_become_39 : decode cX9_become 39 = .ok (.getfield 182, 3) := by decide +kernel
theorem dX9_become_42 : decode cX9_become 42 = .ok (.iconst 1, 1) := by decide +kernel
theorem dX9_become_43 : decode cX9_become 43 = .ok (.isub, 1) := by decide +kernel
theorem dX9_become_44 : decode cX9_become 44 = .ok (.putfield 182, 3) := by decide +kernel
theorem dX9_become_47 : decode cX9_become 47 = .ok (.iconst 0, 1) := by decide +kernel
theorem dX9_become_48 : decode cX9_become 48 = .ok (.istore_n 3, 1) := by decide +kernel
theorem dX9_become_49 : decode cX9_become 49 = .ok (.iload_n 3, 1) := by decide +kernel
theorem dX9_become_50 : decode cX9_become 50 = .ok (.iconst 4, 1) := by decide +kernel
theorem dX9_become_51 : decode cX9_become 51 = .ok (.if_icmp .ge 28, 3) := by decide +kernel
theorem dX9_become_54 : decode cX9_become 54 = .ok (.aload_n 0, 1) := by decide +kernel
theorem dX9_become_55 : decode cX9_become 55 = .ok (.getfield 19, 3) := by decide +kernel
theorem dX9_become_58 : decode cX9_become 58 = .ok (.iconst 4, 1) := by decide +kernel
theorem dX9_become_59 : decode cX9_become 59 = .ok (.aload_n 0, 1) := by decide +kernel
theorem dX9_become_60 : decode cX9_become 60 = .ok (.getfield 182, 3) := by decide +kernel
theorem dX9_become_63 : decode cX9_become 63 = .ok (.imul, 1) := by decide +kernel
theorem dX9_become_64 : decode cX9_become 64 = .ok (.iload_n 3, 1) := by decide +kernel
theorem dX9_become_65 : decode cX9_become 65 = .ok (.iadd, 1) := by decide +kernel
theorem dX9_become_66 : decode cX9_become 66 = .ok (.aload_n 0, 1) := by decide +kernel
theorem dX9_become_67 : decode cX9_become 67 = .ok (.getfield 16, 3) := by decide +kernel
theorem dX9_become_70 : decode cX9_become 70 = .ok (.iload_n 3, 1) := by decide +kernel
theorem dX9_become_71 : decode cX9_become 71 = .ok (.iaload, 1) := by decide +kernel
theorem dX9_become_72 : decode cX9_become 72 = .ok (.iastore, 1) := by decide +kernel
theorem dX9_become_73 : decode cX9_become 73 = .ok (.iinc 3 1, 3) := by decide +kernel
theorem dX9_become_76 : decode cX9_become 76 = .ok (.goto (-27), 3) := by decide +kernel
theorem dX9_become_79 : decode cX9_become 79 = .ok (.aload_n 0, 1) := by decide +kernel
theorem dX9_become_80 : decode cX9_become 80 = .ok (.dup, 1) := by decide +kernel
theorem dX9_become_81 : decode cX9_become 81 = .ok (.getfield 182, 3) := by decide +kernel
theorem dX9_become_84 : decode cX9_become 84 = .ok (.iconst 1, 1) := by decide +kernel
theorem dX9_become_85 : decode cX9_become 85 = .ok (.iadd, 1) := by decide +kernel
theorem dX9_become_86 : decode cX9_become 86 = .ok (.putfield 182, 3) := by decide +kernel
theorem dX9_become_89 : decode cX9_become 89 = .ok (.aload_n 0, 1) := by decide +kernel
theorem dX9_become_90 : decode cX9_become 90 = .ok (.getfield 16, 3) := by decide +kernel
theorem dX9_become_93 : decode cX9_become 93 = .ok (.iload_n 1, 1) := by decide +kernel
theorem dX9_become_94 : decode cX9_become 94 = .ok (.iload_n 2, 1) := by decide +kernel
theorem dX9_become_95 : decode cX9_become 95 = .ok (.iastore, 1) := by decide +kernel
theorem dX9_become_96 : decode cX9_become 96 = .ok (.return_, 1) := by decide +kernel
set_option maxHeartbeats 4000000 in
set_option maxRecDepth 100000 in
theorem t_X9_become_L49 {p : Program} {l : Launch} {e : Env} {s : State} {m : MethodId} {args : Array Value} {below : List Frame} {meth : Method} {c : Code} {D : va_G} {aC : Nat → ClassId} {A : Nat → Prop} {a_o : Nat → Nat} {out : Ob_T} {k79 : Int32 → Int32 → Ob_T → Option Ob_T} {rec49 : (Int32 × Int32 × Int32 × Ob_T) → Option Ob_T} (hX : K_X p s m args meth c cX9_become 4 WL_ RX9 D aC A) (hr : meth.sig.returnType = none) (hk79 : ∀ (y1 : Int32) (y2 : Int32) (t_o : Ob_T), k79 y1 y2 t_o = some out → ∀ (H : Heap) (locs : List Loc) (ls : Array Slot), K_S D A s (wd_X9 aC a_o t_o) H locs → lv_has ls 4 [(0, .ref (a_o 0)), (1, .int y1), (2, .int y2)] → W p l e (R_m 0 0) s m args below meth c H locs 0 0 (MQ below (Q_W (none) D A (wd_X9 aC a_o out)) args s 0 0 A) (F0 m 79 ls [])) (hrec49 : ∀ x : Int32 × Int32 × Int32 × Ob_T, rec49 x = some out → ∀ (H : Heap) (locs : List Loc) (ls : Array Slot), K_S D A s (wd_X9 aC a_o x.2.2.2) H locs → lv_has ls 4 [(0, .ref (a_o 0)), (1, .int x.1), (2, .int x.2.1), (3, .int x.2.2.1)] → W p l e (R_m 0 0) s m args below meth c H locs 0 0 (MQ below (Q_W (none) D A (wd_X9 aC a_o out)) args s 0 0 A) (F0 m 49 ls [])) (x1 : Int32) (x2 : Int32) (x3 : Int32) (s_o : Ob_T) (h : f_X9_become_L49 k79 rec49 x1 x2 x3 s_o = some out) (H : Heap) (locs : List Loc) (ls : Array Slot) (hZ : K_S D A s (wd_X9 aC a_o s_o) H locs) (hl : lv_has ls 4 [(0, .ref (a_o 0)), (1, .int x1), (2, .int x2), (3, .int x3)]) : W p l e (R_m 0 0) s m args below meth c H locs 0 0 (MQ below (Q_W (none) D A (wd_X9 aC a_o out)) args s 0 0 A) (F0 m 49 ls []) := by
  obtain ⟨hx, hb, hml, hown, hts, hK, hA, hlk⟩ := id hX
  unfold f_X9_become_L49 at h
  refine lv_iload_n hx hb dX9_become_49 rfl (lv_at hl 3 rfl) ?_
  refine lv_iconst (v := 4) hx hb dX9_become_50 (by decide) ?_
  refine lv_icmp_ge (tgt := 79) hx hb dX9_become_51 (by decide) (fun cd => ?_) (fun cd => ?_)
  · replace h := k_t cd h
    clear cd
    exact hk79 x1 x2 s_o h H locs ls hZ (lv_sub hl [0, 1, 2] rfl)
  · replace h := k_f cd h
    clear cd
    refine lv_aload_n hx hb dX9_become_54 rfl (lv_at hl 0 rfl) ?_
    refine k_get hX hZ.1 0 9 rfl rfl iw_X9 5 rfl (wm_216) (v := .ref (a_o 4)) rfl dX9_become_55 ?_
    refine lv_iconst (v := 4) hx hb dX9_become_58 (by decide) ?_
    refine lv_aload_n hx hb dX9_become_59 rfl (lv_at hl 0 rfl) ?_
    refine k_get hX hZ.1 0 9 rfl rfl iw_X9 6 rfl (wm_122) (v := .int (o_F s_o 6)) rfl dX9_become_60 ?_
    refine lv_imul hx hb dX9_become_63 ?_
    refine lv_iload_n hx hb dX9_become_64 rfl (lv_at hl 3 rfl) ?_
    refine lv_iadd hx hb dX9_become_65 ?_
    refine lv_aload_n hx hb dX9_become_66 rfl (lv_at hl 0 rfl) ?_
    refine k_get hX hZ.1 0 9 rfl rfl iw_X9 4 rfl (wm_118) (v := .ref (a_o 3)) rfl dX9_become_67 ?_
    refine lv_iload_n hx hb dX9_become_70 rfl (lv_at hl 3 rfl) ?_
    refine k_iald hX hZ.1 3 rfl h dX9_become_71 (fun v1 h => ?_)
    refine k_iast (wf := (fun o => wd_X9 aC a_o o)) (o := s_o) hX hZ 4 5 rfl (fun _ => rfl) h dX9_become_72 (fun o2 H locs hZ h => ?_)
    refine lv_iinc (v := (x3 + (1 : Int32))) (lv' := [(3, .int (x3 + (1 : Int32))), (0, .ref (a_o 0)), (1, .int x1), (2, .int x2)]) hx hb dX9_become_73 hl (k := 3) rfl rfl (by decide) rfl (fun ls hl => ?_)
    refine lv_goto (tgt := 49) hx hb dX9_become_76 (by decide) ?_
    exact hrec49 (x1, x2, (x3 + (1 : Int32)), o2) h H locs ls hZ (lv_sub hl [1, 2, 3, 0] rfl)
set_option maxHeartbeats 4000000 in
set_option maxRecDepth 100000 in
theorem t_X9_become_J79 {p : Program} {l : Launch} {e : Env} {s : State} {m : MethodId} {args : Array Value} {below : List Frame} {meth : Method} {c : Code} {D : va_G} {aC : Nat → ClassId} {A : Nat → Prop} {a_o : Nat → Nat} {out : Ob_T} (hX : K_X p s m args meth c cX9_become 4 WL_ RX9 D aC A) (hr : meth.sig.returnType = none) (x1 : Int32) (x2 : Int32) (s_o : Ob_T) (h : f_X9_become_J79 x1 x2 s_o = some out) (H : Heap) (locs : List Loc) (ls : Array Slot) (hZ : K_S D A s (wd_X9 aC a_o s_o) H locs) (hl : lv_has ls 4 [(0, .ref (a_o 0)), (1, .int x1), (2, .int x2)]) : W p l e (R_m 0 0) s m args below meth c H locs 0 0 (MQ below (Q_W (none) D A (wd_X9 aC a_o out)) args s 0 0 A) (F0 m 79 ls []) := by
  obtain ⟨hx, hb, hml, hown, hts, hK, hA, hlk⟩ := id hX
  unfold f_X9_become_J79 at h
  refine lv_aload_n hx hb dX9_become_79 rfl (lv_at hl 0 rfl) ?_
  refine lv_dup hx hb dX9_become_80 rfl ?_
  refine k_get hX hZ.1 0 9 rfl rfl iw_X9 6 rfl (wm_122) (v := .int (o_F s_o 6)) rfl dX9_become_81 ?_
  refine lv_iconst (v := 1) hx hb dX9_become_84 (by decide) ?_
  refine lv_iadd hx hb dX9_become_85 ?_
  refine k_put (wf := (fun o => wd_X9 aC a_o o)) (o := s_o) hX hZ 0 9 rfl rfl iw_X9 tyX9 tyX9_ok nmX9 6 rfl (wm_122) rfl rfl rfl rfl rfl h dX9_become_86 (fun o3 H locs hZ h => ?_)
  refine lv_aload_n hx hb dX9_become_89 rfl (lv_at hl 0 rfl) ?_
  refine k_get hX hZ.1 0 9 rfl rfl iw_X9 4 rfl (wm_118) (v := .ref (a_o 3)) rfl dX9_become_90 ?_
  refine lv_iload_n hx hb dX9_become_93 rfl (lv_at hl 1 rfl) ?_
  refine lv_iload_n hx hb dX9_become_94 rfl (lv_at hl 2 rfl) ?_
  refine k_iast (wf := (fun o => wd_X9 aC a_o o)) (o := o3) hX hZ 3 4 rfl (fun _ => rfl) h dX9_become_95 (fun o4 H locs hZ h => ?_)
  cases h
  exact k_vretW hX hr hZ dX9_become_96
set_option maxHeartbeats 4000000 in
set_option maxRecDepth 100000 in
theorem t_X9_become_J47 {p : Program} {l : Launch} {e : Env} {s : State} {m : MethodId} {args : Array Value} {below : List Frame} {meth : Method} {c : Code} {D : va_G} {aC : Nat → ClassId} {A : Nat → Prop} {a_o : Nat → Nat} {out : Ob_T} (hX : K_X p s m args meth c cX9_become 4 WL_ RX9 D aC A) (hr : meth.sig.returnType = none) (x1 : Int32) (x2 : Int32) (s_o : Ob_T) (h : f_X9_become_J47 x1 x2 s_o = some out) (H : Heap) (locs : List Loc) (ls : Array Slot) (hZ : K_S D A s (wd_X9 aC a_o s_o) H locs) (hl : lv_has ls 4 [(0, .ref (a_o 0)), (1, .int x1), (2, .int x2)]) : W p l e (R_m 0 0) s m args below meth c H locs 0 0 (MQ below (Q_W (none) D A (wd_X9 aC a_o out)) args s 0 0 A) (F0 m 47 ls []) := by
  obtain ⟨hx, hb, hml, hown, hts, hK, hA, hlk⟩ := id hX
  unfold f_X9_become_J47 at h
  refine lv_iconst (v := 0) hx hb dX9_become_47 (by decide) ?_
  refine lv_istore_n (lv' := [(3, .int (0 : Int32)), (0, .ref (a_o 0)), (1, .int x1), (2, .int x2)]) hx hb dX9_become_48 rfl hl (by decide) rfl (fun ls hl => ?_)
  exact Lp_ok (body := (fun (rec : (Int32 × Int32 × Int32 × Ob_T) → Option Ob_T) x => f_X9_become_L49 (fun y1 y2 t_o => f_X9_become_J79 y1 y2 t_o) rec x.1 x.2.1 x.2.2.1 x.2.2.2)) (out := out) (fun x => ∀ (H : Heap) (locs : List Loc) (ls : Array Slot), K_S D A s (wd_X9 aC a_o x.2.2.2) H locs → lv_has ls 4 [(0, .ref (a_o 0)), (1, .int x.1), (2, .int x.2.1), (3, .int x.2.2.1)] → W p l e (R_m 0 0) s m args below meth c H locs 0 0 (MQ below (Q_W (none) D A (wd_X9 aC a_o out)) args s 0 0 A) (F0 m 49 ls [])) (fun rec hrec x h H locs ls hZ hl => t_X9_become_L49 hX hr (fun y1 y2 t_o h H locs ls hZ hl => t_X9_become_J79 hX hr y1 y2 t_o h H locs ls hZ (lv_sub hl [0, 1, 2] rfl)) hrec x.1 x.2.1 x.2.2.1 x.2.2.2 h H locs ls hZ hl) FU_ (x1, x2, (0 : Int32), s_o) h H locs ls hZ (lv_sub hl [1, 2, 3, 0] rfl)
set_option maxHeartbeats 4000000 in
set_option maxRecDepth 100000 in
theorem t_X9_become_L11 {p : Program} {l : Launch} {e : Env} {s : State} {m : MethodId} {args : Array Value} {below : List Frame} {meth : Method} {c : Code} {D : va_G} {aC : Nat → ClassId} {A : Nat → Prop} {a_o : Nat → Nat} {out : Ob_T} {k37 : Int32 → Int32 → Ob_T → Option Ob_T} {rec11 : (Int32 × Int32 × Int32 × Ob_T) → Option Ob_T} (hX : K_X p s m args meth c cX9_become 4 WL_ RX9 D aC A) (hr : meth.sig.returnType = none) (hk37 : ∀ (y1 : Int32) (y2 : Int32) (t_o : Ob_T), k37 y1 y2 t_o = some out → ∀ (H : Heap) (locs : List Loc) (ls : Array Slot), K_S D A s (wd_X9 aC a_o t_o) H locs → lv_has ls 4 [(0, .ref (a_o 0)), (1, .int y1), (2, .int y2)] → W p l e (R_m 0 0) s m args below meth c H locs 0 0 (MQ below (Q_W (none) D A (wd_X9 aC a_o out)) args s 0 0 A) (F0 m 37 ls [])) (hrec11 : ∀ x : Int32 × Int32 × Int32 × Ob_T, rec11 x = some out → ∀ (H : Heap) (locs : List Loc) (ls : Array Slot), K_S D A s (wd_X9 aC a_o x.2.2.2) H locs → lv_has ls 4 [(0, .ref (a_o 0)), (1, .int x.1), (2, .int x.2.1), (3, .int x.2.2.1)] → W p l e (R_m 0 0) s m args below meth c H locs 0 0 (MQ below (Q_W (none) D A (wd_X9 aC a_o out)) args s 0 0 A) (F0 m 11 ls [])) (x1 : Int32) (x2 : Int32) (x3 : Int32) (s_o : Ob_T) (h : f_X9_become_L11 k37 rec11 x1 x2 x3 s_o = some out) (H : Heap) (locs : List Loc) (ls : Array Slot) (hZ : K_S D A s (wd_X9 aC a_o s_o) H locs) (hl : lv_has ls 4 [(0, .ref (a_o 0)), (1, .int x1), (2, .int x2), (3, .int x3)]) : W p l e (R_m 0 0) s m args below meth c H locs 0 0 (MQ below (Q_W (none) D A (wd_X9 aC a_o out)) args s 0 0 A) (F0 m 11 ls []) := by
  obtain ⟨hx, hb, hml, hown, hts, hK, hA, hlk⟩ := id hX
  unfold f_X9_become_L11 at h
  refine lv_iload_n hx hb dX9_become_11 rfl (lv_at hl 3 rfl) ?_
  refine lv_bipush (v := 28) hx hb dX9_become_12 (by decide) ?_
  refine lv_icmp_ge (tgt := 37) hx hb dX9_become_14 (by decide) (fun cd => ?_) (fun cd => ?_)
  · replace h := k_t cd h
    clear cd
    exact hk37 x1 x2 s_o h H locs ls hZ (lv_sub hl [0, 1, 2] rfl)
  · replace h := k_f cd h
    clear cd
    refine lv_aload_n hx hb dX9_become_17 rfl (lv_at hl 0 rfl) ?_
    refine k_get hX hZ.1 0 9 rfl rfl iw_X9 5 rfl (wm_216) (v := .ref (a_o 4)) rfl dX9_become_18 ?_
    refine lv_iload_n hx hb dX9_become_21 rfl (lv_at hl 3 rfl) ?_
    refine lv_aload_n hx hb dX9_become_22 rfl (lv_at hl 0 rfl) ?_
    refine k_get hX hZ.1 0 9 rfl rfl iw_X9 5 rfl (wm_216) (v := .ref (a_o 4)) rfl dX9_become_23 ?_
    refine lv_iload_n hx hb dX9_become_26 rfl (lv_at hl 3 rfl) ?_
    refine lv_iconst (v := 4) hx hb dX9_become_27 (by decide) ?_
    refine lv_iadd hx hb dX9_become_28 ?_
    refine k_iald hX hZ.1 4 rfl h dX9_become_29 (fun v5 h => ?_)
    refine k_iast (wf := (fun o => wd_X9 aC a_o o)) (o := s_o) hX hZ 4 5 rfl (fun _ => rfl) h dX9_become_30 (fun o6 H locs hZ h => ?_)
    refine lv_iinc (v := (x3 + (1 : Int32))) (lv' := [(3, .int (x3 + (1 : Int32))), (0, .ref (a_o 0)), (1, .int x1), (2, .int x2)]) hx hb dX9_become_31 hl (k := 3) rfl rfl (by decide) rfl (fun ls hl => ?_)
    refine lv_goto (tgt := 11) hx hb dX9_become_34 (by decide) ?_
    exact hrec11 (x1, x2, (x3 + (1 : Int32)), o6) h H locs ls hZ (lv_sub hl [1, 2, 3, 0] rfl)
set_option maxHeartbeats 4000000 in
set_option maxRecDepth 100000 in
theorem t_X9_become_J37 {p : Program} {l : Launch} {e : Env} {s : State} {m : MethodId} {args : Array Value} {below : List Frame} {meth : Method} {c : Code} {D : va_G} {aC : Nat → ClassId} {A : Nat → Prop} {a_o : Nat → Nat} {out : Ob_T} (hX : K_X p s m args meth c cX9_become 4 WL_ RX9 D aC A) (hr : meth.sig.returnType = none) (x1 : Int32) (x2 : Int32) (s_o : Ob_T) (h : f_X9_become_J37 x1 x2 s_o = some out) (H : Heap) (locs : List Loc) (ls : Array Slot) (hZ : K_S D A s (wd_X9 aC a_o s_o) H locs) (hl : lv_has ls 4 [(0, .ref (a_o 0)), (1, .int x1), (2, .int x2)]) : W p l e (R_m 0 0) s m args below meth c H locs 0 0 (MQ below (Q_W (none) D A (wd_X9 aC a_o out)) args s 0 0 A) (F0 m 37 ls []) := by
  obtain ⟨hx, hb, hml, hown, hts, hK, hA, hlk⟩ := id hX
  unfold f_X9_become_J37 at h
  refine lv_aload_n hx hb dX9_become_37 rfl (lv_at hl 0 rfl) ?_
  refine lv_dup hx hb dX9_become_38 rfl ?_
  refine k_get hX hZ.1 0 9 rfl rfl iw_X9 6 rfl (wm_122) (v := .int (o_F s_o 6)) rfl dX9_become_39 ?_
  refine lv_iconst (v := 1) hx hb dX9_become_42 (by decide) ?_
  refine lv_isub hx hb dX9_become_43 ?_
  refine k_put (wf := (fun o => wd_X9 aC a_o o)) (o := s_o) hX hZ 0 9 rfl rfl iw_X9 tyX9 tyX9_ok nmX9 6 rfl (wm_122) rfl rfl rfl rfl rfl h dX9_become_44 (fun o7 H locs hZ h => ?_)
  exact t_X9_become_J47 hX hr x1 x2 o7 h H locs ls hZ (lv_sub hl [0, 1, 2] rfl)
set_option maxHeartbeats 4000000 in
set_option maxRecDepth 100000 in
theorem c_X9_become {l : Launch} {D : va_G} {aC : Nat → ClassId} {a_o : Nat → Nat} (s_o : Ob_T) (x1 : Int32) (x2 : Int32) {out : Ob_T} (h : f_X9_become s_o x1 x2 = some out) : M_W l yX9_become wlX9_become 0 0 D aC [.ref (a_o 0), .int x1, .int x2] (wd_X9 aC a_o s_o) (none) (wd_X9 aC a_o out) := by
  refine k_entW (cc := cX9_become) (ret := none) (maxL := 4) (own := RX9) (by decide) rfl rfl rfl ?_
  intro p e s m below meth c A ls hX hr hZ hl
  have hl : lv_has ls 4 [(0, .ref (a_o 0)), (1, .int x1), (2, .int x2)] := hl
  generalize ([.ref (a_o 0), .int x1, .int x2] : List Value).toArray = args at hX ⊢
  obtain ⟨hx, hb, hml, hown, hts, hK, hA, hlk⟩ := id hX
  unfold f_X9_become at h
  generalize s.heap = H at hZ ⊢
  generalize ([] : List Loc) = locs at hZ ⊢
  refine lv_aload_n hx hb dX9_become_0 rfl (lv_at hl 0 rfl) ?_
  refine k_get hX hZ.1 0 9 rfl rfl iw_X9 6 rfl (wm_122) (v := .int (o_F s_o 6)) rfl dX9_become_1 ?_
  refine lv_bipush (v := 8) hx hb dX9_become_4 (by decide) ?_
  refine lv_icmp_ne (tgt := 47) hx hb dX9_become_6 (by decide) (fun cd => ?_) (fun cd => ?_)
  · replace h := k_f cd h
    clear cd
    exact t_X9_become_J47 hX hr x1 x2 s_o h H locs ls hZ (lv_sub hl [0, 1, 2] rfl)
  · replace h := k_t cd h
    clear cd
    refine lv_iconst (v := 0) hx hb dX9_become_9 (by decide) ?_
    refine lv_istore_n (lv' := [(3, .int (0 : Int32)), (0, .ref (a_o 0)), (1, .int x1), (2, .int x2)]) hx hb dX9_become_10 rfl hl (by decide) rfl (fun ls hl => ?_)
    exact Lp_ok (body := (fun (rec : (Int32 × Int32 × Int32 × Ob_T) → Option Ob_T) x => f_X9_become_L11 (fun y1 y2 t_o => f_X9_become_J37 y1 y2 t_o) rec x.1 x.2.1 x.2.2.1 x.2.2.2)) (out := out) (fun x => ∀ (H : Heap) (locs : List Loc) (ls : Array Slot), K_S D A s (wd_X9 aC a_o x.2.2.2) H locs → lv_has ls 4 [(0, .ref (a_o 0)), (1, .int x.1), (2, .int x.2.1), (3, .int x.2.2.1)] → W p l e (R_m 0 0) s m args below meth c H locs 0 0 (MQ below (Q_W (none) D A (wd_X9 aC a_o out)) args s 0 0 A) (F0 m 11 ls [])) (fun rec hrec x h H locs ls hZ hl => t_X9_become_L11 hX hr (fun y1 y2 t_o h H locs ls hZ hl => t_X9_become_J37 hX hr y1 y2 t_o h H locs ls hZ (lv_sub hl [0, 1, 2] rfl)) hrec x.1 x.2.1 x.2.2.1 x.2.2.2 h H locs ls hZ hl) FU_ (x1, x2, (0 : Int32), s_o) h H locs ls hZ (lv_sub hl [1, 2, 3, 0] rfl)
