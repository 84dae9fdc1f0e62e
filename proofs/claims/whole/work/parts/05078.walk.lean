def wlX5_meetAll : List Cond := .code yX5_meetAll cX5_meetAll 4 none :: WL_
theorem hd_X5_meetAll : yX5_meetAll.cls = RX5 ∧ yX5_meetAll.cls ≠ "java/lang/invoke/MethodHandle" ∧ yX5_meetAll.cls ≠ "java/lang/invoke/VarHandle" ∧ (parseMethodDescriptor yX5_meetAll.desc).map (fun d => d.parameters.length) = some 1 := by decide +kernel
theorem dX5_meetAll_0 : decode cX5_meetAll 0 = .ok (.aload_n 0, 1) := by decide +kernel
theorem dX5_meetAll_1 : decode cX5_meetAll 1 = .ok (.invokevirtual 67, 3) := by decide +kernel
theorem dX5_meetAll_4 : decode cX5_meetAll 4 = .ok (.iconst 0, 1) := by decide +kernel
theorem dX5_meetAll_5 : decode cX5_meetAll 5 = .ok (.istore_n 2, 1) := by decide +kernel
theorem dX5_meetAll_6 : decode cX5_meetAll 6 = .ok (.iload_n 2, 1) := by decide +kernel
theorem dX5_meetAll_7 : decode cX5_meetAll 7 = .ok (.bipush 14, 2) := by decide +kernel
theorem dX5_meetAll_9 : decode cX5_meetAll 9 = .ok (.if_icmp .ge 34, 3) := by decide +kernel
theorem dX5_meetAll_12 : decode cX5_meetAll 12 = .ok (.aload_n 0, 1) := by decide +kernel
theorem dX5_meetAll_13 : decode cX5_meetAll 13 = .ok (.getfield 18, 3) := by decide +kernel
theorem dX5_meetAll_16 : decode cX5_meetAll 16 = .ok (.iload_n 2, 1) := by decide +kernel
theorem dX5_meetAll_17 : decode cX5_meetAll 17 = .ok (.iload_n 2, 1) := by decide +kernel
theorem dX5_meetAll_18 : decode cX5_meetAll 18 = .ok (.iastore, 1) := by decide +kernel
theorem dX5_meetAll_19 : decode cX5_meetAll 19 = .ok (.aload_n 0, 1) := by decide +kernel
theorem dX5_meetAll_20 : decode cX5_meetAll 20 = .ok (.getfield 22, 3) := by decide +kernel
theorem dX5_meetAll_23 : decode cX5_meetAll 23 = .ok (.iload_n 2, 1) := by decide +kernel
theorem dX5_meetAll_24 : decode cX5_meetAll 24 = .ok (.iload_n 2, 1) := by decide +kernel
theorem dX5_meetAll_25 : decode cX5_meetAll 25 = .ok (.iconst 4, 1) := by decide +kernel
theorem dX5_meetAll_26 : decode cX5_meetAll 26 = .ok (.if_icmp .ge 9, 3) := by decide +kernel
theorem dX5_meetAll_29 : decode cX5_meetAll 29 = .ok (.aload_n 1, 1) := by decide +kernel
theorem dX5_meetAll_30 : decode cX5_meetAll 30 = .ok (.iload_n 2, 1) := by decide +kernel
theorem dX5_meetAll_31 : decode cX5_meetAll 31 = .ok (.iaload, 1) := by decide +kernel
theorem dX5_meetAll_32 : decode cX5_meetAll 32 = .ok (.goto 4, 3) := by decide +kernel
theorem dX5_meetAll_35 : decode cX5_meetAll 35 = .ok (.iconst (-1), 1) := by decide +kernel
theorem dX5_meetAll_36 : decode cX5_meetAll 36 = .ok (.iastore, 1) := by decide +kernel
theorem dX5_meetAll_37 : decode cX5_meetAll 37 = .ok (.iinc 2 1, 3) := by decide +kernel
theorem dX5_meetAll_40 : decode cX5_meetAll 40 = .ok (.goto (-34), 3) := by decide +kernel
theorem dX5_meetAll_43 : decode cX5_meetAll 43 = .ok (.iconst 0, 1) := by decide +kernel
theorem dX5_meetAll_44 : decode cX5_meetAll 44 = .ok (.istore_n 2, 1) := by decide +kernel
theorem dX5_meetAll_45 : decode cX5_meetAll 45 = .ok (.iload_n 2, 1) := by decide +kernel
theorem dX5_meetAll_46 : decode cX5_meetAll 46 = .ok (.aload_n 0, 1) := by decide +kernel
theorem dX5_meetAll_47 : decode cX5_meetAll 47 = .ok (.getfield 31, 3) := by decide +kernel
theorem dX5_meetAll_50 : decode cX5_meetAll 50 = .ok (.invokevirtual 46, 3) := by decide +kernel
theorem dX5_meetAll_53 : decode cX5_meetAll 53 = .ok (.if_icmp .ge 55, 3) := by decide +kernel
theorem dX5_meetAll_56 : decode cX5_meetAll 56 = .ok (.aload_n 0, 1) := by decide +kernel
theorem dX5_meetAll_57 : decode cX5_meetAll 57 = .ok (.invokevirtual 70, 3) := by decide +kernel
theorem dX5_meetAll_60 : decode cX5_meetAll 60 = .ok (.ifCond .ne 48, 3) := by decide +kernel
theorem dX5_meetAll_63 : decode cX5_meetAll 63 = .ok (.aload_n 0, 1) := by decide +kernel
theorem dX5_meetAll_64 : decode cX5_meetAll 64 = .ok (.getfield 31, 3) := by decide +kernel
theorem dX5_meetAll_67 : decode cX5_meetAll 67 = .ok (.iload_n 2, 1) := by decide +kernel
theorem dX5_meetAll_68 : decode cX5_meetAll 68 = .ok (.invokevirtual 74, 3) := by decide +kernel
theorem dX5_meetAll_71 : decode cX5_meetAll 71 = .ok (.istore_n 3, 1) := by decide +kernel
theorem dX5_meetAll_72 : decode cX5_meetAll 72 = .ok (.iload_n 3, 1) := by decide +kernel
theorem dX5_meetAll_73 : decode cX5_meetAll 73 = .ok (.iconst 1, 1) := by decide +kernel
theorem dX5_meetAll_74 : decode cX5_meetAll 74 = .ok (.if_icmp .eq 8, 3) := by decide +kernel
theorem dX5_meetAll_77 : decode cX5_meetAll 77 = .ok (.iload_n 3, 1) := by decide +kernel
theorem dX5_meetAll_78 : decode cX5_meetAll 78 = .ok (.iconst 2, 1) := by decide +kernel
theorem dX5_meetAll_79 : decode cX5_meetAll 79 = .ok (.if_icmp .ne 23, 3) := by decide +kernel
theorem dX5_meetAll_82 : decode cX5_meetAll 82 = .ok (.aload_n 0, 1) := by decide +kernel
theorem dX5_meetAll_83 : decode cX5_meetAll 83 = .ok (.iload_n 2, 1) := by decide +kernel
theorem dX5_meetAll_84 : decode cX5_meetAll 84 = .ok (.invokevirtual 77, 3) := by decide +kernel
theorem dX5_meetAll_87 : decode cX5_meetAll 87 = .ok (.aload_n 0, 1) := by decide +kernel
theorem dX5_meetAll_88 : decode cX5_meetAll 88 = .ok (.iload_n 2, 1) := by decide +kernel
theorem dX5_meetAll_89 : decode cX5_meetAll 89 = .ok (.iload_n 3, 1) := by decide +kernel
theorem dX5_meetAll_90 : decode cX5_meetAll 90 = .ok (.iconst 2, 1) := by decide +kernel
theorem dX5_meetAll_91 : decode cX5_meetAll 91 = .ok (.if_icmp .ne 7, 3) := by decide +kernel
theorem dX5_meetAll_94 : decode cX5_meetAll 94 = .ok (.iconst 1, 1) := by decide +kernel
theorem dX5_meetAll_95 : decode cX5_meetAll 95 = .ok (.goto 4, 3) := by decide +kernel
theorem dX5_meetAll_98 : decode cX5_meetAll 98 = .ok (.iconst 0, 1) := by decide +kernel
theorem dX5_meetAll_99 : decode cX5_meetAll 99 = .ok (.invokevirtual 81, 3) := by decide +kernel
theorem dX5_meetAll_102 : decode cX5_meetAll 102 = .ok (.iinc 2 1, 3) := by decide +kernel
theorem dX5_meetAll_105 : decode cX5_meetAll 105 = .ok (.goto (-60), 3) := by decide +kernel
theorem dX5_meetAll_108 : decode cX5_meetAll 108 = .ok (.aload_n 0, 1) := by decide +kernel
theorem dX5_meetAll_109 : decode cX5_meetAll 109 = .ok (.getfield 22, 3) := by decide +kernel
theorem dX5_meetAll_112 : decode cX5_meetAll 112 = .ok (.iconst 0, 1) := by decide +kernel
theorem dX5_meetAll_113 : decode cX5_meetAll 113 = .ok (.aload_n 0, 1) := by decide +kernel
theorem dX5_meetAll_114 : decode cX5_meetAll 114 = .ok (.getfield 25, 3) := by decide +kernel
theorem dX5_meetAll_117 : decode cX5_meetAll 117 = .ok (.iconst 0, 1) := by decide +kernel
theorem dX5_meetAll_118 : decode cX5_meetAll 118 = .ok (.bipush 14, 2) := by decide +kernel
theorem dX5_meetAll_120 : decode cX5_meetAll 120 = .ok (.invokestatic 85, 3) := by decide +kernel
theorem dX5_meetAll_123 : decode cX5_meetAll 123 = .ok (.return_, 1) := by decide +kernel
set_option maxHeartbeats 4000000 in
set_option maxRecDepth 100000 in
theorem t_X5_meetAll_J36 {p : Program} {l : Launch} {e : Env} {s : State} {m : MethodId} {args : Array Value} {below : List Frame} {meth : Method} {c : Code} {D : va_G} {aC : Nat → ClassId} {A : Nat → Prop} {a_v a_n a_d : Nat → Nat} {q1 z1 : Nat} {f1 : Nat → Int32} {out : Ob_T} {s_n : Ob_T} {rec6 : (Int32 × Ob_T) → Option Ob_T} (hX : K_X p s m args meth c cX5_meetAll 4 WL_ RX5 D aC A) (hr : meth.sig.returnType = none) (hrec6 : ∀ x : Int32 × Ob_T, rec6 x = some out → ∀ (H : Heap) (locs : List Loc) (ls : Array Slot), K_S D A s (wd_X5 aC a_v (a_n 0) (a_d 0) x.2 ++ (wd_X1 aC a_n s_n ++ [(q1, .inl (aC 0, z1, .inl f1))])) H locs → lv_has ls 4 [(0, .ref (a_v 0)), (1, .ref q1), (2, .int x.1)] → W p l e (R_m 3 100) s m args below meth c H locs 0 0 (MQ below (Q_W (none) D A (wd_X5 aC a_v (a_n 0) (a_d 0) out ++ (wd_X1 aC a_n s_n ++ [(q1, .inl (aC 0, z1, .inl f1))]))) args s 0 0 A) (F0 m 6 ls [])) (x2 : Int32) (k1 : Int32) (k2 : Int32) (s_v : Ob_T) (h : f_X5_meetAll_J36 rec6 x2 k1 k2 s_v s_n f1 z1 = some out) (H : Heap) (locs : List Loc) (ls : Array Slot) (hZ : K_S D A s (wd_X5 aC a_v (a_n 0) (a_d 0) s_v ++ (wd_X1 aC a_n s_n ++ [(q1, .inl (aC 0, z1, .inl f1))])) H locs) (hl : lv_has ls 4 [(0, .ref (a_v 0)), (1, .ref q1), (2, .int x2)]) : W p l e (R_m 3 100) s m args below meth c H locs 0 0 (MQ below (Q_W (none) D A (wd_X5 aC a_v (a_n 0) (a_d 0) out ++ (wd_X1 aC a_n s_n ++ [(q1, .inl (aC 0, z1, .inl f1))]))) args s 0 0 A) (F0 m 36 ls [.int k2, .int k1, .ref (a_v 2)]) := by
  obtain ⟨hx, hb, hml, hown, hts, hK, hA, hlk⟩ := id hX
  unfold f_X5_meetAll_J36 at h
  refine k_iast (wf := (fun o => wd_X5 aC a_v (a_n 0) (a_d 0) o ++ (wd_X1 aC a_n s_n ++ [(q1, .inl (aC 0, z1, .inl f1))]))) (o := s_v) hX hZ 2 3 rfl (fun _ => rfl) h dX5_meetAll_36 (fun o3 H locs hZ h => ?_)
  refine lv_iinc (v := (x2 + (1 : Int32))) (lv' := [(2, .int (x2 + (1 : Int32))), (0, .ref (a_v 0)), (1, .ref q1)]) hx hb dX5_meetAll_37 hl (k := 2) rfl rfl (by decide) rfl (fun ls hl => ?_)
  refine lv_goto (tgt := 6) hx hb dX5_meetAll_40 (by decide) ?_
  exact hrec6 ((x2 + (1 : Int32)), o3) h H locs ls hZ (lv_sub hl [1, 2, 0] rfl)
set_option maxHeartbeats 4000000 in
set_option maxRecDepth 100000 in
theorem t_X5_meetAll_L6 {p : Program} {l : Launch} {e : Env} {s : State} {m : MethodId} {args : Array Value} {below : List Frame} {meth : Method} {c : Code} {D : va_G} {aC : Nat → ClassId} {A : Nat → Prop} {a_v a_n a_d : Nat → Nat} {q1 z1 : Nat} {f1 : Nat → Int32} {out : Ob_T} {s_n : Ob_T} {k43 : Ob_T → Option Ob_T} {rec6 : (Int32 × Ob_T) → Option Ob_T} (hX : K_X p s m args meth c cX5_meetAll 4 WL_ RX5 D aC A) (hr : meth.sig.returnType = none) (hk43 : ∀ (t_v : Ob_T), k43 t_v = some out → ∀ (H : Heap) (locs : List Loc) (ls : Array Slot), K_S D A s (wd_X5 aC a_v (a_n 0) (a_d 0) t_v ++ (wd_X1 aC a_n s_n ++ [(q1, .inl (aC 0, z1, .inl f1))])) H locs → lv_has ls 4 [(0, .ref (a_v 0))] → W p l e (R_m 3 100) s m args below meth c H locs 0 0 (MQ below (Q_W (none) D A (wd_X5 aC a_v (a_n 0) (a_d 0) out ++ (wd_X1 aC a_n s_n ++ [(q1, .inl (aC 0, z1, .inl f1))]))) args s 0 0 A) (F0 m 43 ls [])) (hrec6 : ∀ x : Int32 × Ob_T, rec6 x = some out → ∀ (H : Heap) (locs : List Loc) (ls : Array Slot), K_S D A s (wd_X5 aC a_v (a_n 0) (a_d 0) x.2 ++ (wd_X1 aC a_n s_n ++ [(q1, .inl (aC 0, z1, .inl f1))])) H locs → lv_has ls 4 [(0, .ref (a_v 0)), (1, .ref q1), (2, .int x.1)] → W p l e (R_m 3 100) s m args below meth c H locs 0 0 (MQ below (Q_W (none) D A (wd_X5 aC a_v (a_n 0) (a_d 0) out ++ (wd_X1 aC a_n s_n ++ [(q1, .inl (aC 0, z1, .inl f1))]))) args s 0 0 A) (F0 m 6 ls [])) (x2 : Int32) (s_v : Ob_T) (h : f_X5_meetAll_L6 k43 rec6 x2 s_v s_n f1 z1 = some out) (H : Heap) (locs : List Loc) (ls : Array Slot) (hZ : K_S D A s (wd_X5 aC a_v (a_n 0) (a_d 0) s_v ++ (wd_X1 aC a_n s_n ++ [(q1, .inl (aC 0, z1, .inl f1))])) H locs) (hl : lv_has ls 4 [(0, .ref (a_v 0)), (1, .ref q1), (2, .int x2)]) : W p l e (R_m 3 100) s m args below meth c H locs 0 0 (MQ below (Q_W (none) D A (wd_X5 aC a_v (a_n 0) (a_d 0) out ++ (wd_X1 aC a_n s_n ++ [(q1, .inl (aC 0, z1, .inl f1))]))) args s 0 0 A) (F0 m 6 ls []) := by
  obtain ⟨hx, hb, hml, hown, hts, hK, hA, hlk⟩ := id hX
  unfold f_X5_meetAll_L6 at h
  refine lv_iload_n hx hb dX5_meetAll_6 rfl (lv_at hl 2 rfl) ?_
  refine lv_bipush (v := 14) hx hb dX5_meetAll_7 (by decide) ?_
  refine lv_icmp_ge (tgt := 43) hx hb dX5_meetAll_9 (by decide) (fun cd => ?_) (fun cd => ?_)
  · replace h := k_t cd h
    clear cd
    exact hk43 s_v h H locs ls hZ (lv_sub hl [0] rfl)
  · replace h := k_f cd h
    clear cd
    refine lv_aload_n hx hb dX5_meetAll_12 rfl (lv_at hl 0 rfl) ?_
    refine k_get hX hZ.1 0 5 rfl rfl iw_X5 2 rfl (wm_429) (v := .ref (a_v 1)) rfl dX5_meetAll_13 ?_
    refine lv_iload_n hx hb dX5_meetAll_16 rfl (lv_at hl 2 rfl) ?_
    refine lv_iload_n hx hb dX5_meetAll_17 rfl (lv_at hl 2 rfl) ?_
    refine k_iast (wf := (fun o => wd_X5 aC a_v (a_n 0) (a_d 0) o ++ (wd_X1 aC a_n s_n ++ [(q1, .inl (aC 0, z1, .inl f1))]))) (o := s_v) hX hZ 1 2 rfl (fun _ => rfl) h dX5_meetAll_18 (fun o2 H locs hZ h => ?_)
    refine lv_aload_n hx hb dX5_meetAll_19 rfl (lv_at hl 0 rfl) ?_
    refine k_get hX hZ.1 0 5 rfl rfl iw_X5 3 rfl (wm_430) (v := .ref (a_v 2)) rfl dX5_meetAll_20 ?_
    refine lv_iload_n hx hb dX5_meetAll_23 rfl (lv_at hl 2 rfl) ?_
    refine lv_iload_n hx hb dX5_meetAll_24 rfl (lv_at hl 2 rfl) ?_
    refine lv_iconst (v := 4) hx hb dX5_meetAll_25 (by decide) ?_
    refine lv_icmp_ge (tgt := 35) hx hb dX5_meetAll_26 (by decide) (fun cd => ?_) (fun cd => ?_)
    · replace h := k_t cd h
      clear cd
      refine lv_iconst (v := -1) hx hb dX5_meetAll_35 (by decide) ?_
      exact t_X5_meetAll_J36 hX hr hrec6 x2 x2 (-1 : Int32) o2 h H locs ls hZ (lv_sub hl [0, 1, 2] rfl)
    · replace h := k_f cd h
      clear cd
      refine lv_aload_n hx hb dX5_meetAll_29 rfl (lv_at hl 1 rfl) ?_
      refine lv_iload_n hx hb dX5_meetAll_30 rfl (lv_at hl 2 rfl) ?_
      refine k_iald hX hZ.1 12 rfl h dX5_meetAll_31 (fun v4 h => ?_)
      refine lv_goto (tgt := 36) hx hb dX5_meetAll_32 (by decide) ?_
      exact t_X5_meetAll_J36 hX hr hrec6 x2 x2 v4 o2 h H locs ls hZ (lv_sub hl [0, 1, 2] rfl)
set_option maxHeartbeats 4000000 in
set_option maxRecDepth 100000 in
theorem t_X5_meetAll_J99 {p : Program} {l : Launch} {e : Env} {s : State} {m : MethodId} {args : Array Value} {below : List Frame} {meth : Method} {c : Code} {D : va_G} {aC : Nat → ClassId} {A : Nat → Prop} {a_v a_n a_d : Nat → Nat} {q1 z1 : Nat} {f1 : Nat → Int32} {out : Ob_T} {s_n : Ob_T} {rec45 : (Int32 × Ob_T) → Option Ob_T} (hX : K_X p s m args meth c cX5_meetAll 4 WL_ RX5 D aC A) (hr : meth.sig.returnType = none) (hrec45 : ∀ x : Int32 × Ob_T, rec45 x = some out → ∀ (H : Heap) (locs : List Loc) (ls : Array Slot), K_S D A s (wd_X5 aC a_v (a_n 0) (a_d 0) x.2 ++ (wd_X1 aC a_n s_n ++ [(q1, .inl (aC 0, z1, .inl f1))])) H locs → lv_has ls 4 [(0, .ref (a_v 0)), (2, .int x.1)] → W p l e (R_m 3 100) s m args below meth c H locs 0 0 (MQ below (Q_W (none) D A (wd_X5 aC a_v (a_n 0) (a_d 0) out ++ (wd_X1 aC a_n s_n ++ [(q1, .inl (aC 0, z1, .inl f1))]))) args s 0 0 A) (F0 m 45 ls [])) (x2 : Int32) (k1 : Int32) (k2 : Int32) (s_v : Ob_T) (h : f_X5_meetAll_J99 rec45 x2 k1 k2 s_v s_n f1 z1 = some out) (H : Heap) (locs : List Loc) (ls : Array Slot) (hZ : K_S D A s (wd_X5 aC a_v (a_n 0) (a_d 0) s_v ++ (wd_X1 aC a_n s_n ++ [(q1, .inl (aC 0, z1, .inl f1))])) H locs) (hl : lv_has ls 4 [(0, .ref (a_v 0)), (2, .int x2)]) : W p l e (R_m 3 100) s m args below meth c H locs 0 0 (MQ below (Q_W (none) D A (wd_X5 aC a_v (a_n 0) (a_d 0) out ++ (wd_X1 aC a_n s_n ++ [(q1, .inl (aC 0, z1, .inl f1))]))) args s 0 0 A) (F0 m 99 ls [.int k2, .int k1, .ref (a_v 0)]) := by
  obtain ⟨hx, hb, hml, hown, hts, hK, hA, hlk⟩ := id hX
  unfold f_X5_meetAll_J99 at h
  obtain ⟨u9, hu, h⟩ := k_bd h
  refine k_vW (As := [.int k1, .int k2]) (rest := []) (wc := wd_X5 aC a_v (a_n 0) (a_d 0) s_v ++ wd_X1 aC a_n s_n) (v := none) (st1 := []) (w' := wd_X5 aC a_v (a_n 0) (a_d 0) u9 ++ (wd_X1 aC a_n s_n ++ [(q1, .inl (aC 0, z1, .inl f1))])) hX hl.1 hZ (c_X5_meetCells (a_v := a_v) (a_n := a_n) (a_d := a_d) s_v s_n k1 k2 hu) (gv_ wm_472 wm_474 wm_475 wm_432 wm_473) rfl hd_X5_meetCells ⟨rfl, rfl⟩ 5 0 rfl rfl [0, 1, 2, 3, 4, 5, 6, 7, 8, 9, 10, 11] rfl rfl rfl rfl rfl dX5_meetAll_99 rfl ⟨rfl, rfl⟩ rfl rfl rfl (fun H locs hZ => ?_)
  clear hu
  refine lv_iinc (v := (x2 + (1 : Int32))) (lv' := [(2, .int (x2 + (1 : Int32))), (0, .ref (a_v 0))]) hx hb dX5_meetAll_102 hl (k := 1) rfl rfl (by decide) rfl (fun ls hl => ?_)
  refine lv_goto (tgt := 45) hx hb dX5_meetAll_105 (by decide) ?_
  exact hrec45 ((x2 + (1 : Int32)), u9) h H locs ls hZ (lv_sub hl [1, 0] rfl)
set_option maxHeartbeats 4000000 in
set_option maxRecDepth 100000 in
theorem t_X5_meetAll_J82 {p : Program} {l : Launch} {e : Env} {s : State} {m : MethodId} {args : Array Value} {below : List Frame} {meth : Method} {c : Code} {D : va_G} {aC : Nat → ClassId} {A : Nat → Prop} {a_v a_n a_d : Nat → Nat} {q1 z1 : Nat} {f1 : Nat → Int32} {out : Ob_T} {s_n : Ob_T} {rec45 : (Int32 × Ob_T) → Option Ob_T} (hX : K_X p s m args meth c cX5_meetAll 4 WL_ RX5 D aC A) (hr : meth.sig.returnType = none) (hrec45 : ∀ x : Int32 × Ob_T, rec45 x = some out → ∀ (H : Heap) (locs : List Loc) (ls : Array Slot), K_S D A s (wd_X5 aC a_v (a_n 0) (a_d 0) x.2 ++ (wd_X1 aC a_n s_n ++ [(q1, .inl (aC 0, z1, .inl f1))])) H locs → lv_has ls 4 [(0, .ref (a_v 0)), (2, .int x.1)] → W p l e (R_m 3 100) s m args below meth c H locs 0 0 (MQ below (Q_W (none) D A (wd_X5 aC a_v (a_n 0) (a_d 0) out ++ (wd_X1 aC a_n s_n ++ [(q1, .inl (aC 0, z1, .inl f1))]))) args s 0 0 A) (F0 m 45 ls [])) (x2 : Int32) (x3 : Int32) (s_v : Ob_T) (h : f_X5_meetAll_J82 rec45 x2 x3 s_v s_n f1 z1 = some out) (H : Heap) (locs : List Loc) (ls : Array Slot) (hZ : K_S D A s (wd_X5 aC a_v (a_n 0) (a_d 0) s_v ++ (wd_X1 aC a_n s_n ++ [(q1, .inl (aC 0, z1, .inl f1))])) H locs) (hl : lv_has ls 4 [(0, .ref (a_v 0)), (2, .int x2), (3, .int x3)]) : W p l e (R_m 3 100) s m args below meth c H locs 0 0 (MQ below (Q_W (none) D A (wd_X5 aC a_v (a_n 0) (a_d 0) out ++ (wd_X1 aC a_n s_n ++ [(q1, .inl (aC 0, z1, .inl f1))]))) args s 0 0 A) (F0 m 82 ls []) := by
  obtain ⟨hx, hb, hml, hown, hts, hK, hA, hlk⟩ := id hX
  unfold f_X5_meetAll_J82 at h
  refine lv_aload_n hx hb dX5_meetAll_82 rfl (lv_at hl 0 rfl) ?_
  refine lv_iload_n hx hb dX5_meetAll_83 rfl (lv_at hl 1 rfl) ?_
  obtain ⟨u8, hu, h⟩ := k_bd h
  refine k_vW (As := [.int x2]) (rest := []) (wc := wd_X5 aC a_v (a_n 0) (a_d 0) s_v ++ wd_X1 aC a_n s_n) (v := none) (st1 := []) (w' := wd_X5 aC a_v (a_n 0) (a_d 0) u8 ++ (wd_X1 aC a_n s_n ++ [(q1, .inl (aC 0, z1, .inl f1))])) hX hl.1 hZ (c_X5_meetFrames (a_v := a_v) (a_n := a_n) (a_d := a_d) s_v s_n x2 hu) (gv_ wm_476 wm_478 wm_479 wm_432 wm_477) rfl hd_X5_meetFrames ⟨rfl, rfl⟩ 5 0 rfl rfl [0, 1, 2, 3, 4, 5, 6, 7, 8, 9, 10, 11] rfl rfl rfl rfl rfl dX5_meetAll_84 rfl ⟨rfl, rfl⟩ rfl rfl rfl (fun H locs hZ => ?_)
  clear hu
  refine lv_aload_n hx hb dX5_meetAll_87 rfl (lv_at hl 0 rfl) ?_
  refine lv_iload_n hx hb dX5_meetAll_88 rfl (lv_at hl 1 rfl) ?_
  refine lv_iload_n hx hb dX5_meetAll_89 rfl (lv_at hl 2 rfl) ?_
  refine lv_iconst (v := 2) hx hb dX5_meetAll_90 (by decide) ?_
  refine lv_icmp_ne (tgt := 98) hx hb dX5_meetAll_91 (by decide) (fun cd => ?_) (fun cd => ?_)
  · replace h := k_f cd h
    clear cd
    refine lv_iconst (v := 0) hx hb dX5_meetAll_98 (by decide) ?_
    exact t_X5_meetAll_J99 hX hr hrec45 x2 x2 (0 : Int32) u8 h H locs ls hZ (lv_sub hl [0, 1] rfl)
  · replace h := k_t cd h
    clear cd
    refine lv_iconst (v := 1) hx hb dX5_meetAll_94 (by decide) ?_
    refine lv_goto (tgt := 99) hx hb dX5_meetAll_95 (by decide) ?_
    exact t_X5_meetAll_J99 hX hr hrec45 x2 x2 (1 : Int32) u8 h H locs ls hZ (lv_sub hl [0, 1] rfl)
set_option maxHeartbeats 4000000 in
set_option maxRecDepth 100000 in
theorem t_X5_meetAll_L45 {p : Program} {l : Launch} {e : Env} {s : State} {m : MethodId} {args : Array Value} {below : List Frame} {meth : Method} {c : Code} {D : va_G} {aC : Nat → ClassId} {A : Nat → Prop} {a_v a_n a_d : Nat → Nat} {q1 z1 : Nat} {f1 : Nat → Int32} {out : Ob_T} {s_n : Ob_T} {k108 : Ob_T → Option Ob_T} {rec45 : (Int32 × Ob_T) → Option Ob_T} (hX : K_X p s m args meth c cX5_meetAll 4 WL_ RX5 D aC A) (hr : meth.sig.returnType = none) (hk108 : ∀ (t_v : Ob_T), k108 t_v = some out → ∀ (H : Heap) (locs : List Loc) (ls : Array Slot), K_S D A s (wd_X5 aC a_v (a_n 0) (a_d 0) t_v ++ (wd_X1 aC a_n s_n ++ [(q1, .inl (aC 0, z1, .inl f1))])) H locs → lv_has ls 4 [(0, .ref (a_v 0))] → W p l e (R_m 3 100) s m args below meth c H locs 0 0 (MQ below (Q_W (none) D A (wd_X5 aC a_v (a_n 0) (a_d 0) out ++ (wd_X1 aC a_n s_n ++ [(q1, .inl (aC 0, z1, .inl f1))]))) args s 0 0 A) (F0 m 108 ls [])) (hrec45 : ∀ x : Int32 × Ob_T, rec45 x = some out → ∀ (H : Heap) (locs : List Loc) (ls : Array Slot), K_S D A s (wd_X5 aC a_v (a_n 0) (a_d 0) x.2 ++ (wd_X1 aC a_n s_n ++ [(q1, .inl (aC 0, z1, .inl f1))])) H locs → lv_has ls 4 [(0, .ref (a_v 0)), (2, .int x.1)] → W p l e (R_m 3 100) s m args below meth c H locs 0 0 (MQ below (Q_W (none) D A (wd_X5 aC a_v (a_n 0) (a_d 0) out ++ (wd_X1 aC a_n s_n ++ [(q1, .inl (aC 0, z1, .inl f1))]))) args s 0 0 A) (F0 m 45 ls [])) (x2 : Int32) (s_v : Ob_T) (h : f_X5_meetAll_L45 k108 rec45 x2 s_v s_n f1 z1 = some out) (H : Heap) (locs : List Loc) (ls : Array Slot) (hZ : K_S D A s (wd_X5 aC a_v (a_n 0) (a_d 0) s_v ++ (wd_X1 aC a_n s_n ++ [(q1, .inl (aC 0, z1, .inl f1))])) H locs) (hl : lv_has ls 4 [(0, .ref (a_v 0)), (2, .int x2)]) : W p l e (R_m 3 100) s m args below meth c H locs 0 0 (MQ below (Q_W (none) D A (wd_X5 aC a_v (a_n 0) (a_d 0) out ++ (wd_X1 aC a_n s_n ++ [(q1, .inl (aC 0, z1, .inl f1))]))) args s 0 0 A) (F0 m 45 ls []) := by
  obtain ⟨hx, hb, hml, hown, hts, hK, hA, hlk⟩ := id hX
  unfold f_X5_meetAll_L45 at h
  refine lv_iload_n hx hb dX5_meetAll_45 rfl (lv_at hl 1 rfl) ?_
  refine lv_aload_n hx hb dX5_meetAll_46 rfl (lv_at hl 0 rfl) ?_
  refine k_get hX hZ.1 0 5 rfl rfl iw_X5 0 rfl (wm_448) (v := .ref (a_n 0)) rfl dX5_meetAll_47 ?_
  obtain ⟨u5, hu, h⟩ := k_bd h
  refine k_vR (As := []) (rest := [.int x2]) (wc := wd_X1 aC a_n s_n) (v := some (.int u5)) (st1 := [.int u5, .int x2]) hX hl.1 hZ (c_X1_size (a_n := a_n) s_n hu) (gv_ wm_484 wm_486 wm_487 wm_321 wm_485) rfl hd_X1_size ⟨rfl, rfl⟩ 1 0 rfl rfl [5, 6, 7, 8, 9, 10, 11] rfl rfl rfl rfl rfl dX5_meetAll_50 rfl ⟨rfl, rfl⟩ (fun locs hZ => ?_)
  clear hu
  refine lv_icmp_ge (tgt := 108) hx hb dX5_meetAll_53 (by decide) (fun cd => ?_) (fun cd => ?_)
  · replace h := k_t cd h
    clear cd
    exact hk108 s_v h H locs ls hZ (lv_sub hl [0] rfl)
  · replace h := k_f cd h
    clear cd
    refine lv_aload_n hx hb dX5_meetAll_56 rfl (lv_at hl 0 rfl) ?_
    obtain ⟨u6, hu, h⟩ := k_bd h
    refine k_vR (As := []) (rest := []) (wc := wd_X5 aC a_v (a_n 0) (a_d 0) s_v) (v := some (.int u6)) (st1 := [.int u6]) hX hl.1 hZ (c_X5_hasFailed (a_v := a_v) (a_n := a_n) (a_d := a_d) s_v hu) (gv_ wm_454 wm_456 wm_457 wm_432 wm_455) rfl hd_X5_hasFailed ⟨rfl, rfl⟩ 5 0 rfl rfl [0, 1, 2, 3, 4] rfl rfl rfl rfl rfl dX5_meetAll_57 rfl ⟨rfl, rfl⟩ (fun locs hZ => ?_)
    clear hu
    refine lv_if_ne (tgt := 108) hx hb dX5_meetAll_60 (by decide) (fun cd => ?_) (fun cd => ?_)
    · replace h := k_f cd h
      clear cd
      exact hk108 s_v h H locs ls hZ (lv_sub hl [0] rfl)
    · replace h := k_t cd h
      clear cd
      refine lv_aload_n hx hb dX5_meetAll_63 rfl (lv_at hl 0 rfl) ?_
      refine k_get hX hZ.1 0 5 rfl rfl iw_X5 0 rfl (wm_448) (v := .ref (a_n 0)) rfl dX5_meetAll_64 ?_
      refine lv_iload_n hx hb dX5_meetAll_67 rfl (lv_at hl 1 rfl) ?_
      obtain ⟨u7, hu, h⟩ := k_bd h
      refine k_vR (As := [.int x2]) (rest := []) (wc := wd_X1 aC a_n s_n) (v := some (.int u7)) (st1 := [.int u7]) hX hl.1 hZ (c_X1_kindOf (a_n := a_n) s_n x2 hu) (gv_ wm_480 wm_482 wm_483 wm_321 wm_481) rfl hd_X1_kindOf ⟨rfl, rfl⟩ 1 0 rfl rfl [5, 6, 7, 8, 9, 10, 11] rfl rfl rfl rfl rfl dX5_meetAll_68 rfl ⟨rfl, rfl⟩ (fun locs hZ => ?_)
      clear hu
      refine lv_istore_n (lv' := [(3, .int u7), (0, .ref (a_v 0)), (2, .int x2)]) hx hb dX5_meetAll_71 rfl hl (by decide) rfl (fun ls hl => ?_)
      refine lv_iload_n hx hb dX5_meetAll_72 rfl (lv_at hl 0 rfl) ?_
      refine lv_iconst (v := 1) hx hb dX5_meetAll_73 (by decide) ?_
      refine lv_icmp_eq (tgt := 82) hx hb dX5_meetAll_74 (by decide) (fun cd => ?_) (fun cd => ?_)
      · replace h := k_t cd h
        clear cd
        exact t_X5_meetAll_J82 hX hr hrec45 x2 u7 s_v h H locs ls hZ (lv_sub hl [1, 2, 0] rfl)
      · replace h := k_f cd h
        clear cd
        refine lv_iload_n hx hb dX5_meetAll_77 rfl (lv_at hl 0 rfl) ?_
        refine lv_iconst (v := 2) hx hb dX5_meetAll_78 (by decide) ?_
        refine lv_icmp_ne (tgt := 102) hx hb dX5_meetAll_79 (by decide) (fun cd => ?_) (fun cd => ?_)
        · replace h := k_f cd h
          clear cd
          refine lv_iinc (v := (x2 + (1 : Int32))) (lv' := [(2, .int (x2 + (1 : Int32))), (3, .int u7), (0, .ref (a_v 0))]) hx hb dX5_meetAll_102 hl (k := 2) rfl rfl (by decide) rfl (fun ls hl => ?_)
          refine lv_goto (tgt := 45) hx hb dX5_meetAll_105 (by decide) ?_
          exact hrec45 ((x2 + (1 : Int32)), s_v) h H locs ls hZ (lv_sub hl [2, 0] rfl)
        · replace h := k_t cd h
          clear cd
          exact t_X5_meetAll_J82 hX hr hrec45 x2 u7 s_v h H locs ls hZ (lv_sub hl [1, 2, 0] rfl)
set_option maxHeartbeats 4000000 in
set_option maxRecDepth 100000 in
theorem t_X5_meetAll_J108 {p : Program} {l : Launch} {e : Env} {s : State} {m : MethodId} {args : Array Value} {below : List Frame} {meth : Method} {c : Code} {D : va_G} {aC : Nat → ClassId} {A : Nat → Prop} {a_v a_n a_d : Nat → Nat} {q1 z1 : Nat} {f1 : Nat → Int32} {out : Ob_T} {s_n : Ob_T} (hX : K_X p s m args meth c cX5_meetAll 4 WL_ RX5 D aC A) (hr : meth.sig.returnType = none) (s_v : Ob_T) (h : f_X5_meetAll_J108 s_v s_n f1 z1 = some out) (H : Heap) (locs : List Loc) (ls : Array Slot) (hZ : K_S D A s (wd_X5 aC a_v (a_n 0) (a_d 0) s_v ++ (wd_X1 aC a_n s_n ++ [(q1, .inl (aC 0, z1, .inl f1))])) H locs) (hl : lv_has ls 4 [(0, .ref (a_v 0))]) : W p l e (R_m 3 100) s m args below meth c H locs 0 0 (MQ below (Q_W (none) D A (wd_X5 aC a_v (a_n 0) (a_d 0) out ++ (wd_X1 aC a_n s_n ++ [(q1, .inl (aC 0, z1, .inl f1))]))) args s 0 0 A) (F0 m 108 ls []) := by
  obtain ⟨hx, hb, hml, hown, hts, hK, hA, hlk⟩ := id hX
  unfold f_X5_meetAll_J108 at h
  refine lv_aload_n hx hb dX5_meetAll_108 rfl (lv_at hl 0 rfl) ?_
  refine k_get hX hZ.1 0 5 rfl rfl iw_X5 3 rfl (wm_430) (v := .ref (a_v 2)) rfl dX5_meetAll_109 ?_
  refine lv_iconst (v := 0) hx hb dX5_meetAll_112 (by decide) ?_
  refine lv_aload_n hx hb dX5_meetAll_113 rfl (lv_at hl 0 rfl) ?_
  refine k_get hX hZ.1 0 5 rfl rfl iw_X5 4 rfl (wm_488) (v := .ref (a_v 3)) rfl dX5_meetAll_114 ?_
  refine lv_iconst (v := 0) hx hb dX5_meetAll_117 (by decide) ?_
  refine lv_bipush (v := 14) hx hb dX5_meetAll_118 (by decide) ?_
  refine k_copy (wf := (fun o => wd_X5 aC a_v (a_n 0) (a_d 0) o ++ (wd_X1 aC a_n s_n ++ [(q1, .inl (aC 0, z1, .inl f1))]))) (o := s_v) hX hl.1 hZ 2 3 4 rfl rfl (fun _ => rfl) (hts _ wm_489) (hts _ wm_308) (hts _ wm_309) (hts _ wm_310) rfl rfl h dX5_meetAll_120 (fun o11 H locs hZ h => ?_)
  cases h
  exact k_vretW hX hr hZ dX5_meetAll_123
set_option maxHeartbeats 4000000 in
set_option maxRecDepth 100000 in
theorem t_X5_meetAll_J43 {p : Program} {l : Launch} {e : Env} {s : State} {m : MethodId} {args : Array Value} {below : List Frame} {meth : Method} {c : Code} {D : va_G} {aC : Nat → ClassId} {A : Nat → Prop} {a_v a_n a_d : Nat → Nat} {q1 z1 : Nat} {f1 : Nat → Int32} {out : Ob_T} {s_n : Ob_T} (hX : K_X p s m args meth c cX5_meetAll 4 WL_ RX5 D aC A) (hr : meth.sig.returnType = none) (s_v : Ob_T) (h : f_X5_meetAll_J43 s_v s_n f1 z1 = some out) (H : Heap) (locs : List Loc) (ls : Array Slot) (hZ : K_S D A s (wd_X5 aC a_v (a_n 0) (a_d 0) s_v ++ (wd_X1 aC a_n s_n ++ [(q1, .inl (aC 0, z1, .inl f1))])) H locs) (hl : lv_has ls 4 [(0, .ref (a_v 0))]) : W p l e (R_m 3 100) s m args below meth c H locs 0 0 (MQ below (Q_W (none) D A (wd_X5 aC a_v (a_n 0) (a_d 0) out ++ (wd_X1 aC a_n s_n ++ [(q1, .inl (aC 0, z1, .inl f1))]))) args s 0 0 A) (F0 m 43 ls []) := by
  obtain ⟨hx, hb, hml, hown, hts, hK, hA, hlk⟩ := id hX
  unfold f_X5_meetAll_J43 at h
  refine lv_iconst (v := 0) hx hb dX5_meetAll_43 (by decide) ?_
  refine lv_istore_n (lv' := [(2, .int (0 : Int32)), (0, .ref (a_v 0))]) hx hb dX5_meetAll_44 rfl hl (by decide) rfl (fun ls hl => ?_)
  exact Lp_ok (body := (fun (rec : (Int32 × Ob_T) → Option Ob_T) x => f_X5_meetAll_L45 (fun t_v => f_X5_meetAll_J108 t_v s_n f1 z1) rec x.1 x.2 s_n f1 z1)) (out := out) (fun x => ∀ (H : Heap) (locs : List Loc) (ls : Array Slot), K_S D A s (wd_X5 aC a_v (a_n 0) (a_d 0) x.2 ++ (wd_X1 aC a_n s_n ++ [(q1, .inl (aC 0, z1, .inl f1))])) H locs → lv_has ls 4 [(0, .ref (a_v 0)), (2, .int x.1)] → W p l e (R_m 3 100) s m args below meth c H locs 0 0 (MQ below (Q_W (none) D A (wd_X5 aC a_v (a_n 0) (a_d 0) out ++ (wd_X1 aC a_n s_n ++ [(q1, .inl (aC 0, z1, .inl f1))]))) args s 0 0 A) (F0 m 45 ls [])) (fun rec hrec x h H locs ls hZ hl => t_X5_meetAll_L45 hX hr (fun t_v h H locs ls hZ hl => t_X5_meetAll_J108 hX hr t_v h H locs ls hZ (lv_sub hl [0] rfl)) hrec x.1 x.2 h H locs ls hZ hl) FU_ ((0 : Int32), s_v) h H locs ls hZ (lv_sub hl [1, 0] rfl)
set_option maxHeartbeats 4000000 in
set_option maxRecDepth 100000 in
theorem c_X5_meetAll {l : Launch} {D : va_G} {aC : Nat → ClassId} {a_v : Nat → Nat} {a_n : Nat → Nat} {a_d : Nat → Nat} (s_v : Ob_T) (s_n : Ob_T) {q1 z1 : Nat} {f1 : Nat → Int32} {out : Ob_T} (h : f_X5_meetAll s_v s_n f1 z1 = some out) : M_W l yX5_meetAll wlX5_meetAll 3 100 D aC [.ref (a_v 0), .ref q1] (wd_X5 aC a_v (a_n 0) (a_d 0) s_v ++ (wd_X1 aC a_n s_n ++ [(q1, .inl (aC 0, z1, .inl f1))])) (none) (wd_X5 aC a_v (a_n 0) (a_d 0) out ++ (wd_X1 aC a_n s_n ++ [(q1, .inl (aC 0, z1, .inl f1))])) := by
  refine k_entW (cc := cX5_meetAll) (ret := none) (maxL := 4) (own := RX5) (by decide) rfl rfl rfl ?_
  intro p e s m below meth c A ls hX hr hZ hl
  have hl : lv_has ls 4 [(0, .ref (a_v 0)), (1, .ref q1)] := hl
  generalize ([.ref (a_v 0), .ref q1] : List Value).toArray = args at hX ⊢
  obtain ⟨hx, hb, hml, hown, hts, hK, hA, hlk⟩ := id hX
  unfold f_X5_meetAll at h
  generalize s.heap = H at hZ ⊢
  generalize ([] : List Loc) = locs at hZ ⊢
  refine lv_aload_n hx hb dX5_meetAll_0 rfl (lv_at hl 0 rfl) ?_
  obtain ⟨u1, hu, h⟩ := k_bd h
  refine k_vW (As := []) (rest := []) (wc := wd_X5 aC a_v (a_n 0) (a_d 0) s_v) (v := none) (st1 := []) (w' := wd_X5 aC a_v (a_n 0) (a_d 0) u1 ++ (wd_X1 aC a_n s_n ++ [(q1, .inl (aC 0, z1, .inl f1))])) hX hl.1 hZ (c_X5_clearFail (a_v := a_v) (a_n := a_n) (a_d := a_d) s_v hu) (gv_ wm_490 wm_492 wm_493 wm_432 wm_491) rfl hd_X5_clearFail ⟨rfl, rfl⟩ 5 0 rfl rfl [0, 1, 2, 3, 4] rfl rfl rfl rfl rfl dX5_meetAll_1 rfl ⟨rfl, rfl⟩ rfl rfl rfl (fun H locs hZ => ?_)
  clear hu
  refine lv_iconst (v := 0) hx hb dX5_meetAll_4 (by decide) ?_
  refine lv_istore_n (lv' := [(2, .int (0 : Int32)), (0, .ref (a_v 0)), (1, .ref q1)]) hx hb dX5_meetAll_5 rfl hl (by decide) rfl (fun ls hl => ?_)
  exact Lp_ok (body := (fun (rec : (Int32 × Ob_T) → Option Ob_T) x => f_X5_meetAll_L6 (fun t_v => f_X5_meetAll_J43 t_v s_n f1 z1) rec x.1 x.2 s_n f1 z1)) (out := out) (fun x => ∀ (H : Heap) (locs : List Loc) (ls : Array Slot), K_S D A s (wd_X5 aC a_v (a_n 0) (a_d 0) x.2 ++ (wd_X1 aC a_n s_n ++ [(q1, .inl (aC 0, z1, .inl f1))])) H locs → lv_has ls 4 [(0, .ref (a_v 0)), (1, .ref q1), (2, .int x.1)] → W p l e (R_m 3 100) s m args below meth c H locs 0 0 (MQ below (Q_W (none) D A (wd_X5 aC a_v (a_n 0) (a_d 0) out ++ (wd_X1 aC a_n s_n ++ [(q1, .inl (aC 0, z1, .inl f1))]))) args s 0 0 A) (F0 m 6 ls [])) (fun rec hrec x h H locs ls hZ hl => t_X5_meetAll_L6 hX hr (fun t_v h H locs ls hZ hl => t_X5_meetAll_J43 hX hr t_v h H locs ls hZ (lv_sub hl [0] rfl)) hrec x.1 x.2 h H locs ls hZ hl) FU_ ((0 : Int32), u1) h H locs ls hZ (lv_sub hl [1, 2, 0] rfl)
