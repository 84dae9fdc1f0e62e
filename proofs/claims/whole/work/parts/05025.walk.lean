def wlX9_productOf : List Cond := .code yX9_productOf cX9_productOf 7 (some .long) :: WL_
theorem hd_X9_productOf : yX9_productOf.cls = RX9 ∧ yX9_productOf.cls ≠ "java/lang/invoke/MethodHandle" ∧ yX9_productOf.cls ≠ "java/lang/invoke/VarHandle" ∧ (parseMethodDescriptor yX9_productOf.desc).map (fun d => d.parameters.length) = some 2 := by decide +kernel
theorem dX9_productOf_0 : decode cX9_productOf 0 = .ok (.lconst 1, 1) := by decide +kernel
theorem dX9_productOf_1 : decode cX9_productOf 1 = .ok (.lstore_n 3, 1) := by decide +kernel
theorem dX9_productOf_2 : decode cX9_productOf 2 = .ok (.iconst 0, 1) := by decide +kernel
theorem dX9_productOf_3 : decode cX9_productOf 3 = .ok (.istore 5, 2) := by decide +kernel
theorem dX9_productOf_5 : decode cX9_productOf 5 = .ok (.iload 5, 2) := by decide +kernel
theorem dX9_productOf_7 : decode cX9_productOf 7 = .ok (.iload_n 2, 1) := by decide +kernel
theorem dX9_productOf_8 : decode cX9_productOf 8 = .ok (.if_icmp .ge 22, 3) := by decide +kernel
theorem dX9_productOf_11 : decode cX9_productOf 11 = .ok (.aload_n 0, 1) := by decide +kernel
theorem dX9_productOf_12 : decode cX9_productOf 12 = .ok (.aload_n 1, 1) := by decide +kernel
theorem dX9_productOf_13 : decode cX9_productOf 13 = .ok (.iload 5, 2) := by decide +kernel
theorem dX9_productOf_15 : decode cX9_productOf 15 = .ok (.iaload, 1) := by decide +kernel
theorem dX9_productOf_16 : decode cX9_productOf 16 = .ok (.invokevirtual 221, 3) := by decide +kernel
theorem dX9_productOf_19 : decode cX9_productOf 19 = .ok (.ifCond .ne 5, 3) := by decide +kernel
theorem dX9_productOf_22 : decode cX9_productOf 22 = .ok (.lconst 0, 1) := by decide +kernel
theorem dX9_productOf_23 : decode cX9_productOf 23 = .ok (.lreturn, 1) := by decide +kernel
theorem dX9_productOf_24 : decode cX9_productOf 24 = .ok (.iinc 5 1, 3) := by decide +kernel
theorem dX9_productOf_27 : decode cX9_productOf 27 = .ok (.goto (-22), 3) := by decide +kernel
theorem dX9_productOf_30 : decode cX9_productOf 30 = .ok (.iconst 0, 1) := by decide +kernel
theorem dX9_productOf_31 : decode cX9_productOf 31 = .ok (.istore 5, 2) := by decide +kernel
theorem dX9_productOf_33 : decode cX9_productOf 33 = .ok (.iload 5, 2) := by decide +kernel
theorem dX9_productOf_35 : decode cX9_productOf 35 = .ok (.iload_n 2, 1) := by decide +kernel
theorem dX9_productOf_36 : decode cX9_productOf 36 = .ok (.if_icmp .ge 49, 3) := by decide +kernel
theorem dX9_productOf_39 : decode cX9_productOf 39 = .ok (.aload_n 0, 1) := by decide +kernel
theorem dX9_productOf_40 : decode cX9_productOf 40 = .ok (.aload_n 1, 1) := by decide +kernel
theorem dX9_productOf_41 : decode cX9_productOf 41 = .ok (.iload 5, 2) := by decide +kernel
theorem dX9_productOf_43 : decode cX9_productOf 43 = .ok (.iaload, 1) := by decide +kernel
theorem dX9_productOf_44 : decode cX9_productOf 44 = .ok (.invokevirtual 221, 3) := by decide +kernel
theorem dX9_productOf_47 : decode cX9_productOf 47 = .ok (.istore 6, 2) := by decide +kernel
theorem dX9_productOf_49 : decode cX9_productOf 49 = .ok (.iload 6, 2) := by decide +kernel
theorem dX9_productOf_51 : decode cX9_productOf 51 = .ok (.sipush 20000, 3) := by decide +kernel
theorem dX9_productOf_54 : decode cX9_productOf 54 = .ok (.if_icmp .ge 11, 3) := by decide +kernel
theorem dX9_productOf_57 : decode cX9_productOf 57 = .ok (.lload_n 3, 1) := by decide +kernel
theorem dX9_productOf_58 : decode cX9_productOf 58 = .ok (.iload 6, 2) := by decide +kernel
theorem dX9_productOf_60 : decode cX9_productOf 60 = .ok (.i2l, 1) := by decide +kernel
theorem dX9_productOf_61 : decode cX9_productOf 61 = .ok (.lmul, 1) := by decide +kernel
theorem dX9_productOf_62 : decode cX9_productOf 62 = .ok (.goto 4, 3) := by decide +kernel
theorem dX9_productOf_65 : decode cX9_productOf 65 = .ok (.lload_n 3, 1) := by decide +kernel
theorem dX9_productOf_66 : decode cX9_productOf 66 = .ok (.lstore_n 3, 1) := by decide +kernel
theorem dX9_productOf_67 : decode cX9_productOf 67 = .ok (.lload_n 3, 1) := by decide +kernel
theorem dX9_productOf_68 : decode cX9_productOf 68 = .ok (.ldc2_w 258, 3) := by decide +kernel
theorem dX9_productOf_71 : decode cX9_productOf 71 = .ok (.lcmp, 1) := by decide +kernel
theorem dX9_productOf_72 : decode cX9_productOf 72 = .ok (.ifCond .le 7, 3) := by decide +kernel
theorem dX9_productOf_75 : decode cX9_productOf 75 = .ok (.ldc2_w 260, 3) := by decide +kernel
theorem dX9_productOf_78 : decode cX9_productOf 78 = .ok (.lreturn, 1) := by decide +kernel
theorem dX9_productOf_79 : decode cX9_productOf 79 = .ok (.iinc 5 1, 3) := by decide +kernel
theorem dX9_productOf_82 : decode cX9_productOf 82 = .ok (.goto (-49), 3) := by decide +kernel
theorem dX9_productOf_85 : decode cX9_productOf 85 = .ok (.lload_n 3, 1) := by decide +kernel
theorem dX9_productOf_86 : decode cX9_productOf 86 = .ok (.lreturn, 1) := by decide +kernel
set_option maxHeartbeats 4000000 in
set_option maxRecDepth 100000 in
theorem t_X9_productOf_L5 {p : Program} {l : Launch} {e : Env} {s : State} {m : MethodId} {args : Array Value} {below : List Frame} {meth : Method} {c : Code} {D : va_G} {aC : Nat → ClassId} {A : Nat → Prop} {a_o : Nat → Nat} {q1 z1 : Nat} {f1 : Nat → Int32} {pl1 : Nat} {out : Int64} {s_o : Ob_T} {k30 : Int32 → Int64 → Option Int64} {rec5 : (Int32 × Int64 × Int32) → Option Int64} (hX : K_X p s m args meth c cX9_productOf 7 WL_ RX9 D aC A) (hr : meth.sig.returnType = (some .long)) (hZ : va_P D vwCl (wd_X9 aC a_o s_o) s.heap ∧ va_D (fun _ => True) (wd_X9 aC a_o s_o)) (hq1 : (wd_X9 aC a_o s_o)[pl1]? = some (q1, .inl (aC 0, z1, .inl f1))) (hk30 : ∀ (y2 : Int32) (y3 : Int64), k30 y2 y3 = some out → ∀ (locs : List Loc) (ls : Array Slot), (∀ q ∈ locs, False) → lv_has ls 7 [(0, .ref (a_o 0)), (1, .ref q1), (2, .int y2), (3, .long y3)] → W p l e (R_m 1 22) s m args below meth c s.heap locs 0 0 (MQ below (Q_R (some (.long out))) args s 0 0 (fun _ => False)) (F0 m 30 ls [])) (hrec5 : ∀ x : Int32 × Int64 × Int32, rec5 x = some out → ∀ (locs : List Loc) (ls : Array Slot), (∀ q ∈ locs, False) → lv_has ls 7 [(0, .ref (a_o 0)), (1, .ref q1), (2, .int x.1), (3, .long x.2.1), (5, .int x.2.2)] → W p l e (R_m 1 22) s m args below meth c s.heap locs 0 0 (MQ below (Q_R (some (.long out))) args s 0 0 (fun _ => False)) (F0 m 5 ls [])) (x2 : Int32) (x3 : Int64) (x5 : Int32) (h : f_X9_productOf_L5 k30 rec5 x2 x3 x5 s_o f1 z1 = some out) (locs : List Loc) (ls : Array Slot) (hF : ∀ q ∈ locs, False) (hl : lv_has ls 7 [(0, .ref (a_o 0)), (1, .ref q1), (2, .int x2), (3, .long x3), (5, .int x5)]) : W p l e (R_m 1 22) s m args below meth c s.heap locs 0 0 (MQ below (Q_R (some (.long out))) args s 0 0 (fun _ => False)) (F0 m 5 ls []) := by
  obtain ⟨hx, hb, hml, hown, hts, hK, hA, hlk⟩ := id hX
  unfold f_X9_productOf_L5 at h
  refine lv_iload hx hb dX9_productOf_5 (lv_at hl 4 rfl) ?_
  refine lv_iload_n hx hb dX9_productOf_7 rfl (lv_at hl 2 rfl) ?_
  refine lv_icmp_ge (tgt := 30) hx hb dX9_productOf_8 (by decide) (fun cd => ?_) (fun cd => ?_)
  · replace h := k_t cd h
    clear cd
    exact hk30 x2 x3 h locs ls hF (lv_sub hl [0, 1, 2, 3] rfl)
  · replace h := k_f cd h
    clear cd
    refine lv_aload_n hx hb dX9_productOf_11 rfl (lv_at hl 0 rfl) ?_
    refine lv_aload_n hx hb dX9_productOf_12 rfl (lv_at hl 1 rfl) ?_
    refine lv_iload hx hb dX9_productOf_13 (lv_at hl 4 rfl) ?_
    refine k_iald hX hZ.1 pl1 hq1 h dX9_productOf_15 (fun v1 h => ?_)
    obtain ⟨u2, hu, h⟩ := k_bd h
    refine k_vRRs (As := [.int v1]) (rest := []) (v := some (.int u2)) (st1 := [.int u2]) hX hl.1 hZ hF (c_X9_solved (a_o := a_o) s_o v1 hu) (gv_ wm_135 wm_137 wm_138 wm_11 wm_136) rfl hd_X9_solved ⟨rfl, rfl⟩ 9 0 rfl rfl rfl rfl rfl dX9_productOf_16 rfl ⟨rfl, rfl⟩ (fun locs hF => ?_)
    clear hu
    refine lv_if_ne (tgt := 24) hx hb dX9_productOf_19 (by decide) (fun cd => ?_) (fun cd => ?_)
    · replace h := k_f cd h
      clear cd
      refine lv_iinc (v := (x5 + (1 : Int32))) (lv' := [(5, .int (x5 + (1 : Int32))), (0, .ref (a_o 0)), (1, .ref q1), (2, .int x2), (3, .long x3)]) hx hb dX9_productOf_24 hl (k := 4) rfl rfl (by decide) rfl (fun ls hl => ?_)
      refine lv_goto (tgt := 5) hx hb dX9_productOf_27 (by decide) ?_
      exact hrec5 (x2, x3, (x5 + (1 : Int32))) h locs ls hF (lv_sub hl [1, 2, 3, 4, 0] rfl)
    · replace h := k_t cd h
      clear cd
      refine lv_lconst (v := 0) hx hb dX9_productOf_22 (by decide) ?_
      cases h
      exact k_lretR hX hr hF dX9_productOf_23
set_option maxHeartbeats 4000000 in
set_option maxRecDepth 100000 in
theorem t_X9_productOf_J66 {p : Program} {l : Launch} {e : Env} {s : State} {m : MethodId} {args : Array Value} {below : List Frame} {meth : Method} {c : Code} {D : va_G} {aC : Nat → ClassId} {A : Nat → Prop} {a_o : Nat → Nat} {q1 z1 : Nat} {f1 : Nat → Int32} {pl1 : Nat} {out : Int64} {s_o : Ob_T} {rec33 : (Int32 × Int64 × Int32) → Option Int64} (hX : K_X p s m args meth c cX9_productOf 7 WL_ RX9 D aC A) (hr : meth.sig.returnType = (some .long)) (hZ : va_P D vwCl (wd_X9 aC a_o s_o) s.heap ∧ va_D (fun _ => True) (wd_X9 aC a_o s_o)) (hq1 : (wd_X9 aC a_o s_o)[pl1]? = some (q1, .inl (aC 0, z1, .inl f1))) (hrec33 : ∀ x : Int32 × Int64 × Int32, rec33 x = some out → ∀ (locs : List Loc) (ls : Array Slot), (∀ q ∈ locs, False) → lv_has ls 7 [(0, .ref (a_o 0)), (1, .ref q1), (2, .int x.1), (3, .long x.2.1), (5, .int x.2.2)] → W p l e (R_m 1 22) s m args below meth c s.heap locs 0 0 (MQ below (Q_R (some (.long out))) args s 0 0 (fun _ => False)) (F0 m 33 ls [])) (x2 : Int32) (x5 : Int32) (k0 : Int64) (h : f_X9_productOf_J66 rec33 x2 x5 k0 s_o f1 z1 = some out) (locs : List Loc) (ls : Array Slot) (hF : ∀ q ∈ locs, False) (hl : lv_has ls 7 [(0, .ref (a_o 0)), (1, .ref q1), (2, .int x2), (5, .int x5)]) : W p l e (R_m 1 22) s m args below meth c s.heap locs 0 0 (MQ below (Q_R (some (.long out))) args s 0 0 (fun _ => False)) (F0 m 66 ls [.long k0]) := by
  obtain ⟨hx, hb, hml, hown, hts, hK, hA, hlk⟩ := id hX
  unfold f_X9_productOf_J66 at h
  refine lv_lstore_n (lv' := [(3, .long k0), (0, .ref (a_o 0)), (1, .ref q1), (2, .int x2), (5, .int x5)]) hx hb dX9_productOf_66 rfl hl (by decide) rfl (fun ls hl => ?_)
  refine lv_lload_n hx hb dX9_productOf_67 rfl (lv_at hl 0 rfl) ?_
  refine lv_ldc2 (v := 999999999999) hx hb hown (hts _ wm_159) dX9_productOf_68 ?_
  refine W.lcmp hx hb dX9_productOf_71 ?_
  refine lv_if_le (tgt := 79) hx hb dX9_productOf_72 (by decide) (fun cd => ?_) (fun cd => ?_)
  · replace h := k_t cd h
    clear cd
    refine lv_iinc (v := (x5 + (1 : Int32))) (lv' := [(5, .int (x5 + (1 : Int32))), (3, .long k0), (0, .ref (a_o 0)), (1, .ref q1), (2, .int x2)]) hx hb dX9_productOf_79 hl (k := 4) rfl rfl (by decide) rfl (fun ls hl => ?_)
    refine lv_goto (tgt := 33) hx hb dX9_productOf_82 (by decide) ?_
    exact hrec33 (x2, k0, (x5 + (1 : Int32))) h locs ls hF (lv_sub hl [2, 3, 4, 1, 0] rfl)
  · replace h := k_f cd h
    clear cd
    refine lv_ldc2 (v := -1) hx hb hown (hts _ wm_160) dX9_productOf_75 ?_
    cases h
    exact k_lretR hX hr hF dX9_productOf_78
set_option maxHeartbeats 4000000 in
set_option maxRecDepth 100000 in
theorem t_X9_productOf_L33 {p : Program} {l : Launch} {e : Env} {s : State} {m : MethodId} {args : Array Value} {below : List Frame} {meth : Method} {c : Code} {D : va_G} {aC : Nat → ClassId} {A : Nat → Prop} {a_o : Nat → Nat} {q1 z1 : Nat} {f1 : Nat → Int32} {pl1 : Nat} {out : Int64} {s_o : Ob_T} {rec33 : (Int32 × Int64 × Int32) → Option Int64} (hX : K_X p s m args meth c cX9_productOf 7 WL_ RX9 D aC A) (hr : meth.sig.returnType = (some .long)) (hZ : va_P D vwCl (wd_X9 aC a_o s_o) s.heap ∧ va_D (fun _ => True) (wd_X9 aC a_o s_o)) (hq1 : (wd_X9 aC a_o s_o)[pl1]? = some (q1, .inl (aC 0, z1, .inl f1))) (hrec33 : ∀ x : Int32 × Int64 × Int32, rec33 x = some out → ∀ (locs : List Loc) (ls : Array Slot), (∀ q ∈ locs, False) → lv_has ls 7 [(0, .ref (a_o 0)), (1, .ref q1), (2, .int x.1), (3, .long x.2.1), (5, .int x.2.2)] → W p l e (R_m 1 22) s m args below meth c s.heap locs 0 0 (MQ below (Q_R (some (.long out))) args s 0 0 (fun _ => False)) (F0 m 33 ls [])) (x2 : Int32) (x3 : Int64) (x5 : Int32) (h : f_X9_productOf_L33 rec33 x2 x3 x5 s_o f1 z1 = some out) (locs : List Loc) (ls : Array Slot) (hF : ∀ q ∈ locs, False) (hl : lv_has ls 7 [(0, .ref (a_o 0)), (1, .ref q1), (2, .int x2), (3, .long x3), (5, .int x5)]) : W p l e (R_m 1 22) s m args below meth c s.heap locs 0 0 (MQ below (Q_R (some (.long out))) args s 0 0 (fun _ => False)) (F0 m 33 ls []) := by
  obtain ⟨hx, hb, hml, hown, hts, hK, hA, hlk⟩ := id hX
  unfold f_X9_productOf_L33 at h
  refine lv_iload hx hb dX9_productOf_33 (lv_at hl 4 rfl) ?_
  refine lv_iload_n hx hb dX9_productOf_35 rfl (lv_at hl 2 rfl) ?_
  refine lv_icmp_ge (tgt := 85) hx hb dX9_productOf_36 (by decide) (fun cd => ?_) (fun cd => ?_)
  · replace h := k_t cd h
    clear cd
    refine lv_lload_n hx hb dX9_productOf_85 rfl (lv_at hl 3 rfl) ?_
    cases h
    exact k_lretR hX hr hF dX9_productOf_86
  · replace h := k_f cd h
    clear cd
    refine lv_aload_n hx hb dX9_productOf_39 rfl (lv_at hl 0 rfl) ?_
    refine lv_aload_n hx hb dX9_productOf_40 rfl (lv_at hl 1 rfl) ?_
    refine lv_iload hx hb dX9_productOf_41 (lv_at hl 4 rfl) ?_
    refine k_iald hX hZ.1 pl1 hq1 h dX9_productOf_43 (fun v3 h => ?_)
    obtain ⟨u4, hu, h⟩ := k_bd h
    refine k_vRRs (As := [.int v3]) (rest := []) (v := some (.int u4)) (st1 := [.int u4]) hX hl.1 hZ hF (c_X9_solved (a_o := a_o) s_o v3 hu) (gv_ wm_135 wm_137 wm_138 wm_11 wm_136) rfl hd_X9_solved ⟨rfl, rfl⟩ 9 0 rfl rfl rfl rfl rfl dX9_productOf_44 rfl ⟨rfl, rfl⟩ (fun locs hF => ?_)
    clear hu
    refine lv_istore (lv' := [(6, .int u4), (0, .ref (a_o 0)), (1, .ref q1), (2, .int x2), (3, .long x3), (5, .int x5)]) hx hb dX9_productOf_47 hl (by decide) rfl (fun ls hl => ?_)
    refine lv_iload hx hb dX9_productOf_49 (lv_at hl 0 rfl) ?_
    refine lv_sipush (v := 20000) hx hb dX9_productOf_51 (by decide) ?_
    refine lv_icmp_ge (tgt := 65) hx hb dX9_productOf_54 (by decide) (fun cd => ?_) (fun cd => ?_)
    · replace h := k_t cd h
      clear cd
      refine lv_lload_n hx hb dX9_productOf_65 rfl (lv_at hl 4 rfl) ?_
      exact t_X9_productOf_J66 hX hr hZ hq1 hrec33 x2 x5 x3 h locs ls hF (lv_sub hl [1, 2, 3, 5] rfl)
    · replace h := k_f cd h
      clear cd
      refine lv_lload_n hx hb dX9_productOf_57 rfl (lv_at hl 4 rfl) ?_
      refine lv_iload hx hb dX9_productOf_58 (lv_at hl 0 rfl) ?_
      refine lv_i2l (v := u4.toInt64) hx hb dX9_productOf_60 rfl ?_
      refine lv_lmul hx hb dX9_productOf_61 ?_
      refine lv_goto (tgt := 66) hx hb dX9_productOf_62 (by decide) ?_
      exact t_X9_productOf_J66 hX hr hZ hq1 hrec33 x2 x5 (x3 * u4.toInt64) h locs ls hF (lv_sub hl [1, 2, 3, 5] rfl)
set_option maxHeartbeats 4000000 in
set_option maxRecDepth 100000 in
theorem t_X9_productOf_J30 {p : Program} {l : Launch} {e : Env} {s : State} {m : MethodId} {args : Array Value} {below : List Frame} {meth : Method} {c : Code} {D : va_G} {aC : Nat → ClassId} {A : Nat → Prop} {a_o : Nat → Nat} {q1 z1 : Nat} {f1 : Nat → Int32} {pl1 : Nat} {out : Int64} {s_o : Ob_T} (hX : K_X p s m args meth c cX9_productOf 7 WL_ RX9 D aC A) (hr : meth.sig.returnType = (some .long)) (hZ : va_P D vwCl (wd_X9 aC a_o s_o) s.heap ∧ va_D (fun _ => True) (wd_X9 aC a_o s_o)) (hq1 : (wd_X9 aC a_o s_o)[pl1]? = some (q1, .inl (aC 0, z1, .inl f1))) (x2 : Int32) (x3 : Int64) (h : f_X9_productOf_J30 x2 x3 s_o f1 z1 = some out) (locs : List Loc) (ls : Array Slot) (hF : ∀ q ∈ locs, False) (hl : lv_has ls 7 [(0, .ref (a_o 0)), (1, .ref q1), (2, .int x2), (3, .long x3)]) : W p l e (R_m 1 22) s m args below meth c s.heap locs 0 0 (MQ below (Q_R (some (.long out))) args s 0 0 (fun _ => False)) (F0 m 30 ls []) := by
  obtain ⟨hx, hb, hml, hown, hts, hK, hA, hlk⟩ := id hX
  unfold f_X9_productOf_J30 at h
  refine lv_iconst (v := 0) hx hb dX9_productOf_30 (by decide) ?_
  refine lv_istore (lv' := [(5, .int (0 : Int32)), (0, .ref (a_o 0)), (1, .ref q1), (2, .int x2), (3, .long x3)]) hx hb dX9_productOf_31 hl (by decide) rfl (fun ls hl => ?_)
  exact Lp_ok (body := (fun (rec : (Int32 × Int64 × Int32) → Option Int64) x => f_X9_productOf_L33 rec x.1 x.2.1 x.2.2 s_o f1 z1)) (out := out) (fun x => ∀ (locs : List Loc) (ls : Array Slot), (∀ q ∈ locs, False) → lv_has ls 7 [(0, .ref (a_o 0)), (1, .ref q1), (2, .int x.1), (3, .long x.2.1), (5, .int x.2.2)] → W p l e (R_m 1 22) s m args below meth c s.heap locs 0 0 (MQ below (Q_R (some (.long out))) args s 0 0 (fun _ => False)) (F0 m 33 ls [])) (fun rec hrec x h locs ls hF hl => t_X9_productOf_L33 hX hr hZ hq1 hrec x.1 x.2.1 x.2.2 h locs ls hF hl) FU_ (x2, x3, (0 : Int32)) h locs ls hF (lv_sub hl [1, 2, 3, 4, 0] rfl)
set_option maxHeartbeats 4000000 in
set_option maxRecDepth 100000 in
theorem c_X9_productOf {l : Launch} {D : va_G} {aC : Nat → ClassId} {a_o : Nat → Nat} (s_o : Ob_T) {q1 z1 : Nat} {f1 : Nat → Int32} {pl1 : Nat} (hq1 : (wd_X9 aC a_o s_o)[pl1]? = some (q1, .inl (aC 0, z1, .inl f1))) (x2 : Int32) {out : Int64} (h : f_X9_productOf s_o x2 f1 z1 = some out) : M_R l yX9_productOf wlX9_productOf 1 22 D aC [.ref (a_o 0), .ref q1, .int x2] (wd_X9 aC a_o s_o) (some (.long out)) := by
  refine k_entR (cc := cX9_productOf) (ret := (some .long)) (maxL := 7) (own := RX9) (by decide) rfl rfl rfl ?_
  intro p e s m below meth c A ls hX hr hZ hl
  have hl : lv_has ls 7 [(0, .ref (a_o 0)), (1, .ref q1), (2, .int x2)] := hl
  generalize ([.ref (a_o 0), .ref q1, .int x2] : List Value).toArray = args at hX ⊢
  obtain ⟨hx, hb, hml, hown, hts, hK, hA, hlk⟩ := id hX
  unfold f_X9_productOf at h
  have hF : ∀ q ∈ ([] : List Loc), False := fun _ h => nomatch h
  generalize ([] : List Loc) = locs at hF ⊢
  refine lv_lconst (v := 1) hx hb dX9_productOf_0 (by decide) ?_
  refine lv_lstore_n (lv' := [(3, .long (1 : Int64)), (0, .ref (a_o 0)), (1, .ref q1), (2, .int x2)]) hx hb dX9_productOf_1 rfl hl (by decide) rfl (fun ls hl => ?_)
  refine lv_iconst (v := 0) hx hb dX9_productOf_2 (by decide) ?_
  refine lv_istore (lv' := [(5, .int (0 : Int32)), (3, .long (1 : Int64)), (0, .ref (a_o 0)), (1, .ref q1), (2, .int x2)]) hx hb dX9_productOf_3 hl (by decide) rfl (fun ls hl => ?_)
  exact Lp_ok (body := (fun (rec : (Int32 × Int64 × Int32) → Option Int64) x => f_X9_productOf_L5 (fun y2 y3 => f_X9_productOf_J30 y2 y3 s_o f1 z1) rec x.1 x.2.1 x.2.2 s_o f1 z1)) (out := out) (fun x => ∀ (locs : List Loc) (ls : Array Slot), (∀ q ∈ locs, False) → lv_has ls 7 [(0, .ref (a_o 0)), (1, .ref q1), (2, .int x.1), (3, .long x.2.1), (5, .int x.2.2)] → W p l e (R_m 1 22) s m args below meth c s.heap locs 0 0 (MQ below (Q_R (some (.long out))) args s 0 0 (fun _ => False)) (F0 m 5 ls [])) (fun rec hrec x h locs ls hF hl => t_X9_productOf_L5 hX hr hZ hq1 (fun y2 y3 h locs ls hF hl => t_X9_productOf_J30 hX hr hZ hq1 y2 y3 h locs ls hF (lv_sub hl [0, 1, 2, 3] rfl)) hrec x.1 x.2.1 x.2.2 h locs ls hF hl) FU_ (x2, (1 : Int64), (0 : Int32)) h locs ls hF (lv_sub hl [2, 3, 4, 1, 0] rfl)
