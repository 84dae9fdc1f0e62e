def wlX3_greatestPart : List Cond := .code yX3_greatestPart cX3_greatestPart 7 (some .int) :: WL_
theorem hd_X3_greatestPart : yX3_greatestPart.cls ≠ "java/lang/invoke/MethodHandle" ∧ yX3_greatestPart.cls ≠ "java/lang/invoke/VarHandle" ∧ (parseMethodDescriptor yX3_greatestPart.desc).map (fun d => d.parameters.length) = some 2 := by decide +kernel
theorem dX3_greatestPart_0 : decode cX3_greatestPart 0 = .ok (.iconst 0, 1) := by decide +kernel
theorem dX3_greatestPart_1 : decode cX3_greatestPart 1 = .ok (.istore_n 2, 1) := by decide +kernel
theorem dX3_greatestPart_2 : decode cX3_greatestPart 2 = .ok (.iconst 1, 1) := by decide +kernel
theorem dX3_greatestPart_3 : decode cX3_greatestPart 3 = .ok (.istore_n 3, 1) := by decide +kernel
theorem dX3_greatestPart_4 : decode cX3_greatestPart 4 = .ok (.iload_n 3, 1) := by decide +kernel
theorem dX3_greatestPart_5 : decode cX3_greatestPart 5 = .ok (.iconst 5, 1) := by decide +kernel
theorem dX3_greatestPart_6 : decode cX3_greatestPart 6 = .ok (.if_icmp .gt 84, 3) := by decide +kernel
theorem dX3_greatestPart_9 : decode cX3_greatestPart 9 = .ok (.iconst 0, 1) := by decide +kernel
theorem dX3_greatestPart_10 : decode cX3_greatestPart 10 = .ok (.istore 4, 2) := by decide +kernel
theorem dX3_greatestPart_12 : decode cX3_greatestPart 12 = .ok (.iconst 1, 1) := by decide +kernel
theorem dX3_greatestPart_13 : decode cX3_greatestPart 13 = .ok (.istore 5, 2) := by decide +kernel
theorem dX3_greatestPart_15 : decode cX3_greatestPart 15 = .ok (.iload 5, 2) := by decide +kernel
theorem dX3_greatestPart_17 : decode cX3_greatestPart 17 = .ok (.iconst 5, 1) := by decide +kernel
theorem dX3_greatestPart_18 : decode cX3_greatestPart 18 = .ok (.if_icmp .gt 59, 3) := by decide +kernel
theorem dX3_greatestPart_21 : decode cX3_greatestPart 21 = .ok (.iload_n 0, 1) := by decide +kernel
theorem dX3_greatestPart_22 : decode cX3_greatestPart 22 = .ok (.iload_n 3, 1) := by decide +kernel
theorem dX3_greatestPart_23 : decode cX3_greatestPart 23 = .ok (.ishr, 1) := by decide +kernel
theorem dX3_greatestPart_24 : decode cX3_greatestPart 24 = .ok (.iload_n 0, 1) := by decide +kernel
theorem dX3_greatestPart_25 : decode cX3_greatestPart 25 = .ok (.iload 5, 2) := by decide +kernel
theorem dX3_greatestPart_27 : decode cX3_greatestPart 27 = .ok (.ishr, 1) := by decide +kernel
theorem dX3_greatestPart_28 : decode cX3_greatestPart 28 = .ok (.iand, 1) := by decide +kernel
theorem dX3_greatestPart_29 : decode cX3_greatestPart 29 = .ok (.iconst 1, 1) := by decide +kernel
theorem dX3_greatestPart_30 : decode cX3_greatestPart 30 = .ok (.iand, 1) := by decide +kernel
theorem dX3_greatestPart_31 : decode cX3_greatestPart 31 = .ok (.iconst 1, 1) := by decide +kernel
theorem dX3_greatestPart_32 : decode cX3_greatestPart 32 = .ok (.if_icmp .ne 7, 3) := by decide +kernel
theorem dX3_greatestPart_35 : decode cX3_greatestPart 35 = .ok (.iconst 1, 1) := by decide +kernel
theorem dX3_greatestPart_36 : decode cX3_greatestPart 36 = .ok (.goto 4, 3) := by decide +kernel
theorem dX3_greatestPart_39 : decode cX3_greatestPart 39 = .ok (.iconst 0, 1) := by decide +kernel
theorem dX3_greatestPart_40 : decode cX3_greatestPart 40 = .ok (.istore 6, 2) := by decide +kernel
theorem dX3_greatestPart_42 : decode cX3_greatestPart 42 = .ok (.iload 4, 2) := by decide +kernel
theorem dX3_greatestPart_44 : decode cX3_greatestPart 44 = .ok (.iload 6, 2) := by decide +kernel
theorem dX3_greatestPart_46 : decode cX3_greatestPart 46 = .ok (.ifCond .eq 21, 3) := by decide +kernel
theorem dX3_greatestPart_49 : decode cX3_greatestPart 49 = .ok (.iload_n 3, 1) := by decide +kernel
theorem dX3_greatestPart_50 : decode cX3_greatestPart 50 = .ok (.iload_n 1, 1) := by decide +kernel
theorem dX3_greatestPart_51 : decode cX3_greatestPart 51 = .ok (.invokestatic 26, 3) := by decide +kernel
theorem dX3_greatestPart_54 : decode cX3_greatestPart 54 = .ok (.iload 5, 2) := by decide +kernel
theorem dX3_greatestPart_56 : decode cX3_greatestPart 56 = .ok (.iload_n 1, 1) := by decide +kernel
theorem dX3_greatestPart_57 : decode cX3_greatestPart 57 = .ok (.invokestatic 26, 3) := by decide +kernel
theorem dX3_greatestPart_60 : decode cX3_greatestPart 60 = .ok (.if_icmp .ne 7, 3) := by decide +kernel
theorem dX3_greatestPart_63 : decode cX3_greatestPart 63 = .ok (.iconst 1, 1) := by decide +kernel
theorem dX3_greatestPart_64 : decode cX3_greatestPart 64 = .ok (.goto 4, 3) := by decide +kernel
theorem dX3_greatestPart_67 : decode cX3_greatestPart 67 = .ok (.iconst 0, 1) := by decide +kernel
theorem dX3_greatestPart_68 : decode cX3_greatestPart 68 = .ok (.iadd, 1) := by decide +kernel
theorem dX3_greatestPart_69 : decode cX3_greatestPart 69 = .ok (.istore 4, 2) := by decide +kernel
theorem dX3_greatestPart_71 : decode cX3_greatestPart 71 = .ok (.iinc 5 1, 3) := by decide +kernel
theorem dX3_greatestPart_74 : decode cX3_greatestPart 74 = .ok (.goto (-59), 3) := by decide +kernel
theorem dX3_greatestPart_77 : decode cX3_greatestPart 77 = .ok (.iload_n 2, 1) := by decide +kernel
theorem dX3_greatestPart_78 : decode cX3_greatestPart 78 = .ok (.iload 4, 2) := by decide +kernel
theorem dX3_greatestPart_80 : decode cX3_greatestPart 80 = .ok (.invokestatic 43, 3) := by decide +kernel
theorem dX3_greatestPart_83 : decode cX3_greatestPart 83 = .ok (.istore_n 2, 1) := by decide +kernel
theorem dX3_greatestPart_84 : decode cX3_greatestPart 84 = .ok (.iinc 3 1, 3) := by decide +kernel
theorem dX3_greatestPart_87 : decode cX3_greatestPart 87 = .ok (.goto (-83), 3) := by decide +kernel
theorem dX3_greatestPart_90 : decode cX3_greatestPart 90 = .ok (.iload_n 2, 1) := by decide +kernel
theorem dX3_greatestPart_91 : decode cX3_greatestPart 91 = .ok (.ireturn, 1) := by decide +kernel
set_option maxHeartbeats 4000000 in
set_option maxRecDepth 100000 in
theorem t_X3_greatestPart_J40 {p : Program} {l : Launch} {e : Env} {s : State} {m : MethodId} {args : Array Value} {below : List Frame} {meth : Method} {c : Code} {D : va_G} {aC : Nat → ClassId} {A : Nat → Prop} {out : Int32} {rec15 : (Int32 × Int32 × Int32 × Int32 × Int32 × Int32) → Option Int32} (hX : K_X p s m args meth c cX3_greatestPart 7 WL_ RX3 D aC A) (hr : meth.sig.returnType = (some .int)) (hZ : va_P D vwCl (([] : va_W)) s.heap ∧ va_D (fun _ => True) (([] : va_W))) (hrec15 : ∀ x : Int32 × Int32 × Int32 × Int32 × Int32 × Int32, rec15 x = some out → ∀ (locs : List Loc) (ls : Array Slot), (∀ q ∈ locs, False) → lv_has ls 7 [(0, .int x.1), (1, .int x.2.1), (2, .int x.2.2.1), (3, .int x.2.2.2.1), (4, .int x.2.2.2.2.1), (5, .int x.2.2.2.2.2)] → W p l e (R_m 1 40) s m args below meth c s.heap locs 0 0 (MQ below (Q_R (some (.int out))) args s 0 0 (fun _ => False)) (F0 m 15 ls [])) (x0 : Int32) (x1 : Int32) (x2 : Int32) (x3 : Int32) (x4 : Int32) (x5 : Int32) (k0 : Int32) (h : f_X3_greatestPart_J40 rec15 x0 x1 x2 x3 x4 x5 k0 = some out) (locs : List Loc) (ls : Array Slot) (hF : ∀ q ∈ locs, False) (hl : lv_has ls 7 [(0, .int x0), (1, .int x1), (2, .int x2), (3, .int x3), (4, .int x4), (5, .int x5)]) : W p l e (R_m 1 40) s m args below meth c s.heap locs 0 0 (MQ below (Q_R (some (.int out))) args s 0 0 (fun _ => False)) (F0 m 40 ls [.int k0]) := by
  obtain ⟨hx, hb, hml, hown, hts, hK, hA, hlk⟩ := id hX
  unfold f_X3_greatestPart_J40 at h
  refine lv_istore (lv' := [(6, .int k0), (0, .int x0), (1, .int x1), (2, .int x2), (3, .int x3), (4, .int x4), (5, .int x5)]) hx hb dX3_greatestPart_40 hl (by decide) rfl (fun ls hl => ?_)
  refine lv_iload hx hb dX3_greatestPart_42 (lv_at hl 5 rfl) ?_
  refine lv_iload hx hb dX3_greatestPart_44 (lv_at hl 0 rfl) ?_
  refine lv_if_eq (tgt := 67) hx hb dX3_greatestPart_46 (by decide) (fun cd => ?_) (fun cd => ?_)
  · replace h := k_t cd h
    clear cd
    refine lv_iconst (v := 0) hx hb dX3_greatestPart_67 (by decide) ?_
    refine lv_iadd hx hb dX3_greatestPart_68 ?_
    refine lv_istore (lv' := [(4, .int (x4 + (0 : Int32))), (6, .int k0), (0, .int x0), (1, .int x1), (2, .int x2), (3, .int x3), (5, .int x5)]) hx hb dX3_greatestPart_69 hl (by decide) rfl (fun ls hl => ?_)
    refine lv_iinc (v := (x5 + (1 : Int32))) (lv' := [(5, .int (x5 + (1 : Int32))), (4, .int (x4 + (0 : Int32))), (6, .int k0), (0, .int x0), (1, .int x1), (2, .int x2), (3, .int x3)]) hx hb dX3_greatestPart_71 hl (k := 6) rfl rfl (by decide) rfl (fun ls hl => ?_)
    refine lv_goto (tgt := 15) hx hb dX3_greatestPart_74 (by decide) ?_
    exact hrec15 (x0, x1, x2, x3, (x4 + (0 : Int32)), (x5 + (1 : Int32))) h locs ls hF (lv_sub hl [3, 4, 5, 6, 1, 0] rfl)
  · replace h := k_f cd h
    clear cd
    refine lv_iload_n hx hb dX3_greatestPart_49 rfl (lv_at hl 4 rfl) ?_
    refine lv_iload_n hx hb dX3_greatestPart_50 rfl (lv_at hl 2 rfl) ?_
    obtain ⟨u1, hu, h⟩ := k_bd h
    refine k_sRR (As := [.int x3, .int x1]) (rest := [.int x4]) (wc := []) (v := some (.int u1)) (st1 := [.int u1, .int x4]) hX hl.1 hZ hF (c_X3_wouldAnswer  x3 x1 hu) (gs_ wm_400 wm_403 wm_401 wm_402) rfl hd_X3_wouldAnswer ⟨rfl, rfl⟩ [] rfl rfl rfl rfl rfl dX3_greatestPart_51 rfl ⟨rfl, rfl⟩ (fun locs hF => ?_)
    clear hu
    refine lv_iload hx hb dX3_greatestPart_54 (lv_at hl 6 rfl) ?_
    refine lv_iload_n hx hb dX3_greatestPart_56 rfl (lv_at hl 2 rfl) ?_
    obtain ⟨u2, hu, h⟩ := k_bd h
    refine k_sRR (As := [.int x5, .int x1]) (rest := [.int u1, .int x4]) (wc := []) (v := some (.int u2)) (st1 := [.int u2, .int u1, .int x4]) hX hl.1 hZ hF (c_X3_wouldAnswer  x5 x1 hu) (gs_ wm_400 wm_403 wm_401 wm_402) rfl hd_X3_wouldAnswer ⟨rfl, rfl⟩ [] rfl rfl rfl rfl rfl dX3_greatestPart_57 rfl ⟨rfl, rfl⟩ (fun locs hF => ?_)
    clear hu
    refine lv_icmp_ne (tgt := 67) hx hb dX3_greatestPart_60 (by decide) (fun cd => ?_) (fun cd => ?_)
    · replace h := k_f cd h
      clear cd
      refine lv_iconst (v := 0) hx hb dX3_greatestPart_67 (by decide) ?_
      refine lv_iadd hx hb dX3_greatestPart_68 ?_
      refine lv_istore (lv' := [(4, .int (x4 + (0 : Int32))), (6, .int k0), (0, .int x0), (1, .int x1), (2, .int x2), (3, .int x3), (5, .int x5)]) hx hb dX3_greatestPart_69 hl (by decide) rfl (fun ls hl => ?_)
      refine lv_iinc (v := (x5 + (1 : Int32))) (lv' := [(5, .int (x5 + (1 : Int32))), (4, .int (x4 + (0 : Int32))), (6, .int k0), (0, .int x0), (1, .int x1), (2, .int x2), (3, .int x3)]) hx hb dX3_greatestPart_71 hl (k := 6) rfl rfl (by decide) rfl (fun ls hl => ?_)
      refine lv_goto (tgt := 15) hx hb dX3_greatestPart_74 (by decide) ?_
      exact hrec15 (x0, x1, x2, x3, (x4 + (0 : Int32)), (x5 + (1 : Int32))) h locs ls hF (lv_sub hl [3, 4, 5, 6, 1, 0] rfl)
    · replace h := k_t cd h
      clear cd
      refine lv_iconst (v := 1) hx hb dX3_greatestPart_63 (by decide) ?_
      refine lv_goto (tgt := 68) hx hb dX3_greatestPart_64 (by decide) ?_
      refine lv_iadd hx hb dX3_greatestPart_68 ?_
      refine lv_istore (lv' := [(4, .int (x4 + (1 : Int32))), (6, .int k0), (0, .int x0), (1, .int x1), (2, .int x2), (3, .int x3), (5, .int x5)]) hx hb dX3_greatestPart_69 hl (by decide) rfl (fun ls hl => ?_)
      refine lv_iinc (v := (x5 + (1 : Int32))) (lv' := [(5, .int (x5 + (1 : Int32))), (4, .int (x4 + (1 : Int32))), (6, .int k0), (0, .int x0), (1, .int x1), (2, .int x2), (3, .int x3)]) hx hb dX3_greatestPart_71 hl (k := 6) rfl rfl (by decide) rfl (fun ls hl => ?_)
      refine lv_goto (tgt := 15) hx hb dX3_greatestPart_74 (by decide) ?_
      exact hrec15 (x0, x1, x2, x3, (x4 + (1 : Int32)), (x5 + (1 : Int32))) h locs ls hF (lv_sub hl [3, 4, 5, 6, 1, 0] rfl)
set_option maxHeartbeats 4000000 in
set_option maxRecDepth 100000 in
theorem t_X3_greatestPart_L15 {p : Program} {l : Launch} {e : Env} {s : State} {m : MethodId} {args : Array Value} {below : List Frame} {meth : Method} {c : Code} {D : va_G} {aC : Nat → ClassId} {A : Nat → Prop} {out : Int32} {k77 : Int32 → Int32 → Int32 → Int32 → Int32 → Option Int32} {rec15 : (Int32 × Int32 × Int32 × Int32 × Int32 × Int32) → Option Int32} (hX : K_X p s m args meth c cX3_greatestPart 7 WL_ RX3 D aC A) (hr : meth.sig.returnType = (some .int)) (hZ : va_P D vwCl (([] : va_W)) s.heap ∧ va_D (fun _ => True) (([] : va_W))) (hk77 : ∀ (y0 : Int32) (y1 : Int32) (y2 : Int32) (y3 : Int32) (y4 : Int32), k77 y0 y1 y2 y3 y4 = some out → ∀ (locs : List Loc) (ls : Array Slot), (∀ q ∈ locs, False) → lv_has ls 7 [(0, .int y0), (1, .int y1), (2, .int y2), (3, .int y3), (4, .int y4)] → W p l e (R_m 1 40) s m args below meth c s.heap locs 0 0 (MQ below (Q_R (some (.int out))) args s 0 0 (fun _ => False)) (F0 m 77 ls [])) (hrec15 : ∀ x : Int32 × Int32 × Int32 × Int32 × Int32 × Int32, rec15 x = some out → ∀ (locs : List Loc) (ls : Array Slot), (∀ q ∈ locs, False) → lv_has ls 7 [(0, .int x.1), (1, .int x.2.1), (2, .int x.2.2.1), (3, .int x.2.2.2.1), (4, .int x.2.2.2.2.1), (5, .int x.2.2.2.2.2)] → W p l e (R_m 1 40) s m args below meth c s.heap locs 0 0 (MQ below (Q_R (some (.int out))) args s 0 0 (fun _ => False)) (F0 m 15 ls [])) (x0 : Int32) (x1 : Int32) (x2 : Int32) (x3 : Int32) (x4 : Int32) (x5 : Int32) (h : f_X3_greatestPart_L15 k77 rec15 x0 x1 x2 x3 x4 x5 = some out) (locs : List Loc) (ls : Array Slot) (hF : ∀ q ∈ locs, False) (hl : lv_has ls 7 [(0, .int x0), (1, .int x1), (2, .int x2), (3, .int x3), (4, .int x4), (5, .int x5)]) : W p l e (R_m 1 40) s m args below meth c s.heap locs 0 0 (MQ below (Q_R (some (.int out))) args s 0 0 (fun _ => False)) (F0 m 15 ls []) := by
  obtain ⟨hx, hb, hml, hown, hts, hK, hA, hlk⟩ := id hX
  unfold f_X3_greatestPart_L15 at h
  refine lv_iload hx hb dX3_greatestPart_15 (lv_at hl 5 rfl) ?_
  refine lv_iconst (v := 5) hx hb dX3_greatestPart_17 (by decide) ?_
  refine lv_icmp_gt (tgt := 77) hx hb dX3_greatestPart_18 (by decide) (fun cd => ?_) (fun cd => ?_)
  · replace h := k_t cd h
    clear cd
    exact hk77 x0 x1 x2 x3 x4 h locs ls hF (lv_sub hl [0, 1, 2, 3, 4] rfl)
  · replace h := k_f cd h
    clear cd
    refine lv_iload_n hx hb dX3_greatestPart_21 rfl (lv_at hl 0 rfl) ?_
    refine lv_iload_n hx hb dX3_greatestPart_22 rfl (lv_at hl 3 rfl) ?_
    refine lv_ishr hx hb dX3_greatestPart_23 ?_
    refine lv_iload_n hx hb dX3_greatestPart_24 rfl (lv_at hl 0 rfl) ?_
    refine lv_iload hx hb dX3_greatestPart_25 (lv_at hl 5 rfl) ?_
    refine lv_ishr hx hb dX3_greatestPart_27 ?_
    refine lv_iand hx hb dX3_greatestPart_28 ?_
    refine lv_iconst (v := 1) hx hb dX3_greatestPart_29 (by decide) ?_
    refine lv_iand hx hb dX3_greatestPart_30 ?_
    refine lv_iconst (v := 1) hx hb dX3_greatestPart_31 (by decide) ?_
    refine lv_icmp_ne (tgt := 39) hx hb dX3_greatestPart_32 (by decide) (fun cd => ?_) (fun cd => ?_)
    · replace h := k_f cd h
      clear cd
      refine lv_iconst (v := 0) hx hb dX3_greatestPart_39 (by decide) ?_
      exact t_X3_greatestPart_J40 hX hr hZ hrec15 x0 x1 x2 x3 x4 x5 (0 : Int32) h locs ls hF (lv_sub hl [0, 1, 2, 3, 4, 5] rfl)
    · replace h := k_t cd h
      clear cd
      refine lv_iconst (v := 1) hx hb dX3_greatestPart_35 (by decide) ?_
      refine lv_goto (tgt := 40) hx hb dX3_greatestPart_36 (by decide) ?_
      exact t_X3_greatestPart_J40 hX hr hZ hrec15 x0 x1 x2 x3 x4 x5 (1 : Int32) h locs ls hF (lv_sub hl [0, 1, 2, 3, 4, 5] rfl)
set_option maxHeartbeats 4000000 in
set_option maxRecDepth 100000 in
theorem t_X3_greatestPart_J77 {p : Program} {l : Launch} {e : Env} {s : State} {m : MethodId} {args : Array Value} {below : List Frame} {meth : Method} {c : Code} {D : va_G} {aC : Nat → ClassId} {A : Nat → Prop} {out : Int32} {rec4 : (Int32 × Int32 × Int32 × Int32) → Option Int32} (hX : K_X p s m args meth c cX3_greatestPart 7 WL_ RX3 D aC A) (hr : meth.sig.returnType = (some .int)) (hZ : va_P D vwCl (([] : va_W)) s.heap ∧ va_D (fun _ => True) (([] : va_W))) (hrec4 : ∀ x : Int32 × Int32 × Int32 × Int32, rec4 x = some out → ∀ (locs : List Loc) (ls : Array Slot), (∀ q ∈ locs, False) → lv_has ls 7 [(0, .int x.1), (1, .int x.2.1), (2, .int x.2.2.1), (3, .int x.2.2.2)] → W p l e (R_m 1 40) s m args below meth c s.heap locs 0 0 (MQ below (Q_R (some (.int out))) args s 0 0 (fun _ => False)) (F0 m 4 ls [])) (x0 : Int32) (x1 : Int32) (x2 : Int32) (x3 : Int32) (x4 : Int32) (h : f_X3_greatestPart_J77 rec4 x0 x1 x2 x3 x4 = some out) (locs : List Loc) (ls : Array Slot) (hF : ∀ q ∈ locs, False) (hl : lv_has ls 7 [(0, .int x0), (1, .int x1), (2, .int x2), (3, .int x3), (4, .int x4)]) : W p l e (R_m 1 40) s m args below meth c s.heap locs 0 0 (MQ below (Q_R (some (.int out))) args s 0 0 (fun _ => False)) (F0 m 77 ls []) := by
  obtain ⟨hx, hb, hml, hown, hts, hK, hA, hlk⟩ := id hX
  unfold f_X3_greatestPart_J77 at h
  refine lv_iload_n hx hb dX3_greatestPart_77 rfl (lv_at hl 2 rfl) ?_
  refine lv_iload hx hb dX3_greatestPart_78 (lv_at hl 4 rfl) ?_
  refine va_mmax (x := x2) (y := x4) hx hb (hml.trans hl.1.symm) hown (hts _ wm_408) (hts _ wm_338) (hts _ wm_339) (hts _ wm_340) (Nat.le_of_ble_eq_true rfl) (Nat.le_of_ble_eq_true rfl) (Nat.zero_le _) (Nat.zero_le _) dX3_greatestPart_80 ?_
  refine lv_istore_n (lv' := [(2, .int (if x2 < x4 then x4 else x2)), (0, .int x0), (1, .int x1), (3, .int x3), (4, .int x4)]) hx hb dX3_greatestPart_83 rfl hl (by decide) rfl (fun ls hl => ?_)
  refine lv_iinc (v := (x3 + (1 : Int32))) (lv' := [(3, .int (x3 + (1 : Int32))), (2, .int (if x2 < x4 then x4 else x2)), (0, .int x0), (1, .int x1), (4, .int x4)]) hx hb dX3_greatestPart_84 hl (k := 3) rfl rfl (by decide) rfl (fun ls hl => ?_)
  refine lv_goto (tgt := 4) hx hb dX3_greatestPart_87 (by decide) ?_
  exact hrec4 (x0, x1, (if x2 < x4 then x4 else x2), (x3 + (1 : Int32))) h locs ls hF (lv_sub hl [2, 3, 1, 0] rfl)
set_option maxHeartbeats 4000000 in
set_option maxRecDepth 100000 in
theorem t_X3_greatestPart_L4 {p : Program} {l : Launch} {e : Env} {s : State} {m : MethodId} {args : Array Value} {below : List Frame} {meth : Method} {c : Code} {D : va_G} {aC : Nat → ClassId} {A : Nat → Prop} {out : Int32} {rec4 : (Int32 × Int32 × Int32 × Int32) → Option Int32} (hX : K_X p s m args meth c cX3_greatestPart 7 WL_ RX3 D aC A) (hr : meth.sig.returnType = (some .int)) (hZ : va_P D vwCl (([] : va_W)) s.heap ∧ va_D (fun _ => True) (([] : va_W))) (hrec4 : ∀ x : Int32 × Int32 × Int32 × Int32, rec4 x = some out → ∀ (locs : List Loc) (ls : Array Slot), (∀ q ∈ locs, False) → lv_has ls 7 [(0, .int x.1), (1, .int x.2.1), (2, .int x.2.2.1), (3, .int x.2.2.2)] → W p l e (R_m 1 40) s m args below meth c s.heap locs 0 0 (MQ below (Q_R (some (.int out))) args s 0 0 (fun _ => False)) (F0 m 4 ls [])) (x0 : Int32) (x1 : Int32) (x2 : Int32) (x3 : Int32) (h : f_X3_greatestPart_L4 rec4 x0 x1 x2 x3 = some out) (locs : List Loc) (ls : Array Slot) (hF : ∀ q ∈ locs, False) (hl : lv_has ls 7 [(0, .int x0), (1, .int x1), (2, .int x2), (3, .int x3)]) : W p l e (R_m 1 40) s m args below meth c s.heap locs 0 0 (MQ below (Q_R (some (.int out))) args s 0 0 (fun _ => False)) (F0 m 4 ls []) := by
  obtain ⟨hx, hb, hml, hown, hts, hK, hA, hlk⟩ := id hX
  unfold f_X3_greatestPart_L4 at h
  refine lv_iload_n hx hb dX3_greatestPart_4 rfl (lv_at hl 3 rfl) ?_
  refine lv_iconst (v := 5) hx hb dX3_greatestPart_5 (by decide) ?_
  refine lv_icmp_gt (tgt := 90) hx hb dX3_greatestPart_6 (by decide) (fun cd => ?_) (fun cd => ?_)
  · replace h := k_t cd h
    clear cd
    refine lv_iload_n hx hb dX3_greatestPart_90 rfl (lv_at hl 2 rfl) ?_
    cases h
    exact k_iretR hX hr hF dX3_greatestPart_91
  · replace h := k_f cd h
    clear cd
    refine lv_iconst (v := 0) hx hb dX3_greatestPart_9 (by decide) ?_
    refine lv_istore (lv' := [(4, .int (0 : Int32)), (0, .int x0), (1, .int x1), (2, .int x2), (3, .int x3)]) hx hb dX3_greatestPart_10 hl (by decide) rfl (fun ls hl => ?_)
    refine lv_iconst (v := 1) hx hb dX3_greatestPart_12 (by decide) ?_
    refine lv_istore (lv' := [(5, .int (1 : Int32)), (4, .int (0 : Int32)), (0, .int x0), (1, .int x1), (2, .int x2), (3, .int x3)]) hx hb dX3_greatestPart_13 hl (by decide) rfl (fun ls hl => ?_)
    exact Lp_ok (body := (fun (rec : (Int32 × Int32 × Int32 × Int32 × Int32 × Int32) → Option Int32) x => f_X3_greatestPart_L15 (fun y0 y1 y2 y3 y4 => f_X3_greatestPart_J77 rec4 y0 y1 y2 y3 y4) rec x.1 x.2.1 x.2.2.1 x.2.2.2.1 x.2.2.2.2.1 x.2.2.2.2.2)) (out := out) (fun x => ∀ (locs : List Loc) (ls : Array Slot), (∀ q ∈ locs, False) → lv_has ls 7 [(0, .int x.1), (1, .int x.2.1), (2, .int x.2.2.1), (3, .int x.2.2.2.1), (4, .int x.2.2.2.2.1), (5, .int x.2.2.2.2.2)] → W p l e (R_m 1 40) s m args below meth c s.heap locs 0 0 (MQ below (Q_R (some (.int out))) args s 0 0 (fun _ => False)) (F0 m 15 ls [])) (fun rec hrec x h locs ls hF hl => t_X3_greatestPart_L15 hX hr hZ (fun y0 y1 y2 y3 y4 h locs ls hF hl => t_X3_greatestPart_J77 hX hr hZ hrec4 y0 y1 y2 y3 y4 h locs ls hF (lv_sub hl [0, 1, 2, 3, 4] rfl)) hrec x.1 x.2.1 x.2.2.1 x.2.2.2.1 x.2.2.2.2.1 x.2.2.2.2.2 h locs ls hF hl) FU_ (x0, x1, x2, x3, (0 : Int32), (1 : Int32)) h locs ls hF (lv_sub hl [2, 3, 4, 5, 1, 0] rfl)
set_option maxHeartbeats 4000000 in
set_option maxRecDepth 100000 in
theorem c_X3_greatestPart {l : Launch} {D : va_G} {aC : Nat → ClassId} (x0 : Int32) (x1 : Int32) {out : Int32} (h : f_X3_greatestPart x0 x1 = some out) : M_R l yX3_greatestPart wlX3_greatestPart 1 40 D aC [.int x0, .int x1] (([] : va_W)) (some (.int out)) := by
  refine k_entR (cc := cX3_greatestPart) (ret := (some .int)) (maxL := 7) (own := RX3) (by decide) rfl rfl rfl ?_
  intro p e s m below meth c A ls hX hr hZ hl
  have hl : lv_has ls 7 [(0, .int x0), (1, .int x1)] := hl
  generalize ([.int x0, .int x1] : List Value).toArray = args at hX ⊢
  obtain ⟨hx, hb, hml, hown, hts, hK, hA, hlk⟩ := id hX
  unfold f_X3_greatestPart at h
  have hF : ∀ q ∈ ([] : List Loc), False := fun _ h => nomatch h
  generalize ([] : List Loc) = locs at hF ⊢
  refine lv_iconst (v := 0) hx hb dX3_greatestPart_0 (by decide) ?_
  refine lv_istore_n (lv' := [(2, .int (0 : Int32)), (0, .int x0), (1, .int x1)]) hx hb dX3_greatestPart_1 rfl hl (by decide) rfl (fun ls hl => ?_)
  refine lv_iconst (v := 1) hx hb dX3_greatestPart_2 (by decide) ?_
  refine lv_istore_n (lv' := [(3, .int (1 : Int32)), (2, .int (0 : Int32)), (0, .int x0), (1, .int x1)]) hx hb dX3_greatestPart_3 rfl hl (by decide) rfl (fun ls hl => ?_)
  exact Lp_ok (body := (fun (rec : (Int32 × Int32 × Int32 × Int32) → Option Int32) x => f_X3_greatestPart_L4 rec x.1 x.2.1 x.2.2.1 x.2.2.2)) (out := out) (fun x => ∀ (locs : List Loc) (ls : Array Slot), (∀ q ∈ locs, False) → lv_has ls 7 [(0, .int x.1), (1, .int x.2.1), (2, .int x.2.2.1), (3, .int x.2.2.2)] → W p l e (R_m 1 40) s m args below meth c s.heap locs 0 0 (MQ below (Q_R (some (.int out))) args s 0 0 (fun _ => False)) (F0 m 4 ls [])) (fun rec hrec x h locs ls hF hl => t_X3_greatestPart_L4 hX hr hZ hrec x.1 x.2.1 x.2.2.1 x.2.2.2 h locs ls hF hl) FU_ (x0, x1, (0 : Int32), (1 : Int32)) h locs ls hF (lv_sub hl [2, 3, 1, 0] rfl)
