def wlX9_odds : List Cond := .code yX9_odds cX9_odds 8 (some .int) :: WL_
theorem hd_X9_odds : yX9_odds.cls = RX9 ∧ yX9_odds.cls ≠ "java/lang/invoke/MethodHandle" ∧ yX9_odds.cls ≠ "java/lang/invoke/VarHandle" ∧ (parseMethodDescriptor yX9_odds.desc).map (fun d => d.parameters.length) = some 1 := by decide +kernel
theorem dX9_odds_0 : decode cX9_odds 0 = .ok (.iload_n 1, 1) := by decide +kernel
theorem dX9_odds_1 : decode cX9_odds 1 = .ok (.i2l, 1) := by decide +kernel
theorem dX9_odds_2 : decode cX9_odds 2 = .ok (.lconst 0, 1) := by decide +kernel
theorem dX9_odds_3 : decode cX9_odds 3 = .ok (.lconst 1, 1) := by decide +kernel
theorem dX9_odds_4 : decode cX9_odds 4 = .ok (.invokestatic 97, 3) := by decide +kernel
theorem dX9_odds_7 : decode cX9_odds 7 = .ok (.ifCond .ne 6, 3) := by decide +kernel
theorem dX9_odds_10 : decode cX9_odds 10 = .ok (.bipush (-3), 2) := by decide +kernel
theorem dX9_odds_12 : decode cX9_odds 12 = .ok (.ireturn, 1) := by decide +kernel
theorem dX9_odds_13 : decode cX9_odds 13 = .ok (.aload_n 0, 1) := by decide +kernel
theorem dX9_odds_14 : decode cX9_odds 14 = .ok (.invokevirtual 325, 3) := by decide +kernel
theorem dX9_odds_17 : decode cX9_odds 17 = .ok (.istore_n 2, 1) := by decide +kernel
theorem dX9_odds_18 : decode cX9_odds 18 = .ok (.aload_n 0, 1) := by decide +kernel
theorem dX9_odds_19 : decode cX9_odds 19 = .ok (.getfield 217, 3) := by decide +kernel
theorem dX9_odds_22 : decode cX9_odds 22 = .ok (.ifCond .eq 7, 3) := by decide +kernel
theorem dX9_odds_25 : decode cX9_odds 25 = .ok (.iconst 0, 1) := by decide +kernel
theorem dX9_odds_26 : decode cX9_odds 26 = .ok (.goto 8, 3) := by decide +kernel
theorem dX9_odds_29 : decode cX9_odds 29 = .ok (.aload_n 0, 1) := by decide +kernel
theorem dX9_odds_30 : decode cX9_odds 30 = .ok (.iload_n 2, 1) := by decide +kernel
theorem dX9_odds_31 : decode cX9_odds 31 = .ok (.invokevirtual 328, 3) := by decide +kernel
theorem dX9_odds_34 : decode cX9_odds 34 = .ok (.istore_n 3, 1) := by decide +kernel
theorem dX9_odds_35 : decode cX9_odds 35 = .ok (.iconst 1, 1) := by decide +kernel
theorem dX9_odds_36 : decode cX9_odds 36 = .ok (.istore 4, 2) := by decide +kernel
theorem dX9_odds_38 : decode cX9_odds 38 = .ok (.iconst 0, 1) := by decide +kernel
theorem dX9_odds_39 : decode cX9_odds 39 = .ok (.istore 5, 2) := by decide +kernel
theorem dX9_odds_41 : decode cX9_odds 41 = .ok (.iload 5, 2) := by decide +kernel
theorem dX9_odds_43 : decode cX9_odds 43 = .ok (.iload_n 2, 1) := by decide +kernel
theorem dX9_odds_44 : decode cX9_odds 44 = .ok (.invokestatic 331, 3) := by decide +kernel
theorem dX9_odds_47 : decode cX9_odds 47 = .ok (.if_icmp .ge 16, 3) := by decide +kernel
theorem dX9_odds_50 : decode cX9_odds 50 = .ok (.iload 4, 2) := by decide +kernel
theorem dX9_odds_52 : decode cX9_odds 52 = .ok (.bipush 10, 2) := by decide +kernel
theorem dX9_odds_54 : decode cX9_odds 54 = .ok (.imul, 1) := by decide +kernel
theorem dX9_odds_55 : decode cX9_odds 55 = .ok (.istore 4, 2) := by decide +kernel
theorem dX9_odds_57 : decode cX9_odds 57 = .ok (.iinc 5 1, 3) := by decide +kernel
theorem dX9_odds_60 : decode cX9_odds 60 = .ok (.goto (-19), 3) := by decide +kernel
theorem dX9_odds_63 : decode cX9_odds 63 = .ok (.iload_n 3, 1) := by decide +kernel
theorem dX9_odds_64 : decode cX9_odds 64 = .ok (.istore 5, 2) := by decide +kernel
theorem dX9_odds_66 : decode cX9_odds 66 = .ok (.iload 4, 2) := by decide +kernel
theorem dX9_odds_68 : decode cX9_odds 68 = .ok (.istore 6, 2) := by decide +kernel
theorem dX9_odds_70 : decode cX9_odds 70 = .ok (.iload 6, 2) := by decide +kernel
theorem dX9_odds_72 : decode cX9_odds 72 = .ok (.ifCond .eq 21, 3) := by decide +kernel
theorem dX9_odds_75 : decode cX9_odds 75 = .ok (.iload 5, 2) := by decide +kernel
theorem dX9_odds_77 : decode cX9_odds 77 = .ok (.iload 6, 2) := by decide +kernel
theorem dX9_odds_79 : decode cX9_odds 79 = .ok (.irem, 1) := by decide +kernel
theorem dX9_odds_80 : decode cX9_odds 80 = .ok (.istore 7, 2) := by decide +kernel
theorem dX9_odds_82 : decode cX9_odds 82 = .ok (.iload 6, 2) := by decide +kernel
theorem dX9_odds_84 : decode cX9_odds 84 = .ok (.istore 5, 2) := by decide +kernel
theorem dX9_odds_86 : decode cX9_odds 86 = .ok (.iload 7, 2) := by decide +kernel
theorem dX9_odds_88 : decode cX9_odds 88 = .ok (.istore 6, 2) := by decide +kernel
theorem dX9_odds_90 : decode cX9_odds 90 = .ok (.goto (-20), 3) := by decide +kernel
theorem dX9_odds_93 : decode cX9_odds 93 = .ok (.iload_n 1, 1) := by decide +kernel
theorem dX9_odds_94 : decode cX9_odds 94 = .ok (.ifCond .ne 10, 3) := by decide +kernel
theorem dX9_odds_97 : decode cX9_odds 97 = .ok (.iload_n 3, 1) := by decide +kernel
theorem dX9_odds_98 : decode cX9_odds 98 = .ok (.iload 5, 2) := by decide +kernel
theorem dX9_odds_100 : decode cX9_odds 100 = .ok (.idiv, 1) := by decide +kernel
theorem dX9_odds_101 : decode cX9_odds 101 = .ok (.goto 8, 3) := by decide +kernel
theorem dX9_odds_104 : decode cX9_odds 104 = .ok (.iload 4, 2) := by decide +kernel
theorem dX9_odds_106 : decode cX9_odds 106 = .ok (.iload 5, 2) := by decide +kernel
theorem dX9_odds_108 : decode cX9_odds 108 = .ok (.idiv, 1) := by decide +kernel
theorem dX9_odds_109 : decode cX9_odds 109 = .ok (.ireturn, 1) := by decide +kernel
set_option maxHeartbeats 4000000 in
set_option maxRecDepth 100000 in
theorem t_X9_odds_L41 {p : Program} {l : Launch} {e : Env} {s : State} {m : MethodId} {args : Array Value} {below : List Frame} {meth : Method} {c : Code} {D : va_G} {aC : Nat → ClassId} {A : Nat → Prop} {a_o : Nat → Nat} {out : Int32 × Ob_T} {k63 : Int32 → Int32 → Int32 → Ob_T → Option (Int32 × Ob_T)} {rec41 : (Int32 × Int32 × Int32 × Int32 × Int32 × Ob_T) → Option (Int32 × Ob_T)} (hX : K_X p s m args meth c cX9_odds 8 WL_ RX9 D aC A) (hr : meth.sig.returnType = (some .int)) (hk63 : ∀ (y1 : Int32) (y3 : Int32) (y4 : Int32) (t_o : Ob_T), k63 y1 y3 y4 t_o = some out → ∀ (H : Heap) (locs : List Loc) (ls : Array Slot), K_S D A s (wd_X9 aC a_o t_o) H locs → lv_has ls 8 [(1, .int y1), (3, .int y3), (4, .int y4)] → W p l e (R_m 7 169) s m args below meth c H locs 0 0 (MQ below (Q_W (some (.int out.1)) D A (wd_X9 aC a_o out.2)) args s 0 0 A) (F0 m 63 ls [])) (hrec41 : ∀ x : Int32 × Int32 × Int32 × Int32 × Int32 × Ob_T, rec41 x = some out → ∀ (H : Heap) (locs : List Loc) (ls : Array Slot), K_S D A s (wd_X9 aC a_o x.2.2.2.2.2) H locs → lv_has ls 8 [(1, .int x.1), (2, .int x.2.1), (3, .int x.2.2.1), (4, .int x.2.2.2.1), (5, .int x.2.2.2.2.1)] → W p l e (R_m 7 169) s m args below meth c H locs 0 0 (MQ below (Q_W (some (.int out.1)) D A (wd_X9 aC a_o out.2)) args s 0 0 A) (F0 m 41 ls [])) (x1 : Int32) (x2 : Int32) (x3 : Int32) (x4 : Int32) (x5 : Int32) (s_o : Ob_T) (h : f_X9_odds_L41 k63 rec41 x1 x2 x3 x4 x5 s_o = some out) (H : Heap) (locs : List Loc) (ls : Array Slot) (hZ : K_S D A s (wd_X9 aC a_o s_o) H locs) (hl : lv_has ls 8 [(1, .int x1), (2, .int x2), (3, .int x3), (4, .int x4), (5, .int x5)]) : W p l e (R_m 7 169) s m args below meth c H locs 0 0 (MQ below (Q_W (some (.int out.1)) D A (wd_X9 aC a_o out.2)) args s 0 0 A) (F0 m 41 ls []) := by
  obtain ⟨hx, hb, hml, hown, hts, hK, hA, hlk⟩ := id hX
  unfold f_X9_odds_L41 at h
  refine lv_iload hx hb dX9_odds_41 (lv_at hl 4 rfl) ?_
  refine lv_iload_n hx hb dX9_odds_43 rfl (lv_at hl 1 rfl) ?_
  obtain ⟨u4, hu, h⟩ := k_bd h
  refine k_sR (As := [.int x2]) (rest := [.int x5]) (wc := []) (v := some (.int u4)) (st1 := [.int u4, .int x5]) hX hl.1 hZ (c_X9_bits  x2 hu) (gs_ wm_247 wm_249 wm_11 wm_248) rfl hd_X9_bits ⟨rfl, rfl⟩ [] rfl rfl rfl rfl rfl dX9_odds_44 rfl ⟨rfl, rfl⟩ (fun locs hZ => ?_)
  clear hu
  refine lv_icmp_ge (tgt := 63) hx hb dX9_odds_47 (by decide) (fun cd => ?_) (fun cd => ?_)
  · replace h := k_t cd h
    clear cd
    exact hk63 x1 x3 x4 s_o h H locs ls hZ (lv_sub hl [0, 2, 3] rfl)
  · replace h := k_f cd h
    clear cd
    refine lv_iload hx hb dX9_odds_50 (lv_at hl 3 rfl) ?_
    refine lv_bipush (v := 10) hx hb dX9_odds_52 (by decide) ?_
    refine lv_imul hx hb dX9_odds_54 ?_
    refine lv_istore (lv' := [(4, .int (x4 * (10 : Int32))), (1, .int x1), (2, .int x2), (3, .int x3), (5, .int x5)]) hx hb dX9_odds_55 hl (by decide) rfl (fun ls hl => ?_)
    refine lv_iinc (v := (x5 + (1 : Int32))) (lv' := [(5, .int (x5 + (1 : Int32))), (4, .int (x4 * (10 : Int32))), (1, .int x1), (2, .int x2), (3, .int x3)]) hx hb dX9_odds_57 hl (k := 4) rfl rfl (by decide) rfl (fun ls hl => ?_)
    refine lv_goto (tgt := 41) hx hb dX9_odds_60 (by decide) ?_
    exact hrec41 (x1, x2, x3, (x4 * (10 : Int32)), (x5 + (1 : Int32)), s_o) h H locs ls hZ (lv_sub hl [2, 3, 4, 1, 0] rfl)
set_option maxHeartbeats 4000000 in
set_option maxRecDepth 100000 in
theorem t_X9_odds_L70 {p : Program} {l : Launch} {e : Env} {s : State} {m : MethodId} {args : Array Value} {below : List Frame} {meth : Method} {c : Code} {D : va_G} {aC : Nat → ClassId} {A : Nat → Prop} {a_o : Nat → Nat} {out : Int32 × Ob_T} {k93 : Int32 → Int32 → Int32 → Int32 → Ob_T → Option (Int32 × Ob_T)} {rec70 : (Int32 × Int32 × Int32 × Int32 × Int32 × Ob_T) → Option (Int32 × Ob_T)} (hX : K_X p s m args meth c cX9_odds 8 WL_ RX9 D aC A) (hr : meth.sig.returnType = (some .int)) (hk93 : ∀ (y1 : Int32) (y3 : Int32) (y4 : Int32) (y5 : Int32) (t_o : Ob_T), k93 y1 y3 y4 y5 t_o = some out → ∀ (H : Heap) (locs : List Loc) (ls : Array Slot), K_S D A s (wd_X9 aC a_o t_o) H locs → lv_has ls 8 [(1, .int y1), (3, .int y3), (4, .int y4), (5, .int y5)] → W p l e (R_m 7 169) s m args below meth c H locs 0 0 (MQ below (Q_W (some (.int out.1)) D A (wd_X9 aC a_o out.2)) args s 0 0 A) (F0 m 93 ls [])) (hrec70 : ∀ x : Int32 × Int32 × Int32 × Int32 × Int32 × Ob_T, rec70 x = some out → ∀ (H : Heap) (locs : List Loc) (ls : Array Slot), K_S D A s (wd_X9 aC a_o x.2.2.2.2.2) H locs → lv_has ls 8 [(1, .int x.1), (3, .int x.2.1), (4, .int x.2.2.1), (5, .int x.2.2.2.1), (6, .int x.2.2.2.2.1)] → W p l e (R_m 7 169) s m args below meth c H locs 0 0 (MQ below (Q_W (some (.int out.1)) D A (wd_X9 aC a_o out.2)) args s 0 0 A) (F0 m 70 ls [])) (x1 : Int32) (x3 : Int32) (x4 : Int32) (x5 : Int32) (x6 : Int32) (s_o : Ob_T) (h : f_X9_odds_L70 k93 rec70 x1 x3 x4 x5 x6 s_o = some out) (H : Heap) (locs : List Loc) (ls : Array Slot) (hZ : K_S D A s (wd_X9 aC a_o s_o) H locs) (hl : lv_has ls 8 [(1, .int x1), (3, .int x3), (4, .int x4), (5, .int x5), (6, .int x6)]) : W p l e (R_m 7 169) s m args below meth c H locs 0 0 (MQ below (Q_W (some (.int out.1)) D A (wd_X9 aC a_o out.2)) args s 0 0 A) (F0 m 70 ls []) := by
  obtain ⟨hx, hb, hml, hown, hts, hK, hA, hlk⟩ := id hX
  unfold f_X9_odds_L70 at h
  refine lv_iload hx hb dX9_odds_70 (lv_at hl 4 rfl) ?_
  refine lv_if_eq (tgt := 93) hx hb dX9_odds_72 (by decide) (fun cd => ?_) (fun cd => ?_)
  · replace h := k_t cd h
    clear cd
    exact hk93 x1 x3 x4 x5 s_o h H locs ls hZ (lv_sub hl [0, 1, 2, 3] rfl)
  · replace h := k_f cd h
    clear cd
    refine lv_iload hx hb dX9_odds_75 (lv_at hl 3 rfl) ?_
    refine lv_iload hx hb dX9_odds_77 (lv_at hl 4 rfl) ?_
    by_cases hd0 : x6 = 0
    · replace h := k_t hd0 h
      cases h
    · replace h := k_f hd0 h
      refine lv_irem hx hb dX9_odds_79 hd0 ?_
      refine lv_istore (lv' := [(7, .int (x5 - x5 / x6 * x6)), (1, .int x1), (3, .int x3), (4, .int x4), (5, .int x5), (6, .int x6)]) hx hb dX9_odds_80 hl (by decide) rfl (fun ls hl => ?_)
      refine lv_iload hx hb dX9_odds_82 (lv_at hl 5 rfl) ?_
      refine lv_istore (lv' := [(5, .int x6), (7, .int (x5 - x5 / x6 * x6)), (1, .int x1), (3, .int x3), (4, .int x4), (6, .int x6)]) hx hb dX9_odds_84 hl (by decide) rfl (fun ls hl => ?_)
      refine lv_iload hx hb dX9_odds_86 (lv_at hl 1 rfl) ?_
      refine lv_istore (lv' := [(6, .int (x5 - x5 / x6 * x6)), (5, .int x6), (7, .int (x5 - x5 / x6 * x6)), (1, .int x1), (3, .int x3), (4, .int x4)]) hx hb dX9_odds_88 hl (by decide) rfl (fun ls hl => ?_)
      refine lv_goto (tgt := 70) hx hb dX9_odds_90 (by decide) ?_
      exact hrec70 (x1, x3, x4, x6, (x5 - x5 / x6 * x6), s_o) h H locs ls hZ (lv_sub hl [3, 4, 5, 1, 0] rfl)
set_option maxHeartbeats 4000000 in
set_option maxRecDepth 100000 in
theorem t_X9_odds_J93 {p : Program} {l : Launch} {e : Env} {s : State} {m : MethodId} {args : Array Value} {below : List Frame} {meth : Method} {c : Code} {D : va_G} {aC : Nat → ClassId} {A : Nat → Prop} {a_o : Nat → Nat} {out : Int32 × Ob_T} (hX : K_X p s m args meth c cX9_odds 8 WL_ RX9 D aC A) (hr : meth.sig.returnType = (some .int)) (x1 : Int32) (x3 : Int32) (x4 : Int32) (x5 : Int32) (s_o : Ob_T) (h : f_X9_odds_J93 x1 x3 x4 x5 s_o = some out) (H : Heap) (locs : List Loc) (ls : Array Slot) (hZ : K_S D A s (wd_X9 aC a_o s_o) H locs) (hl : lv_has ls 8 [(1, .int x1), (3, .int x3), (4, .int x4), (5, .int x5)]) : W p l e (R_m 7 169) s m args below meth c H locs 0 0 (MQ below (Q_W (some (.int out.1)) D A (wd_X9 aC a_o out.2)) args s 0 0 A) (F0 m 93 ls []) := by
  obtain ⟨hx, hb, hml, hown, hts, hK, hA, hlk⟩ := id hX
  unfold f_X9_odds_J93 at h
  refine lv_iload_n hx hb dX9_odds_93 rfl (lv_at hl 0 rfl) ?_
  refine lv_if_ne (tgt := 104) hx hb dX9_odds_94 (by decide) (fun cd => ?_) (fun cd => ?_)
  · replace h := k_f cd h
    clear cd
    refine lv_iload hx hb dX9_odds_104 (lv_at hl 2 rfl) ?_
    refine lv_iload hx hb dX9_odds_106 (lv_at hl 3 rfl) ?_
    by_cases hd0 : x5 = 0
    · replace h := k_t hd0 h
      cases h
    · replace h := k_f hd0 h
      refine lv_idiv hx hb dX9_odds_108 hd0 ?_
      cases h
      exact k_iretW hX hr hZ dX9_odds_109
  · replace h := k_t cd h
    clear cd
    refine lv_iload_n hx hb dX9_odds_97 rfl (lv_at hl 1 rfl) ?_
    refine lv_iload hx hb dX9_odds_98 (lv_at hl 3 rfl) ?_
    by_cases hd0 : x5 = 0
    · replace h := k_t hd0 h
      cases h
    · replace h := k_f hd0 h
      refine lv_idiv hx hb dX9_odds_100 hd0 ?_
      refine lv_goto (tgt := 109) hx hb dX9_odds_101 (by decide) ?_
      cases h
      exact k_iretW hX hr hZ dX9_odds_109
set_option maxHeartbeats 4000000 in
set_option maxRecDepth 100000 in
theorem t_X9_odds_J63 {p : Program} {l : Launch} {e : Env} {s : State} {m : MethodId} {args : Array Value} {below : List Frame} {meth : Method} {c : Code} {D : va_G} {aC : Nat → ClassId} {A : Nat → Prop} {a_o : Nat → Nat} {out : Int32 × Ob_T} (hX : K_X p s m args meth c cX9_odds 8 WL_ RX9 D aC A) (hr : meth.sig.returnType = (some .int)) (x1 : Int32) (x3 : Int32) (x4 : Int32) (s_o : Ob_T) (h : f_X9_odds_J63 x1 x3 x4 s_o = some out) (H : Heap) (locs : List Loc) (ls : Array Slot) (hZ : K_S D A s (wd_X9 aC a_o s_o) H locs) (hl : lv_has ls 8 [(1, .int x1), (3, .int x3), (4, .int x4)]) : W p l e (R_m 7 169) s m args below meth c H locs 0 0 (MQ below (Q_W (some (.int out.1)) D A (wd_X9 aC a_o out.2)) args s 0 0 A) (F0 m 63 ls []) := by
  obtain ⟨hx, hb, hml, hown, hts, hK, hA, hlk⟩ := id hX
  unfold f_X9_odds_J63 at h
  refine lv_iload_n hx hb dX9_odds_63 rfl (lv_at hl 1 rfl) ?_
  refine lv_istore (lv' := [(5, .int x3), (1, .int x1), (3, .int x3), (4, .int x4)]) hx hb dX9_odds_64 hl (by decide) rfl (fun ls hl => ?_)
  refine lv_iload hx hb dX9_odds_66 (lv_at hl 3 rfl) ?_
  refine lv_istore (lv' := [(6, .int x4), (5, .int x3), (1, .int x1), (3, .int x3), (4, .int x4)]) hx hb dX9_odds_68 hl (by decide) rfl (fun ls hl => ?_)
  exact Lp_ok (body := (fun (rec : (Int32 × Int32 × Int32 × Int32 × Int32 × Ob_T) → Option (Int32 × Ob_T)) x => f_X9_odds_L70 (fun y1 y3 y4 y5 t_o => f_X9_odds_J93 y1 y3 y4 y5 t_o) rec x.1 x.2.1 x.2.2.1 x.2.2.2.1 x.2.2.2.2.1 x.2.2.2.2.2)) (out := out) (fun x => ∀ (H : Heap) (locs : List Loc) (ls : Array Slot), K_S D A s (wd_X9 aC a_o x.2.2.2.2.2) H locs → lv_has ls 8 [(1, .int x.1), (3, .int x.2.1), (4, .int x.2.2.1), (5, .int x.2.2.2.1), (6, .int x.2.2.2.2.1)] → W p l e (R_m 7 169) s m args below meth c H locs 0 0 (MQ below (Q_W (some (.int out.1)) D A (wd_X9 aC a_o out.2)) args s 0 0 A) (F0 m 70 ls [])) (fun rec hrec x h H locs ls hZ hl => t_X9_odds_L70 hX hr (fun y1 y3 y4 y5 t_o h H locs ls hZ hl => t_X9_odds_J93 hX hr y1 y3 y4 y5 t_o h H locs ls hZ (lv_sub hl [0, 1, 2, 3] rfl)) hrec x.1 x.2.1 x.2.2.1 x.2.2.2.1 x.2.2.2.2.1 x.2.2.2.2.2 h H locs ls hZ hl) FU_ (x1, x3, x4, x3, x4, s_o) h H locs ls hZ (lv_sub hl [2, 3, 4, 1, 0] rfl)
set_option maxHeartbeats 4000000 in
set_option maxRecDepth 100000 in
theorem t_X9_odds_J34 {p : Program} {l : Launch} {e : Env} {s : State} {m : MethodId} {args : Array Value} {below : List Frame} {meth : Method} {c : Code} {D : va_G} {aC : Nat → ClassId} {A : Nat → Prop} {a_o : Nat → Nat} {out : Int32 × Ob_T} (hX : K_X p s m args meth c cX9_odds 8 WL_ RX9 D aC A) (hr : meth.sig.returnType = (some .int)) (x1 : Int32) (x2 : Int32) (k0 : Int32) (s_o : Ob_T) (h : f_X9_odds_J34 x1 x2 k0 s_o = some out) (H : Heap) (locs : List Loc) (ls : Array Slot) (hZ : K_S D A s (wd_X9 aC a_o s_o) H locs) (hl : lv_has ls 8 [(1, .int x1), (2, .int x2)]) : W p l e (R_m 7 169) s m args below meth c H locs 0 0 (MQ below (Q_W (some (.int out.1)) D A (wd_X9 aC a_o out.2)) args s 0 0 A) (F0 m 34 ls [.int k0]) := by
  obtain ⟨hx, hb, hml, hown, hts, hK, hA, hlk⟩ := id hX
  unfold f_X9_odds_J34 at h
  refine lv_istore_n (lv' := [(3, .int k0), (1, .int x1), (2, .int x2)]) hx hb dX9_odds_34 rfl hl (by decide) rfl (fun ls hl => ?_)
  refine lv_iconst (v := 1) hx hb dX9_odds_35 (by decide) ?_
  refine lv_istore (lv' := [(4, .int (1 : Int32)), (3, .int k0), (1, .int x1), (2, .int x2)]) hx hb dX9_odds_36 hl (by decide) rfl (fun ls hl => ?_)
  refine lv_iconst (v := 0) hx hb dX9_odds_38 (by decide) ?_
  refine lv_istore (lv' := [(5, .int (0 : Int32)), (4, .int (1 : Int32)), (3, .int k0), (1, .int x1), (2, .int x2)]) hx hb dX9_odds_39 hl (by decide) rfl (fun ls hl => ?_)
  exact Lp_ok (body := (fun (rec : (Int32 × Int32 × Int32 × Int32 × Int32 × Ob_T) → Option (Int32 × Ob_T)) x => f_X9_odds_L41 (fun y1 y3 y4 t_o => f_X9_odds_J63 y1 y3 y4 t_o) rec x.1 x.2.1 x.2.2.1 x.2.2.2.1 x.2.2.2.2.1 x.2.2.2.2.2)) (out := out) (fun x => ∀ (H : Heap) (locs : List Loc) (ls : Array Slot), K_S D A s (wd_X9 aC a_o x.2.2.2.2.2) H locs → lv_has ls 8 [(1, .int x.1), (2, .int x.2.1), (3, .int x.2.2.1), (4, .int x.2.2.2.1), (5, .int x.2.2.2.2.1)] → W p l e (R_m 7 169) s m args below meth c H locs 0 0 (MQ below (Q_W (some (.int out.1)) D A (wd_X9 aC a_o out.2)) args s 0 0 A) (F0 m 41 ls [])) (fun rec hrec x h H locs ls hZ hl => t_X9_odds_L41 hX hr (fun y1 y3 y4 t_o h H locs ls hZ hl => t_X9_odds_J63 hX hr y1 y3 y4 t_o h H locs ls hZ (lv_sub hl [0, 1, 2] rfl)) hrec x.1 x.2.1 x.2.2.1 x.2.2.2.1 x.2.2.2.2.1 x.2.2.2.2.2 h H locs ls hZ hl) FU_ (x1, x2, k0, (1 : Int32), (0 : Int32), s_o) h H locs ls hZ (lv_sub hl [3, 4, 2, 1, 0] rfl)
set_option maxHeartbeats 4000000 in
set_option maxRecDepth 100000 in
theorem c_X9_odds {l : Launch} {D : va_G} {aC : Nat → ClassId} {a_o : Nat → Nat} (s_o : Ob_T) (x1 : Int32) {out : Int32 × Ob_T} (h : f_X9_odds s_o x1 = some out) : M_W l yX9_odds wlX9_odds 7 169 D aC [.ref (a_o 0), .int x1] (wd_X9 aC a_o s_o) (some (.int out.1)) (wd_X9 aC a_o out.2) := by
  refine k_entW (cc := cX9_odds) (ret := (some .int)) (maxL := 8) (own := RX9) (by decide) rfl rfl rfl ?_
  intro p e s m below meth c A ls hX hr hZ hl
  have hl : lv_has ls 8 [(0, .ref (a_o 0)), (1, .int x1)] := hl
  generalize ([.ref (a_o 0), .int x1] : List Value).toArray = args at hX ⊢
  obtain ⟨hx, hb, hml, hown, hts, hK, hA, hlk⟩ := id hX
  unfold f_X9_odds at h
  generalize s.heap = H at hZ ⊢
  generalize ([] : List Loc) = locs at hZ ⊢
  refine lv_iload_n hx hb dX9_odds_0 rfl (lv_at hl 1 rfl) ?_
  refine lv_i2l (v := x1.toInt64) hx hb dX9_odds_1 rfl ?_
  refine lv_lconst (v := 0) hx hb dX9_odds_2 (by decide) ?_
  refine lv_lconst (v := 1) hx hb dX9_odds_3 (by decide) ?_
  obtain ⟨u1, hu, h⟩ := k_bd h
  refine k_sR (As := [.long x1.toInt64, .long (0 : Int64), .long (1 : Int64)]) (rest := []) (wc := []) (v := some (.int u1)) (st1 := [.int u1]) hX hl.1 hZ (c_X9_in  x1.toInt64 (0 : Int64) (1 : Int64) hu) (gs_ wm_10 wm_13 wm_11 wm_12) rfl hd_X9_in ⟨rfl, rfl⟩ [] rfl rfl rfl rfl rfl dX9_odds_4 rfl ⟨rfl, rfl⟩ (fun locs hZ => ?_)
  clear hu
  refine lv_if_ne (tgt := 13) hx hb dX9_odds_7 (by decide) (fun cd => ?_) (fun cd => ?_)
  · replace h := k_f cd h
    clear cd
    refine lv_aload_n hx hb dX9_odds_13 rfl (lv_at hl 0 rfl) ?_
    obtain ⟨u2, hu, h⟩ := k_bd h
    refine k_vWs (As := []) (rest := []) (v := some (.int u2.1)) (st1 := [.int u2.1]) hX hl.1 hZ (c_X9_open (a_o := a_o) s_o hu) (gv_ wm_243 wm_245 wm_246 wm_11 wm_244) rfl hd_X9_open ⟨rfl, rfl⟩ 9 0 rfl rfl rfl rfl rfl dX9_odds_14 rfl ⟨rfl, rfl⟩ rfl (fun H locs hZ => ?_)
    clear hu
    refine lv_istore_n (lv' := [(2, .int u2.1), (0, .ref (a_o 0)), (1, .int x1)]) hx hb dX9_odds_17 rfl hl (by decide) rfl (fun ls hl => ?_)
    refine lv_aload_n hx hb dX9_odds_18 rfl (lv_at hl 1 rfl) ?_
    refine k_get hX hZ.1 0 9 rfl rfl iw_X9 35 rfl (wm_126) (v := .int (o_F u2.2 35)) rfl dX9_odds_19 ?_
    refine lv_if_eq (tgt := 29) hx hb dX9_odds_22 (by decide) (fun cd => ?_) (fun cd => ?_)
    · replace h := k_t cd h
      clear cd
      refine lv_aload_n hx hb dX9_odds_29 rfl (lv_at hl 1 rfl) ?_
      refine lv_iload_n hx hb dX9_odds_30 rfl (lv_at hl 0 rfl) ?_
      obtain ⟨u3, hu, h⟩ := k_bd h
      refine k_vWs (As := [.int u2.1]) (rest := []) (v := some (.int u3.1)) (st1 := [.int u3.1]) hX hl.1 hZ (c_X9_findWays (a_o := a_o) u2.2 u2.1 hu) (gv_ wm_239 wm_241 wm_242 wm_11 wm_240) rfl hd_X9_findWays ⟨rfl, rfl⟩ 9 0 rfl rfl rfl rfl rfl dX9_odds_31 rfl ⟨rfl, rfl⟩ rfl (fun H locs hZ => ?_)
      clear hu
      exact t_X9_odds_J34 hX hr x1 u2.1 u3.1 u3.2 h H locs ls hZ (lv_sub hl [2, 0] rfl)
    · replace h := k_f cd h
      clear cd
      refine lv_iconst (v := 0) hx hb dX9_odds_25 (by decide) ?_
      refine lv_goto (tgt := 34) hx hb dX9_odds_26 (by decide) ?_
      exact t_X9_odds_J34 hX hr x1 u2.1 (0 : Int32) u2.2 h H locs ls hZ (lv_sub hl [2, 0] rfl)
  · replace h := k_t cd h
    clear cd
    refine lv_bipush (v := -3) hx hb dX9_odds_10 (by decide) ?_
    cases h
    exact k_iretW hX hr hZ dX9_odds_12
