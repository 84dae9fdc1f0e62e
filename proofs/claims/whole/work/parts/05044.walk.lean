def wlX9_mend : List Cond := .code yX9_mend cX9_mend 4 (some .int) :: WL_
theorem hd_X9_mend : yX9_mend.cls = RX9 ∧ yX9_mend.cls ≠ "java/lang/invoke/MethodHandle" ∧ yX9_mend.cls ≠ "java/lang/invoke/VarHandle" ∧ (parseMethodDescriptor yX9_mend.desc).map (fun d => d.parameters.length) = some 0 := by decide +kernel
theorem dX9_mend_0 : decode cX9_mend 0 = .ok (.aload_n 0, 1) := by decide +kernel
theorem dX9_mend_1 : decode cX9_mend 1 = .ok (.invokevirtual 301, 3) := by decide +kernel
theorem dX9_mend_4 : decode cX9_mend 4 = .ok (.aload_n 0, 1) := by decide +kernel
theorem dX9_mend_5 : decode cX9_mend 5 = .ok (.getfield 217, 3) := by decide +kernel
theorem dX9_mend_8 : decode cX9_mend 8 = .ok (.ifCond .ne 5, 3) := by decide +kernel
theorem dX9_mend_11 : decode cX9_mend 11 = .ok (.iconst (-1), 1) := by decide +kernel
theorem dX9_mend_12 : decode cX9_mend 12 = .ok (.ireturn, 1) := by decide +kernel
theorem dX9_mend_13 : decode cX9_mend 13 = .ok (.iconst 0, 1) := by decide +kernel
theorem dX9_mend_14 : decode cX9_mend 14 = .ok (.istore_n 1, 1) := by decide +kernel
theorem dX9_mend_15 : decode cX9_mend 15 = .ok (.iload_n 1, 1) := by decide +kernel
theorem dX9_mend_16 : decode cX9_mend 16 = .ok (.aload_n 0, 1) := by decide +kernel
theorem dX9_mend_17 : decode cX9_mend 17 = .ok (.getfield 170, 3) := by decide +kernel
theorem dX9_mend_20 : decode cX9_mend 20 = .ok (.if_icmp .ge 68, 3) := by decide +kernel
theorem dX9_mend_23 : decode cX9_mend 23 = .ok (.iconst 0, 1) := by decide +kernel
theorem dX9_mend_24 : decode cX9_mend 24 = .ok (.istore_n 2, 1) := by decide +kernel
theorem dX9_mend_25 : decode cX9_mend 25 = .ok (.iload_n 2, 1) := by decide +kernel
theorem dX9_mend_26 : decode cX9_mend 26 = .ok (.aload_n 0, 1) := by decide +kernel
theorem dX9_mend_27 : decode cX9_mend 27 = .ok (.getfield 7, 3) := by decide +kernel
theorem dX9_mend_30 : decode cX9_mend 30 = .ok (.bipush 15, 2) := by decide +kernel
theorem dX9_mend_32 : decode cX9_mend 32 = .ok (.iload_n 1, 1) := by decide +kernel
theorem dX9_mend_33 : decode cX9_mend 33 = .ok (.imul, 1) := by decide +kernel
theorem dX9_mend_34 : decode cX9_mend 34 = .ok (.iconst 4, 1) := by decide +kernel
theorem dX9_mend_35 : decode cX9_mend 35 = .ok (.iadd, 1) := by decide +kernel
theorem dX9_mend_36 : decode cX9_mend 36 = .ok (.iaload, 1) := by decide +kernel
theorem dX9_mend_37 : decode cX9_mend 37 = .ok (.if_icmp .ge 45, 3) := by decide +kernel
theorem dX9_mend_40 : decode cX9_mend 40 = .ok (.iconst 0, 1) := by decide +kernel
theorem dX9_mend_41 : decode cX9_mend 41 = .ok (.istore_n 3, 1) := by decide +kernel
theorem dX9_mend_42 : decode cX9_mend 42 = .ok (.iload_n 3, 1) := by decide +kernel
theorem dX9_mend_43 : decode cX9_mend 43 = .ok (.bipush 10, 2) := by decide +kernel
theorem dX9_mend_45 : decode cX9_mend 45 = .ok (.if_icmp .ge 31, 3) := by decide +kernel
theorem dX9_mend_48 : decode cX9_mend 48 = .ok (.aload_n 0, 1) := by decide +kernel
theorem dX9_mend_49 : decode cX9_mend 49 = .ok (.iload_n 1, 1) := by decide +kernel
theorem dX9_mend_50 : decode cX9_mend 50 = .ok (.iload_n 2, 1) := by decide +kernel
theorem dX9_mend_51 : decode cX9_mend 51 = .ok (.iload_n 3, 1) := by decide +kernel
theorem dX9_mend_52 : decode cX9_mend 52 = .ok (.invokevirtual 334, 3) := by decide +kernel
theorem dX9_mend_55 : decode cX9_mend 55 = .ok (.ifCond .eq 15, 3) := by decide +kernel
theorem dX9_mend_58 : decode cX9_mend 58 = .ok (.bipush 100, 2) := by decide +kernel
theorem dX9_mend_60 : decode cX9_mend 60 = .ok (.iload_n 1, 1) := by decide +kernel
theorem dX9_mend_61 : decode cX9_mend 61 = .ok (.imul, 1) := by decide +kernel
theorem dX9_mend_62 : decode cX9_mend 62 = .ok (.bipush 10, 2) := by decide +kernel
theorem dX9_mend_64 : decode cX9_mend 64 = .ok (.iload_n 2, 1) := by decide +kernel
theorem dX9_mend_65 : decode cX9_mend 65 = .ok (.imul, 1) := by decide +kernel
theorem dX9_mend_66 : decode cX9_mend 66 = .ok (.iadd, 1) := by decide +kernel
theorem dX9_mend_67 : decode cX9_mend 67 = .ok (.iload_n 3, 1) := by decide +kernel
theorem dX9_mend_68 : decode cX9_mend 68 = .ok (.iadd, 1) := by decide +kernel
theorem dX9_mend_69 : decode cX9_mend 69 = .ok (.ireturn, 1) := by decide +kernel
theorem dX9_mend_70 : decode cX9_mend 70 = .ok (.iinc 3 1, 3) := by decide +kernel
theorem dX9_mend_73 : decode cX9_mend 73 = .ok (.goto (-31), 3) := by decide +kernel
theorem dX9_mend_76 : decode cX9_mend 76 = .ok (.iinc 2 1, 3) := by decide +kernel
theorem dX9_mend_79 : decode cX9_mend 79 = .ok (.goto (-54), 3) := by decide +kernel
theorem dX9_mend_82 : decode cX9_mend 82 = .ok (.iinc 1 1, 3) := by decide +kernel
theorem dX9_mend_85 : decode cX9_mend 85 = .ok (.goto (-70), 3) := by decide +kernel
theorem dX9_mend_88 : decode cX9_mend 88 = .ok (.iconst (-1), 1) := by decide +kernel
theorem dX9_mend_89 : decode cX9_mend 89 = .ok (.ireturn, 1) := by decide +kernel
set_option maxHeartbeats 4000000 in
set_option maxRecDepth 100000 in
theorem t_X9_mend_L42 {p : Program} {l : Launch} {e : Env} {s : State} {m : MethodId} {args : Array Value} {below : List Frame} {meth : Method} {c : Code} {D : va_G} {aC : Nat → ClassId} {A : Nat → Prop} {a_o : Nat → Nat} {out : Int32 × Ob_T} {rec25 : (Int32 × Int32 × Ob_T) → Option (Int32 × Ob_T)} {rec42 : (Int32 × Int32 × Int32 × Ob_T) → Option (Int32 × Ob_T)} (hX : K_X p s m args meth c cX9_mend 4 WL_ RX9 D aC A) (hr : meth.sig.returnType = (some .int)) (hrec25 : ∀ x : Int32 × Int32 × Ob_T, rec25 x = some out → ∀ (H : Heap) (locs : List Loc) (ls : Array Slot), K_S D A s (wd_X9 aC a_o x.2.2) H locs → lv_has ls 4 [(0, .ref (a_o 0)), (1, .int x.1), (2, .int x.2.1)] → W p l e (R_m 6 149) s m args below meth c H locs 0 0 (MQ below (Q_W (some (.int out.1)) D A (wd_X9 aC a_o out.2)) args s 0 0 A) (F0 m 25 ls [])) (hrec42 : ∀ x : Int32 × Int32 × Int32 × Ob_T, rec42 x = some out → ∀ (H : Heap) (locs : List Loc) (ls : Array Slot), K_S D A s (wd_X9 aC a_o x.2.2.2) H locs → lv_has ls 4 [(0, .ref (a_o 0)), (1, .int x.1), (2, .int x.2.1), (3, .int x.2.2.1)] → W p l e (R_m 6 149) s m args below meth c H locs 0 0 (MQ below (Q_W (some (.int out.1)) D A (wd_X9 aC a_o out.2)) args s 0 0 A) (F0 m 42 ls [])) (x1 : Int32) (x2 : Int32) (x3 : Int32) (s_o : Ob_T) (h : f_X9_mend_L42 rec25 rec42 x1 x2 x3 s_o = some out) (H : Heap) (locs : List Loc) (ls : Array Slot) (hZ : K_S D A s (wd_X9 aC a_o s_o) H locs) (hl : lv_has ls 4 [(0, .ref (a_o 0)), (1, .int x1), (2, .int x2), (3, .int x3)]) : W p l e (R_m 6 149) s m args below meth c H locs 0 0 (MQ below (Q_W (some (.int out.1)) D A (wd_X9 aC a_o out.2)) args s 0 0 A) (F0 m 42 ls []) := by
  obtain ⟨hx, hb, hml, hown, hts, hK, hA, hlk⟩ := id hX
  unfold f_X9_mend_L42 at h
  refine lv_iload_n hx hb dX9_mend_42 rfl (lv_at hl 3 rfl) ?_
  refine lv_bipush (v := 10) hx hb dX9_mend_43 (by decide) ?_
  refine lv_icmp_ge (tgt := 76) hx hb dX9_mend_45 (by decide) (fun cd => ?_) (fun cd => ?_)
  · replace h := k_t cd h
    clear cd
    refine lv_iinc (v := (x2 + (1 : Int32))) (lv' := [(2, .int (x2 + (1 : Int32))), (0, .ref (a_o 0)), (1, .int x1), (3, .int x3)]) hx hb dX9_mend_76 hl (k := 2) rfl rfl (by decide) rfl (fun ls hl => ?_)
    refine lv_goto (tgt := 25) hx hb dX9_mend_79 (by decide) ?_
    exact hrec25 (x1, (x2 + (1 : Int32)), s_o) h H locs ls hZ (lv_sub hl [1, 2, 0] rfl)
  · replace h := k_f cd h
    clear cd
    refine lv_aload_n hx hb dX9_mend_48 rfl (lv_at hl 0 rfl) ?_
    refine lv_iload_n hx hb dX9_mend_49 rfl (lv_at hl 1 rfl) ?_
    refine lv_iload_n hx hb dX9_mend_50 rfl (lv_at hl 2 rfl) ?_
    refine lv_iload_n hx hb dX9_mend_51 rfl (lv_at hl 3 rfl) ?_
    obtain ⟨u3, hu, h⟩ := k_bd h
    refine k_vWs (As := [.int x1, .int x2, .int x3]) (rest := []) (v := some (.int u3.1)) (st1 := [.int u3.1]) hX hl.1 hZ (c_X9_isMended (a_o := a_o) s_o x1 x2 x3 hu) (gv_ wm_250 wm_252 wm_253 wm_11 wm_251) rfl hd_X9_isMended ⟨rfl, rfl⟩ 9 0 rfl rfl rfl rfl rfl dX9_mend_52 rfl ⟨rfl, rfl⟩ rfl (fun H locs hZ => ?_)
    clear hu
    refine lv_if_eq (tgt := 70) hx hb dX9_mend_55 (by decide) (fun cd => ?_) (fun cd => ?_)
    · replace h := k_t cd h
      clear cd
      refine lv_iinc (v := (x3 + (1 : Int32))) (lv' := [(3, .int (x3 + (1 : Int32))), (0, .ref (a_o 0)), (1, .int x1), (2, .int x2)]) hx hb dX9_mend_70 hl (k := 3) rfl rfl (by decide) rfl (fun ls hl => ?_)
      refine lv_goto (tgt := 42) hx hb dX9_mend_73 (by decide) ?_
      exact hrec42 (x1, x2, (x3 + (1 : Int32)), u3.2) h H locs ls hZ (lv_sub hl [1, 2, 3, 0] rfl)
    · replace h := k_f cd h
      clear cd
      refine lv_bipush (v := 100) hx hb dX9_mend_58 (by decide) ?_
      refine lv_iload_n hx hb dX9_mend_60 rfl (lv_at hl 1 rfl) ?_
      refine lv_imul hx hb dX9_mend_61 ?_
      refine lv_bipush (v := 10) hx hb dX9_mend_62 (by decide) ?_
      refine lv_iload_n hx hb dX9_mend_64 rfl (lv_at hl 2 rfl) ?_
      refine lv_imul hx hb dX9_mend_65 ?_
      refine lv_iadd hx hb dX9_mend_66 ?_
      refine lv_iload_n hx hb dX9_mend_67 rfl (lv_at hl 3 rfl) ?_
      refine lv_iadd hx hb dX9_mend_68 ?_
      cases h
      exact k_iretW hX hr hZ dX9_mend_69
set_option maxHeartbeats 4000000 in
set_option maxRecDepth 100000 in
theorem t_X9_mend_L25 {p : Program} {l : Launch} {e : Env} {s : State} {m : MethodId} {args : Array Value} {below : List Frame} {meth : Method} {c : Code} {D : va_G} {aC : Nat → ClassId} {A : Nat → Prop} {a_o : Nat → Nat} {out : Int32 × Ob_T} {rec15 : (Int32 × Ob_T) → Option (Int32 × Ob_T)} {rec25 : (Int32 × Int32 × Ob_T) → Option (Int32 × Ob_T)} (hX : K_X p s m args meth c cX9_mend 4 WL_ RX9 D aC A) (hr : meth.sig.returnType = (some .int)) (hrec15 : ∀ x : Int32 × Ob_T, rec15 x = some out → ∀ (H : Heap) (locs : List Loc) (ls : Array Slot), K_S D A s (wd_X9 aC a_o x.2) H locs → lv_has ls 4 [(0, .ref (a_o 0)), (1, .int x.1)] → W p l e (R_m 6 149) s m args below meth c H locs 0 0 (MQ below (Q_W (some (.int out.1)) D A (wd_X9 aC a_o out.2)) args s 0 0 A) (F0 m 15 ls [])) (hrec25 : ∀ x : Int32 × Int32 × Ob_T, rec25 x = some out → ∀ (H : Heap) (locs : List Loc) (ls : Array Slot), K_S D A s (wd_X9 aC a_o x.2.2) H locs → lv_has ls 4 [(0, .ref (a_o 0)), (1, .int x.1), (2, .int x.2.1)] → W p l e (R_m 6 149) s m args below meth c H locs 0 0 (MQ below (Q_W (some (.int out.1)) D A (wd_X9 aC a_o out.2)) args s 0 0 A) (F0 m 25 ls [])) (x1 : Int32) (x2 : Int32) (s_o : Ob_T) (h : f_X9_mend_L25 rec15 rec25 x1 x2 s_o = some out) (H : Heap) (locs : List Loc) (ls : Array Slot) (hZ : K_S D A s (wd_X9 aC a_o s_o) H locs) (hl : lv_has ls 4 [(0, .ref (a_o 0)), (1, .int x1), (2, .int x2)]) : W p l e (R_m 6 149) s m args below meth c H locs 0 0 (MQ below (Q_W (some (.int out.1)) D A (wd_X9 aC a_o out.2)) args s 0 0 A) (F0 m 25 ls []) := by
  obtain ⟨hx, hb, hml, hown, hts, hK, hA, hlk⟩ := id hX
  unfold f_X9_mend_L25 at h
  refine lv_iload_n hx hb dX9_mend_25 rfl (lv_at hl 2 rfl) ?_
  refine lv_aload_n hx hb dX9_mend_26 rfl (lv_at hl 0 rfl) ?_
  refine k_get hX hZ.1 0 9 rfl rfl iw_X9 0 rfl (wm_107) (v := .ref (a_o 1)) rfl dX9_mend_27 ?_
  refine lv_bipush (v := 15) hx hb dX9_mend_30 (by decide) ?_
  refine lv_iload_n hx hb dX9_mend_32 rfl (lv_at hl 1 rfl) ?_
  refine lv_imul hx hb dX9_mend_33 ?_
  refine lv_iconst (v := 4) hx hb dX9_mend_34 (by decide) ?_
  refine lv_iadd hx hb dX9_mend_35 ?_
  refine k_iald hX hZ.1 1 rfl h dX9_mend_36 (fun v2 h => ?_)
  refine lv_icmp_ge (tgt := 82) hx hb dX9_mend_37 (by decide) (fun cd => ?_) (fun cd => ?_)
  · replace h := k_t cd h
    clear cd
    refine lv_iinc (v := (x1 + (1 : Int32))) (lv' := [(1, .int (x1 + (1 : Int32))), (0, .ref (a_o 0)), (2, .int x2)]) hx hb dX9_mend_82 hl (k := 1) rfl rfl (by decide) rfl (fun ls hl => ?_)
    refine lv_goto (tgt := 15) hx hb dX9_mend_85 (by decide) ?_
    exact hrec15 ((x1 + (1 : Int32)), s_o) h H locs ls hZ (lv_sub hl [1, 0] rfl)
  · replace h := k_f cd h
    clear cd
    refine lv_iconst (v := 0) hx hb dX9_mend_40 (by decide) ?_
    refine lv_istore_n (lv' := [(3, .int (0 : Int32)), (0, .ref (a_o 0)), (1, .int x1), (2, .int x2)]) hx hb dX9_mend_41 rfl hl (by decide) rfl (fun ls hl => ?_)
    exact Lp_ok (body := (fun (rec : (Int32 × Int32 × Int32 × Ob_T) → Option (Int32 × Ob_T)) x => f_X9_mend_L42 rec25 rec x.1 x.2.1 x.2.2.1 x.2.2.2)) (out := out) (fun x => ∀ (H : Heap) (locs : List Loc) (ls : Array Slot), K_S D A s (wd_X9 aC a_o x.2.2.2) H locs → lv_has ls 4 [(0, .ref (a_o 0)), (1, .int x.1), (2, .int x.2.1), (3, .int x.2.2.1)] → W p l e (R_m 6 149) s m args below meth c H locs 0 0 (MQ below (Q_W (some (.int out.1)) D A (wd_X9 aC a_o out.2)) args s 0 0 A) (F0 m 42 ls [])) (fun rec hrec x h H locs ls hZ hl => t_X9_mend_L42 hX hr hrec25 hrec x.1 x.2.1 x.2.2.1 x.2.2.2 h H locs ls hZ hl) FU_ (x1, x2, (0 : Int32), s_o) h H locs ls hZ (lv_sub hl [1, 2, 3, 0] rfl)
set_option maxHeartbeats 4000000 in
set_option maxRecDepth 100000 in
theorem t_X9_mend_L15 {p : Program} {l : Launch} {e : Env} {s : State} {m : MethodId} {args : Array Value} {below : List Frame} {meth : Method} {c : Code} {D : va_G} {aC : Nat → ClassId} {A : Nat → Prop} {a_o : Nat → Nat} {out : Int32 × Ob_T} {rec15 : (Int32 × Ob_T) → Option (Int32 × Ob_T)} (hX : K_X p s m args meth c cX9_mend 4 WL_ RX9 D aC A) (hr : meth.sig.returnType = (some .int)) (hrec15 : ∀ x : Int32 × Ob_T, rec15 x = some out → ∀ (H : Heap) (locs : List Loc) (ls : Array Slot), K_S D A s (wd_X9 aC a_o x.2) H locs → lv_has ls 4 [(0, .ref (a_o 0)), (1, .int x.1)] → W p l e (R_m 6 149) s m args below meth c H locs 0 0 (MQ below (Q_W (some (.int out.1)) D A (wd_X9 aC a_o out.2)) args s 0 0 A) (F0 m 15 ls [])) (x1 : Int32) (s_o : Ob_T) (h : f_X9_mend_L15 rec15 x1 s_o = some out) (H : Heap) (locs : List Loc) (ls : Array Slot) (hZ : K_S D A s (wd_X9 aC a_o s_o) H locs) (hl : lv_has ls 4 [(0, .ref (a_o 0)), (1, .int x1)]) : W p l e (R_m 6 149) s m args below meth c H locs 0 0 (MQ below (Q_W (some (.int out.1)) D A (wd_X9 aC a_o out.2)) args s 0 0 A) (F0 m 15 ls []) := by
  obtain ⟨hx, hb, hml, hown, hts, hK, hA, hlk⟩ := id hX
  unfold f_X9_mend_L15 at h
  refine lv_iload_n hx hb dX9_mend_15 rfl (lv_at hl 1 rfl) ?_
  refine lv_aload_n hx hb dX9_mend_16 rfl (lv_at hl 0 rfl) ?_
  refine k_get hX hZ.1 0 9 rfl rfl iw_X9 2 rfl (wm_108) (v := .int (o_F s_o 2)) rfl dX9_mend_17 ?_
  refine lv_icmp_ge (tgt := 88) hx hb dX9_mend_20 (by decide) (fun cd => ?_) (fun cd => ?_)
  · replace h := k_t cd h
    clear cd
    refine lv_iconst (v := -1) hx hb dX9_mend_88 (by decide) ?_
    cases h
    exact k_iretW hX hr hZ dX9_mend_89
  · replace h := k_f cd h
    clear cd
    refine lv_iconst (v := 0) hx hb dX9_mend_23 (by decide) ?_
    refine lv_istore_n (lv' := [(2, .int (0 : Int32)), (0, .ref (a_o 0)), (1, .int x1)]) hx hb dX9_mend_24 rfl hl (by decide) rfl (fun ls hl => ?_)
    exact Lp_ok (body := (fun (rec : (Int32 × Int32 × Ob_T) → Option (Int32 × Ob_T)) x => f_X9_mend_L25 rec15 rec x.1 x.2.1 x.2.2)) (out := out) (fun x => ∀ (H : Heap) (locs : List Loc) (ls : Array Slot), K_S D A s (wd_X9 aC a_o x.2.2) H locs → lv_has ls 4 [(0, .ref (a_o 0)), (1, .int x.1), (2, .int x.2.1)] → W p l e (R_m 6 149) s m args below meth c H locs 0 0 (MQ below (Q_W (some (.int out.1)) D A (wd_X9 aC a_o out.2)) args s 0 0 A) (F0 m 25 ls [])) (fun rec hrec x h H locs ls hZ hl => t_X9_mend_L25 hX hr hrec15 hrec x.1 x.2.1 x.2.2 h H locs ls hZ hl) FU_ (x1, (0 : Int32), s_o) h H locs ls hZ (lv_sub hl [1, 2, 0] rfl)
set_option maxHeartbeats 4000000 in
set_option maxRecDepth 100000 in
theorem c_X9_mend {l : Launch} {D : va_G} {aC : Nat → ClassId} {a_o : Nat → Nat} (s_o : Ob_T) {out : Int32 × Ob_T} (h : f_X9_mend s_o = some out) : M_W l yX9_mend wlX9_mend 6 149 D aC [.ref (a_o 0)] (wd_X9 aC a_o s_o) (some (.int out.1)) (wd_X9 aC a_o out.2) := by
  refine k_entW (cc := cX9_mend) (ret := (some .int)) (maxL := 4) (own := RX9) (by decide) rfl rfl rfl ?_
  intro p e s m below meth c A ls hX hr hZ hl
  have hl : lv_has ls 4 [(0, .ref (a_o 0))] := hl
  generalize ([.ref (a_o 0)] : List Value).toArray = args at hX ⊢
  obtain ⟨hx, hb, hml, hown, hts, hK, hA, hlk⟩ := id hX
  unfold f_X9_mend at h
  generalize s.heap = H at hZ ⊢
  generalize ([] : List Loc) = locs at hZ ⊢
  refine lv_aload_n hx hb dX9_mend_0 rfl (lv_at hl 0 rfl) ?_
  obtain ⟨u1, hu, h⟩ := k_bd h
  refine k_vWs (As := []) (rest := []) (v := none) (st1 := []) hX hl.1 hZ (c_X9_solveNow (a_o := a_o) s_o hu) (gv_ wm_211 wm_213 wm_214 wm_11 wm_212) rfl hd_X9_solveNow ⟨rfl, rfl⟩ 9 0 rfl rfl rfl rfl rfl dX9_mend_1 rfl ⟨rfl, rfl⟩ rfl (fun H locs hZ => ?_)
  clear hu
  refine lv_aload_n hx hb dX9_mend_4 rfl (lv_at hl 0 rfl) ?_
  refine k_get hX hZ.1 0 9 rfl rfl iw_X9 35 rfl (wm_126) (v := .int (o_F u1 35)) rfl dX9_mend_5 ?_
  refine lv_if_ne (tgt := 13) hx hb dX9_mend_8 (by decide) (fun cd => ?_) (fun cd => ?_)
  · replace h := k_f cd h
    clear cd
    refine lv_iconst (v := 0) hx hb dX9_mend_13 (by decide) ?_
    refine lv_istore_n (lv' := [(1, .int (0 : Int32)), (0, .ref (a_o 0))]) hx hb dX9_mend_14 rfl hl (by decide) rfl (fun ls hl => ?_)
    exact Lp_ok (body := (fun (rec : (Int32 × Ob_T) → Option (Int32 × Ob_T)) x => f_X9_mend_L15 rec x.1 x.2)) (out := out) (fun x => ∀ (H : Heap) (locs : List Loc) (ls : Array Slot), K_S D A s (wd_X9 aC a_o x.2) H locs → lv_has ls 4 [(0, .ref (a_o 0)), (1, .int x.1)] → W p l e (R_m 6 149) s m args below meth c H locs 0 0 (MQ below (Q_W (some (.int out.1)) D A (wd_X9 aC a_o out.2)) args s 0 0 A) (F0 m 15 ls [])) (fun rec hrec x h H locs ls hZ hl => t_X9_mend_L15 hX hr hrec x.1 x.2 h H locs ls hZ hl) FU_ ((0 : Int32), u1) h H locs ls hZ (lv_sub hl [1, 0] rfl)
  · replace h := k_t cd h
    clear cd
    refine lv_iconst (v := -1) hx hb dX9_mend_11 (by decide) ?_
    cases h
    exact k_iretW hX hr hZ dX9_mend_12
