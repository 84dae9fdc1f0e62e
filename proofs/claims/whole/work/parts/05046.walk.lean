def wlX9_kinds : List Cond := .code yX9_kinds cX9_kinds 5 (some .int) :: WL_
theorem hd_X9_kinds : yX9_kinds.cls = RX9 ∧ yX9_kinds.cls ≠ "java/lang/invoke/MethodHandle" ∧ yX9_kinds.cls ≠ "java/lang/invoke/VarHandle" ∧ (parseMethodDescriptor yX9_kinds.desc).map (fun d => d.parameters.length) = some 0 := by decide +kernel
theorem dX9_kinds_0 : decode cX9_kinds 0 = .ok (.iconst 0, 1) := by decide +kernel
theorem dX9_kinds_1 : decode cX9_kinds 1 = .ok (.istore_n 1, 1) := by decide +kernel
theorem dX9_kinds_2 : decode cX9_kinds 2 = .ok (.iconst 1, 1) := by decide +kernel
theorem dX9_kinds_3 : decode cX9_kinds 3 = .ok (.istore_n 2, 1) := by decide +kernel
theorem dX9_kinds_4 : decode cX9_kinds 4 = .ok (.iload_n 2, 1) := by decide +kernel
theorem dX9_kinds_5 : decode cX9_kinds 5 = .ok (.iconst 5, 1) := by decide +kernel
theorem dX9_kinds_6 : decode cX9_kinds 6 = .ok (.if_icmp .gt 85, 3) := by decide +kernel
theorem dX9_kinds_9 : decode cX9_kinds 9 = .ok (.iconst 1, 1) := by decide +kernel
theorem dX9_kinds_10 : decode cX9_kinds 10 = .ok (.istore_n 3, 1) := by decide +kernel
theorem dX9_kinds_11 : decode cX9_kinds 11 = .ok (.iconst 0, 1) := by decide +kernel
theorem dX9_kinds_12 : decode cX9_kinds 12 = .ok (.istore 4, 2) := by decide +kernel
theorem dX9_kinds_14 : decode cX9_kinds 14 = .ok (.iload 4, 2) := by decide +kernel
theorem dX9_kinds_16 : decode cX9_kinds 16 = .ok (.aload_n 0, 1) := by decide +kernel
theorem dX9_kinds_17 : decode cX9_kinds 17 = .ok (.getfield 185, 3) := by decide +kernel
theorem dX9_kinds_20 : decode cX9_kinds 20 = .ok (.if_icmp .ge 51, 3) := by decide +kernel
theorem dX9_kinds_23 : decode cX9_kinds 23 = .ok (.iload_n 3, 1) := by decide +kernel
theorem dX9_kinds_24 : decode cX9_kinds 24 = .ok (.ifCond .eq 39, 3) := by decide +kernel
theorem dX9_kinds_27 : decode cX9_kinds 27 = .ok (.iload_n 2, 1) := by decide +kernel
theorem dX9_kinds_28 : decode cX9_kinds 28 = .ok (.aload_n 0, 1) := by decide +kernel
theorem dX9_kinds_29 : decode cX9_kinds 29 = .ok (.getfield 32, 3) := by decide +kernel
theorem dX9_kinds_32 : decode cX9_kinds 32 = .ok (.iload 4, 2) := by decide +kernel
theorem dX9_kinds_34 : decode cX9_kinds 34 = .ok (.iaload, 1) := by decide +kernel
theorem dX9_kinds_35 : decode cX9_kinds 35 = .ok (.invokestatic 340, 3) := by decide +kernel
theorem dX9_kinds_38 : decode cX9_kinds 38 = .ok (.bipush 100, 2) := by decide +kernel
theorem dX9_kinds_40 : decode cX9_kinds 40 = .ok (.aload_n 0, 1) := by decide +kernel
theorem dX9_kinds_41 : decode cX9_kinds 41 = .ok (.getfield 35, 3) := by decide +kernel
theorem dX9_kinds_44 : decode cX9_kinds 44 = .ok (.iload 4, 2) := by decide +kernel
theorem dX9_kinds_46 : decode cX9_kinds 46 = .ok (.iaload, 1) := by decide +kernel
theorem dX9_kinds_47 : decode cX9_kinds 47 = .ok (.imul, 1) := by decide +kernel
theorem dX9_kinds_48 : decode cX9_kinds 48 = .ok (.aload_n 0, 1) := by decide +kernel
theorem dX9_kinds_49 : decode cX9_kinds 49 = .ok (.getfield 38, 3) := by decide +kernel
theorem dX9_kinds_52 : decode cX9_kinds 52 = .ok (.iload 4, 2) := by decide +kernel
theorem dX9_kinds_54 : decode cX9_kinds 54 = .ok (.iaload, 1) := by decide +kernel
theorem dX9_kinds_55 : decode cX9_kinds 55 = .ok (.iadd, 1) := by decide +kernel
theorem dX9_kinds_56 : decode cX9_kinds 56 = .ok (.if_icmp .ne 7, 3) := by decide +kernel
theorem dX9_kinds_59 : decode cX9_kinds 59 = .ok (.iconst 1, 1) := by decide +kernel
theorem dX9_kinds_60 : decode cX9_kinds 60 = .ok (.goto 4, 3) := by decide +kernel
theorem dX9_kinds_63 : decode cX9_kinds 63 = .ok (.iconst 0, 1) := by decide +kernel
theorem dX9_kinds_64 : decode cX9_kinds 64 = .ok (.istore_n 3, 1) := by decide +kernel
theorem dX9_kinds_65 : decode cX9_kinds 65 = .ok (.iinc 4 1, 3) := by decide +kernel
theorem dX9_kinds_68 : decode cX9_kinds 68 = .ok (.goto (-54), 3) := by decide +kernel
theorem dX9_kinds_71 : decode cX9_kinds 71 = .ok (.iload_n 1, 1) := by decide +kernel
theorem dX9_kinds_72 : decode cX9_kinds 72 = .ok (.iload_n 3, 1) := by decide +kernel
theorem dX9_kinds_73 : decode cX9_kinds 73 = .ok (.ifCond .eq 9, 3) := by decide +kernel
theorem dX9_kinds_76 : decode cX9_kinds 76 = .ok (.iconst 1, 1) := by decide +kernel
theorem dX9_kinds_77 : decode cX9_kinds 77 = .ok (.iload_n 2, 1) := by decide +kernel
theorem dX9_kinds_78 : decode cX9_kinds 78 = .ok (.ishl, 1) := by decide +kernel
theorem dX9_kinds_79 : decode cX9_kinds 79 = .ok (.goto 4, 3) := by decide +kernel
theorem dX9_kinds_82 : decode cX9_kinds 82 = .ok (.iconst 0, 1) := by decide +kernel
theorem dX9_kinds_83 : decode cX9_kinds 83 = .ok (.ior, 1) := by decide +kernel
theorem dX9_kinds_84 : decode cX9_kinds 84 = .ok (.istore_n 1, 1) := by decide +kernel
theorem dX9_kinds_85 : decode cX9_kinds 85 = .ok (.iinc 2 1, 3) := by decide +kernel
theorem dX9_kinds_88 : decode cX9_kinds 88 = .ok (.goto (-84), 3) := by decide +kernel
theorem dX9_kinds_91 : decode cX9_kinds 91 = .ok (.iload_n 1, 1) := by decide +kernel
theorem dX9_kinds_92 : decode cX9_kinds 92 = .ok (.ireturn, 1) := by decide +kernel
set_option maxHeartbeats 4000000 in
set_option maxRecDepth 100000 in
theorem t_X9_kinds_L14 {p : Program} {l : Launch} {e : Env} {s : State} {m : MethodId} {args : Array Value} {below : List Frame} {meth : Method} {c : Code} {D : va_G} {aC : Nat → ClassId} {A : Nat → Prop} {a_o : Nat → Nat} {out : Int32} {s_o : Ob_T} {k71 : Int32 → Int32 → Int32 → Option Int32} {rec14 : (Int32 × Int32 × Int32 × Int32) → Option Int32} (hX : K_X p s m args meth c cX9_kinds 5 WL_ RX9 D aC A) (hr : meth.sig.returnType = (some .int)) (hZ : va_P D vwCl (wd_X9 aC a_o s_o) s.heap ∧ va_D (fun _ => True) (wd_X9 aC a_o s_o)) (hk71 : ∀ (y1 : Int32) (y2 : Int32) (y3 : Int32), k71 y1 y2 y3 = some out → ∀ (locs : List Loc) (ls : Array Slot), (∀ q ∈ locs, False) → lv_has ls 5 [(0, .ref (a_o 0)), (1, .int y1), (2, .int y2), (3, .int y3)] → W p l e (R_m 1 21) s m args below meth c s.heap locs 0 0 (MQ below (Q_R (some (.int out))) args s 0 0 (fun _ => False)) (F0 m 71 ls [])) (hrec14 : ∀ x : Int32 × Int32 × Int32 × Int32, rec14 x = some out → ∀ (locs : List Loc) (ls : Array Slot), (∀ q ∈ locs, False) → lv_has ls 5 [(0, .ref (a_o 0)), (1, .int x.1), (2, .int x.2.1), (3, .int x.2.2.1), (4, .int x.2.2.2)] → W p l e (R_m 1 21) s m args below meth c s.heap locs 0 0 (MQ below (Q_R (some (.int out))) args s 0 0 (fun _ => False)) (F0 m 14 ls [])) (x1 : Int32) (x2 : Int32) (x3 : Int32) (x4 : Int32) (h : f_X9_kinds_L14 k71 rec14 x1 x2 x3 x4 s_o = some out) (locs : List Loc) (ls : Array Slot) (hF : ∀ q ∈ locs, False) (hl : lv_has ls 5 [(0, .ref (a_o 0)), (1, .int x1), (2, .int x2), (3, .int x3), (4, .int x4)]) : W p l e (R_m 1 21) s m args below meth c s.heap locs 0 0 (MQ below (Q_R (some (.int out))) args s 0 0 (fun _ => False)) (F0 m 14 ls []) := by
  obtain ⟨hx, hb, hml, hown, hts, hK, hA, hlk⟩ := id hX
  unfold f_X9_kinds_L14 at h
  refine lv_iload hx hb dX9_kinds_14 (lv_at hl 4 rfl) ?_
  refine lv_aload_n hx hb dX9_kinds_16 rfl (lv_at hl 0 rfl) ?_
  refine k_get hX hZ.1 0 9 rfl rfl iw_X9 11 rfl (wm_121) (v := .int (o_F s_o 11)) rfl dX9_kinds_17 ?_
  refine lv_icmp_ge (tgt := 71) hx hb dX9_kinds_20 (by decide) (fun cd => ?_) (fun cd => ?_)
  · replace h := k_t cd h
    clear cd
    exact hk71 x1 x2 x3 h locs ls hF (lv_sub hl [0, 1, 2, 3] rfl)
  · replace h := k_f cd h
    clear cd
    refine lv_iload_n hx hb dX9_kinds_23 rfl (lv_at hl 3 rfl) ?_
    refine lv_if_eq (tgt := 63) hx hb dX9_kinds_24 (by decide) (fun cd => ?_) (fun cd => ?_)
    · replace h := k_t cd h
      clear cd
      refine lv_iconst (v := 0) hx hb dX9_kinds_63 (by decide) ?_
      refine lv_istore_n (lv' := [(3, .int (0 : Int32)), (0, .ref (a_o 0)), (1, .int x1), (2, .int x2), (4, .int x4)]) hx hb dX9_kinds_64 rfl hl (by decide) rfl (fun ls hl => ?_)
      refine lv_iinc (v := (x4 + (1 : Int32))) (lv' := [(4, .int (x4 + (1 : Int32))), (3, .int (0 : Int32)), (0, .ref (a_o 0)), (1, .int x1), (2, .int x2)]) hx hb dX9_kinds_65 hl (k := 4) rfl rfl (by decide) rfl (fun ls hl => ?_)
      refine lv_goto (tgt := 14) hx hb dX9_kinds_68 (by decide) ?_
      exact hrec14 (x1, x2, (0 : Int32), (x4 + (1 : Int32))) h locs ls hF (lv_sub hl [2, 3, 4, 1, 0] rfl)
    · replace h := k_f cd h
      clear cd
      refine lv_iload_n hx hb dX9_kinds_27 rfl (lv_at hl 2 rfl) ?_
      refine lv_aload_n hx hb dX9_kinds_28 rfl (lv_at hl 0 rfl) ?_
      refine k_get hX hZ.1 0 9 rfl rfl iw_X9 12 rfl (wm_255) (v := .ref (a_o 8)) rfl dX9_kinds_29 ?_
      refine lv_iload hx hb dX9_kinds_32 (lv_at hl 4 rfl) ?_
      refine k_iald hX hZ.1 8 rfl h dX9_kinds_34 (fun v1 h => ?_)
      obtain ⟨u2, hu, h⟩ := k_bd h
      refine k_sRR (As := [.int x2, .int v1]) (rest := []) (wc := []) (v := some (.int u2)) (st1 := [.int u2]) hX hl.1 hZ hF (c_X9_comesOf  x2 v1 hu) (gs_ wm_258 wm_260 wm_11 wm_259) rfl hd_X9_comesOf ⟨rfl, rfl⟩ [] rfl rfl rfl rfl rfl dX9_kinds_35 rfl ⟨rfl, rfl⟩ (fun locs hF => ?_)
      clear hu
      refine lv_bipush (v := 100) hx hb dX9_kinds_38 (by decide) ?_
      refine lv_aload_n hx hb dX9_kinds_40 rfl (lv_at hl 0 rfl) ?_
      refine k_get hX hZ.1 0 9 rfl rfl iw_X9 13 rfl (wm_256) (v := .ref (a_o 9)) rfl dX9_kinds_41 ?_
      refine lv_iload hx hb dX9_kinds_44 (lv_at hl 4 rfl) ?_
      refine k_iald hX hZ.1 9 rfl h dX9_kinds_46 (fun v3 h => ?_)
      refine lv_imul hx hb dX9_kinds_47 ?_
      refine lv_aload_n hx hb dX9_kinds_48 rfl (lv_at hl 0 rfl) ?_
      refine k_get hX hZ.1 0 9 rfl rfl iw_X9 14 rfl (wm_257) (v := .ref (a_o 10)) rfl dX9_kinds_49 ?_
      refine lv_iload hx hb dX9_kinds_52 (lv_at hl 4 rfl) ?_
      refine k_iald hX hZ.1 10 rfl h dX9_kinds_54 (fun v4 h => ?_)
      refine lv_iadd hx hb dX9_kinds_55 ?_
      refine lv_icmp_ne (tgt := 63) hx hb dX9_kinds_56 (by decide) (fun cd => ?_) (fun cd => ?_)
      · replace h := k_f cd h
        clear cd
        refine lv_iconst (v := 0) hx hb dX9_kinds_63 (by decide) ?_
        refine lv_istore_n (lv' := [(3, .int (0 : Int32)), (0, .ref (a_o 0)), (1, .int x1), (2, .int x2), (4, .int x4)]) hx hb dX9_kinds_64 rfl hl (by decide) rfl (fun ls hl => ?_)
        refine lv_iinc (v := (x4 + (1 : Int32))) (lv' := [(4, .int (x4 + (1 : Int32))), (3, .int (0 : Int32)), (0, .ref (a_o 0)), (1, .int x1), (2, .int x2)]) hx hb dX9_kinds_65 hl (k := 4) rfl rfl (by decide) rfl (fun ls hl => ?_)
        refine lv_goto (tgt := 14) hx hb dX9_kinds_68 (by decide) ?_
        exact hrec14 (x1, x2, (0 : Int32), (x4 + (1 : Int32))) h locs ls hF (lv_sub hl [2, 3, 4, 1, 0] rfl)
      · replace h := k_t cd h
        clear cd
        refine lv_iconst (v := 1) hx hb dX9_kinds_59 (by decide) ?_
        refine lv_goto (tgt := 64) hx hb dX9_kinds_60 (by decide) ?_
        refine lv_istore_n (lv' := [(3, .int (1 : Int32)), (0, .ref (a_o 0)), (1, .int x1), (2, .int x2), (4, .int x4)]) hx hb dX9_kinds_64 rfl hl (by decide) rfl (fun ls hl => ?_)
        refine lv_iinc (v := (x4 + (1 : Int32))) (lv' := [(4, .int (x4 + (1 : Int32))), (3, .int (1 : Int32)), (0, .ref (a_o 0)), (1, .int x1), (2, .int x2)]) hx hb dX9_kinds_65 hl (k := 4) rfl rfl (by decide) rfl (fun ls hl => ?_)
        refine lv_goto (tgt := 14) hx hb dX9_kinds_68 (by decide) ?_
        exact hrec14 (x1, x2, (1 : Int32), (x4 + (1 : Int32))) h locs ls hF (lv_sub hl [2, 3, 4, 1, 0] rfl)
set_option maxHeartbeats 4000000 in
set_option maxRecDepth 100000 in
theorem t_X9_kinds_J71 {p : Program} {l : Launch} {e : Env} {s : State} {m : MethodId} {args : Array Value} {below : List Frame} {meth : Method} {c : Code} {D : va_G} {aC : Nat → ClassId} {A : Nat → Prop} {a_o : Nat → Nat} {out : Int32} {s_o : Ob_T} {rec4 : (Int32 × Int32) → Option Int32} (hX : K_X p s m args meth c cX9_kinds 5 WL_ RX9 D aC A) (hr : meth.sig.returnType = (some .int)) (hZ : va_P D vwCl (wd_X9 aC a_o s_o) s.heap ∧ va_D (fun _ => True) (wd_X9 aC a_o s_o)) (hrec4 : ∀ x : Int32 × Int32, rec4 x = some out → ∀ (locs : List Loc) (ls : Array Slot), (∀ q ∈ locs, False) → lv_has ls 5 [(0, .ref (a_o 0)), (1, .int x.1), (2, .int x.2)] → W p l e (R_m 1 21) s m args below meth c s.heap locs 0 0 (MQ below (Q_R (some (.int out))) args s 0 0 (fun _ => False)) (F0 m 4 ls [])) (x1 : Int32) (x2 : Int32) (x3 : Int32) (h : f_X9_kinds_J71 rec4 x1 x2 x3 s_o = some out) (locs : List Loc) (ls : Array Slot) (hF : ∀ q ∈ locs, False) (hl : lv_has ls 5 [(0, .ref (a_o 0)), (1, .int x1), (2, .int x2), (3, .int x3)]) : W p l e (R_m 1 21) s m args below meth c s.heap locs 0 0 (MQ below (Q_R (some (.int out))) args s 0 0 (fun _ => False)) (F0 m 71 ls []) := by
  obtain ⟨hx, hb, hml, hown, hts, hK, hA, hlk⟩ := id hX
  unfold f_X9_kinds_J71 at h
  refine lv_iload_n hx hb dX9_kinds_71 rfl (lv_at hl 1 rfl) ?_
  refine lv_iload_n hx hb dX9_kinds_72 rfl (lv_at hl 3 rfl) ?_
  refine lv_if_eq (tgt := 82) hx hb dX9_kinds_73 (by decide) (fun cd => ?_) (fun cd => ?_)
  · replace h := k_t cd h
    clear cd
    refine lv_iconst (v := 0) hx hb dX9_kinds_82 (by decide) ?_
    refine lv_ior hx hb dX9_kinds_83 ?_
    refine lv_istore_n (lv' := [(1, .int (x1 ||| (0 : Int32))), (0, .ref (a_o 0)), (2, .int x2), (3, .int x3)]) hx hb dX9_kinds_84 rfl hl (by decide) rfl (fun ls hl => ?_)
    refine lv_iinc (v := (x2 + (1 : Int32))) (lv' := [(2, .int (x2 + (1 : Int32))), (1, .int (x1 ||| (0 : Int32))), (0, .ref (a_o 0)), (3, .int x3)]) hx hb dX9_kinds_85 hl (k := 2) rfl rfl (by decide) rfl (fun ls hl => ?_)
    refine lv_goto (tgt := 4) hx hb dX9_kinds_88 (by decide) ?_
    exact hrec4 ((x1 ||| (0 : Int32)), (x2 + (1 : Int32))) h locs ls hF (lv_sub hl [2, 1, 0] rfl)
  · replace h := k_f cd h
    clear cd
    refine lv_iconst (v := 1) hx hb dX9_kinds_76 (by decide) ?_
    refine lv_iload_n hx hb dX9_kinds_77 rfl (lv_at hl 2 rfl) ?_
    refine lv_ishl hx hb dX9_kinds_78 ?_
    refine lv_goto (tgt := 83) hx hb dX9_kinds_79 (by decide) ?_
    refine lv_ior hx hb dX9_kinds_83 ?_
    refine lv_topi (fun e5 he => ?_)
    replace h := k_lt he h
    clear he
    refine lv_istore_n (lv' := [(1, .int e5), (0, .ref (a_o 0)), (2, .int x2), (3, .int x3)]) hx hb dX9_kinds_84 rfl hl (by decide) rfl (fun ls hl => ?_)
    refine lv_iinc (v := (x2 + (1 : Int32))) (lv' := [(2, .int (x2 + (1 : Int32))), (1, .int e5), (0, .ref (a_o 0)), (3, .int x3)]) hx hb dX9_kinds_85 hl (k := 2) rfl rfl (by decide) rfl (fun ls hl => ?_)
    refine lv_goto (tgt := 4) hx hb dX9_kinds_88 (by decide) ?_
    exact hrec4 (e5, (x2 + (1 : Int32))) h locs ls hF (lv_sub hl [2, 1, 0] rfl)
set_option maxHeartbeats 4000000 in
set_option maxRecDepth 100000 in
theorem t_X9_kinds_L4 {p : Program} {l : Launch} {e : Env} {s : State} {m : MethodId} {args : Array Value} {below : List Frame} {meth : Method} {c : Code} {D : va_G} {aC : Nat → ClassId} {A : Nat → Prop} {a_o : Nat → Nat} {out : Int32} {s_o : Ob_T} {rec4 : (Int32 × Int32) → Option Int32} (hX : K_X p s m args meth c cX9_kinds 5 WL_ RX9 D aC A) (hr : meth.sig.returnType = (some .int)) (hZ : va_P D vwCl (wd_X9 aC a_o s_o) s.heap ∧ va_D (fun _ => True) (wd_X9 aC a_o s_o)) (hrec4 : ∀ x : Int32 × Int32, rec4 x = some out → ∀ (locs : List Loc) (ls : Array Slot), (∀ q ∈ locs, False) → lv_has ls 5 [(0, .ref (a_o 0)), (1, .int x.1), (2, .int x.2)] → W p l e (R_m 1 21) s m args below meth c s.heap locs 0 0 (MQ below (Q_R (some (.int out))) args s 0 0 (fun _ => False)) (F0 m 4 ls [])) (x1 : Int32) (x2 : Int32) (h : f_X9_kinds_L4 rec4 x1 x2 s_o = some out) (locs : List Loc) (ls : Array Slot) (hF : ∀ q ∈ locs, False) (hl : lv_has ls 5 [(0, .ref (a_o 0)), (1, .int x1), (2, .int x2)]) : W p l e (R_m 1 21) s m args below meth c s.heap locs 0 0 (MQ below (Q_R (some (.int out))) args s 0 0 (fun _ => False)) (F0 m 4 ls []) := by
  obtain ⟨hx, hb, hml, hown, hts, hK, hA, hlk⟩ := id hX
  unfold f_X9_kinds_L4 at h
  refine lv_iload_n hx hb dX9_kinds_4 rfl (lv_at hl 2 rfl) ?_
  refine lv_iconst (v := 5) hx hb dX9_kinds_5 (by decide) ?_
  refine lv_icmp_gt (tgt := 91) hx hb dX9_kinds_6 (by decide) (fun cd => ?_) (fun cd => ?_)
  · replace h := k_t cd h
    clear cd
    refine lv_iload_n hx hb dX9_kinds_91 rfl (lv_at hl 1 rfl) ?_
    cases h
    exact k_iretR hX hr hF dX9_kinds_92
  · replace h := k_f cd h
    clear cd
    refine lv_iconst (v := 1) hx hb dX9_kinds_9 (by decide) ?_
    refine lv_istore_n (lv' := [(3, .int (1 : Int32)), (0, .ref (a_o 0)), (1, .int x1), (2, .int x2)]) hx hb dX9_kinds_10 rfl hl (by decide) rfl (fun ls hl => ?_)
    refine lv_iconst (v := 0) hx hb dX9_kinds_11 (by decide) ?_
    refine lv_istore (lv' := [(4, .int (0 : Int32)), (3, .int (1 : Int32)), (0, .ref (a_o 0)), (1, .int x1), (2, .int x2)]) hx hb dX9_kinds_12 hl (by decide) rfl (fun ls hl => ?_)
    exact Lp_ok (body := (fun (rec : (Int32 × Int32 × Int32 × Int32) → Option Int32) x => f_X9_kinds_L14 (fun y1 y2 y3 => f_X9_kinds_J71 rec4 y1 y2 y3 s_o) rec x.1 x.2.1 x.2.2.1 x.2.2.2 s_o)) (out := out) (fun x => ∀ (locs : List Loc) (ls : Array Slot), (∀ q ∈ locs, False) → lv_has ls 5 [(0, .ref (a_o 0)), (1, .int x.1), (2, .int x.2.1), (3, .int x.2.2.1), (4, .int x.2.2.2)] → W p l e (R_m 1 21) s m args below meth c s.heap locs 0 0 (MQ below (Q_R (some (.int out))) args s 0 0 (fun _ => False)) (F0 m 14 ls [])) (fun rec hrec x h locs ls hF hl => t_X9_kinds_L14 hX hr hZ (fun y1 y2 y3 h locs ls hF hl => t_X9_kinds_J71 hX hr hZ hrec4 y1 y2 y3 h locs ls hF (lv_sub hl [0, 1, 2, 3] rfl)) hrec x.1 x.2.1 x.2.2.1 x.2.2.2 h locs ls hF hl) FU_ (x1, x2, (1 : Int32), (0 : Int32)) h locs ls hF (lv_sub hl [2, 3, 4, 1, 0] rfl)
set_option maxHeartbeats 4000000 in
set_option maxRecDepth 100000 in
theorem c_X9_kinds {l : Launch} {D : va_G} {aC : Nat → ClassId} {a_o : Nat → Nat} (s_o : Ob_T) {out : Int32} (h : f_X9_kinds s_o = some out) : M_R l yX9_kinds wlX9_kinds 1 21 D aC [.ref (a_o 0)] (wd_X9 aC a_o s_o) (some (.int out)) := by
  refine k_entR (cc := cX9_kinds) (ret := (some .int)) (maxL := 5) (own := RX9) (by decide) rfl rfl rfl ?_
  intro p e s m below meth c A ls hX hr hZ hl
  have hl : lv_has ls 5 [(0, .ref (a_o 0))] := hl
  generalize ([.ref (a_o 0)] : List Value).toArray = args at hX ⊢
  obtain ⟨hx, hb, hml, hown, hts, hK, hA, hlk⟩ := id hX
  unfold f_X9_kinds at h
  have hF : ∀ q ∈ ([] : List Loc), False := fun _ h => nomatch h
  generalize ([] : List Loc) = locs at hF ⊢
  refine lv_iconst (v := 0) hx hb dX9_kinds_0 (by decide) ?_
  refine lv_istore_n (lv' := [(1, .int (0 : Int32)), (0, .ref (a_o 0))]) hx hb dX9_kinds_1 rfl hl (by decide) rfl (fun ls hl => ?_)
  refine lv_iconst (v := 1) hx hb dX9_kinds_2 (by decide) ?_
  refine lv_istore_n (lv' := [(2, .int (1 : Int32)), (1, .int (0 : Int32)), (0, .ref (a_o 0))]) hx hb dX9_kinds_3 rfl hl (by decide) rfl (fun ls hl => ?_)
  exact Lp_ok (body := (fun (rec : (Int32 × Int32) → Option Int32) x => f_X9_kinds_L4 rec x.1 x.2 s_o)) (out := out) (fun x => ∀ (locs : List Loc) (ls : Array Slot), (∀ q ∈ locs, False) → lv_has ls 5 [(0, .ref (a_o 0)), (1, .int x.1), (2, .int x.2)] → W p l e (R_m 1 21) s m args below meth c s.heap locs 0 0 (MQ below (Q_R (some (.int out))) args s 0 0 (fun _ => False)) (F0 m 4 ls [])) (fun rec hrec x h locs ls hF hl => t_X9_kinds_L4 hX hr hZ hrec x.1 x.2 h locs ls hF hl) FU_ ((0 : Int32), (1 : Int32)) h locs ls hF (lv_sub hl [2, 1, 0] rfl)
