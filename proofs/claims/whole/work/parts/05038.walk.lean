def wlX9_toldLetters : List Cond := .code yX9_toldLetters cX9_toldLetters 5 (some .int) :: WL_
theorem hd_X9_toldLetters : yX9_toldLetters.cls = RX9 ∧ yX9_toldLetters.cls ≠ "java/lang/invoke/MethodHandle" ∧ yX9_toldLetters.cls ≠ "java/lang/invoke/VarHandle" ∧ (parseMethodDescriptor yX9_toldLetters.desc).map (fun d => d.parameters.length) = some 0 := by decide +kernel
theorem dX9_toldLetters_0 : decode cX9_toldLetters 0 = .ok (.iconst 0, 1) := by decide +kernel
theorem dX9_toldLetters_1 : decode cX9_toldLetters 1 = .ok (.istore_n 1, 1) := by decide +kernel
theorem dX9_toldLetters_2 : decode cX9_toldLetters 2 = .ok (.iconst 0, 1) := by decide +kernel
theorem dX9_toldLetters_3 : decode cX9_toldLetters 3 = .ok (.istore_n 2, 1) := by decide +kernel
theorem dX9_toldLetters_4 : decode cX9_toldLetters 4 = .ok (.iload_n 2, 1) := by decide +kernel
theorem dX9_toldLetters_5 : decode cX9_toldLetters 5 = .ok (.aload_n 0, 1) := by decide +kernel
theorem dX9_toldLetters_6 : decode cX9_toldLetters 6 = .ok (.getfield 170, 3) := by decide +kernel
theorem dX9_toldLetters_9 : decode cX9_toldLetters 9 = .ok (.if_icmp .ge 70, 3) := by decide +kernel
theorem dX9_toldLetters_12 : decode cX9_toldLetters 12 = .ok (.iconst 0, 1) := by decide +kernel
theorem dX9_toldLetters_13 : decode cX9_toldLetters 13 = .ok (.istore_n 3, 1) := by decide +kernel
theorem dX9_toldLetters_14 : decode cX9_toldLetters 14 = .ok (.iload_n 3, 1) := by decide +kernel
theorem dX9_toldLetters_15 : decode cX9_toldLetters 15 = .ok (.aload_n 0, 1) := by decide +kernel
theorem dX9_toldLetters_16 : decode cX9_toldLetters 16 = .ok (.getfield 7, 3) := by decide +kernel
theorem dX9_toldLetters_19 : decode cX9_toldLetters 19 = .ok (.bipush 15, 2) := by decide +kernel
theorem dX9_toldLetters_21 : decode cX9_toldLetters 21 = .ok (.iload_n 2, 1) := by decide +kernel
theorem dX9_toldLetters_22 : decode cX9_toldLetters 22 = .ok (.imul, 1) := by decide +kernel
theorem dX9_toldLetters_23 : decode cX9_toldLetters 23 = .ok (.iconst 4, 1) := by decide +kernel
theorem dX9_toldLetters_24 : decode cX9_toldLetters 24 = .ok (.iadd, 1) := by decide +kernel
theorem dX9_toldLetters_25 : decode cX9_toldLetters 25 = .ok (.iaload, 1) := by decide +kernel
theorem dX9_toldLetters_26 : decode cX9_toldLetters 26 = .ok (.if_icmp .ge 47, 3) := by decide +kernel
theorem dX9_toldLetters_29 : decode cX9_toldLetters 29 = .ok (.aload_n 0, 1) := by decide +kernel
theorem dX9_toldLetters_30 : decode cX9_toldLetters 30 = .ok (.getfield 7, 3) := by decide +kernel
theorem dX9_toldLetters_33 : decode cX9_toldLetters 33 = .ok (.bipush 15, 2) := by decide +kernel
theorem dX9_toldLetters_35 : decode cX9_toldLetters 35 = .ok (.iload_n 2, 1) := by decide +kernel
theorem dX9_toldLetters_36 : decode cX9_toldLetters 36 = .ok (.imul, 1) := by decide +kernel
theorem dX9_toldLetters_37 : decode cX9_toldLetters 37 = .ok (.iconst 5, 1) := by decide +kernel
theorem dX9_toldLetters_38 : decode cX9_toldLetters 38 = .ok (.iadd, 1) := by decide +kernel
theorem dX9_toldLetters_39 : decode cX9_toldLetters 39 = .ok (.iload_n 3, 1) := by decide +kernel
theorem dX9_toldLetters_40 : decode cX9_toldLetters 40 = .ok (.iadd, 1) := by decide +kernel
theorem dX9_toldLetters_41 : decode cX9_toldLetters 41 = .ok (.iaload, 1) := by decide +kernel
theorem dX9_toldLetters_42 : decode cX9_toldLetters 42 = .ok (.istore 4, 2) := by decide +kernel
theorem dX9_toldLetters_44 : decode cX9_toldLetters 44 = .ok (.iload_n 1, 1) := by decide +kernel
theorem dX9_toldLetters_45 : decode cX9_toldLetters 45 = .ok (.iload 4, 2) := by decide +kernel
theorem dX9_toldLetters_47 : decode cX9_toldLetters 47 = .ok (.sipush 20000, 3) := by decide +kernel
theorem dX9_toldLetters_50 : decode cX9_toldLetters 50 = .ok (.if_icmp .ge 7, 3) := by decide +kernel
theorem dX9_toldLetters_53 : decode cX9_toldLetters 53 = .ok (.iconst 0, 1) := by decide +kernel
theorem dX9_toldLetters_54 : decode cX9_toldLetters 54 = .ok (.goto 11, 3) := by decide +kernel
theorem dX9_toldLetters_57 : decode cX9_toldLetters 57 = .ok (.iconst 1, 1) := by decide +kernel
theorem dX9_toldLetters_58 : decode cX9_toldLetters 58 = .ok (.iload 4, 2) := by decide +kernel
theorem dX9_toldLetters_60 : decode cX9_toldLetters 60 = .ok (.sipush 20000, 3) := by decide +kernel
theorem dX9_toldLetters_63 : decode cX9_toldLetters 63 = .ok (.isub, 1) := by decide +kernel
theorem dX9_toldLetters_64 : decode cX9_toldLetters 64 = .ok (.ishl, 1) := by decide +kernel
theorem dX9_toldLetters_65 : decode cX9_toldLetters 65 = .ok (.ior, 1) := by decide +kernel
theorem dX9_toldLetters_66 : decode cX9_toldLetters 66 = .ok (.istore_n 1, 1) := by decide +kernel
theorem dX9_toldLetters_67 : decode cX9_toldLetters 67 = .ok (.iinc 3 1, 3) := by decide +kernel
theorem dX9_toldLetters_70 : decode cX9_toldLetters 70 = .ok (.goto (-56), 3) := by decide +kernel
theorem dX9_toldLetters_73 : decode cX9_toldLetters 73 = .ok (.iinc 2 1, 3) := by decide +kernel
theorem dX9_toldLetters_76 : decode cX9_toldLetters 76 = .ok (.goto (-72), 3) := by decide +kernel
theorem dX9_toldLetters_79 : decode cX9_toldLetters 79 = .ok (.iload_n 1, 1) := by decide +kernel
theorem dX9_toldLetters_80 : decode cX9_toldLetters 80 = .ok (.ireturn, 1) := by decide +kernel
set_option maxHeartbeats 4000000 in
set_option maxRecDepth 100000 in
theorem t_X9_toldLetters_L14 {p : Program} {l : Launch} {e : Env} {s : State} {m : MethodId} {args : Array Value} {below : List Frame} {meth : Method} {c : Code} {D : va_G} {aC : Nat → ClassId} {A : Nat → Prop} {a_o : Nat → Nat} {out : Int32} {s_o : Ob_T} {rec4 : (Int32 × Int32) → Option Int32} {rec14 : (Int32 × Int32 × Int32) → Option Int32} (hX : K_X p s m args meth c cX9_toldLetters 5 WL_ RX9 D aC A) (hr : meth.sig.returnType = (some .int)) (hZ : va_P D vwCl (wd_X9 aC a_o s_o) s.heap ∧ va_D (fun _ => True) (wd_X9 aC a_o s_o)) (hrec4 : ∀ x : Int32 × Int32, rec4 x = some out → ∀ (locs : List Loc) (ls : Array Slot), (∀ q ∈ locs, False) → lv_has ls 5 [(0, .ref (a_o 0)), (1, .int x.1), (2, .int x.2)] → W p l e (R_m 0 0) s m args below meth c s.heap locs 0 0 (MQ below (Q_R (some (.int out))) args s 0 0 (fun _ => False)) (F0 m 4 ls [])) (hrec14 : ∀ x : Int32 × Int32 × Int32, rec14 x = some out → ∀ (locs : List Loc) (ls : Array Slot), (∀ q ∈ locs, False) → lv_has ls 5 [(0, .ref (a_o 0)), (1, .int x.1), (2, .int x.2.1), (3, .int x.2.2)] → W p l e (R_m 0 0) s m args below meth c s.heap locs 0 0 (MQ below (Q_R (some (.int out))) args s 0 0 (fun _ => False)) (F0 m 14 ls [])) (x1 : Int32) (x2 : Int32) (x3 : Int32) (h : f_X9_toldLetters_L14 rec4 rec14 x1 x2 x3 s_o = some out) (locs : List Loc) (ls : Array Slot) (hF : ∀ q ∈ locs, False) (hl : lv_has ls 5 [(0, .ref (a_o 0)), (1, .int x1), (2, .int x2), (3, .int x3)]) : W p l e (R_m 0 0) s m args below meth c s.heap locs 0 0 (MQ below (Q_R (some (.int out))) args s 0 0 (fun _ => False)) (F0 m 14 ls []) := by
  obtain ⟨hx, hb, hml, hown, hts, hK, hA, hlk⟩ := id hX
  unfold f_X9_toldLetters_L14 at h
  refine lv_iload_n hx hb dX9_toldLetters_14 rfl (lv_at hl 3 rfl) ?_
  refine lv_aload_n hx hb dX9_toldLetters_15 rfl (lv_at hl 0 rfl) ?_
  refine k_get hX hZ.1 0 9 rfl rfl iw_X9 0 rfl (wm_107) (v := .ref (a_o 1)) rfl dX9_toldLetters_16 ?_
  refine lv_bipush (v := 15) hx hb dX9_toldLetters_19 (by decide) ?_
  refine lv_iload_n hx hb dX9_toldLetters_21 rfl (lv_at hl 2 rfl) ?_
  refine lv_imul hx hb dX9_toldLetters_22 ?_
  refine lv_iconst (v := 4) hx hb dX9_toldLetters_23 (by decide) ?_
  refine lv_iadd hx hb dX9_toldLetters_24 ?_
  refine k_iald hX hZ.1 1 rfl h dX9_toldLetters_25 (fun v1 h => ?_)
  refine lv_icmp_ge (tgt := 73) hx hb dX9_toldLetters_26 (by decide) (fun cd => ?_) (fun cd => ?_)
  · replace h := k_t cd h
    clear cd
    refine lv_iinc (v := (x2 + (1 : Int32))) (lv' := [(2, .int (x2 + (1 : Int32))), (0, .ref (a_o 0)), (1, .int x1), (3, .int x3)]) hx hb dX9_toldLetters_73 hl (k := 2) rfl rfl (by decide) rfl (fun ls hl => ?_)
    refine lv_goto (tgt := 4) hx hb dX9_toldLetters_76 (by decide) ?_
    exact hrec4 (x1, (x2 + (1 : Int32))) h locs ls hF (lv_sub hl [1, 2, 0] rfl)
  · replace h := k_f cd h
    clear cd
    refine lv_aload_n hx hb dX9_toldLetters_29 rfl (lv_at hl 0 rfl) ?_
    refine k_get hX hZ.1 0 9 rfl rfl iw_X9 0 rfl (wm_107) (v := .ref (a_o 1)) rfl dX9_toldLetters_30 ?_
    refine lv_bipush (v := 15) hx hb dX9_toldLetters_33 (by decide) ?_
    refine lv_iload_n hx hb dX9_toldLetters_35 rfl (lv_at hl 2 rfl) ?_
    refine lv_imul hx hb dX9_toldLetters_36 ?_
    refine lv_iconst (v := 5) hx hb dX9_toldLetters_37 (by decide) ?_
    refine lv_iadd hx hb dX9_toldLetters_38 ?_
    refine lv_iload_n hx hb dX9_toldLetters_39 rfl (lv_at hl 3 rfl) ?_
    refine lv_iadd hx hb dX9_toldLetters_40 ?_
    refine k_iald hX hZ.1 1 rfl h dX9_toldLetters_41 (fun v2 h => ?_)
    refine lv_istore (lv' := [(4, .int v2), (0, .ref (a_o 0)), (1, .int x1), (2, .int x2), (3, .int x3)]) hx hb dX9_toldLetters_42 hl (by decide) rfl (fun ls hl => ?_)
    refine lv_iload_n hx hb dX9_toldLetters_44 rfl (lv_at hl 2 rfl) ?_
    refine lv_iload hx hb dX9_toldLetters_45 (lv_at hl 0 rfl) ?_
    refine lv_sipush (v := 20000) hx hb dX9_toldLetters_47 (by decide) ?_
    refine lv_icmp_ge (tgt := 57) hx hb dX9_toldLetters_50 (by decide) (fun cd => ?_) (fun cd => ?_)
    · replace h := k_t cd h
      clear cd
      refine lv_iconst (v := 1) hx hb dX9_toldLetters_57 (by decide) ?_
      refine lv_iload hx hb dX9_toldLetters_58 (lv_at hl 0 rfl) ?_
      refine lv_sipush (v := 20000) hx hb dX9_toldLetters_60 (by decide) ?_
      refine lv_isub hx hb dX9_toldLetters_63 ?_
      refine lv_ishl hx hb dX9_toldLetters_64 ?_
      refine lv_ior hx hb dX9_toldLetters_65 ?_
      refine lv_topi (fun e3 he => ?_)
      replace h := k_lt he h
      clear he
      refine lv_istore_n (lv' := [(1, .int e3), (4, .int v2), (0, .ref (a_o 0)), (2, .int x2), (3, .int x3)]) hx hb dX9_toldLetters_66 rfl hl (by decide) rfl (fun ls hl => ?_)
      refine lv_iinc (v := (x3 + (1 : Int32))) (lv' := [(3, .int (x3 + (1 : Int32))), (1, .int e3), (4, .int v2), (0, .ref (a_o 0)), (2, .int x2)]) hx hb dX9_toldLetters_67 hl (k := 4) rfl rfl (by decide) rfl (fun ls hl => ?_)
      refine lv_goto (tgt := 14) hx hb dX9_toldLetters_70 (by decide) ?_
      exact hrec14 (e3, x2, (x3 + (1 : Int32))) h locs ls hF (lv_sub hl [3, 1, 4, 0] rfl)
    · replace h := k_f cd h
      clear cd
      refine lv_iconst (v := 0) hx hb dX9_toldLetters_53 (by decide) ?_
      refine lv_goto (tgt := 65) hx hb dX9_toldLetters_54 (by decide) ?_
      refine lv_ior hx hb dX9_toldLetters_65 ?_
      refine lv_istore_n (lv' := [(1, .int (x1 ||| (0 : Int32))), (4, .int v2), (0, .ref (a_o 0)), (2, .int x2), (3, .int x3)]) hx hb dX9_toldLetters_66 rfl hl (by decide) rfl (fun ls hl => ?_)
      refine lv_iinc (v := (x3 + (1 : Int32))) (lv' := [(3, .int (x3 + (1 : Int32))), (1, .int (x1 ||| (0 : Int32))), (4, .int v2), (0, .ref (a_o 0)), (2, .int x2)]) hx hb dX9_toldLetters_67 hl (k := 4) rfl rfl (by decide) rfl (fun ls hl => ?_)
      refine lv_goto (tgt := 14) hx hb dX9_toldLetters_70 (by decide) ?_
      exact hrec14 ((x1 ||| (0 : Int32)), x2, (x3 + (1 : Int32))) h locs ls hF (lv_sub hl [3, 1, 4, 0] rfl)
set_option maxHeartbeats 4000000 in
set_option maxRecDepth 100000 in
theorem t_X9_toldLetters_L4 {p : Program} {l : Launch} {e : Env} {s : State} {m : MethodId} {args : Array Value} {below : List Frame} {meth : Method} {c : Code} {D : va_G} {aC : Nat → ClassId} {A : Nat → Prop} {a_o : Nat → Nat} {out : Int32} {s_o : Ob_T} {rec4 : (Int32 × Int32) → Option Int32} (hX : K_X p s m args meth c cX9_toldLetters 5 WL_ RX9 D aC A) (hr : meth.sig.returnType = (some .int)) (hZ : va_P D vwCl (wd_X9 aC a_o s_o) s.heap ∧ va_D (fun _ => True) (wd_X9 aC a_o s_o)) (hrec4 : ∀ x : Int32 × Int32, rec4 x = some out → ∀ (locs : List Loc) (ls : Array Slot), (∀ q ∈ locs, False) → lv_has ls 5 [(0, .ref (a_o 0)), (1, .int x.1), (2, .int x.2)] → W p l e (R_m 0 0) s m args below meth c s.heap locs 0 0 (MQ below (Q_R (some (.int out))) args s 0 0 (fun _ => False)) (F0 m 4 ls [])) (x1 : Int32) (x2 : Int32) (h : f_X9_toldLetters_L4 rec4 x1 x2 s_o = some out) (locs : List Loc) (ls : Array Slot) (hF : ∀ q ∈ locs, False) (hl : lv_has ls 5 [(0, .ref (a_o 0)), (1, .int x1), (2, .int x2)]) : W p l e (R_m 0 0) s m args below meth c s.heap locs 0 0 (MQ below (Q_R (some (.int out))) args s 0 0 (fun _ => False)) (F0 m 4 ls []) := by
  obtain ⟨hx, hb, hml, hown, hts, hK, hA, hlk⟩ := id hX
  unfold f_X9_toldLetters_L4 at h
  refine lv_iload_n hx hb dX9_toldLetters_4 rfl (lv_at hl 2 rfl) ?_
  refine lv_aload_n hx hb dX9_toldLetters_5 rfl (lv_at hl 0 rfl) ?_
  refine k_get hX hZ.1 0 9 rfl rfl iw_X9 2 rfl (wm_108) (v := .int (o_F s_o 2)) rfl dX9_toldLetters_6 ?_
  refine lv_icmp_ge (tgt := 79) hx hb dX9_toldLetters_9 (by decide) (fun cd => ?_) (fun cd => ?_)
  · replace h := k_t cd h
    clear cd
    refine lv_iload_n hx hb dX9_toldLetters_79 rfl (lv_at hl 1 rfl) ?_
    cases h
    exact k_iretR hX hr hF dX9_toldLetters_80
  · replace h := k_f cd h
    clear cd
    refine lv_iconst (v := 0) hx hb dX9_toldLetters_12 (by decide) ?_
    refine lv_istore_n (lv' := [(3, .int (0 : Int32)), (0, .ref (a_o 0)), (1, .int x1), (2, .int x2)]) hx hb dX9_toldLetters_13 rfl hl (by decide) rfl (fun ls hl => ?_)
    exact Lp_ok (body := (fun (rec : (Int32 × Int32 × Int32) → Option Int32) x => f_X9_toldLetters_L14 rec4 rec x.1 x.2.1 x.2.2 s_o)) (out := out) (fun x => ∀ (locs : List Loc) (ls : Array Slot), (∀ q ∈ locs, False) → lv_has ls 5 [(0, .ref (a_o 0)), (1, .int x.1), (2, .int x.2.1), (3, .int x.2.2)] → W p l e (R_m 0 0) s m args below meth c s.heap locs 0 0 (MQ below (Q_R (some (.int out))) args s 0 0 (fun _ => False)) (F0 m 14 ls [])) (fun rec hrec x h locs ls hF hl => t_X9_toldLetters_L14 hX hr hZ hrec4 hrec x.1 x.2.1 x.2.2 h locs ls hF hl) FU_ (x1, x2, (0 : Int32)) h locs ls hF (lv_sub hl [1, 2, 3, 0] rfl)
set_option maxHeartbeats 4000000 in
set_option maxRecDepth 100000 in
theorem c_X9_toldLetters {l : Launch} {D : va_G} {aC : Nat → ClassId} {a_o : Nat → Nat} (s_o : Ob_T) {out : Int32} (h : f_X9_toldLetters s_o = some out) : M_R l yX9_toldLetters wlX9_toldLetters 0 0 D aC [.ref (a_o 0)] (wd_X9 aC a_o s_o) (some (.int out)) := by
  refine k_entR (cc := cX9_toldLetters) (ret := (some .int)) (maxL := 5) (own := RX9) (by decide) rfl rfl rfl ?_
  intro p e s m below meth c A ls hX hr hZ hl
  have hl : lv_has ls 5 [(0, .ref (a_o 0))] := hl
  generalize ([.ref (a_o 0)] : List Value).toArray = args at hX ⊢
  obtain ⟨hx, hb, hml, hown, hts, hK, hA, hlk⟩ := id hX
  unfold f_X9_toldLetters at h
  have hF : ∀ q ∈ ([] : List Loc), False := fun _ h => nomatch h
  generalize ([] : List Loc) = locs at hF ⊢
  refine lv_iconst (v := 0) hx hb dX9_toldLetters_0 (by decide) ?_
  refine lv_istore_n (lv' := [(1, .int (0 : Int32)), (0, .ref (a_o 0))]) hx hb dX9_toldLetters_1 rfl hl (by decide) rfl (fun ls hl => ?_)
  refine lv_iconst (v := 0) hx hb dX9_toldLetters_2 (by decide) ?_
  refine lv_istore_n (lv' := [(2, .int (0 : Int32)), (1, .int (0 : Int32)), (0, .ref (a_o 0))]) hx hb dX9_toldLetters_3 rfl hl (by decide) rfl (fun ls hl => ?_)
  exact Lp_ok (body := (fun (rec : (Int32 × Int32) → Option Int32) x => f_X9_toldLetters_L4 rec x.1 x.2 s_o)) (out := out) (fun x => ∀ (locs : List Loc) (ls : Array Slot), (∀ q ∈ locs, False) → lv_has ls 5 [(0, .ref (a_o 0)), (1, .int x.1), (2, .int x.2)] → W p l e (R_m 0 0) s m args below meth c s.heap locs 0 0 (MQ below (Q_R (some (.int out))) args s 0 0 (fun _ => False)) (F0 m 4 ls [])) (fun rec hrec x h locs ls hF hl => t_X9_toldLetters_L4 hX hr hZ hrec x.1 x.2 h locs ls hF hl) FU_ ((0 : Int32), (0 : Int32)) h locs ls hF (lv_sub hl [2, 1, 0] rfl)
