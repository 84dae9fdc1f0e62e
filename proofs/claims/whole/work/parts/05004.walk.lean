def wlX9_isWord : List Cond := .code yX9_isWord cX9_isWord 4 (some .boolean) :: WL_
theorem hd_X9_isWord : yX9_isWord.cls = RX9 ∧ yX9_isWord.cls ≠ "java/lang/invoke/MethodHandle" ∧ yX9_isWord.cls ≠ "java/lang/invoke/VarHandle" ∧ (parseMethodDescriptor yX9_isWord.desc).map (fun d => d.parameters.length) = some 1 := by decide +kernel
theorem dX9_isWord_0 : decode cX9_isWord 0 = .ok (.aload_n 0, 1) := by decide +kernel
theorem dX9_isWord_1 : decode cX9_isWord 1 = .ok (.getfield 113, 3) := by decide +kernel
theorem dX9_isWord_4 : decode cX9_isWord 4 = .ok (.aload_n 0, 1) := by decide +kernel
theorem dX9_isWord_5 : decode cX9_isWord 5 = .ok (.getfield 116, 3) := by decide +kernel
theorem dX9_isWord_8 : decode cX9_isWord 8 = .ok (.isub, 1) := by decide +kernel
theorem dX9_isWord_9 : decode cX9_isWord 9 = .ok (.aload_n 1, 1) := by decide +kernel
theorem dX9_isWord_10 : decode cX9_isWord 10 = .ok (.arraylength, 1) := by decide +kernel
theorem dX9_isWord_11 : decode cX9_isWord 11 = .ok (.if_icmp .ne 7, 3) := by decide +kernel
theorem dX9_isWord_14 : decode cX9_isWord 14 = .ok (.iconst 1, 1) := by decide +kernel
theorem dX9_isWord_15 : decode cX9_isWord 15 = .ok (.goto 4, 3) := by decide +kernel
theorem dX9_isWord_18 : decode cX9_isWord 18 = .ok (.iconst 0, 1) := by decide +kernel
theorem dX9_isWord_19 : decode cX9_isWord 19 = .ok (.istore_n 2, 1) := by decide +kernel
theorem dX9_isWord_20 : decode cX9_isWord 20 = .ok (.iconst 0, 1) := by decide +kernel
theorem dX9_isWord_21 : decode cX9_isWord 21 = .ok (.istore_n 3, 1) := by decide +kernel
theorem dX9_isWord_22 : decode cX9_isWord 22 = .ok (.iload_n 3, 1) := by decide +kernel
theorem dX9_isWord_23 : decode cX9_isWord 23 = .ok (.aload_n 1, 1) := by decide +kernel
theorem dX9_isWord_24 : decode cX9_isWord 24 = .ok (.arraylength, 1) := by decide +kernel
theorem dX9_isWord_25 : decode cX9_isWord 25 = .ok (.if_icmp .ge 36, 3) := by decide +kernel
theorem dX9_isWord_28 : decode cX9_isWord 28 = .ok (.iload_n 2, 1) := by decide +kernel
theorem dX9_isWord_29 : decode cX9_isWord 29 = .ok (.ifCond .eq 32, 3) := by decide +kernel
theorem dX9_isWord_32 : decode cX9_isWord 32 = .ok (.aload_n 0, 1) := by decide +kernel
theorem dX9_isWord_33 : decode cX9_isWord 33 = .ok (.getfield 29, 3) := by decide +kernel
theorem dX9_isWord_36 : decode cX9_isWord 36 = .ok (.aload_n 0, 1) := by decide +kernel
theorem dX9_isWord_37 : decode cX9_isWord 37 = .ok (.getfield 116, 3) := by decide +kernel
theorem dX9_isWord_40 : decode cX9_isWord 40 = .ok (.iload_n 3, 1) := by decide +kernel
theorem dX9_isWord_41 : decode cX9_isWord 41 = .ok (.iadd, 1) := by decide +kernel
theorem dX9_isWord_42 : decode cX9_isWord 42 = .ok (.iaload, 1) := by decide +kernel
theorem dX9_isWord_43 : decode cX9_isWord 43 = .ok (.aload_n 1, 1) := by decide +kernel
theorem dX9_isWord_44 : decode cX9_isWord 44 = .ok (.iload_n 3, 1) := by decide +kernel
theorem dX9_isWord_45 : decode cX9_isWord 45 = .ok (.iaload, 1) := by decide +kernel
theorem dX9_isWord_46 : decode cX9_isWord 46 = .ok (.if_icmp .ne 7, 3) := by decide +kernel
theorem dX9_isWord_49 : decode cX9_isWord 49 = .ok (.iconst 1, 1) := by decide +kernel
theorem dX9_isWord_50 : decode cX9_isWord 50 = .ok (.goto 4, 3) := by decide +kernel
theorem dX9_isWord_53 : decode cX9_isWord 53 = .ok (.iconst 0, 1) := by decide +kernel
theorem dX9_isWord_54 : decode cX9_isWord 54 = .ok (.istore_n 2, 1) := by decide +kernel
theorem dX9_isWord_55 : decode cX9_isWord 55 = .ok (.iinc 3 1, 3) := by decide +kernel
theorem dX9_isWord_58 : decode cX9_isWord 58 = .ok (.goto (-36), 3) := by decide +kernel
theorem dX9_isWord_61 : decode cX9_isWord 61 = .ok (.iload_n 2, 1) := by decide +kernel
theorem dX9_isWord_62 : decode cX9_isWord 62 = .ok (.ireturn, 1) := by decide +kernel
set_option maxHeartbeats 4000000 in
set_option maxRecDepth 100000 in
theorem t_X9_isWord_L22 {p : Program} {l : Launch} {e : Env} {s : State} {m : MethodId} {args : Array Value} {below : List Frame} {meth : Method} {c : Code} {D : va_G} {aC : Nat → ClassId} {A : Nat → Prop} {a_o : Nat → Nat} {q1 z1 : Nat} {f1 : Nat → Int32} {pl1 : Nat} {out : Int32} {s_o : Ob_T} {rec22 : (Int32 × Int32) → Option Int32} (hX : K_X p s m args meth c cX9_isWord 4 WL_ RX9 D aC A) (hr : meth.sig.returnType = (some .boolean)) (hZ : va_P D vwCl (wd_X9 aC a_o s_o) s.heap ∧ va_D (fun _ => True) (wd_X9 aC a_o s_o)) (hq1 : (wd_X9 aC a_o s_o)[pl1]? = some (q1, .inl (aC 0, z1, .inl f1))) (hrec22 : ∀ x : Int32 × Int32, rec22 x = some out → ∀ (locs : List Loc) (ls : Array Slot), (∀ q ∈ locs, False) → lv_has ls 4 [(0, .ref (a_o 0)), (1, .ref q1), (2, .int x.1), (3, .int x.2)] → W p l e (R_m 0 0) s m args below meth c s.heap locs 0 0 (MQ below (Q_R (some (.int out))) args s 0 0 (fun _ => False)) (F0 m 22 ls [])) (x2 : Int32) (x3 : Int32) (h : f_X9_isWord_L22 rec22 x2 x3 s_o f1 z1 = some out) (locs : List Loc) (ls : Array Slot) (hF : ∀ q ∈ locs, False) (hl : lv_has ls 4 [(0, .ref (a_o 0)), (1, .ref q1), (2, .int x2), (3, .int x3)]) : W p l e (R_m 0 0) s m args below meth c s.heap locs 0 0 (MQ below (Q_R (some (.int out))) args s 0 0 (fun _ => False)) (F0 m 22 ls []) := by
  obtain ⟨hx, hb, hml, hown, hts, hK, hA, hlk⟩ := id hX
  unfold f_X9_isWord_L22 at h
  refine lv_iload_n hx hb dX9_isWord_22 rfl (lv_at hl 3 rfl) ?_
  refine lv_aload_n hx hb dX9_isWord_23 rfl (lv_at hl 1 rfl) ?_
  refine va_alen (v := (Int32.ofNat z1)) hx hb hK hZ.1 pl1 0 hq1 rfl rfl dX9_isWord_24 ?_
  refine lv_icmp_ge (tgt := 61) hx hb dX9_isWord_25 (by decide) (fun cd => ?_) (fun cd => ?_)
  · replace h := k_t cd h
    clear cd
    refine lv_iload_n hx hb dX9_isWord_61 rfl (lv_at hl 2 rfl) ?_
    obtain ⟨b1, hb0, h⟩ := k_bd h
    obtain ⟨hb1, hb2, hb3⟩ := k_zb hb0
    clear hb0
    cases h
    exact k_zretR hX hr hb2 hF dX9_isWord_62
  · replace h := k_f cd h
    clear cd
    refine lv_iload_n hx hb dX9_isWord_28 rfl (lv_at hl 2 rfl) ?_
    refine lv_if_eq (tgt := 61) hx hb dX9_isWord_29 (by decide) (fun cd => ?_) (fun cd => ?_)
    · replace h := k_t cd h
      clear cd
      refine lv_iload_n hx hb dX9_isWord_61 rfl (lv_at hl 2 rfl) ?_
      obtain ⟨b2, hb0, h⟩ := k_bd h
      obtain ⟨hb1, hb2, hb3⟩ := k_zb hb0
      clear hb0
      cases h
      exact k_zretR hX hr hb2 hF dX9_isWord_62
    · replace h := k_f cd h
      clear cd
      refine lv_aload_n hx hb dX9_isWord_32 rfl (lv_at hl 0 rfl) ?_
      refine k_get hX hZ.1 0 9 rfl rfl iw_X9 9 rfl (wm_9) (v := .ref (a_o 7)) rfl dX9_isWord_33 ?_
      refine lv_aload_n hx hb dX9_isWord_36 rfl (lv_at hl 0 rfl) ?_
      refine k_get hX hZ.1 0 9 rfl rfl iw_X9 18 rfl (wm_19) (v := .int (o_F s_o 18)) rfl dX9_isWord_37 ?_
      refine lv_iload_n hx hb dX9_isWord_40 rfl (lv_at hl 3 rfl) ?_
      refine lv_iadd hx hb dX9_isWord_41 ?_
      refine k_iald hX hZ.1 7 rfl h dX9_isWord_42 (fun v3 h => ?_)
      refine lv_aload_n hx hb dX9_isWord_43 rfl (lv_at hl 1 rfl) ?_
      refine lv_iload_n hx hb dX9_isWord_44 rfl (lv_at hl 3 rfl) ?_
      refine k_iald hX hZ.1 pl1 hq1 h dX9_isWord_45 (fun v4 h => ?_)
      refine lv_icmp_ne (tgt := 53) hx hb dX9_isWord_46 (by decide) (fun cd => ?_) (fun cd => ?_)
      · replace h := k_f cd h
        clear cd
        refine lv_iconst (v := 0) hx hb dX9_isWord_53 (by decide) ?_
        refine lv_istore_n (lv' := [(2, .int (0 : Int32)), (0, .ref (a_o 0)), (1, .ref q1), (3, .int x3)]) hx hb dX9_isWord_54 rfl hl (by decide) rfl (fun ls hl => ?_)
        refine lv_iinc (v := (x3 + (1 : Int32))) (lv' := [(3, .int (x3 + (1 : Int32))), (2, .int (0 : Int32)), (0, .ref (a_o 0)), (1, .ref q1)]) hx hb dX9_isWord_55 hl (k := 3) rfl rfl (by decide) rfl (fun ls hl => ?_)
        refine lv_goto (tgt := 22) hx hb dX9_isWord_58 (by decide) ?_
        exact hrec22 ((0 : Int32), (x3 + (1 : Int32))) h locs ls hF (lv_sub hl [2, 3, 1, 0] rfl)
      · replace h := k_t cd h
        clear cd
        refine lv_iconst (v := 1) hx hb dX9_isWord_49 (by decide) ?_
        refine lv_goto (tgt := 54) hx hb dX9_isWord_50 (by decide) ?_
        refine lv_istore_n (lv' := [(2, .int (1 : Int32)), (0, .ref (a_o 0)), (1, .ref q1), (3, .int x3)]) hx hb dX9_isWord_54 rfl hl (by decide) rfl (fun ls hl => ?_)
        refine lv_iinc (v := (x3 + (1 : Int32))) (lv' := [(3, .int (x3 + (1 : Int32))), (2, .int (1 : Int32)), (0, .ref (a_o 0)), (1, .ref q1)]) hx hb dX9_isWord_55 hl (k := 3) rfl rfl (by decide) rfl (fun ls hl => ?_)
        refine lv_goto (tgt := 22) hx hb dX9_isWord_58 (by decide) ?_
        exact hrec22 ((1 : Int32), (x3 + (1 : Int32))) h locs ls hF (lv_sub hl [2, 3, 1, 0] rfl)
set_option maxHeartbeats 4000000 in
set_option maxRecDepth 100000 in
theorem t_X9_isWord_J19 {p : Program} {l : Launch} {e : Env} {s : State} {m : MethodId} {args : Array Value} {below : List Frame} {meth : Method} {c : Code} {D : va_G} {aC : Nat → ClassId} {A : Nat → Prop} {a_o : Nat → Nat} {q1 z1 : Nat} {f1 : Nat → Int32} {pl1 : Nat} {out : Int32} {s_o : Ob_T} (hX : K_X p s m args meth c cX9_isWord 4 WL_ RX9 D aC A) (hr : meth.sig.returnType = (some .boolean)) (hZ : va_P D vwCl (wd_X9 aC a_o s_o) s.heap ∧ va_D (fun _ => True) (wd_X9 aC a_o s_o)) (hq1 : (wd_X9 aC a_o s_o)[pl1]? = some (q1, .inl (aC 0, z1, .inl f1))) (k0 : Int32) (h : f_X9_isWord_J19 k0 s_o f1 z1 = some out) (locs : List Loc) (ls : Array Slot) (hF : ∀ q ∈ locs, False) (hl : lv_has ls 4 [(0, .ref (a_o 0)), (1, .ref q1)]) : W p l e (R_m 0 0) s m args below meth c s.heap locs 0 0 (MQ below (Q_R (some (.int out))) args s 0 0 (fun _ => False)) (F0 m 19 ls [.int k0]) := by
  obtain ⟨hx, hb, hml, hown, hts, hK, hA, hlk⟩ := id hX
  unfold f_X9_isWord_J19 at h
  refine lv_istore_n (lv' := [(2, .int k0), (0, .ref (a_o 0)), (1, .ref q1)]) hx hb dX9_isWord_19 rfl hl (by decide) rfl (fun ls hl => ?_)
  refine lv_iconst (v := 0) hx hb dX9_isWord_20 (by decide) ?_
  refine lv_istore_n (lv' := [(3, .int (0 : Int32)), (2, .int k0), (0, .ref (a_o 0)), (1, .ref q1)]) hx hb dX9_isWord_21 rfl hl (by decide) rfl (fun ls hl => ?_)
  exact Lp_ok (body := (fun (rec : (Int32 × Int32) → Option Int32) x => f_X9_isWord_L22 rec x.1 x.2 s_o f1 z1)) (out := out) (fun x => ∀ (locs : List Loc) (ls : Array Slot), (∀ q ∈ locs, False) → lv_has ls 4 [(0, .ref (a_o 0)), (1, .ref q1), (2, .int x.1), (3, .int x.2)] → W p l e (R_m 0 0) s m args below meth c s.heap locs 0 0 (MQ below (Q_R (some (.int out))) args s 0 0 (fun _ => False)) (F0 m 22 ls [])) (fun rec hrec x h locs ls hF hl => t_X9_isWord_L22 hX hr hZ hq1 hrec x.1 x.2 h locs ls hF hl) FU_ (k0, (0 : Int32)) h locs ls hF (lv_sub hl [2, 3, 1, 0] rfl)
set_option maxHeartbeats 4000000 in
set_option maxRecDepth 100000 in
theorem c_X9_isWord {l : Launch} {D : va_G} {aC : Nat → ClassId} {a_o : Nat → Nat} (s_o : Ob_T) {q1 z1 : Nat} {f1 : Nat → Int32} {pl1 : Nat} (hq1 : (wd_X9 aC a_o s_o)[pl1]? = some (q1, .inl (aC 0, z1, .inl f1))) {out : Int32} (h : f_X9_isWord s_o f1 z1 = some out) : M_R l yX9_isWord wlX9_isWord 0 0 D aC [.ref (a_o 0), .ref q1] (wd_X9 aC a_o s_o) (some (.int out)) := by
  refine k_entR (cc := cX9_isWord) (ret := (some .boolean)) (maxL := 4) (own := RX9) (by decide) rfl rfl rfl ?_
  intro p e s m below meth c A ls hX hr hZ hl
  have hl : lv_has ls 4 [(0, .ref (a_o 0)), (1, .ref q1)] := hl
  generalize ([.ref (a_o 0), .ref q1] : List Value).toArray = args at hX ⊢
  obtain ⟨hx, hb, hml, hown, hts, hK, hA, hlk⟩ := id hX
  unfold f_X9_isWord at h
  have hF : ∀ q ∈ ([] : List Loc), False := fun _ h => nomatch h
  generalize ([] : List Loc) = locs at hF ⊢
  refine lv_aload_n hx hb dX9_isWord_0 rfl (lv_at hl 0 rfl) ?_
  refine k_get hX hZ.1 0 9 rfl rfl iw_X9 19 rfl (wm_18) (v := .int (o_F s_o 19)) rfl dX9_isWord_1 ?_
  refine lv_aload_n hx hb dX9_isWord_4 rfl (lv_at hl 0 rfl) ?_
  refine k_get hX hZ.1 0 9 rfl rfl iw_X9 18 rfl (wm_19) (v := .int (o_F s_o 18)) rfl dX9_isWord_5 ?_
  refine lv_isub hx hb dX9_isWord_8 ?_
  refine lv_aload_n hx hb dX9_isWord_9 rfl (lv_at hl 1 rfl) ?_
  refine va_alen (v := (Int32.ofNat z1)) hx hb hK hZ.1 pl1 0 hq1 rfl rfl dX9_isWord_10 ?_
  refine lv_icmp_ne (tgt := 18) hx hb dX9_isWord_11 (by decide) (fun cd => ?_) (fun cd => ?_)
  · replace h := k_f cd h
    clear cd
    refine lv_iconst (v := 0) hx hb dX9_isWord_18 (by decide) ?_
    exact t_X9_isWord_J19 hX hr hZ hq1 (0 : Int32) h locs ls hF (lv_sub hl [0, 1] rfl)
  · replace h := k_t cd h
    clear cd
    refine lv_iconst (v := 1) hx hb dX9_isWord_14 (by decide) ?_
    refine lv_goto (tgt := 19) hx hb dX9_isWord_15 (by decide) ?_
    exact t_X9_isWord_J19 hX hr hZ hq1 (1 : Int32) h locs ls hF (lv_sub hl [0, 1] rfl)
