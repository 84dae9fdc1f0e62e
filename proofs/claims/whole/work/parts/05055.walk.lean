def wlX0_clear : List Cond := .code yX0_clear cX0_clear 2 none :: WL_
theorem hd_X0_clear : yX0_clear.cls = RX0 ∧ yX0_clear.cls ≠ "java/lang/invoke/MethodHandle" ∧ yX0_clear.cls ≠ "java/lang/invoke/VarHandle" ∧ (parseMethodDescriptor yX0_clear.desc).map (fun d => d.parameters.length) = some 0 := by decide +kernel
theorem dX0_clear_0 : decode cX0_clear 0 = .ok (.aload_n 0, 1) := by decide +kernel
theorem dX0_clear_1 : decode cX0_clear 1 = .ok (.getfield 9, 3) := by decide +kernel
theorem dX0_clear_4 : decode cX0_clear 4 = .ok (.iconst (-1), 1) := by decide +kernel
theorem dX0_clear_5 : decode cX0_clear 5 = .ok (.invokestatic 28, 3) := by decide +kernel
theorem dX0_clear_8 : decode cX0_clear 8 = .ok (.aload_n 0, 1) := by decide +kernel
theorem dX0_clear_9 : decode cX0_clear 9 = .ok (.iconst 0, 1) := by decide +kernel
theorem dX0_clear_10 : decode cX0_clear 10 = .ok (.putfield 34, 3) := by decide +kernel
theorem dX0_clear_13 : decode cX0_clear 13 = .ok (.iconst 0, 1) := by decide +kernel
theorem dX0_clear_14 : decode cX0_clear 14 = .ok (.istore_n 1, 1) := by decide +kernel
theorem dX0_clear_15 : decode cX0_clear 15 = .ok (.iload_n 1, 1) := by decide +kernel
theorem dX0_clear_16 : decode cX0_clear 16 = .ok (.iconst 2, 1) := by decide +kernel
theorem dX0_clear_17 : decode cX0_clear 17 = .ok (.if_icmp .ge 16, 3) := by decide +kernel
theorem dX0_clear_20 : decode cX0_clear 20 = .ok (.aload_n 0, 1) := by decide +kernel
theorem dX0_clear_21 : decode cX0_clear 21 = .ok (.getfield 24, 3) := by decide +kernel
theorem dX0_clear_24 : decode cX0_clear 24 = .ok (.iload_n 1, 1) := by decide +kernel
theorem dX0_clear_25 : decode cX0_clear 25 = .ok (.iconst 0, 1) := by decide +kernel
theorem dX0_clear_26 : decode cX0_clear 26 = .ok (.bastore, 1) := by decide +kernel
theorem dX0_clear_27 : decode cX0_clear 27 = .ok (.iinc 1 1, 3) := by decide +kernel
theorem dX0_clear_30 : decode cX0_clear 30 = .ok (.goto (-15), 3) := by decide +kernel
theorem dX0_clear_33 : decode cX0_clear 33 = .ok (.return_, 1) := by decide +kernel
set_option maxHeartbeats 4000000 in
set_option maxRecDepth 100000 in
theorem t_X0_clear_L15 {p : Program} {l : Launch} {e : Env} {s : State} {m : MethodId} {args : Array Value} {below : List Frame} {meth : Method} {c : Code} {D : va_G} {aC : Nat → ClassId} {A : Nat → Prop} {a_g : Nat → Nat} {out : Ob_T} {rec15 : (Int32 × Ob_T) → Option Ob_T} (hX : K_X p s m args meth c cX0_clear 2 WL_ RX0 D aC A) (hr : meth.sig.returnType = none) (hrec15 : ∀ x : Int32 × Ob_T, rec15 x = some out → ∀ (H : Heap) (locs : List Loc) (ls : Array Slot), K_S D A s (wd_X0 aC a_g x.2) H locs → lv_has ls 2 [(0, .ref (a_g 0)), (1, .int x.1)] → W p l e (R_m 1 23) s m args below meth c H locs 0 0 (MQ below (Q_W (none) D A (wd_X0 aC a_g out)) args s 0 0 A) (F0 m 15 ls [])) (x1 : Int32) (s_g : Ob_T) (h : f_X0_clear_L15 rec15 x1 s_g = some out) (H : Heap) (locs : List Loc) (ls : Array Slot) (hZ : K_S D A s (wd_X0 aC a_g s_g) H locs) (hl : lv_has ls 2 [(0, .ref (a_g 0)), (1, .int x1)]) : W p l e (R_m 1 23) s m args below meth c H locs 0 0 (MQ below (Q_W (none) D A (wd_X0 aC a_g out)) args s 0 0 A) (F0 m 15 ls []) := by
  obtain ⟨hx, hb, hml, hown, hts, hK, hA, hlk⟩ := id hX
  unfold f_X0_clear_L15 at h
  refine lv_iload_n hx hb dX0_clear_15 rfl (lv_at hl 1 rfl) ?_
  refine lv_iconst (v := 2) hx hb dX0_clear_16 (by decide) ?_
  refine lv_icmp_ge (tgt := 33) hx hb dX0_clear_17 (by decide) (fun cd => ?_) (fun cd => ?_)
  · replace h := k_t cd h
    clear cd
    cases h
    exact k_vretW hX hr hZ dX0_clear_33
  · replace h := k_f cd h
    clear cd
    refine lv_aload_n hx hb dX0_clear_20 rfl (lv_at hl 0 rfl) ?_
    refine k_get hX hZ.1 0 0 rfl rfl iw_X0 4 rfl (wm_291) (v := .ref (a_g 5)) rfl dX0_clear_21 ?_
    refine lv_iload_n hx hb dX0_clear_24 rfl (lv_at hl 1 rfl) ?_
    refine lv_iconst (v := 0) hx hb dX0_clear_25 (by decide) ?_
    refine k_zast (wf := (fun o => wd_X0 aC a_g o)) (o := s_g) hX hZ 5 4 rfl (fun _ => rfl) h dX0_clear_26 (fun o4 H locs hZ h => ?_)
    refine lv_iinc (v := (x1 + (1 : Int32))) (lv' := [(1, .int (x1 + (1 : Int32))), (0, .ref (a_g 0))]) hx hb dX0_clear_27 hl (k := 1) rfl rfl (by decide) rfl (fun ls hl => ?_)
    refine lv_goto (tgt := 15) hx hb dX0_clear_30 (by decide) ?_
    exact hrec15 ((x1 + (1 : Int32)), o4) h H locs ls hZ (lv_sub hl [1, 0] rfl)
set_option maxHeartbeats 4000000 in
set_option maxRecDepth 100000 in
theorem c_X0_clear {l : Launch} {D : va_G} {aC : Nat → ClassId} {a_g : Nat → Nat} (s_g : Ob_T) {out : Ob_T} (h : f_X0_clear s_g = some out) : M_W l yX0_clear wlX0_clear 1 23 D aC [.ref (a_g 0)] (wd_X0 aC a_g s_g) (none) (wd_X0 aC a_g out) := by
  refine k_entW (cc := cX0_clear) (ret := none) (maxL := 2) (own := RX0) (by decide) rfl rfl rfl ?_
  intro p e s m below meth c A ls hX hr hZ hl
  have hl : lv_has ls 2 [(0, .ref (a_g 0))] := hl
  generalize ([.ref (a_g 0)] : List Value).toArray = args at hX ⊢
  obtain ⟨hx, hb, hml, hown, hts, hK, hA, hlk⟩ := id hX
  unfold f_X0_clear at h
  generalize s.heap = H at hZ ⊢
  generalize ([] : List Loc) = locs at hZ ⊢
  refine lv_aload_n hx hb dX0_clear_0 rfl (lv_at hl 0 rfl) ?_
  refine k_get hX hZ.1 0 0 rfl rfl iw_X0 0 rfl (wm_290) (v := .ref (a_g 1)) rfl dX0_clear_1 ?_
  refine lv_iconst (v := -1) hx hb dX0_clear_4 (by decide) ?_
  obtain ⟨u1, hu, h⟩ := k_bd h
  refine k_sW (As := [.ref (a_g 1), .int (-1 : Int32)]) (rest := []) (wc := wd_AR aC (fun _ => (a_g 1)) 4 (p_A ob_0 0 (o_A s_g 0))) (w1 := wd_AR aC (fun _ => (a_g 1)) 4 u1) (v := none) (st1 := []) (w' := wd_X0 aC a_g (p_A s_g 0 (o_A u1 0))) hX hl.1 hZ (c_J7_fill_53178 (a_ar := (fun _ => (a_g 1))) (z_ar := 4) (p_A ob_0 0 (o_A s_g 0)) (-1 : Int32) hu) (gs_ wm_293 wm_295 wm_4 wm_294) rfl hd_J7_fill_53178 ⟨rfl, rfl⟩ [1] rfl rfl rfl rfl rfl dX0_clear_5 rfl ⟨rfl, rfl⟩ rfl rfl rfl (fun H locs hZ => ?_)
  clear hu
  obtain ⟨o2, eo⟩ : ∃ z, z = p_A s_g 0 (o_A u1 0) := ⟨_, rfl⟩
  replace h := k_lt eo h
  rw [← eo] at hZ
  clear eo
  refine lv_aload_n hx hb dX0_clear_8 rfl (lv_at hl 0 rfl) ?_
  refine lv_iconst (v := 0) hx hb dX0_clear_9 (by decide) ?_
  refine k_put (wf := (fun o => wd_X0 aC a_g o)) (o := o2) hX hZ 0 0 rfl rfl iw_X0 tyX0 tyX0_ok nmX0 5 rfl (wm_292) rfl rfl rfl rfl rfl h dX0_clear_10 (fun o3 H locs hZ h => ?_)
  refine lv_iconst (v := 0) hx hb dX0_clear_13 (by decide) ?_
  refine lv_istore_n (lv' := [(1, .int (0 : Int32)), (0, .ref (a_g 0))]) hx hb dX0_clear_14 rfl hl (by decide) rfl (fun ls hl => ?_)
  exact Lp_ok (body := (fun (rec : (Int32 × Ob_T) → Option Ob_T) x => f_X0_clear_L15 rec x.1 x.2)) (out := out) (fun x => ∀ (H : Heap) (locs : List Loc) (ls : Array Slot), K_S D A s (wd_X0 aC a_g x.2) H locs → lv_has ls 2 [(0, .ref (a_g 0)), (1, .int x.1)] → W p l e (R_m 1 23) s m args below meth c H locs 0 0 (MQ below (Q_W (none) D A (wd_X0 aC a_g out)) args s 0 0 A) (F0 m 15 ls [])) (fun rec hrec x h H locs ls hZ hl => t_X0_clear_L15 hX hr hrec x.1 x.2 h H locs ls hZ hl) FU_ ((0 : Int32), o3) h H locs ls hZ (lv_sub hl [1, 0] rfl)
def wlX0_numbers : List Cond := .code yX0_numbers cX0_numbers 1 (some (.array .int)) :: WL_
theorem hd_X0_numbers : yX0_numbers.cls = RX0 ∧ yX0_numbers.cls ≠ "java/lang/invoke/MethodHandle" ∧ yX0_numbers.cls ≠ "java/lang/invoke/VarHandle" ∧ (parseMethodDescriptor yX0_numbers.desc).map (fun d => d.parameters.length) = some 0 := by decide +kernel
theorem dX0_numbers_0 : decode cX0_numbers 0 = .ok (.aload_n 0, 1) := by decide +kernel
theorem dX0_numbers_1 : decode cX0_numbers 1 = .ok (.getfield 9, 3) := by decide +kernel
theorem dX0_numbers_4 : decode cX0_numbers 4 = .ok (.areturn, 1) := by decide +kernel
set_option maxHeartbeats 4000000 in
set_option maxRecDepth 100000 in
theorem c_X0_numbers {l : Launch} {D : va_G} {aC : Nat → ClassId} {a_g : Nat → Nat} (s_g : Ob_T) {out : Unit} (h : f_X0_numbers s_g = some out) : M_R l yX0_numbers wlX0_numbers 0 0 D aC [.ref (a_g 0)] (wd_X0 aC a_g s_g) (some (.ref (a_g 1))) := by
  refine k_entR (cc := cX0_numbers) (ret := (some (.array .int))) (maxL := 1) (own := RX0) (by decide) rfl rfl rfl ?_
  intro p e s m below meth c A ls hX hr hZ hl
  have hl : lv_has ls 1 [(0, .ref (a_g 0))] := hl
  generalize ([.ref (a_g 0)] : List Value).toArray = args at hX ⊢
  obtain ⟨hx, hb, hml, hown, hts, hK, hA, hlk⟩ := id hX
  unfold f_X0_numbers at h
  have hF : ∀ q ∈ ([] : List Loc), False := fun _ h => nomatch h
  generalize ([] : List Loc) = locs at hF ⊢
  refine lv_aload_n hx hb dX0_numbers_0 rfl (lv_at hl 0 rfl) ?_
  refine k_get hX hZ.1 0 0 rfl rfl iw_X0 0 rfl (wm_290) (v := .ref (a_g 1)) rfl dX0_numbers_1 ?_
  cases h
  exact k_aretR hX hr (Or.inr ⟨_, rfl⟩) hF dX0_numbers_4
def wlX0_numberOf : List Cond := .code yX0_numberOf cX0_numberOf 2 (some .int) :: WL_
theorem hd_X0_numberOf : yX0_numberOf.cls = RX0 ∧ yX0_numberOf.cls ≠ "java/lang/invoke/MethodHandle" ∧ yX0_numberOf.cls ≠ "java/lang/invoke/VarHandle" ∧ (parseMethodDescriptor yX0_numberOf.desc).map (fun d => d.parameters.length) = some 1 := by decide +kernel
theorem dX0_numberOf_0 : decode cX0_numberOf 0 = .ok (.aload_n 0, 1) := by decide +kernel
theorem dX0_numberOf_1 : decode cX0_numberOf 1 = .ok (.getfield 9, 3) := by decide +kernel
theorem dX0_numberOf_4 : decode cX0_numberOf 4 = .ok (.iload_n 1, 1) := by decide +kernel
theorem dX0_numberOf_5 : decode cX0_numberOf 5 = .ok (.iaload, 1) := by decide +kernel
theorem dX0_numberOf_6 : decode cX0_numberOf 6 = .ok (.ireturn, 1) := by decide +kernel
set_option maxHeartbeats 4000000 in
set_option maxRecDepth 100000 in
theorem c_X0_numberOf {l : Launch} {D : va_G} {aC : Nat → ClassId} {a_g : Nat → Nat} (s_g : Ob_T) (x1 : Int32) {out : Int32} (h : f_X0_numberOf s_g x1 = some out) : M_R l yX0_numberOf wlX0_numberOf 0 0 D aC [.ref (a_g 0), .int x1] (wd_X0 aC a_g s_g) (some (.int out)) := by
  refine k_entR (cc := cX0_numberOf) (ret := (some .int)) (maxL := 2) (own := RX0) (by decide) rfl rfl rfl ?_
  intro p e s m below meth c A ls hX hr hZ hl
  have hl : lv_has ls 2 [(0, .ref (a_g 0)), (1, .int x1)] := hl
  generalize ([.ref (a_g 0), .int x1] : List Value).toArray = args at hX ⊢
  obtain ⟨hx, hb, hml, hown, hts, hK, hA, hlk⟩ := id hX
  unfold f_X0_numberOf at h
  have hF : ∀ q ∈ ([] : List Loc), False := fun _ h => nomatch h
  generalize ([] : List Loc) = locs at hF ⊢
  refine lv_aload_n hx hb dX0_numberOf_0 rfl (lv_at hl 0 rfl) ?_
  refine k_get hX hZ.1 0 0 rfl rfl iw_X0 0 rfl (wm_290) (v := .ref (a_g 1)) rfl dX0_numberOf_1 ?_
  refine lv_iload_n hx hb dX0_numberOf_4 rfl (lv_at hl 1 rfl) ?_
  refine k_iald hX hZ.1 1 rfl h dX0_numberOf_5 (fun v1 h => ?_)
  cases h
  exact k_iretR hX hr hF dX0_numberOf_6
def wlX0_bits : List Cond := .code yX0_bits cX0_bits 3 (some .int) :: WL_
theorem hd_X0_bits : yX0_bits.cls = RX0 ∧ yX0_bits.cls ≠ "java/lang/invoke/MethodHandle" ∧ yX0_bits.cls ≠ "java/lang/invoke/VarHandle" ∧ (parseMethodDescriptor yX0_bits.desc).map (fun d => d.parameters.length) = some 0 := by decide +kernel
theorem dX0_bits_0 : decode cX0_bits 0 = .ok (.iconst 0, 1) := by decide +kernel
theorem dX0_bits_1 : decode cX0_bits 1 = .ok (.istore_n 1, 1) := by decide +kernel
theorem dX0_bits_2 : decode cX0_bits 2 = .ok (.iconst 0, 1) := by decide +kernel
theorem dX0_bits_3 : decode cX0_bits 3 = .ok (.istore_n 2, 1) := by decide +kernel
theorem dX0_bits_4 : decode cX0_bits 4 = .ok (.iload_n 2, 1) := by decide +kernel
theorem dX0_bits_5 : decode cX0_bits 5 = .ok (.iconst 4, 1) := by decide +kernel
theorem dX0_bits_6 : decode cX0_bits 6 = .ok (.if_icmp .ge 29, 3) := by decide +kernel
theorem dX0_bits_9 : decode cX0_bits 9 = .ok (.iload_n 1, 1) := by decide +kernel
theorem dX0_bits_10 : decode cX0_bits 10 = .ok (.aload_n 0, 1) := by decide +kernel
theorem dX0_bits_11 : decode cX0_bits 11 = .ok (.getfield 9, 3) := by decide +kernel
theorem dX0_bits_14 : decode cX0_bits 14 = .ok (.iload_n 2, 1) := by decide +kernel
theorem dX0_bits_15 : decode cX0_bits 15 = .ok (.iaload, 1) := by decide +kernel
theorem dX0_bits_16 : decode cX0_bits 16 = .ok (.iconst (-1), 1) := by decide +kernel
theorem dX0_bits_17 : decode cX0_bits 17 = .ok (.if_icmp .ne 7, 3) := by decide +kernel
theorem dX0_bits_20 : decode cX0_bits 20 = .ok (.iconst 0, 1) := by decide +kernel
theorem dX0_bits_21 : decode cX0_bits 21 = .ok (.goto 6, 3) := by decide +kernel
theorem dX0_bits_24 : decode cX0_bits 24 = .ok (.iconst 1, 1) := by decide +kernel
theorem dX0_bits_25 : decode cX0_bits 25 = .ok (.iload_n 2, 1) := by decide +kernel
theorem dX0_bits_26 : decode cX0_bits 26 = .ok (.ishl, 1) := by decide +kernel
theorem dX0_bits_27 : decode cX0_bits 27 = .ok (.ior, 1) := by decide +kernel
theorem dX0_bits_28 : decode cX0_bits 28 = .ok (.istore_n 1, 1) := by decide +kernel
theorem dX0_bits_29 : decode cX0_bits 29 = .ok (.iinc 2 1, 3) := by decide +kernel
theorem dX0_bits_32 : decode cX0_bits 32 = .ok (.goto (-28), 3) := by decide +kernel
theorem dX0_bits_35 : decode cX0_bits 35 = .ok (.iload_n 1, 1) := by decide +kernel
theorem dX0_bits_36 : decode cX0_bits 36 = .ok (.ireturn, 1) := by decide +kernel
set_option maxHeartbeats 4000000 in
set_option maxRecDepth 100000 in
theorem t_X0_bits_L4 {p : Program} {l : Launch} {e : Env} {s : State} {m : MethodId} {args : Array Value} {below : List Frame} {meth : Method} {c : Code} {D : va_G} {aC : Nat → ClassId} {A : Nat → Prop} {a_g : Nat → Nat} {out : Int32} {s_g : Ob_T} {rec4 : (Int32 × Int32) → Option Int32} (hX : K_X p s m args meth c cX0_bits 3 WL_ RX0 D aC A) (hr : meth.sig.returnType = (some .int)) (hZ : va_P D vwCl (wd_X0 aC a_g s_g) s.heap ∧ va_D (fun _ => True) (wd_X0 aC a_g s_g)) (hrec4 : ∀ x : Int32 × Int32, rec4 x = some out → ∀ (locs : List Loc) (ls : Array Slot), (∀ q ∈ locs, False) → lv_has ls 3 [(0, .ref (a_g 0)), (1, .int x.1), (2, .int x.2)] → W p l e (R_m 0 0) s m args below meth c s.heap locs 0 0 (MQ below (Q_R (some (.int out))) args s 0 0 (fun _ => False)) (F0 m 4 ls [])) (x1 : Int32) (x2 : Int32) (h : f_X0_bits_L4 rec4 x1 x2 s_g = some out) (locs : List Loc) (ls : Array Slot) (hF : ∀ q ∈ locs, False) (hl : lv_has ls 3 [(0, .ref (a_g 0)), (1, .int x1), (2, .int x2)]) : W p l e (R_m 0 0) s m args below meth c s.heap locs 0 0 (MQ below (Q_R (some (.int out))) args s 0 0 (fun _ => False)) (F0 m 4 ls []) := by
  obtain ⟨hx, hb, hml, hown, hts, hK, hA, hlk⟩ := id hX
  unfold f_X0_bits_L4 at h
  refine lv_iload_n hx hb dX0_bits_4 rfl (lv_at hl 2 rfl) ?_
  refine lv_iconst (v := 4) hx hb dX0_bits_5 (by decide) ?_
  refine lv_icmp_ge (tgt := 35) hx hb dX0_bits_6 (by decide) (fun cd => ?_) (fun cd => ?_)
  · replace h := k_t cd h
    clear cd
    refine lv_iload_n hx hb dX0_bits_35 rfl (lv_at hl 1 rfl) ?_
    cases h
    exact k_iretR hX hr hF dX0_bits_36
  · replace h := k_f cd h
    clear cd
    refine lv_iload_n hx hb dX0_bits_9 rfl (lv_at hl 1 rfl) ?_
    refine lv_aload_n hx hb dX0_bits_10 rfl (lv_at hl 0 rfl) ?_
    refine k_get hX hZ.1 0 0 rfl rfl iw_X0 0 rfl (wm_290) (v := .ref (a_g 1)) rfl dX0_bits_11 ?_
    refine lv_iload_n hx hb dX0_bits_14 rfl (lv_at hl 2 rfl) ?_
    refine k_iald hX hZ.1 1 rfl h dX0_bits_15 (fun v1 h => ?_)
    refine lv_iconst (v := -1) hx hb dX0_bits_16 (by decide) ?_
    refine lv_icmp_ne (tgt := 24) hx hb dX0_bits_17 (by decide) (fun cd => ?_) (fun cd => ?_)
    · replace h := k_f cd h
      clear cd
      refine lv_iconst (v := 1) hx hb dX0_bits_24 (by decide) ?_
      refine lv_iload_n hx hb dX0_bits_25 rfl (lv_at hl 2 rfl) ?_
      refine lv_ishl hx hb dX0_bits_26 ?_
      refine lv_ior hx hb dX0_bits_27 ?_
      refine lv_topi (fun e2 he => ?_)
      replace h := k_lt he h
      clear he
      refine lv_istore_n (lv' := [(1, .int e2), (0, .ref (a_g 0)), (2, .int x2)]) hx hb dX0_bits_28 rfl hl (by decide) rfl (fun ls hl => ?_)
      refine lv_iinc (v := (x2 + (1 : Int32))) (lv' := [(2, .int (x2 + (1 : Int32))), (1, .int e2), (0, .ref (a_g 0))]) hx hb dX0_bits_29 hl (k := 2) rfl rfl (by decide) rfl (fun ls hl => ?_)
      refine lv_goto (tgt := 4) hx hb dX0_bits_32 (by decide) ?_
      exact hrec4 (e2, (x2 + (1 : Int32))) h locs ls hF (lv_sub hl [2, 1, 0] rfl)
    · replace h := k_t cd h
      clear cd
      refine lv_iconst (v := 0) hx hb dX0_bits_20 (by decide) ?_
      refine lv_goto (tgt := 27) hx hb dX0_bits_21 (by decide) ?_
      refine lv_ior hx hb dX0_bits_27 ?_
      refine lv_istore_n (lv' := [(1, .int (x1 ||| (0 : Int32))), (0, .ref (a_g 0)), (2, .int x2)]) hx hb dX0_bits_28 rfl hl (by decide) rfl (fun ls hl => ?_)
      refine lv_iinc (v := (x2 + (1 : Int32))) (lv' := [(2, .int (x2 + (1 : Int32))), (1, .int (x1 ||| (0 : Int32))), (0, .ref (a_g 0))]) hx hb dX0_bits_29 hl (k := 2) rfl rfl (by decide) rfl (fun ls hl => ?_)
      refine lv_goto (tgt := 4) hx hb dX0_bits_32 (by decide) ?_
      exact hrec4 ((x1 ||| (0 : Int32)), (x2 + (1 : Int32))) h locs ls hF (lv_sub hl [2, 1, 0] rfl)
set_option maxHeartbeats 4000000 in
set_option maxRecDepth 100000 in
theorem c_X0_bits {l : Launch} {D : va_G} {aC : Nat → ClassId} {a_g : Nat → Nat} (s_g : Ob_T) {out : Int32} (h : f_X0_bits s_g = some out) : M_R l yX0_bits wlX0_bits 0 0 D aC [.ref (a_g 0)] (wd_X0 aC a_g s_g) (some (.int out)) := by
  refine k_entR (cc := cX0_bits) (ret := (some .int)) (maxL := 3) (own := RX0) (by decide) rfl rfl rfl ?_
  intro p e s m below meth c A ls hX hr hZ hl
  have hl : lv_has ls 3 [(0, .ref (a_g 0))] := hl
  generalize ([.ref (a_g 0)] : List Value).toArray = args at hX ⊢
  obtain ⟨hx, hb, hml, hown, hts, hK, hA, hlk⟩ := id hX
  unfold f_X0_bits at h
  have hF : ∀ q ∈ ([] : List Loc), False := fun _ h => nomatch h
  generalize ([] : List Loc) = locs at hF ⊢
  refine lv_iconst (v := 0) hx hb dX0_bits_0 (by decide) ?_
  refine lv_istore_n (lv' := [(1, .int (0 : Int32)), (0, .ref (a_g 0))]) hx hb dX0_bits_1 rfl hl (by decide) rfl (fun ls hl => ?_)
  refine lv_iconst (v := 0) hx hb dX0_bits_2 (by decide) ?_
  refine lv_istore_n (lv' := [(2, .int (0 : Int32)), (1, .int (0 : Int32)), (0, .ref (a_g 0))]) hx hb dX0_bits_3 rfl hl (by decide) rfl (fun ls hl => ?_)
  exact Lp_ok (body := (fun (rec : (Int32 × Int32) → Option Int32) x => f_X0_bits_L4 rec x.1 x.2 s_g)) (out := out) (fun x => ∀ (locs : List Loc) (ls : Array Slot), (∀ q ∈ locs, False) → lv_has ls 3 [(0, .ref (a_g 0)), (1, .int x.1), (2, .int x.2)] → W p l e (R_m 0 0) s m args below meth c s.heap locs 0 0 (MQ below (Q_R (some (.int out))) args s 0 0 (fun _ => False)) (F0 m 4 ls [])) (fun rec hrec x h locs ls hF hl => t_X0_bits_L4 hX hr hZ hrec x.1 x.2 h locs ls hF hl) FU_ ((0 : Int32), (0 : Int32)) h locs ls hF (lv_sub hl [2, 1, 0] rfl)
def wlX0_howMany : List Cond := .code yX0_howMany cX0_howMany 1 (some .int) :: WL_
theorem hd_X0_howMany : yX0_howMany.cls = RX0 ∧ yX0_howMany.cls ≠ "java/lang/invoke/MethodHandle" ∧ yX0_howMany.cls ≠ "java/lang/invoke/VarHandle" ∧ (parseMethodDescriptor yX0_howMany.desc).map (fun d => d.parameters.length) = some 0 := by decide +kernel
theorem dX0_howMany_0 : decode cX0_howMany 0 = .ok (.aload_n 0, 1) := by decide +kernel
theorem dX0_howMany_1 : decode cX0_howMany 1 = .ok (.invokevirtual 38, 3) := by decide +kernel
theorem dX0_howMany_4 : decode cX0_howMany 4 = .ok (.invokestatic 42, 3) := by decide +kernel
theorem dX0_howMany_7 : decode cX0_howMany 7 = .ok (.ireturn, 1) := by decide +kernel
set_option maxHeartbeats 4000000 in
set_option maxRecDepth 100000 in
theorem c_X0_howMany {l : Launch} {D : va_G} {aC : Nat → ClassId} {a_g : Nat → Nat} (s_g : Ob_T) {out : Int32} (h : f_X0_howMany s_g = some out) : M_R l yX0_howMany wlX0_howMany 1 22 D aC [.ref (a_g 0)] (wd_X0 aC a_g s_g) (some (.int out)) := by
  refine k_entR (cc := cX0_howMany) (ret := (some .int)) (maxL := 1) (own := RX0) (by decide) rfl rfl rfl ?_
  intro p e s m below meth c A ls hX hr hZ hl
  have hl : lv_has ls 1 [(0, .ref (a_g 0))] := hl
  generalize ([.ref (a_g 0)] : List Value).toArray = args at hX ⊢
  obtain ⟨hx, hb, hml, hown, hts, hK, hA, hlk⟩ := id hX
  unfold f_X0_howMany at h
  have hF : ∀ q ∈ ([] : List Loc), False := fun _ h => nomatch h
  generalize ([] : List Loc) = locs at hF ⊢
  refine lv_aload_n hx hb dX0_howMany_0 rfl (lv_at hl 0 rfl) ?_
  obtain ⟨u1, hu, h⟩ := k_bd h
  refine k_vRRs (As := []) (rest := []) (v := some (.int u1)) (st1 := [.int u1]) hX hl.1 hZ hF (c_X0_bits (a_g := a_g) s_g hu) (gv_ wm_300 wm_303 wm_304 wm_301 wm_302) rfl hd_X0_bits ⟨rfl, rfl⟩ 0 0 rfl rfl rfl rfl rfl dX0_howMany_1 rfl ⟨rfl, rfl⟩ (fun locs hF => ?_)
  clear hu
  obtain ⟨u2, hu, h⟩ := k_bd h
  refine k_sRR (As := [.int u1]) (rest := []) (wc := []) (v := some (.int u2)) (st1 := [.int u2]) hX hl.1 hZ hF (c_J6_bitCount_0f7a4  u1 hu) (gs_ wm_296 wm_299 wm_297 wm_298) rfl hd_J6_bitCount_0f7a4 ⟨rfl, rfl⟩ [] rfl rfl rfl rfl rfl dX0_howMany_4 rfl ⟨rfl, rfl⟩ (fun locs hF => ?_)
  clear hu
  cases h
  exact k_iretR hX hr hF dX0_howMany_7
def wlX0_undoable : List Cond := .code yX0_undoable cX0_undoable 1 (some .int) :: WL_
theorem hd_X0_undoable : yX0_undoable.cls = RX0 ∧ yX0_undoable.cls ≠ "java/lang/invoke/MethodHandle" ∧ yX0_undoable.cls ≠ "java/lang/invoke/VarHandle" ∧ (parseMethodDescriptor yX0_undoable.desc).map (fun d => d.parameters.length) = some 0 := by decide +kernel
theorem dX0_undoable_0 : decode cX0_undoable 0 = .ok (.aload_n 0, 1) := by decide +kernel
theorem dX0_undoable_1 : decode cX0_undoable 1 = .ok (.getfield 34, 3) := by decide +kernel
theorem dX0_undoable_4 : decode cX0_undoable 4 = .ok (.ireturn, 1) := by decide +kernel
set_option maxHeartbeats 4000000 in
set_option maxRecDepth 100000 in
theorem c_X0_undoable {l : Launch} {D : va_G} {aC : Nat → ClassId} {a_g : Nat → Nat} (s_g : Ob_T) {out : Int32} (h : f_X0_undoable s_g = some out) : M_R l yX0_undoable wlX0_undoable 0 0 D aC [.ref (a_g 0)] (wd_X0 aC a_g s_g) (some (.int out)) := by
  refine k_entR (cc := cX0_undoable) (ret := (some .int)) (maxL := 1) (own := RX0) (by decide) rfl rfl rfl ?_
  intro p e s m below meth c A ls hX hr hZ hl
  have hl : lv_has ls 1 [(0, .ref (a_g 0))] := hl
  generalize ([.ref (a_g 0)] : List Value).toArray = args at hX ⊢
  obtain ⟨hx, hb, hml, hown, hts, hK, hA, hlk⟩ := id hX
  unfold f_X0_undoable at h
  have hF : ∀ q ∈ ([] : List Loc), False := fun _ h => nomatch h
  generalize ([] : List Loc) = locs at hF ⊢
  refine lv_aload_n hx hb dX0_undoable_0 rfl (lv_at hl 0 rfl) ?_
  refine k_get hX hZ.1 0 0 rfl rfl iw_X0 5 rfl (wm_292) (v := .int (o_F s_g 5)) rfl dX0_undoable_1 ?_
  cases h
  exact k_iretR hX hr hF dX0_undoable_4
