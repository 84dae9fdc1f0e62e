def wlX6_add : List Cond := .code yX6_add cX6_add 2 (some .boolean) :: WL_
theorem hd_X6_add : yX6_add.cls = RX6 ∧ yX6_add.cls ≠ "java/lang/invoke/MethodHandle" ∧ yX6_add.cls ≠ "java/lang/invoke/VarHandle" ∧ (parseMethodDescriptor yX6_add.desc).map (fun d => d.parameters.length) = some 1 := by decide +kernel
theorem dX6_add_0 : decode cX6_add 0 = .ok (.aload_n 0, 1) := by decide +kernel
theorem dX6_add_1 : decode cX6_add 1 = .ok (.getfield 15, 3) := by decide +kernel
theorem dX6_add_4 : decode cX6_add 4 = .ok (.sipush 200, 3) := by decide +kernel
theorem dX6_add_7 : decode cX6_add 7 = .ok (.if_icmp .lt 5, 3) := by decide +kernel
theorem dX6_add_10 : decode cX6_add 10 = .ok (.iconst 0, 1) := by decide +kernel
theorem dX6_add_11 : decode cX6_add 11 = .ok (.ireturn, 1) := by decide +kernel
theorem dX6_add_12 : decode cX6_add 12 = .ok (.aload_n 0, 1) := by decide +kernel
theorem dX6_add_13 : decode cX6_add 13 = .ok (.getfield 9, 3) := by decide +kernel
theorem dX6_add_16 : decode cX6_add 16 = .ok (.aload_n 0, 1) := by decide +kernel
theorem dX6_add_17 : decode cX6_add 17 = .ok (.getfield 15, 3) := by decide +kernel
theorem dX6_add_20 : decode cX6_add 20 = .ok (.iload_n 1, 1) := by decide +kernel
theorem dX6_add_21 : decode cX6_add 21 = .ok (.i2c, 1) := by decide +kernel
theorem dX6_add_22 : decode cX6_add 22 = .ok (.castore, 1) := by decide +kernel
theorem dX6_add_23 : decode cX6_add 23 = .ok (.aload_n 0, 1) := by decide +kernel
theorem dX6_add_24 : decode cX6_add 24 = .ok (.dup, 1) := by decide +kernel
theorem dX6_add_25 : decode cX6_add 25 = .ok (.getfield 15, 3) := by decide +kernel
theorem dX6_add_28 : decode cX6_add 28 = .ok (.iconst 1, 1) := by decide +kernel
theorem dX6_add_29 : decode cX6_add 29 = .ok (.iadd, 1) := by decide +kernel
theorem dX6_add_30 : decode cX6_add 30 = .ok (.putfield 15, 3) := by decide +kernel
theorem dX6_add_33 : decode cX6_add 33 = .ok (.iconst 1, 1) := by decide +kernel
theorem dX6_add_34 : decode cX6_add 34 = .ok (.ireturn, 1) := by decide +kernel
set_option maxHeartbeats 4000000 in
set_option maxRecDepth 100000 in
theorem c_X6_add {l : Launch} {D : va_G} {aC : Nat → ClassId} {a_t : Nat → Nat} (s_t : Ob_T) (x1 : Int32) {out : Int32 × Ob_T} (h : f_X6_add s_t x1 = some out) : M_W l yX6_add wlX6_add 0 0 D aC [.ref (a_t 0), .int x1] (wd_X6 aC a_t s_t) (some (.int out.1)) (wd_X6 aC a_t out.2) := by
  refine k_entW (cc := cX6_add) (ret := (some .boolean)) (maxL := 2) (own := RX6) (by decide) rfl rfl rfl ?_
  intro p e s m below meth c A ls hX hr hZ hl
  have hl : lv_has ls 2 [(0, .ref (a_t 0)), (1, .int x1)] := hl
  generalize ([.ref (a_t 0), .int x1] : List Value).toArray = args at hX ⊢
  obtain ⟨hx, hb, hml, hown, hts, hK, hA, hlk⟩ := id hX
  unfold f_X6_add at h
  generalize s.heap = H at hZ ⊢
  generalize ([] : List Loc) = locs at hZ ⊢
  refine lv_aload_n hx hb dX6_add_0 rfl (lv_at hl 0 rfl) ?_
  refine k_get hX hZ.1 0 6 rfl rfl iw_X6 1 rfl (wm_556) (v := .int (o_F s_t 1)) rfl dX6_add_1 ?_
  refine lv_sipush (v := 200) hx hb dX6_add_4 (by decide) ?_
  refine lv_icmp_lt (tgt := 12) hx hb dX6_add_7 (by decide) (fun cd => ?_) (fun cd => ?_)
  · replace h := k_t cd h
    clear cd
    refine lv_aload_n hx hb dX6_add_12 rfl (lv_at hl 0 rfl) ?_
    refine k_get hX hZ.1 0 6 rfl rfl iw_X6 0 rfl (wm_557) (v := .ref (a_t 1)) rfl dX6_add_13 ?_
    refine lv_aload_n hx hb dX6_add_16 rfl (lv_at hl 0 rfl) ?_
    refine k_get hX hZ.1 0 6 rfl rfl iw_X6 1 rfl (wm_556) (v := .int (o_F s_t 1)) rfl dX6_add_17 ?_
    refine lv_iload_n hx hb dX6_add_20 rfl (lv_at hl 1 rfl) ?_
    refine lv_i2c (v := (x1.toUInt32 % 65536).toInt32) hx hb dX6_add_21 rfl ?_
    refine k_cast (wf := (fun o => wd_X6 aC a_t o)) (o := s_t) hX hZ 1 0 rfl (fun _ => rfl) h dX6_add_22 (fun o1 H locs hZ h => ?_)
    refine lv_aload_n hx hb dX6_add_23 rfl (lv_at hl 0 rfl) ?_
    refine lv_dup hx hb dX6_add_24 rfl ?_
    refine k_get hX hZ.1 0 6 rfl rfl iw_X6 1 rfl (wm_556) (v := .int (o_F o1 1)) rfl dX6_add_25 ?_
    refine lv_iconst (v := 1) hx hb dX6_add_28 (by decide) ?_
    refine lv_iadd hx hb dX6_add_29 ?_
    refine k_put (wf := (fun o => wd_X6 aC a_t o)) (o := o1) hX hZ 0 6 rfl rfl iw_X6 tyX6 tyX6_ok nmX6 1 rfl (wm_556) rfl rfl rfl rfl rfl h dX6_add_30 (fun o2 H locs hZ h => ?_)
    refine lv_iconst (v := 1) hx hb dX6_add_33 (by decide) ?_
    cases h
    exact k_zretW (v := (1 : Int32)) hX hr rfl hZ dX6_add_34
  · replace h := k_f cd h
    clear cd
    refine lv_iconst (v := 0) hx hb dX6_add_10 (by decide) ?_
    cases h
    exact k_zretW (v := (0 : Int32)) hX hr rfl hZ dX6_add_11
def wlX6_length : List Cond := .code yX6_length cX6_length 1 (some .int) :: WL_
theorem hd_X6_length : yX6_length.cls = RX6 ∧ yX6_length.cls ≠ "java/lang/invoke/MethodHandle" ∧ yX6_length.cls ≠ "java/lang/invoke/VarHandle" ∧ (parseMethodDescriptor yX6_length.desc).map (fun d => d.parameters.length) = some 0 := by decide +kernel
theorem dX6_length_0 : decode cX6_length 0 = .ok (.aload_n 0, 1) := by decide +kernel
theorem dX6_length_1 : decode cX6_length 1 = .ok (.getfield 15, 3) := by decide +kernel
theorem dX6_length_4 : decode cX6_length 4 = .ok (.ireturn, 1) := by decide +kernel
set_option maxHeartbeats 4000000 in
set_option maxRecDepth 100000 in
theorem c_X6_length {l : Launch} {D : va_G} {aC : Nat → ClassId} {a_t : Nat → Nat} (s_t : Ob_T) {out : Int32} (h : f_X6_length s_t = some out) : M_R l yX6_length wlX6_length 0 0 D aC [.ref (a_t 0)] (wd_X6 aC a_t s_t) (some (.int out)) := by
  refine k_entR (cc := cX6_length) (ret := (some .int)) (maxL := 1) (own := RX6) (by decide) rfl rfl rfl ?_
  intro p e s m below meth c A ls hX hr hZ hl
  have hl : lv_has ls 1 [(0, .ref (a_t 0))] := hl
  generalize ([.ref (a_t 0)] : List Value).toArray = args at hX ⊢
  obtain ⟨hx, hb, hml, hown, hts, hK, hA, hlk⟩ := id hX
  unfold f_X6_length at h
  have hF : ∀ q ∈ ([] : List Loc), False := fun _ h => nomatch h
  generalize ([] : List Loc) = locs at hF ⊢
  refine lv_aload_n hx hb dX6_length_0 rfl (lv_at hl 0 rfl) ?_
  refine k_get hX hZ.1 0 6 rfl rfl iw_X6 1 rfl (wm_556) (v := .int (o_F s_t 1)) rfl dX6_length_1 ?_
  cases h
  exact k_iretR hX hr hF dX6_length_4
def wlX6_clear : List Cond := .code yX6_clear cX6_clear 1 none :: WL_
theorem hd_X6_clear : yX6_clear.cls = RX6 ∧ yX6_clear.cls ≠ "java/lang/invoke/MethodHandle" ∧ yX6_clear.cls ≠ "java/lang/invoke/VarHandle" ∧ (parseMethodDescriptor yX6_clear.desc).map (fun d => d.parameters.length) = some 0 := by decide +kernel
theorem dX6_clear_0 : decode cX6_clear 0 = .ok (.aload_n 0, 1) := by decide +kernel
theorem dX6_clear_1 : decode cX6_clear 1 = .ok (.iconst 0, 1) := by decide +kernel
theorem dX6_clear_2 : decode cX6_clear 2 = .ok (.putfield 15, 3) := by decide +kernel
theorem dX6_clear_5 : decode cX6_clear 5 = .ok (.return_, 1) := by decide +kernel
set_option maxHeartbeats 4000000 in
set_option maxRecDepth 100000 in
theorem c_X6_clear {l : Launch} {D : va_G} {aC : Nat → ClassId} {a_t : Nat → Nat} (s_t : Ob_T) {out : Ob_T} (h : f_X6_clear s_t = some out) : M_W l yX6_clear wlX6_clear 0 0 D aC [.ref (a_t 0)] (wd_X6 aC a_t s_t) (none) (wd_X6 aC a_t out) := by
  refine k_entW (cc := cX6_clear) (ret := none) (maxL := 1) (own := RX6) (by decide) rfl rfl rfl ?_
  intro p e s m below meth c A ls hX hr hZ hl
  have hl : lv_has ls 1 [(0, .ref (a_t 0))] := hl
  generalize ([.ref (a_t 0)] : List Value).toArray = args at hX ⊢
  obtain ⟨hx, hb, hml, hown, hts, hK, hA, hlk⟩ := id hX
  unfold f_X6_clear at h
  generalize s.heap = H at hZ ⊢
  generalize ([] : List Loc) = locs at hZ ⊢
  refine lv_aload_n hx hb dX6_clear_0 rfl (lv_at hl 0 rfl) ?_
  refine lv_iconst (v := 0) hx hb dX6_clear_1 (by decide) ?_
  refine k_put (wf := (fun o => wd_X6 aC a_t o)) (o := s_t) hX hZ 0 6 rfl rfl iw_X6 tyX6 tyX6_ok nmX6 1 rfl (wm_556) rfl rfl rfl rfl rfl h dX6_clear_2 (fun o1 H locs hZ h => ?_)
  cases h
  exact k_vretW hX hr hZ dX6_clear_5
def wlX6_clausesRead : List Cond := .code yX6_clausesRead cX6_clausesRead 1 (some .int) :: WL_
theorem hd_X6_clausesRead : yX6_clausesRead.cls = RX6 ∧ yX6_clausesRead.cls ≠ "java/lang/invoke/MethodHandle" ∧ yX6_clausesRead.cls ≠ "java/lang/invoke/VarHandle" ∧ (parseMethodDescriptor yX6_clausesRead.desc).map (fun d => d.parameters.length) = some 0 := by decide +kernel
theorem dX6_clausesRead_0 : decode cX6_clausesRead 0 = .ok (.aload_n 0, 1) := by decide +kernel
theorem dX6_clausesRead_1 : decode cX6_clausesRead 1 = .ok (.getfield 19, 3) := by decide +kernel
theorem dX6_clausesRead_4 : decode cX6_clausesRead 4 = .ok (.ireturn, 1) := by decide +kernel
set_option maxHeartbeats 4000000 in
set_option maxRecDepth 100000 in
theorem c_X6_clausesRead {l : Launch} {D : va_G} {aC : Nat → ClassId} {a_t : Nat → Nat} (s_t : Ob_T) {out : Int32} (h : f_X6_clausesRead s_t = some out) : M_R l yX6_clausesRead wlX6_clausesRead 0 0 D aC [.ref (a_t 0)] (wd_X6 aC a_t s_t) (some (.int out)) := by
  refine k_entR (cc := cX6_clausesRead) (ret := (some .int)) (maxL := 1) (own := RX6) (by decide) rfl rfl rfl ?_
  intro p e s m below meth c A ls hX hr hZ hl
  have hl : lv_has ls 1 [(0, .ref (a_t 0))] := hl
  generalize ([.ref (a_t 0)] : List Value).toArray = args at hX ⊢
  obtain ⟨hx, hb, hml, hown, hts, hK, hA, hlk⟩ := id hX
  unfold f_X6_clausesRead at h
  have hF : ∀ q ∈ ([] : List Loc), False := fun _ h => nomatch h
  generalize ([] : List Loc) = locs at hF ⊢
  refine lv_aload_n hx hb dX6_clausesRead_0 rfl (lv_at hl 0 rfl) ?_
  refine k_get hX hZ.1 0 6 rfl rfl iw_X6 2 rfl (wm_558) (v := .int (o_F s_t 2)) rfl dX6_clausesRead_1 ?_
  cases h
  exact k_iretR hX hr hF dX6_clausesRead_4
def wlX6_numberHere : List Cond := .code yX6_numberHere cX6_numberHere 3 (some .int) :: WL_
theorem hd_X6_numberHere : yX6_numberHere.cls = RX6 ∧ yX6_numberHere.cls ≠ "java/lang/invoke/MethodHandle" ∧ yX6_numberHere.cls ≠ "java/lang/invoke/VarHandle" ∧ (parseMethodDescriptor yX6_numberHere.desc).map (fun d => d.parameters.length) = some 0 := by decide +kernel
theorem dX6_numberHere_0 : decode cX6_numberHere 0 = .ok (.iconst 0, 1) := by decide +kernel
theorem dX6_numberHere_1 : decode cX6_numberHere 1 = .ok (.istore_n 1, 1) := by decide +kernel
theorem dX6_numberHere_2 : decode cX6_numberHere 2 = .ok (.aload_n 0, 1) := by decide +kernel
theorem dX6_numberHere_3 : decode cX6_numberHere 3 = .ok (.getfield 39, 3) := by decide +kernel
theorem dX6_numberHere_6 : decode cX6_numberHere 6 = .ok (.istore_n 2, 1) := by decide +kernel
theorem dX6_numberHere_7 : decode cX6_numberHere 7 = .ok (.iload_n 2, 1) := by decide +kernel
theorem dX6_numberHere_8 : decode cX6_numberHere 8 = .ok (.aload_n 0, 1) := by decide +kernel
theorem dX6_numberHere_9 : decode cX6_numberHere 9 = .ok (.getfield 22, 3) := by decide +kernel
theorem dX6_numberHere_12 : decode cX6_numberHere 12 = .ok (.if_icmp .ge 24, 3) := by decide +kernel
theorem dX6_numberHere_15 : decode cX6_numberHere 15 = .ok (.iload_n 1, 1) := by decide +kernel
theorem dX6_numberHere_16 : decode cX6_numberHere 16 = .ok (.bipush 10, 2) := by decide +kernel
theorem dX6_numberHere_18 : decode cX6_numberHere 18 = .ok (.imul, 1) := by decide +kernel
theorem dX6_numberHere_19 : decode cX6_numberHere 19 = .ok (.aload_n 0, 1) := by decide +kernel
theorem dX6_numberHere_20 : decode cX6_numberHere 20 = .ok (.getfield 9, 3) := by decide +kernel
theorem dX6_numberHere_23 : decode cX6_numberHere 23 = .ok (.iload_n 2, 1) := by decide +kernel
theorem dX6_numberHere_24 : decode cX6_numberHere 24 = .ok (.caload, 1) := by decide +kernel
theorem dX6_numberHere_25 : decode cX6_numberHere 25 = .ok (.bipush 48, 2) := by decide +kernel
theorem dX6_numberHere_27 : decode cX6_numberHere 27 = .ok (.isub, 1) := by decide +kernel
theorem dX6_numberHere_28 : decode cX6_numberHere 28 = .ok (.iadd, 1) := by decide +kernel
theorem dX6_numberHere_29 : decode cX6_numberHere 29 = .ok (.istore_n 1, 1) := by decide +kernel
theorem dX6_numberHere_30 : decode cX6_numberHere 30 = .ok (.iinc 2 1, 3) := by decide +kernel
theorem dX6_numberHere_33 : decode cX6_numberHere 33 = .ok (.goto (-26), 3) := by decide +kernel
theorem dX6_numberHere_36 : decode cX6_numberHere 36 = .ok (.iload_n 1, 1) := by decide +kernel
theorem dX6_numberHere_37 : decode cX6_numberHere 37 = .ok (.ireturn, 1) := by decide +kernel
set_option maxHeartbeats 4000000 in
set_option maxRecDepth 100000 in
theorem t_X6_numberHere_L7 {p : Program} {l : Launch} {e : Env} {s : State} {m : MethodId} {args : Array Value} {below : List Frame} {meth : Method} {c : Code} {D : va_G} {aC : Nat → ClassId} {A : Nat → Prop} {a_t : Nat → Nat} {out : Int32} {s_t : Ob_T} {rec7 : (Int32 × Int32) → Option Int32} (hX : K_X p s m args meth c cX6_numberHere 3 WL_ RX6 D aC A) (hr : meth.sig.returnType = (some .int)) (hZ : va_P D vwCl (wd_X6 aC a_t s_t) s.heap ∧ va_D (fun _ => True) (wd_X6 aC a_t s_t)) (hrec7 : ∀ x : Int32 × Int32, rec7 x = some out → ∀ (locs : List Loc) (ls : Array Slot), (∀ q ∈ locs, False) → lv_has ls 3 [(0, .ref (a_t 0)), (1, .int x.1), (2, .int x.2)] → W p l e (R_m 0 0) s m args below meth c s.heap locs 0 0 (MQ below (Q_R (some (.int out))) args s 0 0 (fun _ => False)) (F0 m 7 ls [])) (x1 : Int32) (x2 : Int32) (h : f_X6_numberHere_L7 rec7 x1 x2 s_t = some out) (locs : List Loc) (ls : Array Slot) (hF : ∀ q ∈ locs, False) (hl : lv_has ls 3 [(0, .ref (a_t 0)), (1, .int x1), (2, .int x2)]) : W p l e (R_m 0 0) s m args below meth c s.heap locs 0 0 (MQ below (Q_R (some (.int out))) args s 0 0 (fun _ => False)) (F0 m 7 ls []) := by
  obtain ⟨hx, hb, hml, hown, hts, hK, hA, hlk⟩ := id hX
  unfold f_X6_numberHere_L7 at h
  refine lv_iload_n hx hb dX6_numberHere_7 rfl (lv_at hl 2 rfl) ?_
  refine lv_aload_n hx hb dX6_numberHere_8 rfl (lv_at hl 0 rfl) ?_
  refine k_get hX hZ.1 0 6 rfl rfl iw_X6 5 rfl (wm_560) (v := .int (o_F s_t 5)) rfl dX6_numberHere_9 ?_
  refine lv_icmp_ge (tgt := 36) hx hb dX6_numberHere_12 (by decide) (fun cd => ?_) (fun cd => ?_)
  · replace h := k_t cd h
    clear cd
    refine lv_iload_n hx hb dX6_numberHere_36 rfl (lv_at hl 1 rfl) ?_
    cases h
    exact k_iretR hX hr hF dX6_numberHere_37
  · replace h := k_f cd h
    clear cd
    refine lv_iload_n hx hb dX6_numberHere_15 rfl (lv_at hl 1 rfl) ?_
    refine lv_bipush (v := 10) hx hb dX6_numberHere_16 (by decide) ?_
    refine lv_imul hx hb dX6_numberHere_18 ?_
    refine lv_aload_n hx hb dX6_numberHere_19 rfl (lv_at hl 0 rfl) ?_
    refine k_get hX hZ.1 0 6 rfl rfl iw_X6 0 rfl (wm_557) (v := .ref (a_t 1)) rfl dX6_numberHere_20 ?_
    refine lv_iload_n hx hb dX6_numberHere_23 rfl (lv_at hl 2 rfl) ?_
    refine k_cald hX hZ.1 1 rfl h dX6_numberHere_24 (fun v1 h => ?_)
    refine lv_bipush (v := 48) hx hb dX6_numberHere_25 (by decide) ?_
    refine lv_isub hx hb dX6_numberHere_27 ?_
    refine lv_iadd hx hb dX6_numberHere_28 ?_
    refine lv_topi (fun e2 he => ?_)
    replace h := k_lt he h
    clear he
    refine lv_istore_n (lv' := [(1, .int e2), (0, .ref (a_t 0)), (2, .int x2)]) hx hb dX6_numberHere_29 rfl hl (by decide) rfl (fun ls hl => ?_)
    refine lv_iinc (v := (x2 + (1 : Int32))) (lv' := [(2, .int (x2 + (1 : Int32))), (1, .int e2), (0, .ref (a_t 0))]) hx hb dX6_numberHere_30 hl (k := 2) rfl rfl (by decide) rfl (fun ls hl => ?_)
    refine lv_goto (tgt := 7) hx hb dX6_numberHere_33 (by decide) ?_
    exact hrec7 (e2, (x2 + (1 : Int32))) h locs ls hF (lv_sub hl [2, 1, 0] rfl)
set_option maxHeartbeats 4000000 in
set_option maxRecDepth 100000 in
theorem c_X6_numberHere {l : Launch} {D : va_G} {aC : Nat → ClassId} {a_t : Nat → Nat} (s_t : Ob_T) {out : Int32} (h : f_X6_numberHere s_t = some out) : M_R l yX6_numberHere wlX6_numberHere 0 0 D aC [.ref (a_t 0)] (wd_X6 aC a_t s_t) (some (.int out)) := by
  refine k_entR (cc := cX6_numberHere) (ret := (some .int)) (maxL := 3) (own := RX6) (by decide) rfl rfl rfl ?_
  intro p e s m below meth c A ls hX hr hZ hl
  have hl : lv_has ls 3 [(0, .ref (a_t 0))] := hl
  generalize ([.ref (a_t 0)] : List Value).toArray = args at hX ⊢
  obtain ⟨hx, hb, hml, hown, hts, hK, hA, hlk⟩ := id hX
  unfold f_X6_numberHere at h
  have hF : ∀ q ∈ ([] : List Loc), False := fun _ h => nomatch h
  generalize ([] : List Loc) = locs at hF ⊢
  refine lv_iconst (v := 0) hx hb dX6_numberHere_0 (by decide) ?_
  refine lv_istore_n (lv' := [(1, .int (0 : Int32)), (0, .ref (a_t 0))]) hx hb dX6_numberHere_1 rfl hl (by decide) rfl (fun ls hl => ?_)
  refine lv_aload_n hx hb dX6_numberHere_2 rfl (lv_at hl 1 rfl) ?_
  refine k_get hX hZ.1 0 6 rfl rfl iw_X6 4 rfl (wm_559) (v := .int (o_F s_t 4)) rfl dX6_numberHere_3 ?_
  refine lv_istore_n (lv' := [(2, .int (o_F s_t 4)), (1, .int (0 : Int32)), (0, .ref (a_t 0))]) hx hb dX6_numberHere_6 rfl hl (by decide) rfl (fun ls hl => ?_)
  exact Lp_ok (body := (fun (rec : (Int32 × Int32) → Option Int32) x => f_X6_numberHere_L7 rec x.1 x.2 s_t)) (out := out) (fun x => ∀ (locs : List Loc) (ls : Array Slot), (∀ q ∈ locs, False) → lv_has ls 3 [(0, .ref (a_t 0)), (1, .int x.1), (2, .int x.2)] → W p l e (R_m 0 0) s m args below meth c s.heap locs 0 0 (MQ below (Q_R (some (.int out))) args s 0 0 (fun _ => False)) (F0 m 7 ls [])) (fun rec hrec x h locs ls hF hl => t_X6_numberHere_L7 hX hr hZ hrec x.1 x.2 h locs ls hF hl) FU_ ((0 : Int32), (o_F s_t 4)) h locs ls hF (lv_sub hl [2, 1, 0] rfl)
def wlX6_isNumber : List Cond := .code yX6_isNumber cX6_isNumber 4 (some .boolean) :: WL_
theorem hd_X6_isNumber : yX6_isNumber.cls = RX6 ∧ yX6_isNumber.cls ≠ "java/lang/invoke/MethodHandle" ∧ yX6_isNumber.cls ≠ "java/lang/invoke/VarHandle" ∧ (parseMethodDescriptor yX6_isNumber.desc).map (fun d => d.parameters.length) = some 2 := by decide +kernel
theorem dX6_isNumber_0 : decode cX6_isNumber 0 = .ok (.aload_n 0, 1) := by decide +kernel
theorem dX6_isNumber_1 : decode cX6_isNumber 1 = .ok (.getfield 32, 3) := by decide +kernel
theorem dX6_isNumber_4 : decode cX6_isNumber 4 = .ok (.iconst 2, 1) := by decide +kernel
theorem dX6_isNumber_5 : decode cX6_isNumber 5 = .ok (.if_icmp .ne 16, 3) := by decide +kernel
theorem dX6_isNumber_8 : decode cX6_isNumber 8 = .ok (.aload_n 0, 1) := by decide +kernel
theorem dX6_isNumber_9 : decode cX6_isNumber 9 = .ok (.getfield 22, 3) := by decide +kernel
theorem dX6_isNumber_12 : decode cX6_isNumber 12 = .ok (.aload_n 0, 1) := by decide +kernel
theorem dX6_isNumber_13 : decode cX6_isNumber 13 = .ok (.getfield 39, 3) := by decide +kernel
theorem dX6_isNumber_16 : decode cX6_isNumber 16 = .ok (.isub, 1) := by decide +kernel
theorem dX6_isNumber_17 : decode cX6_isNumber 17 = .ok (.iconst 2, 1) := by decide +kernel
theorem dX6_isNumber_18 : decode cX6_isNumber 18 = .ok (.if_icmp .le 5, 3) := by decide +kernel
theorem dX6_isNumber_21 : decode cX6_isNumber 21 = .ok (.iconst 0, 1) := by decide +kernel
theorem dX6_isNumber_22 : decode cX6_isNumber 22 = .ok (.ireturn, 1) := by decide +kernel
theorem dX6_isNumber_23 : decode cX6_isNumber 23 = .ok (.aload_n 0, 1) := by decide +kernel
theorem dX6_isNumber_24 : decode cX6_isNumber 24 = .ok (.invokevirtual 82, 3) := by decide +kernel
theorem dX6_isNumber_27 : decode cX6_isNumber 27 = .ok (.istore_n 3, 1) := by decide +kernel
theorem dX6_isNumber_28 : decode cX6_isNumber 28 = .ok (.iload_n 3, 1) := by decide +kernel
theorem dX6_isNumber_29 : decode cX6_isNumber 29 = .ok (.iload_n 1, 1) := by decide +kernel
theorem dX6_isNumber_30 : decode cX6_isNumber 30 = .ok (.if_icmp .lt 12, 3) := by decide +kernel
theorem dX6_isNumber_33 : decode cX6_isNumber 33 = .ok (.iload_n 3, 1) := by decide +kernel
theorem dX6_isNumber_34 : decode cX6_isNumber 34 = .ok (.iload_n 2, 1) := by decide +kernel
theorem dX6_isNumber_35 : decode cX6_isNumber 35 = .ok (.if_icmp .gt 7, 3) := by decide +kernel
theorem dX6_isNumber_38 : decode cX6_isNumber 38 = .ok (.iconst 1, 1) := by decide +kernel
theorem dX6_isNumber_39 : decode cX6_isNumber 39 = .ok (.goto 4, 3) := by decide +kernel
theorem dX6_isNumber_42 : decode cX6_isNumber 42 = .ok (.iconst 0, 1) := by decide +kernel
theorem dX6_isNumber_43 : decode cX6_isNumber 43 = .ok (.ireturn, 1) := by decide +kernel
set_option maxHeartbeats 4000000 in
set_option maxRecDepth 100000 in
theorem c_X6_isNumber {l : Launch} {D : va_G} {aC : Nat → ClassId} {a_t : Nat → Nat} (s_t : Ob_T) (x1 : Int32) (x2 : Int32) {out : Int32} (h : f_X6_isNumber s_t x1 x2 = some out) : M_R l yX6_isNumber wlX6_isNumber 1 22 D aC [.ref (a_t 0), .int x1, .int x2] (wd_X6 aC a_t s_t) (some (.int out)) := by
  refine k_entR (cc := cX6_isNumber) (ret := (some .boolean)) (maxL := 4) (own := RX6) (by decide) rfl rfl rfl ?_
  intro p e s m below meth c A ls hX hr hZ hl
  have hl : lv_has ls 4 [(0, .ref (a_t 0)), (1, .int x1), (2, .int x2)] := hl
  generalize ([.ref (a_t 0), .int x1, .int x2] : List Value).toArray = args at hX ⊢
  obtain ⟨hx, hb, hml, hown, hts, hK, hA, hlk⟩ := id hX
  unfold f_X6_isNumber at h
  have hF : ∀ q ∈ ([] : List Loc), False := fun _ h => nomatch h
  generalize ([] : List Loc) = locs at hF ⊢
  refine lv_aload_n hx hb dX6_isNumber_0 rfl (lv_at hl 0 rfl) ?_
  refine k_get hX hZ.1 0 6 rfl rfl iw_X6 3 rfl (wm_561) (v := .int (o_F s_t 3)) rfl dX6_isNumber_1 ?_
  refine lv_iconst (v := 2) hx hb dX6_isNumber_4 (by decide) ?_
  refine lv_icmp_ne (tgt := 21) hx hb dX6_isNumber_5 (by decide) (fun cd => ?_) (fun cd => ?_)
  · replace h := k_f cd h
    clear cd
    refine lv_iconst (v := 0) hx hb dX6_isNumber_21 (by decide) ?_
    cases h
    exact k_zretR (v := (0 : Int32)) hX hr rfl hF dX6_isNumber_22
  · replace h := k_t cd h
    clear cd
    refine lv_aload_n hx hb dX6_isNumber_8 rfl (lv_at hl 0 rfl) ?_
    refine k_get hX hZ.1 0 6 rfl rfl iw_X6 5 rfl (wm_560) (v := .int (o_F s_t 5)) rfl dX6_isNumber_9 ?_
    refine lv_aload_n hx hb dX6_isNumber_12 rfl (lv_at hl 0 rfl) ?_
    refine k_get hX hZ.1 0 6 rfl rfl iw_X6 4 rfl (wm_559) (v := .int (o_F s_t 4)) rfl dX6_isNumber_13 ?_
    refine lv_isub hx hb dX6_isNumber_16 ?_
    refine lv_iconst (v := 2) hx hb dX6_isNumber_17 (by decide) ?_
    refine lv_icmp_le (tgt := 23) hx hb dX6_isNumber_18 (by decide) (fun cd => ?_) (fun cd => ?_)
    · replace h := k_t cd h
      clear cd
      refine lv_aload_n hx hb dX6_isNumber_23 rfl (lv_at hl 0 rfl) ?_
      obtain ⟨u1, hu, h⟩ := k_bd h
      refine k_vRRs (As := []) (rest := []) (v := some (.int u1)) (st1 := [.int u1]) hX hl.1 hZ hF (c_X6_numberHere (a_t := a_t) s_t hu) (gv_ wm_562 wm_565 wm_566 wm_563 wm_564) rfl hd_X6_numberHere ⟨rfl, rfl⟩ 6 0 rfl rfl rfl rfl rfl dX6_isNumber_24 rfl ⟨rfl, rfl⟩ (fun locs hF => ?_)
      clear hu
      refine lv_istore_n (lv' := [(3, .int u1), (0, .ref (a_t 0)), (1, .int x1), (2, .int x2)]) hx hb dX6_isNumber_27 rfl hl (by decide) rfl (fun ls hl => ?_)
      refine lv_iload_n hx hb dX6_isNumber_28 rfl (lv_at hl 0 rfl) ?_
      refine lv_iload_n hx hb dX6_isNumber_29 rfl (lv_at hl 2 rfl) ?_
      refine lv_icmp_lt (tgt := 42) hx hb dX6_isNumber_30 (by decide) (fun cd => ?_) (fun cd => ?_)
      · replace h := k_t cd h
        clear cd
        refine lv_iconst (v := 0) hx hb dX6_isNumber_42 (by decide) ?_
        cases h
        exact k_zretR (v := (0 : Int32)) hX hr rfl hF dX6_isNumber_43
      · replace h := k_f cd h
        clear cd
        refine lv_iload_n hx hb dX6_isNumber_33 rfl (lv_at hl 0 rfl) ?_
        refine lv_iload_n hx hb dX6_isNumber_34 rfl (lv_at hl 3 rfl) ?_
        refine lv_icmp_gt (tgt := 42) hx hb dX6_isNumber_35 (by decide) (fun cd => ?_) (fun cd => ?_)
        · replace h := k_t cd h
          clear cd
          refine lv_iconst (v := 0) hx hb dX6_isNumber_42 (by decide) ?_
          cases h
          exact k_zretR (v := (0 : Int32)) hX hr rfl hF dX6_isNumber_43
        · replace h := k_f cd h
          clear cd
          refine lv_iconst (v := 1) hx hb dX6_isNumber_38 (by decide) ?_
          refine lv_goto (tgt := 43) hx hb dX6_isNumber_39 (by decide) ?_
          cases h
          exact k_zretR (v := (1 : Int32)) hX hr rfl hF dX6_isNumber_43
    · replace h := k_f cd h
      clear cd
      refine lv_iconst (v := 0) hx hb dX6_isNumber_21 (by decide) ?_
      cases h
      exact k_zretR (v := (0 : Int32)) hX hr rfl hF dX6_isNumber_22
