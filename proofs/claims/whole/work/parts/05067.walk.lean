def wlX2_total : List Cond := .code yX2_total cX2_total 4 (some .int) :: WL_
theorem hd_X2_total : yX2_total.cls = RX2 ∧ yX2_total.cls ≠ "java/lang/invoke/MethodHandle" ∧ yX2_total.cls ≠ "java/lang/invoke/VarHandle" ∧ (parseMethodDescriptor yX2_total.desc).map (fun d => d.parameters.length) = some 1 := by decide +kernel
theorem dX2_total_0 : decode cX2_total 0 = .ok (.iconst 0, 1) := by decide +kernel
theorem dX2_total_1 : decode cX2_total 1 = .ok (.istore_n 2, 1) := by decide +kernel
theorem dX2_total_2 : decode cX2_total 2 = .ok (.iconst 0, 1) := by decide +kernel
theorem dX2_total_3 : decode cX2_total 3 = .ok (.istore_n 3, 1) := by decide +kernel
theorem dX2_total_4 : decode cX2_total 4 = .ok (.iload_n 3, 1) := by decide +kernel
theorem dX2_total_5 : decode cX2_total 5 = .ok (.aload_n 0, 1) := by decide +kernel
theorem dX2_total_6 : decode cX2_total 6 = .ok (.getfield 15, 3) := by decide +kernel
theorem dX2_total_9 : decode cX2_total 9 = .ok (.iload_n 1, 1) := by decide +kernel
theorem dX2_total_10 : decode cX2_total 10 = .ok (.iaload, 1) := by decide +kernel
theorem dX2_total_11 : decode cX2_total 11 = .ok (.if_icmp .ge 18, 3) := by decide +kernel
theorem dX2_total_14 : decode cX2_total 14 = .ok (.iload_n 2, 1) := by decide +kernel
theorem dX2_total_15 : decode cX2_total 15 = .ok (.aload_n 0, 1) := by decide +kernel
theorem dX2_total_16 : decode cX2_total 16 = .ok (.iload_n 1, 1) := by decide +kernel
theorem dX2_total_17 : decode cX2_total 17 = .ok (.iload_n 3, 1) := by decide +kernel
theorem dX2_total_18 : decode cX2_total 18 = .ok (.invokevirtual 44, 3) := by decide +kernel
theorem dX2_total_21 : decode cX2_total 21 = .ok (.iadd, 1) := by decide +kernel
theorem dX2_total_22 : decode cX2_total 22 = .ok (.istore_n 2, 1) := by decide +kernel
theorem dX2_total_23 : decode cX2_total 23 = .ok (.iinc 3 1, 3) := by decide +kernel
theorem dX2_total_26 : decode cX2_total 26 = .ok (.goto (-22), 3) := by decide +kernel
theorem dX2_total_29 : decode cX2_total 29 = .ok (.iload_n 2, 1) := by decide +kernel
theorem dX2_total_30 : decode cX2_total 30 = .ok (.ireturn, 1) := by decide +kernel
set_option maxHeartbeats 4000000 in
set_option maxRecDepth 100000 in
theorem t_X2_total_L4 {p : Program} {l : Launch} {e : Env} {s : State} {m : MethodId} {args : Array Value} {below : List Frame} {meth : Method} {c : Code} {D : va_G} {aC : Nat → ClassId} {A : Nat → Prop} {a_r : Nat → Nat} {out : Int32} {s_r : Ob_T} {rec4 : (Int32 × Int32 × Int32) → Option Int32} (hX : K_X p s m args meth c cX2_total 4 WL_ RX2 D aC A) (hr : meth.sig.returnType = (some .int)) (hZ : va_P D vwCl (wd_X2 aC a_r s_r) s.heap ∧ va_D (fun _ => True) (wd_X2 aC a_r s_r)) (hrec4 : ∀ x : Int32 × Int32 × Int32, rec4 x = some out → ∀ (locs : List Loc) (ls : Array Slot), (∀ q ∈ locs, False) → lv_has ls 4 [(0, .ref (a_r 0)), (1, .int x.1), (2, .int x.2.1), (3, .int x.2.2)] → W p l e (R_m 1 22) s m args below meth c s.heap locs 0 0 (MQ below (Q_R (some (.int out))) args s 0 0 (fun _ => False)) (F0 m 4 ls [])) (x1 : Int32) (x2 : Int32) (x3 : Int32) (h : f_X2_total_L4 rec4 x1 x2 x3 s_r = some out) (locs : List Loc) (ls : Array Slot) (hF : ∀ q ∈ locs, False) (hl : lv_has ls 4 [(0, .ref (a_r 0)), (1, .int x1), (2, .int x2), (3, .int x3)]) : W p l e (R_m 1 22) s m args below meth c s.heap locs 0 0 (MQ below (Q_R (some (.int out))) args s 0 0 (fun _ => False)) (F0 m 4 ls []) := by
  obtain ⟨hx, hb, hml, hown, hts, hK, hA, hlk⟩ := id hX
  unfold f_X2_total_L4 at h
  refine lv_iload_n hx hb dX2_total_4 rfl (lv_at hl 3 rfl) ?_
  refine lv_aload_n hx hb dX2_total_5 rfl (lv_at hl 0 rfl) ?_
  refine k_get hX hZ.1 0 2 rfl rfl iw_X2 1 rfl (wm_376) (v := .ref (a_r 2)) rfl dX2_total_6 ?_
  refine lv_iload_n hx hb dX2_total_9 rfl (lv_at hl 1 rfl) ?_
  refine k_iald hX hZ.1 2 rfl h dX2_total_10 (fun v1 h => ?_)
  refine lv_icmp_ge (tgt := 29) hx hb dX2_total_11 (by decide) (fun cd => ?_) (fun cd => ?_)
  · replace h := k_t cd h
    clear cd
    refine lv_iload_n hx hb dX2_total_29 rfl (lv_at hl 2 rfl) ?_
    cases h
    exact k_iretR hX hr hF dX2_total_30
  · replace h := k_f cd h
    clear cd
    refine lv_iload_n hx hb dX2_total_14 rfl (lv_at hl 2 rfl) ?_
    refine lv_aload_n hx hb dX2_total_15 rfl (lv_at hl 0 rfl) ?_
    refine lv_iload_n hx hb dX2_total_16 rfl (lv_at hl 1 rfl) ?_
    refine lv_iload_n hx hb dX2_total_17 rfl (lv_at hl 3 rfl) ?_
    obtain ⟨u2, hu, h⟩ := k_bd h
    refine k_vRRs (As := [.int x1, .int x3]) (rest := [.int x2]) (v := some (.int u2)) (st1 := [.int u2, .int x2]) hX hl.1 hZ hF (c_X2_at (a_r := a_r) s_r x1 x3 hu) (gv_ wm_393 wm_395 wm_396 wm_384 wm_394) rfl hd_X2_at ⟨rfl, rfl⟩ 2 0 rfl rfl rfl rfl rfl dX2_total_18 rfl ⟨rfl, rfl⟩ (fun locs hF => ?_)
    clear hu
    refine lv_iadd hx hb dX2_total_21 ?_
    refine lv_istore_n (lv' := [(2, .int (x2 + u2)), (0, .ref (a_r 0)), (1, .int x1), (3, .int x3)]) hx hb dX2_total_22 rfl hl (by decide) rfl (fun ls hl => ?_)
    refine lv_iinc (v := (x3 + (1 : Int32))) (lv' := [(3, .int (x3 + (1 : Int32))), (2, .int (x2 + u2)), (0, .ref (a_r 0)), (1, .int x1)]) hx hb dX2_total_23 hl (k := 3) rfl rfl (by decide) rfl (fun ls hl => ?_)
    refine lv_goto (tgt := 4) hx hb dX2_total_26 (by decide) ?_
    exact hrec4 (x1, (x2 + u2), (x3 + (1 : Int32))) h locs ls hF (lv_sub hl [2, 3, 1, 0] rfl)
set_option maxHeartbeats 4000000 in
set_option maxRecDepth 100000 in
theorem c_X2_total {l : Launch} {D : va_G} {aC : Nat → ClassId} {a_r : Nat → Nat} (s_r : Ob_T) (x1 : Int32) {out : Int32} (h : f_X2_total s_r x1 = some out) : M_R l yX2_total wlX2_total 1 22 D aC [.ref (a_r 0), .int x1] (wd_X2 aC a_r s_r) (some (.int out)) := by
  refine k_entR (cc := cX2_total) (ret := (some .int)) (maxL := 4) (own := RX2) (by decide) rfl rfl rfl ?_
  intro p e s m below meth c A ls hX hr hZ hl
  have hl : lv_has ls 4 [(0, .ref (a_r 0)), (1, .int x1)] := hl
  generalize ([.ref (a_r 0), .int x1] : List Value).toArray = args at hX ⊢
  obtain ⟨hx, hb, hml, hown, hts, hK, hA, hlk⟩ := id hX
  unfold f_X2_total at h
  have hF : ∀ q ∈ ([] : List Loc), False := fun _ h => nomatch h
  generalize ([] : List Loc) = locs at hF ⊢
  refine lv_iconst (v := 0) hx hb dX2_total_0 (by decide) ?_
  refine lv_istore_n (lv' := [(2, .int (0 : Int32)), (0, .ref (a_r 0)), (1, .int x1)]) hx hb dX2_total_1 rfl hl (by decide) rfl (fun ls hl => ?_)
  refine lv_iconst (v := 0) hx hb dX2_total_2 (by decide) ?_
  refine lv_istore_n (lv' := [(3, .int (0 : Int32)), (2, .int (0 : Int32)), (0, .ref (a_r 0)), (1, .int x1)]) hx hb dX2_total_3 rfl hl (by decide) rfl (fun ls hl => ?_)
  exact Lp_ok (body := (fun (rec : (Int32 × Int32 × Int32) → Option Int32) x => f_X2_total_L4 rec x.1 x.2.1 x.2.2 s_r)) (out := out) (fun x => ∀ (locs : List Loc) (ls : Array Slot), (∀ q ∈ locs, False) → lv_has ls 4 [(0, .ref (a_r 0)), (1, .int x.1), (2, .int x.2.1), (3, .int x.2.2)] → W p l e (R_m 1 22) s m args below meth c s.heap locs 0 0 (MQ below (Q_R (some (.int out))) args s 0 0 (fun _ => False)) (F0 m 4 ls [])) (fun rec hrec x h locs ls hF hl => t_X2_total_L4 hX hr hZ hrec x.1 x.2.1 x.2.2 h locs ls hF hl) FU_ (x1, (0 : Int32), (0 : Int32)) h locs ls hF (lv_sub hl [2, 3, 1, 0] rfl)
def wlX2_allPlaces : List Cond := .code yX2_allPlaces cX2_allPlaces 3 (some .int) :: WL_
theorem hd_X2_allPlaces : yX2_allPlaces.cls = RX2 ∧ yX2_allPlaces.cls ≠ "java/lang/invoke/MethodHandle" ∧ yX2_allPlaces.cls ≠ "java/lang/invoke/VarHandle" ∧ (parseMethodDescriptor yX2_allPlaces.desc).map (fun d => d.parameters.length) = some 0 := by decide +kernel
theorem dX2_allPlaces_0 : decode cX2_allPlaces 0 = .ok (.iconst 0, 1) := by decide +kernel
theorem dX2_allPlaces_1 : decode cX2_allPlaces 1 = .ok (.istore_n 1, 1) := by decide +kernel
theorem dX2_allPlaces_2 : decode cX2_allPlaces 2 = .ok (.iconst 0, 1) := by decide +kernel
theorem dX2_allPlaces_3 : decode cX2_allPlaces 3 = .ok (.istore_n 2, 1) := by decide +kernel
theorem dX2_allPlaces_4 : decode cX2_allPlaces 4 = .ok (.iload_n 2, 1) := by decide +kernel
theorem dX2_allPlaces_5 : decode cX2_allPlaces 5 = .ok (.iconst 3, 1) := by decide +kernel
theorem dX2_allPlaces_6 : decode cX2_allPlaces 6 = .ok (.if_icmp .ge 30, 3) := by decide +kernel
theorem dX2_allPlaces_9 : decode cX2_allPlaces 9 = .ok (.iload_n 1, 1) := by decide +kernel
theorem dX2_allPlaces_10 : decode cX2_allPlaces 10 = .ok (.aload_n 0, 1) := by decide +kernel
theorem dX2_allPlaces_11 : decode cX2_allPlaces 11 = .ok (.iload_n 2, 1) := by decide +kernel
theorem dX2_allPlaces_12 : decode cX2_allPlaces 12 = .ok (.invokevirtual 30, 3) := by decide +kernel
theorem dX2_allPlaces_15 : decode cX2_allPlaces 15 = .ok (.ifCond .eq 7, 3) := by decide +kernel
theorem dX2_allPlaces_18 : decode cX2_allPlaces 18 = .ok (.iconst 0, 1) := by decide +kernel
theorem dX2_allPlaces_19 : decode cX2_allPlaces 19 = .ok (.goto 9, 3) := by decide +kernel
theorem dX2_allPlaces_22 : decode cX2_allPlaces 22 = .ok (.aload_n 0, 1) := by decide +kernel
theorem dX2_allPlaces_23 : decode cX2_allPlaces 23 = .ok (.getfield 15, 3) := by decide +kernel
theorem dX2_allPlaces_26 : decode cX2_allPlaces 26 = .ok (.iload_n 2, 1) := by decide +kernel
theorem dX2_allPlaces_27 : decode cX2_allPlaces 27 = .ok (.iaload, 1) := by decide +kernel
theorem dX2_allPlaces_28 : decode cX2_allPlaces 28 = .ok (.iadd, 1) := by decide +kernel
theorem dX2_allPlaces_29 : decode cX2_allPlaces 29 = .ok (.istore_n 1, 1) := by decide +kernel
theorem dX2_allPlaces_30 : decode cX2_allPlaces 30 = .ok (.iinc 2 1, 3) := by decide +kernel
theorem dX2_allPlaces_33 : decode cX2_allPlaces 33 = .ok (.goto (-29), 3) := by decide +kernel
theorem dX2_allPlaces_36 : decode cX2_allPlaces 36 = .ok (.iload_n 1, 1) := by decide +kernel
theorem dX2_allPlaces_37 : decode cX2_allPlaces 37 = .ok (.ireturn, 1) := by decide +kernel
set_option maxHeartbeats 4000000 in
set_option maxRecDepth 100000 in
theorem t_X2_allPlaces_L4 {p : Program} {l : Launch} {e : Env} {s : State} {m : MethodId} {args : Array Value} {below : List Frame} {meth : Method} {c : Code} {D : va_G} {aC : Nat → ClassId} {A : Nat → Prop} {a_r : Nat → Nat} {out : Int32} {s_r : Ob_T} {rec4 : (Int32 × Int32) → Option Int32} (hX : K_X p s m args meth c cX2_allPlaces 3 WL_ RX2 D aC A) (hr : meth.sig.returnType = (some .int)) (hZ : va_P D vwCl (wd_X2 aC a_r s_r) s.heap ∧ va_D (fun _ => True) (wd_X2 aC a_r s_r)) (hrec4 : ∀ x : Int32 × Int32, rec4 x = some out → ∀ (locs : List Loc) (ls : Array Slot), (∀ q ∈ locs, False) → lv_has ls 3 [(0, .ref (a_r 0)), (1, .int x.1), (2, .int x.2)] → W p l e (R_m 1 21) s m args below meth c s.heap locs 0 0 (MQ below (Q_R (some (.int out))) args s 0 0 (fun _ => False)) (F0 m 4 ls [])) (x1 : Int32) (x2 : Int32) (h : f_X2_allPlaces_L4 rec4 x1 x2 s_r = some out) (locs : List Loc) (ls : Array Slot) (hF : ∀ q ∈ locs, False) (hl : lv_has ls 3 [(0, .ref (a_r 0)), (1, .int x1), (2, .int x2)]) : W p l e (R_m 1 21) s m args below meth c s.heap locs 0 0 (MQ below (Q_R (some (.int out))) args s 0 0 (fun _ => False)) (F0 m 4 ls []) := by
  obtain ⟨hx, hb, hml, hown, hts, hK, hA, hlk⟩ := id hX
  unfold f_X2_allPlaces_L4 at h
  refine lv_iload_n hx hb dX2_allPlaces_4 rfl (lv_at hl 2 rfl) ?_
  refine lv_iconst (v := 3) hx hb dX2_allPlaces_5 (by decide) ?_
  refine lv_icmp_ge (tgt := 36) hx hb dX2_allPlaces_6 (by decide) (fun cd => ?_) (fun cd => ?_)
  · replace h := k_t cd h
    clear cd
    refine lv_iload_n hx hb dX2_allPlaces_36 rfl (lv_at hl 1 rfl) ?_
    cases h
    exact k_iretR hX hr hF dX2_allPlaces_37
  · replace h := k_f cd h
    clear cd
    refine lv_iload_n hx hb dX2_allPlaces_9 rfl (lv_at hl 1 rfl) ?_
    refine lv_aload_n hx hb dX2_allPlaces_10 rfl (lv_at hl 0 rfl) ?_
    refine lv_iload_n hx hb dX2_allPlaces_11 rfl (lv_at hl 2 rfl) ?_
    obtain ⟨u1, hu, h⟩ := k_bd h
    refine k_vRRs (As := [.int x2]) (rest := [.int x1]) (v := some (.int u1)) (st1 := [.int u1, .int x1]) hX hl.1 hZ hF (c_X2_isMissing (a_r := a_r) s_r x2 hu) (gv_ wm_383 wm_386 wm_387 wm_384 wm_385) rfl hd_X2_isMissing ⟨rfl, rfl⟩ 2 0 rfl rfl rfl rfl rfl dX2_allPlaces_12 rfl ⟨rfl, rfl⟩ (fun locs hF => ?_)
    clear hu
    refine lv_if_eq (tgt := 22) hx hb dX2_allPlaces_15 (by decide) (fun cd => ?_) (fun cd => ?_)
    · replace h := k_t cd h
      clear cd
      refine lv_aload_n hx hb dX2_allPlaces_22 rfl (lv_at hl 0 rfl) ?_
      refine k_get hX hZ.1 0 2 rfl rfl iw_X2 1 rfl (wm_376) (v := .ref (a_r 2)) rfl dX2_allPlaces_23 ?_
      refine lv_iload_n hx hb dX2_allPlaces_26 rfl (lv_at hl 2 rfl) ?_
      refine k_iald hX hZ.1 2 rfl h dX2_allPlaces_27 (fun v2 h => ?_)
      refine lv_iadd hx hb dX2_allPlaces_28 ?_
      refine lv_istore_n (lv' := [(1, .int (x1 + v2)), (0, .ref (a_r 0)), (2, .int x2)]) hx hb dX2_allPlaces_29 rfl hl (by decide) rfl (fun ls hl => ?_)
      refine lv_iinc (v := (x2 + (1 : Int32))) (lv' := [(2, .int (x2 + (1 : Int32))), (1, .int (x1 + v2)), (0, .ref (a_r 0))]) hx hb dX2_allPlaces_30 hl (k := 2) rfl rfl (by decide) rfl (fun ls hl => ?_)
      refine lv_goto (tgt := 4) hx hb dX2_allPlaces_33 (by decide) ?_
      exact hrec4 ((x1 + v2), (x2 + (1 : Int32))) h locs ls hF (lv_sub hl [2, 1, 0] rfl)
    · replace h := k_f cd h
      clear cd
      refine lv_iconst (v := 0) hx hb dX2_allPlaces_18 (by decide) ?_
      refine lv_goto (tgt := 28) hx hb dX2_allPlaces_19 (by decide) ?_
      refine lv_iadd hx hb dX2_allPlaces_28 ?_
      refine lv_istore_n (lv' := [(1, .int (x1 + (0 : Int32))), (0, .ref (a_r 0)), (2, .int x2)]) hx hb dX2_allPlaces_29 rfl hl (by decide) rfl (fun ls hl => ?_)
      refine lv_iinc (v := (x2 + (1 : Int32))) (lv' := [(2, .int (x2 + (1 : Int32))), (1, .int (x1 + (0 : Int32))), (0, .ref (a_r 0))]) hx hb dX2_allPlaces_30 hl (k := 2) rfl rfl (by decide) rfl (fun ls hl => ?_)
      refine lv_goto (tgt := 4) hx hb dX2_allPlaces_33 (by decide) ?_
      exact hrec4 ((x1 + (0 : Int32)), (x2 + (1 : Int32))) h locs ls hF (lv_sub hl [2, 1, 0] rfl)
set_option maxHeartbeats 4000000 in
set_option maxRecDepth 100000 in
theorem c_X2_allPlaces {l : Launch} {D : va_G} {aC : Nat → ClassId} {a_r : Nat → Nat} (s_r : Ob_T) {out : Int32} (h : f_X2_allPlaces s_r = some out) : M_R l yX2_allPlaces wlX2_allPlaces 1 21 D aC [.ref (a_r 0)] (wd_X2 aC a_r s_r) (some (.int out)) := by
  refine k_entR (cc := cX2_allPlaces) (ret := (some .int)) (maxL := 3) (own := RX2) (by decide) rfl rfl rfl ?_
  intro p e s m below meth c A ls hX hr hZ hl
  have hl : lv_has ls 3 [(0, .ref (a_r 0))] := hl
  generalize ([.ref (a_r 0)] : List Value).toArray = args at hX ⊢
  obtain ⟨hx, hb, hml, hown, hts, hK, hA, hlk⟩ := id hX
  unfold f_X2_allPlaces at h
  have hF : ∀ q ∈ ([] : List Loc), False := fun _ h => nomatch h
  generalize ([] : List Loc) = locs at hF ⊢
  refine lv_iconst (v := 0) hx hb dX2_allPlaces_0 (by decide) ?_
  refine lv_istore_n (lv' := [(1, .int (0 : Int32)), (0, .ref (a_r 0))]) hx hb dX2_allPlaces_1 rfl hl (by decide) rfl (fun ls hl => ?_)
  refine lv_iconst (v := 0) hx hb dX2_allPlaces_2 (by decide) ?_
  refine lv_istore_n (lv' := [(2, .int (0 : Int32)), (1, .int (0 : Int32)), (0, .ref (a_r 0))]) hx hb dX2_allPlaces_3 rfl hl (by decide) rfl (fun ls hl => ?_)
  exact Lp_ok (body := (fun (rec : (Int32 × Int32) → Option Int32) x => f_X2_allPlaces_L4 rec x.1 x.2 s_r)) (out := out) (fun x => ∀ (locs : List Loc) (ls : Array Slot), (∀ q ∈ locs, False) → lv_has ls 3 [(0, .ref (a_r 0)), (1, .int x.1), (2, .int x.2)] → W p l e (R_m 1 21) s m args below meth c s.heap locs 0 0 (MQ below (Q_R (some (.int out))) args s 0 0 (fun _ => False)) (F0 m 4 ls [])) (fun rec hrec x h locs ls hF hl => t_X2_allPlaces_L4 hX hr hZ hrec x.1 x.2 h locs ls hF hl) FU_ ((0 : Int32), (0 : Int32)) h locs ls hF (lv_sub hl [2, 1, 0] rfl)
def wlX3_size : List Cond := .code yX3_size cX3_size 1 (some .int) :: WL_
theorem hd_X3_size : yX3_size.cls = RX3 ∧ yX3_size.cls ≠ "java/lang/invoke/MethodHandle" ∧ yX3_size.cls ≠ "java/lang/invoke/VarHandle" ∧ (parseMethodDescriptor yX3_size.desc).map (fun d => d.parameters.length) = some 0 := by decide +kernel
theorem dX3_size_0 : decode cX3_size 0 = .ok (.aload_n 0, 1) := by decide +kernel
theorem dX3_size_1 : decode cX3_size 1 = .ok (.getfield 18, 3) := by decide +kernel
theorem dX3_size_4 : decode cX3_size 4 = .ok (.ireturn, 1) := by decide +kernel
set_option maxHeartbeats 4000000 in
set_option maxRecDepth 100000 in
theorem c_X3_size {l : Launch} {D : va_G} {aC : Nat → ClassId} {a_q : Nat → Nat} (s_q : Ob_T) {out : Int32} (h : f_X3_size s_q = some out) : M_R l yX3_size wlX3_size 0 0 D aC [.ref (a_q 0)] (wd_X3 aC a_q s_q) (some (.int out)) := by
  refine k_entR (cc := cX3_size) (ret := (some .int)) (maxL := 1) (own := RX3) (by decide) rfl rfl rfl ?_
  intro p e s m below meth c A ls hX hr hZ hl
  have hl : lv_has ls 1 [(0, .ref (a_q 0))] := hl
  generalize ([.ref (a_q 0)] : List Value).toArray = args at hX ⊢
  obtain ⟨hx, hb, hml, hown, hts, hK, hA, hlk⟩ := id hX
  unfold f_X3_size at h
  have hF : ∀ q ∈ ([] : List Loc), False := fun _ h => nomatch h
  generalize ([] : List Loc) = locs at hF ⊢
  refine lv_aload_n hx hb dX3_size_0 rfl (lv_at hl 0 rfl) ?_
  refine k_get hX hZ.1 0 3 rfl rfl iw_X3 2 rfl (wm_397) (v := .int (o_F s_q 2)) rfl dX3_size_1 ?_
  cases h
  exact k_iretR hX hr hF dX3_size_4
def wlX3_clear : List Cond := .code yX3_clear cX3_clear 1 none :: WL_
theorem hd_X3_clear : yX3_clear.cls = RX3 ∧ yX3_clear.cls ≠ "java/lang/invoke/MethodHandle" ∧ yX3_clear.cls ≠ "java/lang/invoke/VarHandle" ∧ (parseMethodDescriptor yX3_clear.desc).map (fun d => d.parameters.length) = some 0 := by decide +kernel
theorem dX3_clear_0 : decode cX3_clear 0 = .ok (.aload_n 0, 1) := by decide +kernel
theorem dX3_clear_1 : decode cX3_clear 1 = .ok (.iconst 0, 1) := by decide +kernel
theorem dX3_clear_2 : decode cX3_clear 2 = .ok (.putfield 18, 3) := by decide +kernel
theorem dX3_clear_5 : decode cX3_clear 5 = .ok (.return_, 1) := by decide +kernel
set_option maxHeartbeats 4000000 in
set_option maxRecDepth 100000 in
theorem c_X3_clear {l : Launch} {D : va_G} {aC : Nat → ClassId} {a_q : Nat → Nat} (s_q : Ob_T) {out : Ob_T} (h : f_X3_clear s_q = some out) : M_W l yX3_clear wlX3_clear 0 0 D aC [.ref (a_q 0)] (wd_X3 aC a_q s_q) (none) (wd_X3 aC a_q out) := by
  refine k_entW (cc := cX3_clear) (ret := none) (maxL := 1) (own := RX3) (by decide) rfl rfl rfl ?_
  intro p e s m below meth c A ls hX hr hZ hl
  have hl : lv_has ls 1 [(0, .ref (a_q 0))] := hl
  generalize ([.ref (a_q 0)] : List Value).toArray = args at hX ⊢
  obtain ⟨hx, hb, hml, hown, hts, hK, hA, hlk⟩ := id hX
  unfold f_X3_clear at h
  generalize s.heap = H at hZ ⊢
  generalize ([] : List Loc) = locs at hZ ⊢
  refine lv_aload_n hx hb dX3_clear_0 rfl (lv_at hl 0 rfl) ?_
  refine lv_iconst (v := 0) hx hb dX3_clear_1 (by decide) ?_
  refine k_put (wf := (fun o => wd_X3 aC a_q o)) (o := s_q) hX hZ 0 3 rfl rfl iw_X3 tyX3 tyX3_ok nmX3 2 rfl (wm_397) rfl rfl rfl rfl rfl h dX3_clear_2 (fun o1 H locs hZ h => ?_)
  cases h
  exact k_vretW hX hr hZ dX3_clear_5
