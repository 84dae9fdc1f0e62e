def wlX9_givenMany : List Cond := .code yX9_givenMany cX9_givenMany 3 (some .int) :: WL_
theorem hd_X9_givenMany : yX9_givenMany.cls = RX9 ∧ yX9_givenMany.cls ≠ "java/lang/invoke/MethodHandle" ∧ yX9_givenMany.cls ≠ "java/lang/invoke/VarHandle" ∧ (parseMethodDescriptor yX9_givenMany.desc).map (fun d => d.parameters.length) = some 0 := by decide +kernel
theorem dX9_givenMany_0 : decode cX9_givenMany 0 = .ok (.iconst 0, 1) := by decide +kernel
theorem dX9_givenMany_1 : decode cX9_givenMany 1 = .ok (.istore_n 1, 1) := by decide +kernel
theorem dX9_givenMany_2 : decode cX9_givenMany 2 = .ok (.iconst 0, 1) := by decide +kernel
theorem dX9_givenMany_3 : decode cX9_givenMany 3 = .ok (.istore_n 2, 1) := by decide +kernel
theorem dX9_givenMany_4 : decode cX9_givenMany 4 = .ok (.iload_n 2, 1) := by decide +kernel
theorem dX9_givenMany_5 : decode cX9_givenMany 5 = .ok (.iconst 4, 1) := by decide +kernel
theorem dX9_givenMany_6 : decode cX9_givenMany 6 = .ok (.if_icmp .ge 26, 3) := by decide +kernel
theorem dX9_givenMany_9 : decode cX9_givenMany 9 = .ok (.iload_n 1, 1) := by decide +kernel
theorem dX9_givenMany_10 : decode cX9_givenMany 10 = .ok (.aload_n 0, 1) := by decide +kernel
theorem dX9_givenMany_11 : decode cX9_givenMany 11 = .ok (.getfield 16, 3) := by decide +kernel
theorem dX9_givenMany_14 : decode cX9_givenMany 14 = .ok (.iload_n 2, 1) := by decide +kernel
theorem dX9_givenMany_15 : decode cX9_givenMany 15 = .ok (.iaload, 1) := by decide +kernel
theorem dX9_givenMany_16 : decode cX9_givenMany 16 = .ok (.ifCond .ge 7, 3) := by decide +kernel
theorem dX9_givenMany_19 : decode cX9_givenMany 19 = .ok (.iconst 0, 1) := by decide +kernel
theorem dX9_givenMany_20 : decode cX9_givenMany 20 = .ok (.goto 4, 3) := by decide +kernel
theorem dX9_givenMany_23 : decode cX9_givenMany 23 = .ok (.iconst 1, 1) := by decide +kernel
theorem dX9_givenMany_24 : decode cX9_givenMany 24 = .ok (.iadd, 1) := by decide +kernel
theorem dX9_givenMany_25 : decode cX9_givenMany 25 = .ok (.istore_n 1, 1) := by decide +kernel
theorem dX9_givenMany_26 : decode cX9_givenMany 26 = .ok (.iinc 2 1, 3) := by decide +kernel
theorem dX9_givenMany_29 : decode cX9_givenMany 29 = .ok (.goto (-25), 3) := by decide +kernel
theorem dX9_givenMany_32 : decode cX9_givenMany 32 = .ok (.iload_n 1, 1) := by decide +kernel
theorem dX9_givenMany_33 : decode cX9_givenMany 33 = .ok (.ireturn, 1) := by decide +kernel
set_option maxHeartbeats 4000000 in
set_option maxRecDepth 100000 in
theorem t_X9_givenMany_L4 {p : Program} {l : Launch} {e : Env} {s : State} {m : MethodId} {args : Array Value} {below : List Frame} {meth : Method} {c : Code} {D : va_G} {aC : Nat → ClassId} {A : Nat → Prop} {a_o : Nat → Nat} {out : Int32} {s_o : Ob_T} {rec4 : (Int32 × Int32) → Option Int32} (hX : K_X p s m args meth c cX9_givenMany 3 WL_ RX9 D aC A) (hr : meth.sig.returnType = (some .int)) (hZ : va_P D vwCl (wd_X9 aC a_o s_o) s.heap ∧ va_D (fun _ => True) (wd_X9 aC a_o s_o)) (hrec4 : ∀ x : Int32 × Int32, rec4 x = some out → ∀ (locs : List Loc) (ls : Array Slot), (∀ q ∈ locs, False) → lv_has ls 3 [(0, .ref (a_o 0)), (1, .int x.1), (2, .int x.2)] → W p l e (R_m 0 0) s m args below meth c s.heap locs 0 0 (MQ below (Q_R (some (.int out))) args s 0 0 (fun _ => False)) (F0 m 4 ls [])) (x1 : Int32) (x2 : Int32) (h : f_X9_givenMany_L4 rec4 x1 x2 s_o = some out) (locs : List Loc) (ls : Array Slot) (hF : ∀ q ∈ locs, False) (hl : lv_has ls 3 [(0, .ref (a_o 0)), (1, .int x1), (2, .int x2)]) : W p l e (R_m 0 0) s m args below meth c s.heap locs 0 0 (MQ below (Q_R (some (.int out))) args s 0 0 (fun _ => False)) (F0 m 4 ls []) := by
  obtain ⟨hx, hb, hml, hown, hts, hK, hA, hlk⟩ := id hX
  unfold f_X9_givenMany_L4 at h
  refine lv_iload_n hx hb dX9_givenMany_4 rfl (lv_at hl 2 rfl) ?_
  refine lv_iconst (v := 4) hx hb dX9_givenMany_5 (by decide) ?_
  refine lv_icmp_ge (tgt := 32) hx hb dX9_givenMany_6 (by decide) (fun cd => ?_) (fun cd => ?_)
  · replace h := k_t cd h
    clear cd
    refine lv_iload_n hx hb dX9_givenMany_32 rfl (lv_at hl 1 rfl) ?_
    cases h
    exact k_iretR hX hr hF dX9_givenMany_33
  · replace h := k_f cd h
    clear cd
    refine lv_iload_n hx hb dX9_givenMany_9 rfl (lv_at hl 1 rfl) ?_
    refine lv_aload_n hx hb dX9_givenMany_10 rfl (lv_at hl 0 rfl) ?_
    refine k_get hX hZ.1 0 9 rfl rfl iw_X9 4 rfl (wm_118) (v := .ref (a_o 3)) rfl dX9_givenMany_11 ?_
    refine lv_iload_n hx hb dX9_givenMany_14 rfl (lv_at hl 2 rfl) ?_
    refine k_iald hX hZ.1 3 rfl h dX9_givenMany_15 (fun v1 h => ?_)
    refine lv_if_ge (tgt := 23) hx hb dX9_givenMany_16 (by decide) (fun cd => ?_) (fun cd => ?_)
    · replace h := k_t cd h
      clear cd
      refine lv_iconst (v := 1) hx hb dX9_givenMany_23 (by decide) ?_
      refine lv_iadd hx hb dX9_givenMany_24 ?_
      refine lv_istore_n (lv' := [(1, .int (x1 + (1 : Int32))), (0, .ref (a_o 0)), (2, .int x2)]) hx hb dX9_givenMany_25 rfl hl (by decide) rfl (fun ls hl => ?_)
      refine lv_iinc (v := (x2 + (1 : Int32))) (lv' := [(2, .int (x2 + (1 : Int32))), (1, .int (x1 + (1 : Int32))), (0, .ref (a_o 0))]) hx hb dX9_givenMany_26 hl (k := 2) rfl rfl (by decide) rfl (fun ls hl => ?_)
      refine lv_goto (tgt := 4) hx hb dX9_givenMany_29 (by decide) ?_
      exact hrec4 ((x1 + (1 : Int32)), (x2 + (1 : Int32))) h locs ls hF (lv_sub hl [2, 1, 0] rfl)
    · replace h := k_f cd h
      clear cd
      refine lv_iconst (v := 0) hx hb dX9_givenMany_19 (by decide) ?_
      refine lv_goto (tgt := 24) hx hb dX9_givenMany_20 (by decide) ?_
      refine lv_iadd hx hb dX9_givenMany_24 ?_
      refine lv_istore_n (lv' := [(1, .int (x1 + (0 : Int32))), (0, .ref (a_o 0)), (2, .int x2)]) hx hb dX9_givenMany_25 rfl hl (by decide) rfl (fun ls hl => ?_)
      refine lv_iinc (v := (x2 + (1 : Int32))) (lv' := [(2, .int (x2 + (1 : Int32))), (1, .int (x1 + (0 : Int32))), (0, .ref (a_o 0))]) hx hb dX9_givenMany_26 hl (k := 2) rfl rfl (by decide) rfl (fun ls hl => ?_)
      refine lv_goto (tgt := 4) hx hb dX9_givenMany_29 (by decide) ?_
      exact hrec4 ((x1 + (0 : Int32)), (x2 + (1 : Int32))) h locs ls hF (lv_sub hl [2, 1, 0] rfl)
set_option maxHeartbeats 4000000 in
set_option maxRecDepth 100000 in
theorem c_X9_givenMany {l : Launch} {D : va_G} {aC : Nat → ClassId} {a_o : Nat → Nat} (s_o : Ob_T) {out : Int32} (h : f_X9_givenMany s_o = some out) : M_R l yX9_givenMany wlX9_givenMany 0 0 D aC [.ref (a_o 0)] (wd_X9 aC a_o s_o) (some (.int out)) := by
  refine k_entR (cc := cX9_givenMany) (ret := (some .int)) (maxL := 3) (own := RX9) (by decide) rfl rfl rfl ?_
  intro p e s m below meth c A ls hX hr hZ hl
  have hl : lv_has ls 3 [(0, .ref (a_o 0))] := hl
  generalize ([.ref (a_o 0)] : List Value).toArray = args at hX ⊢
  obtain ⟨hx, hb, hml, hown, hts, hK, hA, hlk⟩ := id hX
  unfold f_X9_givenMany at h
  have hF : ∀ q ∈ ([] : List Loc), False := fun _ h => nomatch h
  generalize ([] : List Loc) = locs at hF ⊢
  refine lv_iconst (v := 0) hx hb dX9_givenMany_0 (by decide) ?_
  refine lv_istore_n (lv' := [(1, .int (0 : Int32)), (0, .ref (a_o 0))]) hx hb dX9_givenMany_1 rfl hl (by decide) rfl (fun ls hl => ?_)
  refine lv_iconst (v := 0) hx hb dX9_givenMany_2 (by decide) ?_
  refine lv_istore_n (lv' := [(2, .int (0 : Int32)), (1, .int (0 : Int32)), (0, .ref (a_o 0))]) hx hb dX9_givenMany_3 rfl hl (by decide) rfl (fun ls hl => ?_)
  exact Lp_ok (body := (fun (rec : (Int32 × Int32) → Option Int32) x => f_X9_givenMany_L4 rec x.1 x.2 s_o)) (out := out) (fun x => ∀ (locs : List Loc) (ls : Array Slot), (∀ q ∈ locs, False) → lv_has ls 3 [(0, .ref (a_o 0)), (1, .int x.1), (2, .int x.2)] → W p l e (R_m 0 0) s m args below meth c s.heap locs 0 0 (MQ below (Q_R (some (.int out))) args s 0 0 (fun _ => False)) (F0 m 4 ls [])) (fun rec hrec x h locs ls hF hl => t_X9_givenMany_L4 hX hr hZ hrec x.1 x.2 h locs ls hF hl) FU_ ((0 : Int32), (0 : Int32)) h locs ls hF (lv_sub hl [2, 1, 0] rfl)
def wlX9_isTold : List Cond := .code yX9_isTold cX9_isTold 1 (some .boolean) :: WL_
theorem hd_X9_isTold : yX9_isTold.cls ≠ "java/lang/invoke/MethodHandle" ∧ yX9_isTold.cls ≠ "java/lang/invoke/VarHandle" ∧ (parseMethodDescriptor yX9_isTold.desc).map (fun d => d.parameters.length) = some 1 := by decide +kernel
theorem dX9_isTold_0 : decode cX9_isTold 0 = .ok (.iload_n 0, 1) := by decide +kernel
theorem dX9_isTold_1 : decode cX9_isTold 1 = .ok (.i2l, 1) := by decide +kernel
theorem dX9_isTold_2 : decode cX9_isTold 2 = .ok (.lconst 0, 1) := by decide +kernel
theorem dX9_isTold_3 : decode cX9_isTold 3 = .ok (.ldc2_w 304, 3) := by decide +kernel
theorem dX9_isTold_6 : decode cX9_isTold 6 = .ok (.invokestatic 97, 3) := by decide +kernel
theorem dX9_isTold_9 : decode cX9_isTold 9 = .ok (.ireturn, 1) := by decide +kernel
set_option maxHeartbeats 4000000 in
set_option maxRecDepth 100000 in
theorem c_X9_isTold {l : Launch} {D : va_G} {aC : Nat → ClassId} (x0 : Int32) {out : Int32} (h : f_X9_isTold x0 = some out) : M_R l yX9_isTold wlX9_isTold 1 25 D aC [.int x0] (([] : va_W)) (some (.int out)) := by
  refine k_entR (cc := cX9_isTold) (ret := (some .boolean)) (maxL := 1) (own := RX9) (by decide) rfl rfl rfl ?_
  intro p e s m below meth c A ls hX hr hZ hl
  have hl : lv_has ls 1 [(0, .int x0)] := hl
  generalize ([.int x0] : List Value).toArray = args at hX ⊢
  obtain ⟨hx, hb, hml, hown, hts, hK, hA, hlk⟩ := id hX
  unfold f_X9_isTold at h
  have hF : ∀ q ∈ ([] : List Loc), False := fun _ h => nomatch h
  generalize ([] : List Loc) = locs at hF ⊢
  refine lv_iload_n hx hb dX9_isTold_0 rfl (lv_at hl 0 rfl) ?_
  refine lv_i2l (v := x0.toInt64) hx hb dX9_isTold_1 rfl ?_
  refine lv_lconst (v := 0) hx hb dX9_isTold_2 (by decide) ?_
  refine lv_ldc2 (v := 3) hx hb hown (hts _ wm_215) dX9_isTold_3 ?_
  obtain ⟨u1, hu, h⟩ := k_bd h
  refine k_sRR (As := [.long x0.toInt64, .long (0 : Int64), .long (3 : Int64)]) (rest := []) (wc := []) (v := some (.int u1)) (st1 := [.int u1]) hX hl.1 hZ hF (c_X9_in  x0.toInt64 (0 : Int64) (3 : Int64) hu) (gs_ wm_10 wm_13 wm_11 wm_12) rfl hd_X9_in ⟨rfl, rfl⟩ [] rfl rfl rfl rfl rfl dX9_isTold_6 rfl ⟨rfl, rfl⟩ (fun locs hF => ?_)
  clear hu
  obtain ⟨b2, hb0, h⟩ := k_bd h
  obtain ⟨hb1, hb2, hb3⟩ := k_zb hb0
  clear hb0
  cases h
  exact k_zretR hX hr hb2 hF dX9_isTold_9
