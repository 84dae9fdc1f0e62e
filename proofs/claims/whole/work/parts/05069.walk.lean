def wlX3_kindsThatFit : List Cond := .code yX3_kindsThatFit cX3_kindsThatFit 3 (some .int) :: WL_
theorem hd_X3_kindsThatFit : yX3_kindsThatFit.cls = RX3 ∧ yX3_kindsThatFit.cls ≠ "java/lang/invoke/MethodHandle" ∧ yX3_kindsThatFit.cls ≠ "java/lang/invoke/VarHandle" ∧ (parseMethodDescriptor yX3_kindsThatFit.desc).map (fun d => d.parameters.length) = some 0 := by decide +kernel
theorem dX3_kindsThatFit_0 : decode cX3_kindsThatFit 0 = .ok (.iconst 0, 1) := by decide +kernel
theorem dX3_kindsThatFit_1 : decode cX3_kindsThatFit 1 = .ok (.istore_n 1, 1) := by decide +kernel
theorem dX3_kindsThatFit_2 : decode cX3_kindsThatFit 2 = .ok (.iconst 1, 1) := by decide +kernel
theorem dX3_kindsThatFit_3 : decode cX3_kindsThatFit 3 = .ok (.istore_n 2, 1) := by decide +kernel
theorem dX3_kindsThatFit_4 : decode cX3_kindsThatFit 4 = .ok (.iload_n 2, 1) := by decide +kernel
theorem dX3_kindsThatFit_5 : decode cX3_kindsThatFit 5 = .ok (.iconst 5, 1) := by decide +kernel
theorem dX3_kindsThatFit_6 : decode cX3_kindsThatFit 6 = .ok (.if_icmp .gt 27, 3) := by decide +kernel
theorem dX3_kindsThatFit_9 : decode cX3_kindsThatFit 9 = .ok (.iload_n 1, 1) := by decide +kernel
theorem dX3_kindsThatFit_10 : decode cX3_kindsThatFit 10 = .ok (.aload_n 0, 1) := by decide +kernel
theorem dX3_kindsThatFit_11 : decode cX3_kindsThatFit 11 = .ok (.iload_n 2, 1) := by decide +kernel
theorem dX3_kindsThatFit_12 : decode cX3_kindsThatFit 12 = .ok (.invokevirtual 22, 3) := by decide +kernel
theorem dX3_kindsThatFit_15 : decode cX3_kindsThatFit 15 = .ok (.ifCond .eq 9, 3) := by decide +kernel
theorem dX3_kindsThatFit_18 : decode cX3_kindsThatFit 18 = .ok (.iconst 1, 1) := by decide +kernel
theorem dX3_kindsThatFit_19 : decode cX3_kindsThatFit 19 = .ok (.iload_n 2, 1) := by decide +kernel
theorem dX3_kindsThatFit_20 : decode cX3_kindsThatFit 20 = .ok (.ishl, 1) := by decide +kernel
theorem dX3_kindsThatFit_21 : decode cX3_kindsThatFit 21 = .ok (.goto 4, 3) := by decide +kernel
theorem dX3_kindsThatFit_24 : decode cX3_kindsThatFit 24 = .ok (.iconst 0, 1) := by decide +kernel
theorem dX3_kindsThatFit_25 : decode cX3_kindsThatFit 25 = .ok (.ior, 1) := by decide +kernel
theorem dX3_kindsThatFit_26 : decode cX3_kindsThatFit 26 = .ok (.istore_n 1, 1) := by decide +kernel
theorem dX3_kindsThatFit_27 : decode cX3_kindsThatFit 27 = .ok (.iinc 2 1, 3) := by decide +kernel
theorem dX3_kindsThatFit_30 : decode cX3_kindsThatFit 30 = .ok (.goto (-26), 3) := by decide +kernel
theorem dX3_kindsThatFit_33 : decode cX3_kindsThatFit 33 = .ok (.iload_n 1, 1) := by decide +kernel
theorem dX3_kindsThatFit_34 : decode cX3_kindsThatFit 34 = .ok (.ireturn, 1) := by decide +kernel
set_option maxHeartbeats 4000000 in
set_option maxRecDepth 100000 in
theorem t_X3_kindsThatFit_L4 {p : Program} {l : Launch} {e : Env} {s : State} {m : MethodId} {args : Array Value} {below : List Frame} {meth : Method} {c : Code} {D : va_G} {aC : Nat → ClassId} {A : Nat → Prop} {a_q : Nat → Nat} {out : Int32} {s_q : Ob_T} {rec4 : (Int32 × Int32) → Option Int32} (hX : K_X p s m args meth c cX3_kindsThatFit 3 WL_ RX3 D aC A) (hr : meth.sig.returnType = (some .int)) (hZ : va_P D vwCl (wd_X3 aC a_q s_q) s.heap ∧ va_D (fun _ => True) (wd_X3 aC a_q s_q)) (hrec4 : ∀ x : Int32 × Int32, rec4 x = some out → ∀ (locs : List Loc) (ls : Array Slot), (∀ q ∈ locs, False) → lv_has ls 3 [(0, .ref (a_q 0)), (1, .int x.1), (2, .int x.2)] → W p l e (R_m 2 43) s m args below meth c s.heap locs 0 0 (MQ below (Q_R (some (.int out))) args s 0 0 (fun _ => False)) (F0 m 4 ls [])) (x1 : Int32) (x2 : Int32) (h : f_X3_kindsThatFit_L4 rec4 x1 x2 s_q = some out) (locs : List Loc) (ls : Array Slot) (hF : ∀ q ∈ locs, False) (hl : lv_has ls 3 [(0, .ref (a_q 0)), (1, .int x1), (2, .int x2)]) : W p l e (R_m 2 43) s m args below meth c s.heap locs 0 0 (MQ below (Q_R (some (.int out))) args s 0 0 (fun _ => False)) (F0 m 4 ls []) := by
  obtain ⟨hx, hb, hml, hown, hts, hK, hA, hlk⟩ := id hX
  unfold f_X3_kindsThatFit_L4 at h
  refine lv_iload_n hx hb dX3_kindsThatFit_4 rfl (lv_at hl 2 rfl) ?_
  refine lv_iconst (v := 5) hx hb dX3_kindsThatFit_5 (by decide) ?_
  refine lv_icmp_gt (tgt := 33) hx hb dX3_kindsThatFit_6 (by decide) (fun cd => ?_) (fun cd => ?_)
  · replace h := k_t cd h
    clear cd
    refine lv_iload_n hx hb dX3_kindsThatFit_33 rfl (lv_at hl 1 rfl) ?_
    cases h
    exact k_iretR hX hr hF dX3_kindsThatFit_34
  · replace h := k_f cd h
    clear cd
    refine lv_iload_n hx hb dX3_kindsThatFit_9 rfl (lv_at hl 1 rfl) ?_
    refine lv_aload_n hx hb dX3_kindsThatFit_10 rfl (lv_at hl 0 rfl) ?_
    refine lv_iload_n hx hb dX3_kindsThatFit_11 rfl (lv_at hl 2 rfl) ?_
    obtain ⟨u1, hu, h⟩ := k_bd h
    refine k_vRRs (As := [.int x2]) (rest := [.int x1]) (v := some (.int u1)) (st1 := [.int u1, .int x1]) hX hl.1 hZ hF (c_X3_fitsAll (a_q := a_q) s_q x2 hu) (gv_ wm_404 wm_406 wm_407 wm_401 wm_405) rfl hd_X3_fitsAll ⟨rfl, rfl⟩ 3 0 rfl rfl rfl rfl rfl dX3_kindsThatFit_12 rfl ⟨rfl, rfl⟩ (fun locs hF => ?_)
    clear hu
    refine lv_if_eq (tgt := 24) hx hb dX3_kindsThatFit_15 (by decide) (fun cd => ?_) (fun cd => ?_)
    · replace h := k_t cd h
      clear cd
      refine lv_iconst (v := 0) hx hb dX3_kindsThatFit_24 (by decide) ?_
      refine lv_ior hx hb dX3_kindsThatFit_25 ?_
      refine lv_istore_n (lv' := [(1, .int (x1 ||| (0 : Int32))), (0, .ref (a_q 0)), (2, .int x2)]) hx hb dX3_kindsThatFit_26 rfl hl (by decide) rfl (fun ls hl => ?_)
      refine lv_iinc (v := (x2 + (1 : Int32))) (lv' := [(2, .int (x2 + (1 : Int32))), (1, .int (x1 ||| (0 : Int32))), (0, .ref (a_q 0))]) hx hb dX3_kindsThatFit_27 hl (k := 2) rfl rfl (by decide) rfl (fun ls hl => ?_)
      refine lv_goto (tgt := 4) hx hb dX3_kindsThatFit_30 (by decide) ?_
      exact hrec4 ((x1 ||| (0 : Int32)), (x2 + (1 : Int32))) h locs ls hF (lv_sub hl [2, 1, 0] rfl)
    · replace h := k_f cd h
      clear cd
      refine lv_iconst (v := 1) hx hb dX3_kindsThatFit_18 (by decide) ?_
      refine lv_iload_n hx hb dX3_kindsThatFit_19 rfl (lv_at hl 2 rfl) ?_
      refine lv_ishl hx hb dX3_kindsThatFit_20 ?_
      refine lv_goto (tgt := 25) hx hb dX3_kindsThatFit_21 (by decide) ?_
      refine lv_ior hx hb dX3_kindsThatFit_25 ?_
      refine lv_topi (fun e2 he => ?_)
      replace h := k_lt he h
      clear he
      refine lv_istore_n (lv' := [(1, .int e2), (0, .ref (a_q 0)), (2, .int x2)]) hx hb dX3_kindsThatFit_26 rfl hl (by decide) rfl (fun ls hl => ?_)
      refine lv_iinc (v := (x2 + (1 : Int32))) (lv' := [(2, .int (x2 + (1 : Int32))), (1, .int e2), (0, .ref (a_q 0))]) hx hb dX3_kindsThatFit_27 hl (k := 2) rfl rfl (by decide) rfl (fun ls hl => ?_)
      refine lv_goto (tgt := 4) hx hb dX3_kindsThatFit_30 (by decide) ?_
      exact hrec4 (e2, (x2 + (1 : Int32))) h locs ls hF (lv_sub hl [2, 1, 0] rfl)
set_option maxHeartbeats 4000000 in
set_option maxRecDepth 100000 in
theorem c_X3_kindsThatFit {l : Launch} {D : va_G} {aC : Nat → ClassId} {a_q : Nat → Nat} (s_q : Ob_T) {out : Int32} (h : f_X3_kindsThatFit s_q = some out) : M_R l yX3_kindsThatFit wlX3_kindsThatFit 2 43 D aC [.ref (a_q 0)] (wd_X3 aC a_q s_q) (some (.int out)) := by
  refine k_entR (cc := cX3_kindsThatFit) (ret := (some .int)) (maxL := 3) (own := RX3) (by decide) rfl rfl rfl ?_
  intro p e s m below meth c A ls hX hr hZ hl
  have hl : lv_has ls 3 [(0, .ref (a_q 0))] := hl
  generalize ([.ref (a_q 0)] : List Value).toArray = args at hX ⊢
  obtain ⟨hx, hb, hml, hown, hts, hK, hA, hlk⟩ := id hX
  unfold f_X3_kindsThatFit at h
  have hF : ∀ q ∈ ([] : List Loc), False := fun _ h => nomatch h
  generalize ([] : List Loc) = locs at hF ⊢
  refine lv_iconst (v := 0) hx hb dX3_kindsThatFit_0 (by decide) ?_
  refine lv_istore_n (lv' := [(1, .int (0 : Int32)), (0, .ref (a_q 0))]) hx hb dX3_kindsThatFit_1 rfl hl (by decide) rfl (fun ls hl => ?_)
  refine lv_iconst (v := 1) hx hb dX3_kindsThatFit_2 (by decide) ?_
  refine lv_istore_n (lv' := [(2, .int (1 : Int32)), (1, .int (0 : Int32)), (0, .ref (a_q 0))]) hx hb dX3_kindsThatFit_3 rfl hl (by decide) rfl (fun ls hl => ?_)
  exact Lp_ok (body := (fun (rec : (Int32 × Int32) → Option Int32) x => f_X3_kindsThatFit_L4 rec x.1 x.2 s_q)) (out := out) (fun x => ∀ (locs : List Loc) (ls : Array Slot), (∀ q ∈ locs, False) → lv_has ls 3 [(0, .ref (a_q 0)), (1, .int x.1), (2, .int x.2)] → W p l e (R_m 2 43) s m args below meth c s.heap locs 0 0 (MQ below (Q_R (some (.int out))) args s 0 0 (fun _ => False)) (F0 m 4 ls [])) (fun rec hrec x h locs ls hF hl => t_X3_kindsThatFit_L4 hX hr hZ hrec x.1 x.2 h locs ls hF hl) FU_ ((0 : Int32), (1 : Int32)) h locs ls hF (lv_sub hl [2, 1, 0] rfl)
