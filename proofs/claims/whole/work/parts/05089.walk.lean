def wlX7_isOpen : List Cond := .code yX7_isOpen cX7_isOpen 2 (some .boolean) :: WL_
theorem hd_X7_isOpen : yX7_isOpen.cls = RX7 ∧ yX7_isOpen.cls ≠ "java/lang/invoke/MethodHandle" ∧ yX7_isOpen.cls ≠ "java/lang/invoke/VarHandle" ∧ (parseMethodDescriptor yX7_isOpen.desc).map (fun d => d.parameters.length) = some 1 := by decide +kernel
theorem dX7_isOpen_0 : decode cX7_isOpen 0 = .ok (.aload_n 0, 1) := by decide +kernel
theorem dX7_isOpen_1 : decode cX7_isOpen 1 = .ok (.getfield 30, 3) := by decide +kernel
theorem dX7_isOpen_4 : decode cX7_isOpen 4 = .ok (.iload_n 1, 1) := by decide +kernel
theorem dX7_isOpen_5 : decode cX7_isOpen 5 = .ok (.ishr, 1) := by decide +kernel
theorem dX7_isOpen_6 : decode cX7_isOpen 6 = .ok (.iconst 1, 1) := by decide +kernel
theorem dX7_isOpen_7 : decode cX7_isOpen 7 = .ok (.iand, 1) := by decide +kernel
theorem dX7_isOpen_8 : decode cX7_isOpen 8 = .ok (.iconst 1, 1) := by decide +kernel
theorem dX7_isOpen_9 : decode cX7_isOpen 9 = .ok (.if_icmp .ne 7, 3) := by decide +kernel
theorem dX7_isOpen_12 : decode cX7_isOpen 12 = .ok (.iconst 1, 1) := by decide +kernel
theorem dX7_isOpen_13 : decode cX7_isOpen 13 = .ok (.goto 4, 3) := by decide +kernel
theorem dX7_isOpen_16 : decode cX7_isOpen 16 = .ok (.iconst 0, 1) := by decide +kernel
theorem dX7_isOpen_17 : decode cX7_isOpen 17 = .ok (.ireturn, 1) := by decide +kernel
set_option maxHeartbeats 4000000 in
set_option maxRecDepth 100000 in
theorem c_X7_isOpen {l : Launch} {D : va_G} {aC : Nat → ClassId} {a_w : Nat → Nat} {a_v : Nat → Nat} (s_w : Ob_T) (x1 : Int32) {out : Int32} (h : f_X7_isOpen s_w x1 = some out) : M_R l yX7_isOpen wlX7_isOpen 0 0 D aC [.ref (a_w 0), .int x1] (wd_X7 aC a_w (a_v 0) s_w) (some (.int out)) := by
  refine k_entR (cc := cX7_isOpen) (ret := (some .boolean)) (maxL := 2) (own := RX7) (by decide) rfl rfl rfl ?_
  intro p e s m below meth c A ls hX hr hZ hl
  have hl : lv_has ls 2 [(0, .ref (a_w 0)), (1, .int x1)] := hl
  generalize ([.ref (a_w 0), .int x1] : List Value).toArray = args at hX ⊢
  obtain ⟨hx, hb, hml, hown, hts, hK, hA, hlk⟩ := id hX
  unfold f_X7_isOpen at h
  have hF : ∀ q ∈ ([] : List Loc), False := fun _ h => nomatch h
  generalize ([] : List Loc) = locs at hF ⊢
  refine lv_aload_n hx hb dX7_isOpen_0 rfl (lv_at hl 0 rfl) ?_
  refine k_get hX hZ.1 0 7 rfl rfl iw_X7 3 rfl (wm_598) (v := .int (o_F s_w 3)) rfl dX7_isOpen_1 ?_
  refine lv_iload_n hx hb dX7_isOpen_4 rfl (lv_at hl 1 rfl) ?_
  refine lv_ishr hx hb dX7_isOpen_5 ?_
  refine lv_iconst (v := 1) hx hb dX7_isOpen_6 (by decide) ?_
  refine lv_iand hx hb dX7_isOpen_7 ?_
  refine lv_iconst (v := 1) hx hb dX7_isOpen_8 (by decide) ?_
  refine lv_icmp_ne (tgt := 16) hx hb dX7_isOpen_9 (by decide) (fun cd => ?_) (fun cd => ?_)
  · replace h := k_f cd h
    clear cd
    refine lv_iconst (v := 0) hx hb dX7_isOpen_16 (by decide) ?_
    cases h
    exact k_zretR (v := (0 : Int32)) hX hr rfl hF dX7_isOpen_17
  · replace h := k_t cd h
    clear cd
    refine lv_iconst (v := 1) hx hb dX7_isOpen_12 (by decide) ?_
    refine lv_goto (tgt := 17) hx hb dX7_isOpen_13 (by decide) ?_
    cases h
    exact k_zretR (v := (1 : Int32)) hX hr rfl hF dX7_isOpen_17
def wlX7_howManyAtMost : List Cond := .code yX7_howManyAtMost cX7_howManyAtMost 3 (some .int) :: WL_
theorem hd_X7_howManyAtMost : yX7_howManyAtMost.cls = RX7 ∧ yX7_howManyAtMost.cls ≠ "java/lang/invoke/MethodHandle" ∧ yX7_howManyAtMost.cls ≠ "java/lang/invoke/VarHandle" ∧ (parseMethodDescriptor yX7_howManyAtMost.desc).map (fun d => d.parameters.length) = some 0 := by decide +kernel
theorem dX7_howManyAtMost_0 : decode cX7_howManyAtMost 0 = .ok (.iconst 1, 1) := by decide +kernel
theorem dX7_howManyAtMost_1 : decode cX7_howManyAtMost 1 = .ok (.istore_n 1, 1) := by decide +kernel
theorem dX7_howManyAtMost_2 : decode cX7_howManyAtMost 2 = .ok (.iconst 0, 1) := by decide +kernel
theorem dX7_howManyAtMost_3 : decode cX7_howManyAtMost 3 = .ok (.istore_n 2, 1) := by decide +kernel
theorem dX7_howManyAtMost_4 : decode cX7_howManyAtMost 4 = .ok (.iload_n 2, 1) := by decide +kernel
theorem dX7_howManyAtMost_5 : decode cX7_howManyAtMost 5 = .ok (.iconst 4, 1) := by decide +kernel
theorem dX7_howManyAtMost_6 : decode cX7_howManyAtMost 6 = .ok (.if_icmp .ge 26, 3) := by decide +kernel
theorem dX7_howManyAtMost_9 : decode cX7_howManyAtMost 9 = .ok (.iload_n 1, 1) := by decide +kernel
theorem dX7_howManyAtMost_10 : decode cX7_howManyAtMost 10 = .ok (.aload_n 0, 1) := by decide +kernel
theorem dX7_howManyAtMost_11 : decode cX7_howManyAtMost 11 = .ok (.iload_n 2, 1) := by decide +kernel
theorem dX7_howManyAtMost_12 : decode cX7_howManyAtMost 12 = .ok (.invokevirtual 26, 3) := by decide +kernel
theorem dX7_howManyAtMost_15 : decode cX7_howManyAtMost 15 = .ok (.ifCond .eq 8, 3) := by decide +kernel
theorem dX7_howManyAtMost_18 : decode cX7_howManyAtMost 18 = .ok (.bipush 10, 2) := by decide +kernel
theorem dX7_howManyAtMost_20 : decode cX7_howManyAtMost 20 = .ok (.goto 4, 3) := by decide +kernel
theorem dX7_howManyAtMost_23 : decode cX7_howManyAtMost 23 = .ok (.iconst 1, 1) := by decide +kernel
theorem dX7_howManyAtMost_24 : decode cX7_howManyAtMost 24 = .ok (.imul, 1) := by decide +kernel
theorem dX7_howManyAtMost_25 : decode cX7_howManyAtMost 25 = .ok (.istore_n 1, 1) := by decide +kernel
theorem dX7_howManyAtMost_26 : decode cX7_howManyAtMost 26 = .ok (.iinc 2 1, 3) := by decide +kernel
theorem dX7_howManyAtMost_29 : decode cX7_howManyAtMost 29 = .ok (.goto (-25), 3) := by decide +kernel
theorem dX7_howManyAtMost_32 : decode cX7_howManyAtMost 32 = .ok (.iload_n 1, 1) := by decide +kernel
theorem dX7_howManyAtMost_33 : decode cX7_howManyAtMost 33 = .ok (.ireturn, 1) := by decide +kernel
set_option maxHeartbeats 4000000 in
set_option maxRecDepth 100000 in
theorem t_X7_howManyAtMost_L4 {p : Program} {l : Launch} {e : Env} {s : State} {m : MethodId} {args : Array Value} {below : List Frame} {meth : Method} {c : Code} {D : va_G} {aC : Nat → ClassId} {A : Nat → Prop} {a_w a_v : Nat → Nat} {out : Int32} {s_w : Ob_T} {rec4 : (Int32 × Int32) → Option Int32} (hX : K_X p s m args meth c cX7_howManyAtMost 3 WL_ RX7 D aC A) (hr : meth.sig.returnType = (some .int)) (hZ : va_P D vwCl (wd_X7 aC a_w (a_v 0) s_w) s.heap ∧ va_D (fun _ => True) (wd_X7 aC a_w (a_v 0) s_w)) (hrec4 : ∀ x : Int32 × Int32, rec4 x = some out → ∀ (locs : List Loc) (ls : Array Slot), (∀ q ∈ locs, False) → lv_has ls 3 [(0, .ref (a_w 0)), (1, .int x.1), (2, .int x.2)] → W p l e (R_m 1 21) s m args below meth c s.heap locs 0 0 (MQ below (Q_R (some (.int out))) args s 0 0 (fun _ => False)) (F0 m 4 ls [])) (x1 : Int32) (x2 : Int32) (h : f_X7_howManyAtMost_L4 rec4 x1 x2 s_w = some out) (locs : List Loc) (ls : Array Slot) (hF : ∀ q ∈ locs, False) (hl : lv_has ls 3 [(0, .ref (a_w 0)), (1, .int x1), (2, .int x2)]) : W p l e (R_m 1 21) s m args below meth c s.heap locs 0 0 (MQ below (Q_R (some (.int out))) args s 0 0 (fun _ => False)) (F0 m 4 ls []) := by
  obtain ⟨hx, hb, hml, hown, hts, hK, hA, hlk⟩ := id hX
  unfold f_X7_howManyAtMost_L4 at h
  refine lv_iload_n hx hb dX7_howManyAtMost_4 rfl (lv_at hl 2 rfl) ?_
  refine lv_iconst (v := 4) hx hb dX7_howManyAtMost_5 (by decide) ?_
  refine lv_icmp_ge (tgt := 32) hx hb dX7_howManyAtMost_6 (by decide) (fun cd => ?_) (fun cd => ?_)
  · replace h := k_t cd h
    clear cd
    refine lv_iload_n hx hb dX7_howManyAtMost_32 rfl (lv_at hl 1 rfl) ?_
    cases h
    exact k_iretR hX hr hF dX7_howManyAtMost_33
  · replace h := k_f cd h
    clear cd
    refine lv_iload_n hx hb dX7_howManyAtMost_9 rfl (lv_at hl 1 rfl) ?_
    refine lv_aload_n hx hb dX7_howManyAtMost_10 rfl (lv_at hl 0 rfl) ?_
    refine lv_iload_n hx hb dX7_howManyAtMost_11 rfl (lv_at hl 2 rfl) ?_
    obtain ⟨u1, hu, h⟩ := k_bd h
    refine k_vRRs (As := [.int x2]) (rest := [.int x1]) (v := some (.int u1)) (st1 := [.int u1, .int x1]) hX hl.1 hZ hF (c_X7_isOpen (a_w := a_w) (a_v := a_v) s_w x2 hu) (gv_ wm_599 wm_602 wm_603 wm_600 wm_601) rfl hd_X7_isOpen ⟨rfl, rfl⟩ 7 0 rfl rfl rfl rfl rfl dX7_howManyAtMost_12 rfl ⟨rfl, rfl⟩ (fun locs hF => ?_)
    clear hu
    refine lv_if_eq (tgt := 23) hx hb dX7_howManyAtMost_15 (by decide) (fun cd => ?_) (fun cd => ?_)
    · replace h := k_t cd h
      clear cd
      refine lv_iconst (v := 1) hx hb dX7_howManyAtMost_23 (by decide) ?_
      refine lv_imul hx hb dX7_howManyAtMost_24 ?_
      refine lv_istore_n (lv' := [(1, .int (x1 * (1 : Int32))), (0, .ref (a_w 0)), (2, .int x2)]) hx hb dX7_howManyAtMost_25 rfl hl (by decide) rfl (fun ls hl => ?_)
      refine lv_iinc (v := (x2 + (1 : Int32))) (lv' := [(2, .int (x2 + (1 : Int32))), (1, .int (x1 * (1 : Int32))), (0, .ref (a_w 0))]) hx hb dX7_howManyAtMost_26 hl (k := 2) rfl rfl (by decide) rfl (fun ls hl => ?_)
      refine lv_goto (tgt := 4) hx hb dX7_howManyAtMost_29 (by decide) ?_
      exact hrec4 ((x1 * (1 : Int32)), (x2 + (1 : Int32))) h locs ls hF (lv_sub hl [2, 1, 0] rfl)
    · replace h := k_f cd h
      clear cd
      refine lv_bipush (v := 10) hx hb dX7_howManyAtMost_18 (by decide) ?_
      refine lv_goto (tgt := 24) hx hb dX7_howManyAtMost_20 (by decide) ?_
      refine lv_imul hx hb dX7_howManyAtMost_24 ?_
      refine lv_istore_n (lv' := [(1, .int (x1 * (10 : Int32))), (0, .ref (a_w 0)), (2, .int x2)]) hx hb dX7_howManyAtMost_25 rfl hl (by decide) rfl (fun ls hl => ?_)
      refine lv_iinc (v := (x2 + (1 : Int32))) (lv' := [(2, .int (x2 + (1 : Int32))), (1, .int (x1 * (10 : Int32))), (0, .ref (a_w 0))]) hx hb dX7_howManyAtMost_26 hl (k := 2) rfl rfl (by decide) rfl (fun ls hl => ?_)
      refine lv_goto (tgt := 4) hx hb dX7_howManyAtMost_29 (by decide) ?_
      exact hrec4 ((x1 * (10 : Int32)), (x2 + (1 : Int32))) h locs ls hF (lv_sub hl [2, 1, 0] rfl)
set_option maxHeartbeats 4000000 in
set_option maxRecDepth 100000 in
theorem c_X7_howManyAtMost {l : Launch} {D : va_G} {aC : Nat → ClassId} {a_w : Nat → Nat} {a_v : Nat → Nat} (s_w : Ob_T) {out : Int32} (h : f_X7_howManyAtMost s_w = some out) : M_R l yX7_howManyAtMost wlX7_howManyAtMost 1 21 D aC [.ref (a_w 0)] (wd_X7 aC a_w (a_v 0) s_w) (some (.int out)) := by
  refine k_entR (cc := cX7_howManyAtMost) (ret := (some .int)) (maxL := 3) (own := RX7) (by decide) rfl rfl rfl ?_
  intro p e s m below meth c A ls hX hr hZ hl
  have hl : lv_has ls 3 [(0, .ref (a_w 0))] := hl
  generalize ([.ref (a_w 0)] : List Value).toArray = args at hX ⊢
  obtain ⟨hx, hb, hml, hown, hts, hK, hA, hlk⟩ := id hX
  unfold f_X7_howManyAtMost at h
  have hF : ∀ q ∈ ([] : List Loc), False := fun _ h => nomatch h
  generalize ([] : List Loc) = locs at hF ⊢
  refine lv_iconst (v := 1) hx hb dX7_howManyAtMost_0 (by decide) ?_
  refine lv_istore_n (lv' := [(1, .int (1 : Int32)), (0, .ref (a_w 0))]) hx hb dX7_howManyAtMost_1 rfl hl (by decide) rfl (fun ls hl => ?_)
  refine lv_iconst (v := 0) hx hb dX7_howManyAtMost_2 (by decide) ?_
  refine lv_istore_n (lv' := [(2, .int (0 : Int32)), (1, .int (1 : Int32)), (0, .ref (a_w 0))]) hx hb dX7_howManyAtMost_3 rfl hl (by decide) rfl (fun ls hl => ?_)
  exact Lp_ok (body := (fun (rec : (Int32 × Int32) → Option Int32) x => f_X7_howManyAtMost_L4 rec x.1 x.2 s_w)) (out := out) (fun x => ∀ (locs : List Loc) (ls : Array Slot), (∀ q ∈ locs, False) → lv_has ls 3 [(0, .ref (a_w 0)), (1, .int x.1), (2, .int x.2)] → W p l e (R_m 1 21) s m args below meth c s.heap locs 0 0 (MQ below (Q_R (some (.int out))) args s 0 0 (fun _ => False)) (F0 m 4 ls [])) (fun rec hrec x h locs ls hF hl => t_X7_howManyAtMost_L4 hX hr hZ hrec x.1 x.2 h locs ls hF hl) FU_ ((1 : Int32), (0 : Int32)) h locs ls hF (lv_sub hl [2, 1, 0] rfl)
def wlX7_firstOf : List Cond := .code yX7_firstOf cX7_firstOf 2 (some .int) :: WL_
theorem hd_X7_firstOf : yX7_firstOf.cls = RX7 ∧ yX7_firstOf.cls ≠ "java/lang/invoke/MethodHandle" ∧ yX7_firstOf.cls ≠ "java/lang/invoke/VarHandle" ∧ (parseMethodDescriptor yX7_firstOf.desc).map (fun d => d.parameters.length) = some 1 := by decide +kernel
theorem dX7_firstOf_0 : decode cX7_firstOf 0 = .ok (.aload_n 0, 1) := by decide +kernel
theorem dX7_firstOf_1 : decode cX7_firstOf 1 = .ok (.getfield 15, 3) := by decide +kernel
theorem dX7_firstOf_4 : decode cX7_firstOf 4 = .ok (.iload_n 1, 1) := by decide +kernel
theorem dX7_firstOf_5 : decode cX7_firstOf 5 = .ok (.iaload, 1) := by decide +kernel
theorem dX7_firstOf_6 : decode cX7_firstOf 6 = .ok (.ireturn, 1) := by decide +kernel
set_option maxHeartbeats 4000000 in
set_option maxRecDepth 100000 in
theorem c_X7_firstOf {l : Launch} {D : va_G} {aC : Nat → ClassId} {a_w : Nat → Nat} {a_v : Nat → Nat} (s_w : Ob_T) (x1 : Int32) {out : Int32} (h : f_X7_firstOf s_w x1 = some out) : M_R l yX7_firstOf wlX7_firstOf 0 0 D aC [.ref (a_w 0), .int x1] (wd_X7 aC a_w (a_v 0) s_w) (some (.int out)) := by
  refine k_entR (cc := cX7_firstOf) (ret := (some .int)) (maxL := 2) (own := RX7) (by decide) rfl rfl rfl ?_
  intro p e s m below meth c A ls hX hr hZ hl
  have hl : lv_has ls 2 [(0, .ref (a_w 0)), (1, .int x1)] := hl
  generalize ([.ref (a_w 0), .int x1] : List Value).toArray = args at hX ⊢
  obtain ⟨hx, hb, hml, hown, hts, hK, hA, hlk⟩ := id hX
  unfold f_X7_firstOf at h
  have hF : ∀ q ∈ ([] : List Loc), False := fun _ h => nomatch h
  generalize ([] : List Loc) = locs at hF ⊢
  refine lv_aload_n hx hb dX7_firstOf_0 rfl (lv_at hl 0 rfl) ?_
  refine k_get hX hZ.1 0 7 rfl rfl iw_X7 2 rfl (wm_604) (v := .ref (a_w 2)) rfl dX7_firstOf_1 ?_
  refine lv_iload_n hx hb dX7_firstOf_4 rfl (lv_at hl 1 rfl) ?_
  refine k_iald hX hZ.1 2 rfl h dX7_firstOf_5 (fun v1 h => ?_)
  cases h
  exact k_iretR hX hr hF dX7_firstOf_6
def wlX7_findNone : List Cond := .code yX7_findNone cX7_findNone 2 none :: WL_
theorem hd_X7_findNone : yX7_findNone.cls = RX7 ∧ yX7_findNone.cls ≠ "java/lang/invoke/MethodHandle" ∧ yX7_findNone.cls ≠ "java/lang/invoke/VarHandle" ∧ (parseMethodDescriptor yX7_findNone.desc).map (fun d => d.parameters.length) = some 1 := by decide +kernel
theorem dX7_findNone_0 : decode cX7_findNone 0 = .ok (.aload_n 0, 1) := by decide +kernel
theorem dX7_findNone_1 : decode cX7_findNone 1 = .ok (.iload_n 1, 1) := by decide +kernel
theorem dX7_findNone_2 : decode cX7_findNone 2 = .ok (.putfield 30, 3) := by decide +kernel
theorem dX7_findNone_5 : decode cX7_findNone 5 = .ok (.aload_n 0, 1) := by decide +kernel
theorem dX7_findNone_6 : decode cX7_findNone 6 = .ok (.iconst 0, 1) := by decide +kernel
theorem dX7_findNone_7 : decode cX7_findNone 7 = .ok (.putfield 22, 3) := by decide +kernel
theorem dX7_findNone_10 : decode cX7_findNone 10 = .ok (.aload_n 0, 1) := by decide +kernel
theorem dX7_findNone_11 : decode cX7_findNone 11 = .ok (.getfield 9, 3) := by decide +kernel
theorem dX7_findNone_14 : decode cX7_findNone 14 = .ok (.iconst (-1), 1) := by decide +kernel
theorem dX7_findNone_15 : decode cX7_findNone 15 = .ok (.invokestatic 54, 3) := by decide +kernel
theorem dX7_findNone_18 : decode cX7_findNone 18 = .ok (.aload_n 0, 1) := by decide +kernel
theorem dX7_findNone_19 : decode cX7_findNone 19 = .ok (.getfield 15, 3) := by decide +kernel
theorem dX7_findNone_22 : decode cX7_findNone 22 = .ok (.iconst (-1), 1) := by decide +kernel
theorem dX7_findNone_23 : decode cX7_findNone 23 = .ok (.invokestatic 54, 3) := by decide +kernel
theorem dX7_findNone_26 : decode cX7_findNone 26 = .ok (.return_, 1) := by decide +kernel
set_option maxHeartbeats 4000000 in
set_option maxRecDepth 100000 in
theorem c_X7_findNone {l : Launch} {D : va_G} {aC : Nat → ClassId} {a_w : Nat → Nat} {a_v : Nat → Nat} (s_w : Ob_T) (x1 : Int32) {out : Ob_T} (h : f_X7_findNone s_w x1 = some out) : M_W l yX7_findNone wlX7_findNone 1 23 D aC [.ref (a_w 0), .int x1] (wd_X7 aC a_w (a_v 0) s_w) (none) (wd_X7 aC a_w (a_v 0) out) := by
  refine k_entW (cc := cX7_findNone) (ret := none) (maxL := 2) (own := RX7) (by decide) rfl rfl rfl ?_
  intro p e s m below meth c A ls hX hr hZ hl
  have hl : lv_has ls 2 [(0, .ref (a_w 0)), (1, .int x1)] := hl
  generalize ([.ref (a_w 0), .int x1] : List Value).toArray = args at hX ⊢
  obtain ⟨hx, hb, hml, hown, hts, hK, hA, hlk⟩ := id hX
  unfold f_X7_findNone at h
  generalize s.heap = H at hZ ⊢
  generalize ([] : List Loc) = locs at hZ ⊢
  refine lv_aload_n hx hb dX7_findNone_0 rfl (lv_at hl 0 rfl) ?_
  refine lv_iload_n hx hb dX7_findNone_1 rfl (lv_at hl 1 rfl) ?_
  refine k_put (wf := (fun o => wd_X7 aC a_w (a_v 0) o)) (o := s_w) hX hZ 0 7 rfl rfl iw_X7 tyX7 tyX7_ok nmX7 3 rfl (wm_598) rfl rfl rfl rfl rfl h dX7_findNone_2 (fun o1 H locs hZ h => ?_)
  refine lv_aload_n hx hb dX7_findNone_5 rfl (lv_at hl 0 rfl) ?_
  refine lv_iconst (v := 0) hx hb dX7_findNone_6 (by decide) ?_
  refine k_put (wf := (fun o => wd_X7 aC a_w (a_v 0) o)) (o := o1) hX hZ 0 7 rfl rfl iw_X7 tyX7 tyX7_ok nmX7 5 rfl (wm_597) rfl rfl rfl rfl rfl h dX7_findNone_7 (fun o2 H locs hZ h => ?_)
  refine lv_aload_n hx hb dX7_findNone_10 rfl (lv_at hl 0 rfl) ?_
  refine k_get hX hZ.1 0 7 rfl rfl iw_X7 1 rfl (wm_605) (v := .ref (a_w 1)) rfl dX7_findNone_11 ?_
  refine lv_iconst (v := -1) hx hb dX7_findNone_14 (by decide) ?_
  obtain ⟨u3, hu, h⟩ := k_bd h
  refine k_sW (As := [.ref (a_w 1), .int (-1 : Int32)]) (rest := []) (wc := wd_AR aC (fun _ => (a_w 1)) 4 (p_A ob_0 0 (o_A o2 1))) (w1 := wd_AR aC (fun _ => (a_w 1)) 4 u3) (v := none) (st1 := []) (w' := wd_X7 aC a_w (a_v 0) (p_A o2 1 (o_A u3 0))) hX hl.1 hZ (c_J7_fill_53178 (a_ar := (fun _ => (a_w 1))) (z_ar := 4) (p_A ob_0 0 (o_A o2 1)) (-1 : Int32) hu) (gs_ wm_606 wm_295 wm_4 wm_294) rfl hd_J7_fill_53178 ⟨rfl, rfl⟩ [1] rfl rfl rfl rfl rfl dX7_findNone_15 rfl ⟨rfl, rfl⟩ rfl rfl rfl (fun H locs hZ => ?_)
  clear hu
  obtain ⟨o4, eo⟩ : ∃ z, z = p_A o2 1 (o_A u3 0) := ⟨_, rfl⟩
  replace h := k_lt eo h
  rw [← eo] at hZ
  clear eo
  refine lv_aload_n hx hb dX7_findNone_18 rfl (lv_at hl 0 rfl) ?_
  refine k_get hX hZ.1 0 7 rfl rfl iw_X7 2 rfl (wm_604) (v := .ref (a_w 2)) rfl dX7_findNone_19 ?_
  refine lv_iconst (v := -1) hx hb dX7_findNone_22 (by decide) ?_
  obtain ⟨u5, hu, h⟩ := k_bd h
  refine k_sW (As := [.ref (a_w 2), .int (-1 : Int32)]) (rest := []) (wc := wd_AR aC (fun _ => (a_w 2)) 4 (p_A ob_0 0 (o_A o4 2))) (w1 := wd_AR aC (fun _ => (a_w 2)) 4 u5) (v := none) (st1 := []) (w' := wd_X7 aC a_w (a_v 0) (p_A o4 2 (o_A u5 0))) hX hl.1 hZ (c_J7_fill_53178 (a_ar := (fun _ => (a_w 2))) (z_ar := 4) (p_A ob_0 0 (o_A o4 2)) (-1 : Int32) hu) (gs_ wm_606 wm_295 wm_4 wm_294) rfl hd_J7_fill_53178 ⟨rfl, rfl⟩ [2] rfl rfl rfl rfl rfl dX7_findNone_23 rfl ⟨rfl, rfl⟩ rfl rfl rfl (fun H locs hZ => ?_)
  clear hu
  obtain ⟨o6, eo⟩ : ∃ z, z = p_A o4 2 (o_A u5 0) := ⟨_, rfl⟩
  replace h := k_lt eo h
  rw [← eo] at hZ
  clear eo
  cases h
  exact k_vretW hX hr hZ dX7_findNone_26
def wlX7_waysAsSettled : List Cond := .code yX7_waysAsSettled cX7_waysAsSettled 2 (some .int) :: WL_
theorem hd_X7_waysAsSettled : yX7_waysAsSettled.cls = RX7 ∧ yX7_waysAsSettled.cls ≠ "java/lang/invoke/MethodHandle" ∧ yX7_waysAsSettled.cls ≠ "java/lang/invoke/VarHandle" ∧ (parseMethodDescriptor yX7_waysAsSettled.desc).map (fun d => d.parameters.length) = some 1 := by decide +kernel
theorem dX7_waysAsSettled_0 : decode cX7_waysAsSettled 0 = .ok (.aload_n 0, 1) := by decide +kernel
theorem dX7_waysAsSettled_1 : decode cX7_waysAsSettled 1 = .ok (.getfield 18, 3) := by decide +kernel
theorem dX7_waysAsSettled_4 : decode cX7_waysAsSettled 4 = .ok (.invokevirtual 67, 3) := by decide +kernel
theorem dX7_waysAsSettled_7 : decode cX7_waysAsSettled 7 = .ok (.ifCond .eq 5, 3) := by decide +kernel
theorem dX7_waysAsSettled_10 : decode cX7_waysAsSettled 10 = .ok (.iconst 0, 1) := by decide +kernel
theorem dX7_waysAsSettled_11 : decode cX7_waysAsSettled 11 = .ok (.ireturn, 1) := by decide +kernel
theorem dX7_waysAsSettled_12 : decode cX7_waysAsSettled 12 = .ok (.iload_n 1, 1) := by decide +kernel
theorem dX7_waysAsSettled_13 : decode cX7_waysAsSettled 13 = .ok (.ifCond .ne 17, 3) := by decide +kernel
theorem dX7_waysAsSettled_16 : decode cX7_waysAsSettled 16 = .ok (.aload_n 0, 1) := by decide +kernel
theorem dX7_waysAsSettled_17 : decode cX7_waysAsSettled 17 = .ok (.getfield 9, 3) := by decide +kernel
theorem dX7_waysAsSettled_20 : decode cX7_waysAsSettled 20 = .ok (.iconst 0, 1) := by decide +kernel
theorem dX7_waysAsSettled_21 : decode cX7_waysAsSettled 21 = .ok (.aload_n 0, 1) := by decide +kernel
theorem dX7_waysAsSettled_22 : decode cX7_waysAsSettled 22 = .ok (.getfield 15, 3) := by decide +kernel
theorem dX7_waysAsSettled_25 : decode cX7_waysAsSettled 25 = .ok (.iconst 0, 1) := by decide +kernel
theorem dX7_waysAsSettled_26 : decode cX7_waysAsSettled 26 = .ok (.iconst 4, 1) := by decide +kernel
theorem dX7_waysAsSettled_27 : decode cX7_waysAsSettled 27 = .ok (.invokestatic 82, 3) := by decide +kernel
theorem dX7_waysAsSettled_30 : decode cX7_waysAsSettled 30 = .ok (.iconst 1, 1) := by decide +kernel
theorem dX7_waysAsSettled_31 : decode cX7_waysAsSettled 31 = .ok (.ireturn, 1) := by decide +kernel
set_option maxHeartbeats 4000000 in
set_option maxRecDepth 100000 in
theorem c_X7_waysAsSettled {l : Launch} {D : va_G} {aC : Nat → ClassId} {a_w : Nat → Nat} {a_v : Nat → Nat} {a_n : Nat → Nat} {a_d : Nat → Nat} (s_w : Ob_T) (s_v : Ob_T) (x1 : Int32) {out : Int32 × Ob_T} (h : f_X7_waysAsSettled s_w s_v x1 = some out) : M_W l yX7_waysAsSettled wlX7_waysAsSettled 1 100 D aC [.ref (a_w 0), .int x1] (wd_X7 aC a_w (a_v 0) s_w ++ wd_X5 aC a_v (a_n 0) (a_d 0) s_v) (some (.int out.1)) (wd_X7 aC a_w (a_v 0) out.2 ++ wd_X5 aC a_v (a_n 0) (a_d 0) s_v) := by
  refine k_entW (cc := cX7_waysAsSettled) (ret := (some .int)) (maxL := 2) (own := RX7) (by decide) rfl rfl rfl ?_
  intro p e s m below meth c A ls hX hr hZ hl
  have hl : lv_has ls 2 [(0, .ref (a_w 0)), (1, .int x1)] := hl
  generalize ([.ref (a_w 0), .int x1] : List Value).toArray = args at hX ⊢
  obtain ⟨hx, hb, hml, hown, hts, hK, hA, hlk⟩ := id hX
  unfold f_X7_waysAsSettled at h
  generalize s.heap = H at hZ ⊢
  generalize ([] : List Loc) = locs at hZ ⊢
  refine lv_aload_n hx hb dX7_waysAsSettled_0 rfl (lv_at hl 0 rfl) ?_
  refine k_get hX hZ.1 0 7 rfl rfl iw_X7 0 rfl (wm_607) (v := .ref (a_v 0)) rfl dX7_waysAsSettled_1 ?_
  obtain ⟨u1, hu, h⟩ := k_bd h
  refine k_vR (As := []) (rest := []) (wc := wd_X5 aC a_v (a_n 0) (a_d 0) s_v) (v := some (.int u1)) (st1 := [.int u1]) hX hl.1 hZ (c_X5_hasFailed (a_v := a_v) (a_n := a_n) (a_d := a_d) s_v hu) (gv_ wm_609 wm_456 wm_457 wm_432 wm_455) rfl hd_X5_hasFailed ⟨rfl, rfl⟩ 5 0 rfl rfl [3, 4, 5, 6, 7] rfl rfl rfl rfl rfl dX7_waysAsSettled_4 rfl ⟨rfl, rfl⟩ (fun locs hZ => ?_)
  clear hu
  refine lv_if_eq (tgt := 12) hx hb dX7_waysAsSettled_7 (by decide) (fun cd => ?_) (fun cd => ?_)
  · replace h := k_t cd h
    clear cd
    refine lv_iload_n hx hb dX7_waysAsSettled_12 rfl (lv_at hl 1 rfl) ?_
    refine lv_if_ne (tgt := 30) hx hb dX7_waysAsSettled_13 (by decide) (fun cd => ?_) (fun cd => ?_)
    · replace h := k_f cd h
      clear cd
      refine lv_iconst (v := 1) hx hb dX7_waysAsSettled_30 (by decide) ?_
      cases h
      exact k_iretW hX hr hZ dX7_waysAsSettled_31
    · replace h := k_t cd h
      clear cd
      refine lv_aload_n hx hb dX7_waysAsSettled_16 rfl (lv_at hl 0 rfl) ?_
      refine k_get hX hZ.1 0 7 rfl rfl iw_X7 1 rfl (wm_605) (v := .ref (a_w 1)) rfl dX7_waysAsSettled_17 ?_
      refine lv_iconst (v := 0) hx hb dX7_waysAsSettled_20 (by decide) ?_
      refine lv_aload_n hx hb dX7_waysAsSettled_21 rfl (lv_at hl 0 rfl) ?_
      refine k_get hX hZ.1 0 7 rfl rfl iw_X7 2 rfl (wm_604) (v := .ref (a_w 2)) rfl dX7_waysAsSettled_22 ?_
      refine lv_iconst (v := 0) hx hb dX7_waysAsSettled_25 (by decide) ?_
      refine lv_iconst (v := 4) hx hb dX7_waysAsSettled_26 (by decide) ?_
      refine k_copy (wf := (fun o => wd_X7 aC a_w (a_v 0) o ++ wd_X5 aC a_v (a_n 0) (a_d 0) s_v)) (o := s_w) hX hl.1 hZ 1 2 2 rfl rfl (fun _ => rfl) (hts _ wm_608) (hts _ wm_308) (hts _ wm_309) (hts _ wm_310) rfl rfl h dX7_waysAsSettled_27 (fun o3 H locs hZ h => ?_)
      refine lv_iconst (v := 1) hx hb dX7_waysAsSettled_30 (by decide) ?_
      cases h
      exact k_iretW hX hr hZ dX7_waysAsSettled_31
  · replace h := k_f cd h
    clear cd
    refine lv_iconst (v := 0) hx hb dX7_waysAsSettled_10 (by decide) ?_
    cases h
    exact k_iretW hX hr hZ dX7_waysAsSettled_11
