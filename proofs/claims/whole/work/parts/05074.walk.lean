def wlX5_clearFail : List Cond := .code yX5_clearFail cX5_clearFail 2 none :: WL_
theorem hd_X5_clearFail : yX5_clearFail.cls = RX5 ∧ yX5_clearFail.cls ≠ "java/lang/invoke/MethodHandle" ∧ yX5_clearFail.cls ≠ "java/lang/invoke/VarHandle" ∧ (parseMethodDescriptor yX5_clearFail.desc).map (fun d => d.parameters.length) = some 0 := by decide +kernel
theorem dX5_clearFail_0 : decode cX5_clearFail 0 = .ok (.aload_n 0, 1) := by decide +kernel
theorem dX5_clearFail_1 : decode cX5_clearFail 1 = .ok (.iconst 0, 1) := by decide +kernel
theorem dX5_clearFail_2 : decode cX5_clearFail 2 = .ok (.putfield 42, 3) := by decide +kernel
theorem dX5_clearFail_5 : decode cX5_clearFail 5 = .ok (.iconst 0, 1) := by decide +kernel
theorem dX5_clearFail_6 : decode cX5_clearFail 6 = .ok (.istore_n 1, 1) := by decide +kernel
theorem dX5_clearFail_7 : decode cX5_clearFail 7 = .ok (.iload_n 1, 1) := by decide +kernel
theorem dX5_clearFail_8 : decode cX5_clearFail 8 = .ok (.iconst 5, 1) := by decide +kernel
theorem dX5_clearFail_9 : decode cX5_clearFail 9 = .ok (.if_icmp .ge 16, 3) := by decide +kernel
theorem dX5_clearFail_12 : decode cX5_clearFail 12 = .ok (.aload_n 0, 1) := by decide +kernel
theorem dX5_clearFail_13 : decode cX5_clearFail 13 = .ok (.getfield 28, 3) := by decide +kernel
theorem dX5_clearFail_16 : decode cX5_clearFail 16 = .ok (.iload_n 1, 1) := by decide +kernel
theorem dX5_clearFail_17 : decode cX5_clearFail 17 = .ok (.iconst (-1), 1) := by decide +kernel
theorem dX5_clearFail_18 : decode cX5_clearFail 18 = .ok (.iastore, 1) := by decide +kernel
theorem dX5_clearFail_19 : decode cX5_clearFail 19 = .ok (.iinc 1 1, 3) := by decide +kernel
theorem dX5_clearFail_22 : decode cX5_clearFail 22 = .ok (.goto (-15), 3) := by decide +kernel
theorem dX5_clearFail_25 : decode cX5_clearFail 25 = .ok (.return_, 1) := by decide +kernel
set_option maxHeartbeats 4000000 in
set_option maxRecDepth 100000 in
theorem t_X5_clearFail_L7 {p : Program} {l : Launch} {e : Env} {s : State} {m : MethodId} {args : Array Value} {below : List Frame} {meth : Method} {c : Code} {D : va_G} {aC : Nat → ClassId} {A : Nat → Prop} {a_v a_n a_d : Nat → Nat} {out : Ob_T} {rec7 : (Int32 × Ob_T) → Option Ob_T} (hX : K_X p s m args meth c cX5_clearFail 2 WL_ RX5 D aC A) (hr : meth.sig.returnType = none) (hrec7 : ∀ x : Int32 × Ob_T, rec7 x = some out → ∀ (H : Heap) (locs : List Loc) (ls : Array Slot), K_S D A s (wd_X5 aC a_v (a_n 0) (a_d 0) x.2) H locs → lv_has ls 2 [(0, .ref (a_v 0)), (1, .int x.1)] → W p l e (R_m 0 0) s m args below meth c H locs 0 0 (MQ below (Q_W (none) D A (wd_X5 aC a_v (a_n 0) (a_d 0) out)) args s 0 0 A) (F0 m 7 ls [])) (x1 : Int32) (s_v : Ob_T) (h : f_X5_clearFail_L7 rec7 x1 s_v = some out) (H : Heap) (locs : List Loc) (ls : Array Slot) (hZ : K_S D A s (wd_X5 aC a_v (a_n 0) (a_d 0) s_v) H locs) (hl : lv_has ls 2 [(0, .ref (a_v 0)), (1, .int x1)]) : W p l e (R_m 0 0) s m args below meth c H locs 0 0 (MQ below (Q_W (none) D A (wd_X5 aC a_v (a_n 0) (a_d 0) out)) args s 0 0 A) (F0 m 7 ls []) := by
  obtain ⟨hx, hb, hml, hown, hts, hK, hA, hlk⟩ := id hX
  unfold f_X5_clearFail_L7 at h
  refine lv_iload_n hx hb dX5_clearFail_7 rfl (lv_at hl 1 rfl) ?_
  refine lv_iconst (v := 5) hx hb dX5_clearFail_8 (by decide) ?_
  refine lv_icmp_ge (tgt := 25) hx hb dX5_clearFail_9 (by decide) (fun cd => ?_) (fun cd => ?_)
  · replace h := k_t cd h
    clear cd
    cases h
    exact k_vretW hX hr hZ dX5_clearFail_25
  · replace h := k_f cd h
    clear cd
    refine lv_aload_n hx hb dX5_clearFail_12 rfl (lv_at hl 0 rfl) ?_
    refine k_get hX hZ.1 0 5 rfl rfl iw_X5 5 rfl (wm_427) (v := .ref (a_v 4)) rfl dX5_clearFail_13 ?_
    refine lv_iload_n hx hb dX5_clearFail_16 rfl (lv_at hl 1 rfl) ?_
    refine lv_iconst (v := -1) hx hb dX5_clearFail_17 (by decide) ?_
    refine k_iast (wf := (fun o => wd_X5 aC a_v (a_n 0) (a_d 0) o)) (o := s_v) hX hZ 4 5 rfl (fun _ => rfl) h dX5_clearFail_18 (fun o2 H locs hZ h => ?_)
    refine lv_iinc (v := (x1 + (1 : Int32))) (lv' := [(1, .int (x1 + (1 : Int32))), (0, .ref (a_v 0))]) hx hb dX5_clearFail_19 hl (k := 1) rfl rfl (by decide) rfl (fun ls hl => ?_)
    refine lv_goto (tgt := 7) hx hb dX5_clearFail_22 (by decide) ?_
    exact hrec7 ((x1 + (1 : Int32)), o2) h H locs ls hZ (lv_sub hl [1, 0] rfl)
set_option maxHeartbeats 4000000 in
set_option maxRecDepth 100000 in
theorem c_X5_clearFail {l : Launch} {D : va_G} {aC : Nat → ClassId} {a_v : Nat → Nat} {a_n : Nat → Nat} {a_d : Nat → Nat} (s_v : Ob_T) {out : Ob_T} (h : f_X5_clearFail s_v = some out) : M_W l yX5_clearFail wlX5_clearFail 0 0 D aC [.ref (a_v 0)] (wd_X5 aC a_v (a_n 0) (a_d 0) s_v) (none) (wd_X5 aC a_v (a_n 0) (a_d 0) out) := by
  refine k_entW (cc := cX5_clearFail) (ret := none) (maxL := 2) (own := RX5) (by decide) rfl rfl rfl ?_
  intro p e s m below meth c A ls hX hr hZ hl
  have hl : lv_has ls 2 [(0, .ref (a_v 0))] := hl
  generalize ([.ref (a_v 0)] : List Value).toArray = args at hX ⊢
  obtain ⟨hx, hb, hml, hown, hts, hK, hA, hlk⟩ := id hX
  unfold f_X5_clearFail at h
  generalize s.heap = H at hZ ⊢
  generalize ([] : List Loc) = locs at hZ ⊢
  refine lv_aload_n hx hb dX5_clearFail_0 rfl (lv_at hl 0 rfl) ?_
  refine lv_iconst (v := 0) hx hb dX5_clearFail_1 (by decide) ?_
  refine k_put (wf := (fun o => wd_X5 aC a_v (a_n 0) (a_d 0) o)) (o := s_v) hX hZ 0 5 rfl rfl iw_X5 tyX5 tyX5_ok nmX5 6 rfl (wm_428) rfl rfl rfl rfl rfl h dX5_clearFail_2 (fun o1 H locs hZ h => ?_)
  refine lv_iconst (v := 0) hx hb dX5_clearFail_5 (by decide) ?_
  refine lv_istore_n (lv' := [(1, .int (0 : Int32)), (0, .ref (a_v 0))]) hx hb dX5_clearFail_6 rfl hl (by decide) rfl (fun ls hl => ?_)
  exact Lp_ok (body := (fun (rec : (Int32 × Ob_T) → Option Ob_T) x => f_X5_clearFail_L7 rec x.1 x.2)) (out := out) (fun x => ∀ (H : Heap) (locs : List Loc) (ls : Array Slot), K_S D A s (wd_X5 aC a_v (a_n 0) (a_d 0) x.2) H locs → lv_has ls 2 [(0, .ref (a_v 0)), (1, .int x.1)] → W p l e (R_m 0 0) s m args below meth c H locs 0 0 (MQ below (Q_W (none) D A (wd_X5 aC a_v (a_n 0) (a_d 0) out)) args s 0 0 A) (F0 m 7 ls [])) (fun rec hrec x h H locs ls hZ hl => t_X5_clearFail_L7 hX hr hrec x.1 x.2 h H locs ls hZ hl) FU_ ((0 : Int32), o1) h H locs ls hZ (lv_sub hl [1, 0] rfl)
def wlX5_hasFailed : List Cond := .code yX5_hasFailed cX5_hasFailed 1 (some .boolean) :: WL_
theorem hd_X5_hasFailed : yX5_hasFailed.cls = RX5 ∧ yX5_hasFailed.cls ≠ "java/lang/invoke/MethodHandle" ∧ yX5_hasFailed.cls ≠ "java/lang/invoke/VarHandle" ∧ (parseMethodDescriptor yX5_hasFailed.desc).map (fun d => d.parameters.length) = some 0 := by decide +kernel
theorem dX5_hasFailed_0 : decode cX5_hasFailed 0 = .ok (.aload_n 0, 1) := by decide +kernel
theorem dX5_hasFailed_1 : decode cX5_hasFailed 1 = .ok (.getfield 28, 3) := by decide +kernel
theorem dX5_hasFailed_4 : decode cX5_hasFailed 4 = .ok (.iconst 0, 1) := by decide +kernel
theorem dX5_hasFailed_5 : decode cX5_hasFailed 5 = .ok (.iaload, 1) := by decide +kernel
theorem dX5_hasFailed_6 : decode cX5_hasFailed 6 = .ok (.iconst (-1), 1) := by decide +kernel
theorem dX5_hasFailed_7 : decode cX5_hasFailed 7 = .ok (.if_icmp .eq 7, 3) := by decide +kernel
theorem dX5_hasFailed_10 : decode cX5_hasFailed 10 = .ok (.iconst 1, 1) := by decide +kernel
theorem dX5_hasFailed_11 : decode cX5_hasFailed 11 = .ok (.goto 4, 3) := by decide +kernel
theorem dX5_hasFailed_14 : decode cX5_hasFailed 14 = .ok (.iconst 0, 1) := by decide +kernel
theorem dX5_hasFailed_15 : decode cX5_hasFailed 15 = .ok (.ireturn, 1) := by decide +kernel
set_option maxHeartbeats 4000000 in
set_option maxRecDepth 100000 in
theorem c_X5_hasFailed {l : Launch} {D : va_G} {aC : Nat → ClassId} {a_v : Nat → Nat} {a_n : Nat → Nat} {a_d : Nat → Nat} (s_v : Ob_T) {out : Int32} (h : f_X5_hasFailed s_v = some out) : M_R l yX5_hasFailed wlX5_hasFailed 0 0 D aC [.ref (a_v 0)] (wd_X5 aC a_v (a_n 0) (a_d 0) s_v) (some (.int out)) := by
  refine k_entR (cc := cX5_hasFailed) (ret := (some .boolean)) (maxL := 1) (own := RX5) (by decide) rfl rfl rfl ?_
  intro p e s m below meth c A ls hX hr hZ hl
  have hl : lv_has ls 1 [(0, .ref (a_v 0))] := hl
  generalize ([.ref (a_v 0)] : List Value).toArray = args at hX ⊢
  obtain ⟨hx, hb, hml, hown, hts, hK, hA, hlk⟩ := id hX
  unfold f_X5_hasFailed at h
  have hF : ∀ q ∈ ([] : List Loc), False := fun _ h => nomatch h
  generalize ([] : List Loc) = locs at hF ⊢
  refine lv_aload_n hx hb dX5_hasFailed_0 rfl (lv_at hl 0 rfl) ?_
  refine k_get hX hZ.1 0 5 rfl rfl iw_X5 5 rfl (wm_427) (v := .ref (a_v 4)) rfl dX5_hasFailed_1 ?_
  refine lv_iconst (v := 0) hx hb dX5_hasFailed_4 (by decide) ?_
  refine k_iald hX hZ.1 4 rfl h dX5_hasFailed_5 (fun v1 h => ?_)
  refine lv_iconst (v := -1) hx hb dX5_hasFailed_6 (by decide) ?_
  refine lv_icmp_eq (tgt := 14) hx hb dX5_hasFailed_7 (by decide) (fun cd => ?_) (fun cd => ?_)
  · replace h := k_t cd h
    clear cd
    refine lv_iconst (v := 0) hx hb dX5_hasFailed_14 (by decide) ?_
    cases h
    exact k_zretR (v := (0 : Int32)) hX hr rfl hF dX5_hasFailed_15
  · replace h := k_f cd h
    clear cd
    refine lv_iconst (v := 1) hx hb dX5_hasFailed_10 (by decide) ?_
    refine lv_goto (tgt := 15) hx hb dX5_hasFailed_11 (by decide) ?_
    cases h
    exact k_zretR (v := (1 : Int32)) hX hr rfl hF dX5_hasFailed_15
def wlX5_valueOf : List Cond := .code yX5_valueOf cX5_valueOf 3 (some .int) :: WL_
theorem hd_X5_valueOf : yX5_valueOf.cls = RX5 ∧ yX5_valueOf.cls ≠ "java/lang/invoke/MethodHandle" ∧ yX5_valueOf.cls ≠ "java/lang/invoke/VarHandle" ∧ (parseMethodDescriptor yX5_valueOf.desc).map (fun d => d.parameters.length) = some 1 := by decide +kernel
theorem dX5_valueOf_0 : decode cX5_valueOf 0 = .ok (.iload_n 1, 1) := by decide +kernel
theorem dX5_valueOf_1 : decode cX5_valueOf 1 = .ok (.sipush 20000, 3) := by decide +kernel
theorem dX5_valueOf_4 : decode cX5_valueOf 4 = .ok (.if_icmp .ge 5, 3) := by decide +kernel
theorem dX5_valueOf_7 : decode cX5_valueOf 7 = .ok (.iload_n 1, 1) := by decide +kernel
theorem dX5_valueOf_8 : decode cX5_valueOf 8 = .ok (.ireturn, 1) := by decide +kernel
theorem dX5_valueOf_9 : decode cX5_valueOf 9 = .ok (.aload_n 0, 1) := by decide +kernel
theorem dX5_valueOf_10 : decode cX5_valueOf 10 = .ok (.getfield 18, 3) := by decide +kernel
theorem dX5_valueOf_13 : decode cX5_valueOf 13 = .ok (.iload_n 1, 1) := by decide +kernel
theorem dX5_valueOf_14 : decode cX5_valueOf 14 = .ok (.sipush 20000, 3) := by decide +kernel
theorem dX5_valueOf_17 : decode cX5_valueOf 17 = .ok (.isub, 1) := by decide +kernel
theorem dX5_valueOf_18 : decode cX5_valueOf 18 = .ok (.iaload, 1) := by decide +kernel
theorem dX5_valueOf_19 : decode cX5_valueOf 19 = .ok (.istore_n 2, 1) := by decide +kernel
theorem dX5_valueOf_20 : decode cX5_valueOf 20 = .ok (.aload_n 0, 1) := by decide +kernel
theorem dX5_valueOf_21 : decode cX5_valueOf 21 = .ok (.getfield 22, 3) := by decide +kernel
theorem dX5_valueOf_24 : decode cX5_valueOf 24 = .ok (.iload_n 2, 1) := by decide +kernel
theorem dX5_valueOf_25 : decode cX5_valueOf 25 = .ok (.iaload, 1) := by decide +kernel
theorem dX5_valueOf_26 : decode cX5_valueOf 26 = .ok (.iconst (-1), 1) := by decide +kernel
theorem dX5_valueOf_27 : decode cX5_valueOf 27 = .ok (.if_icmp .ne 11, 3) := by decide +kernel
theorem dX5_valueOf_30 : decode cX5_valueOf 30 = .ok (.sipush 20000, 3) := by decide +kernel
theorem dX5_valueOf_33 : decode cX5_valueOf 33 = .ok (.iload_n 2, 1) := by decide +kernel
theorem dX5_valueOf_34 : decode cX5_valueOf 34 = .ok (.iadd, 1) := by decide +kernel
theorem dX5_valueOf_35 : decode cX5_valueOf 35 = .ok (.goto 9, 3) := by decide +kernel
theorem dX5_valueOf_38 : decode cX5_valueOf 38 = .ok (.aload_n 0, 1) := by decide +kernel
theorem dX5_valueOf_39 : decode cX5_valueOf 39 = .ok (.getfield 22, 3) := by decide +kernel
theorem dX5_valueOf_42 : decode cX5_valueOf 42 = .ok (.iload_n 2, 1) := by decide +kernel
theorem dX5_valueOf_43 : decode cX5_valueOf 43 = .ok (.iaload, 1) := by decide +kernel
theorem dX5_valueOf_44 : decode cX5_valueOf 44 = .ok (.ireturn, 1) := by decide +kernel
set_option maxHeartbeats 4000000 in
set_option maxRecDepth 100000 in
theorem c_X5_valueOf {l : Launch} {D : va_G} {aC : Nat → ClassId} {a_v : Nat → Nat} {a_n : Nat → Nat} {a_d : Nat → Nat} (s_v : Ob_T) (x1 : Int32) {out : Int32} (h : f_X5_valueOf s_v x1 = some out) : M_R l yX5_valueOf wlX5_valueOf 0 0 D aC [.ref (a_v 0), .int x1] (wd_X5 aC a_v (a_n 0) (a_d 0) s_v) (some (.int out)) := by
  refine k_entR (cc := cX5_valueOf) (ret := (some .int)) (maxL := 3) (own := RX5) (by decide) rfl rfl rfl ?_
  intro p e s m below meth c A ls hX hr hZ hl
  have hl : lv_has ls 3 [(0, .ref (a_v 0)), (1, .int x1)] := hl
  generalize ([.ref (a_v 0), .int x1] : List Value).toArray = args at hX ⊢
  obtain ⟨hx, hb, hml, hown, hts, hK, hA, hlk⟩ := id hX
  unfold f_X5_valueOf at h
  have hF : ∀ q ∈ ([] : List Loc), False := fun _ h => nomatch h
  generalize ([] : List Loc) = locs at hF ⊢
  refine lv_iload_n hx hb dX5_valueOf_0 rfl (lv_at hl 1 rfl) ?_
  refine lv_sipush (v := 20000) hx hb dX5_valueOf_1 (by decide) ?_
  refine lv_icmp_ge (tgt := 9) hx hb dX5_valueOf_4 (by decide) (fun cd => ?_) (fun cd => ?_)
  · replace h := k_t cd h
    clear cd
    refine lv_aload_n hx hb dX5_valueOf_9 rfl (lv_at hl 0 rfl) ?_
    refine k_get hX hZ.1 0 5 rfl rfl iw_X5 2 rfl (wm_429) (v := .ref (a_v 1)) rfl dX5_valueOf_10 ?_
    refine lv_iload_n hx hb dX5_valueOf_13 rfl (lv_at hl 1 rfl) ?_
    refine lv_sipush (v := 20000) hx hb dX5_valueOf_14 (by decide) ?_
    refine lv_isub hx hb dX5_valueOf_17 ?_
    refine k_iald hX hZ.1 1 rfl h dX5_valueOf_18 (fun v1 h => ?_)
    refine lv_istore_n (lv' := [(2, .int v1), (0, .ref (a_v 0)), (1, .int x1)]) hx hb dX5_valueOf_19 rfl hl (by decide) rfl (fun ls hl => ?_)
    refine lv_aload_n hx hb dX5_valueOf_20 rfl (lv_at hl 1 rfl) ?_
    refine k_get hX hZ.1 0 5 rfl rfl iw_X5 3 rfl (wm_430) (v := .ref (a_v 2)) rfl dX5_valueOf_21 ?_
    refine lv_iload_n hx hb dX5_valueOf_24 rfl (lv_at hl 0 rfl) ?_
    refine k_iald hX hZ.1 2 rfl h dX5_valueOf_25 (fun v2 h => ?_)
    refine lv_iconst (v := -1) hx hb dX5_valueOf_26 (by decide) ?_
    refine lv_icmp_ne (tgt := 38) hx hb dX5_valueOf_27 (by decide) (fun cd => ?_) (fun cd => ?_)
    · replace h := k_f cd h
      clear cd
      refine lv_aload_n hx hb dX5_valueOf_38 rfl (lv_at hl 1 rfl) ?_
      refine k_get hX hZ.1 0 5 rfl rfl iw_X5 3 rfl (wm_430) (v := .ref (a_v 2)) rfl dX5_valueOf_39 ?_
      refine lv_iload_n hx hb dX5_valueOf_42 rfl (lv_at hl 0 rfl) ?_
      refine k_iald hX hZ.1 2 rfl h dX5_valueOf_43 (fun v3 h => ?_)
      cases h
      exact k_iretR hX hr hF dX5_valueOf_44
    · replace h := k_t cd h
      clear cd
      refine lv_sipush (v := 20000) hx hb dX5_valueOf_30 (by decide) ?_
      refine lv_iload_n hx hb dX5_valueOf_33 rfl (lv_at hl 0 rfl) ?_
      refine lv_iadd hx hb dX5_valueOf_34 ?_
      refine lv_goto (tgt := 44) hx hb dX5_valueOf_35 (by decide) ?_
      cases h
      exact k_iretR hX hr hF dX5_valueOf_44
  · replace h := k_f cd h
    clear cd
    refine lv_iload_n hx hb dX5_valueOf_7 rfl (lv_at hl 1 rfl) ?_
    cases h
    exact k_iretR hX hr hF dX5_valueOf_8
def wlX5_failAt : List Cond := .code yX5_failAt cX5_failAt 6 none :: WL_
theorem hd_X5_failAt : yX5_failAt.cls = RX5 ∧ yX5_failAt.cls ≠ "java/lang/invoke/MethodHandle" ∧ yX5_failAt.cls ≠ "java/lang/invoke/VarHandle" ∧ (parseMethodDescriptor yX5_failAt.desc).map (fun d => d.parameters.length) = some 5 := by decide +kernel
theorem dX5_failAt_0 : decode cX5_failAt 0 = .ok (.aload_n 0, 1) := by decide +kernel
theorem dX5_failAt_1 : decode cX5_failAt 1 = .ok (.getfield 28, 3) := by decide +kernel
theorem dX5_failAt_4 : decode cX5_failAt 4 = .ok (.iconst 0, 1) := by decide +kernel
theorem dX5_failAt_5 : decode cX5_failAt 5 = .ok (.iload_n 1, 1) := by decide +kernel
theorem dX5_failAt_6 : decode cX5_failAt 6 = .ok (.iastore, 1) := by decide +kernel
theorem dX5_failAt_7 : decode cX5_failAt 7 = .ok (.aload_n 0, 1) := by decide +kernel
theorem dX5_failAt_8 : decode cX5_failAt 8 = .ok (.getfield 28, 3) := by decide +kernel
theorem dX5_failAt_11 : decode cX5_failAt 11 = .ok (.iconst 1, 1) := by decide +kernel
theorem dX5_failAt_12 : decode cX5_failAt 12 = .ok (.iload_n 2, 1) := by decide +kernel
theorem dX5_failAt_13 : decode cX5_failAt 13 = .ok (.iastore, 1) := by decide +kernel
theorem dX5_failAt_14 : decode cX5_failAt 14 = .ok (.aload_n 0, 1) := by decide +kernel
theorem dX5_failAt_15 : decode cX5_failAt 15 = .ok (.getfield 28, 3) := by decide +kernel
theorem dX5_failAt_18 : decode cX5_failAt 18 = .ok (.iconst 2, 1) := by decide +kernel
theorem dX5_failAt_19 : decode cX5_failAt 19 = .ok (.iload_n 3, 1) := by decide +kernel
theorem dX5_failAt_20 : decode cX5_failAt 20 = .ok (.iastore, 1) := by decide +kernel
theorem dX5_failAt_21 : decode cX5_failAt 21 = .ok (.aload_n 0, 1) := by decide +kernel
theorem dX5_failAt_22 : decode cX5_failAt 22 = .ok (.getfield 28, 3) := by decide +kernel
theorem dX5_failAt_25 : decode cX5_failAt 25 = .ok (.iconst 3, 1) := by decide +kernel
theorem dX5_failAt_26 : decode cX5_failAt 26 = .ok (.iload 4, 2) := by decide +kernel
theorem dX5_failAt_28 : decode cX5_failAt 28 = .ok (.iastore, 1) := by decide +kernel
theorem dX5_failAt_29 : decode cX5_failAt 29 = .ok (.aload_n 0, 1) := by decide +kernel
theorem dX5_failAt_30 : decode cX5_failAt 30 = .ok (.getfield 28, 3) := by decide +kernel
theorem dX5_failAt_33 : decode cX5_failAt 33 = .ok (.iconst 4, 1) := by decide +kernel
theorem dX5_failAt_34 : decode cX5_failAt 34 = .ok (.iload 5, 2) := by decide +kernel
theorem dX5_failAt_36 : decode cX5_failAt 36 = .ok (.iastore, 1) := by decide +kernel
theorem dX5_failAt_37 : decode cX5_failAt 37 = .ok (.return_, 1) := by decide +kernel
set_option maxHeartbeats 4000000 in
set_option maxRecDepth 100000 in
theorem c_X5_failAt {l : Launch} {D : va_G} {aC : Nat → ClassId} {a_v : Nat → Nat} {a_n : Nat → Nat} {a_d : Nat → Nat} (s_v : Ob_T) (x1 : Int32) (x2 : Int32) (x3 : Int32) (x4 : Int32) (x5 : Int32) {out : Ob_T} (h : f_X5_failAt s_v x1 x2 x3 x4 x5 = some out) : M_W l yX5_failAt wlX5_failAt 0 0 D aC [.ref (a_v 0), .int x1, .int x2, .int x3, .int x4, .int x5] (wd_X5 aC a_v (a_n 0) (a_d 0) s_v) (none) (wd_X5 aC a_v (a_n 0) (a_d 0) out) := by
  refine k_entW (cc := cX5_failAt) (ret := none) (maxL := 6) (own := RX5) (by decide) rfl rfl rfl ?_
  intro p e s m below meth c A ls hX hr hZ hl
  have hl : lv_has ls 6 [(0, .ref (a_v 0)), (1, .int x1), (2, .int x2), (3, .int x3), (4, .int x4), (5, .int x5)] := hl
  generalize ([.ref (a_v 0), .int x1, .int x2, .int x3, .int x4, .int x5] : List Value).toArray = args at hX ⊢
  obtain ⟨hx, hb, hml, hown, hts, hK, hA, hlk⟩ := id hX
  unfold f_X5_failAt at h
  generalize s.heap = H at hZ ⊢
  generalize ([] : List Loc) = locs at hZ ⊢
  refine lv_aload_n hx hb dX5_failAt_0 rfl (lv_at hl 0 rfl) ?_
  refine k_get hX hZ.1 0 5 rfl rfl iw_X5 5 rfl (wm_427) (v := .ref (a_v 4)) rfl dX5_failAt_1 ?_
  refine lv_iconst (v := 0) hx hb dX5_failAt_4 (by decide) ?_
  refine lv_iload_n hx hb dX5_failAt_5 rfl (lv_at hl 1 rfl) ?_
  refine k_iast (wf := (fun o => wd_X5 aC a_v (a_n 0) (a_d 0) o)) (o := s_v) hX hZ 4 5 rfl (fun _ => rfl) h dX5_failAt_6 (fun o1 H locs hZ h => ?_)
  refine lv_aload_n hx hb dX5_failAt_7 rfl (lv_at hl 0 rfl) ?_
  refine k_get hX hZ.1 0 5 rfl rfl iw_X5 5 rfl (wm_427) (v := .ref (a_v 4)) rfl dX5_failAt_8 ?_
  refine lv_iconst (v := 1) hx hb dX5_failAt_11 (by decide) ?_
  refine lv_iload_n hx hb dX5_failAt_12 rfl (lv_at hl 2 rfl) ?_
  refine k_iast (wf := (fun o => wd_X5 aC a_v (a_n 0) (a_d 0) o)) (o := o1) hX hZ 4 5 rfl (fun _ => rfl) h dX5_failAt_13 (fun o2 H locs hZ h => ?_)
  refine lv_aload_n hx hb dX5_failAt_14 rfl (lv_at hl 0 rfl) ?_
  refine k_get hX hZ.1 0 5 rfl rfl iw_X5 5 rfl (wm_427) (v := .ref (a_v 4)) rfl dX5_failAt_15 ?_
  refine lv_iconst (v := 2) hx hb dX5_failAt_18 (by decide) ?_
  refine lv_iload_n hx hb dX5_failAt_19 rfl (lv_at hl 3 rfl) ?_
  refine k_iast (wf := (fun o => wd_X5 aC a_v (a_n 0) (a_d 0) o)) (o := o2) hX hZ 4 5 rfl (fun _ => rfl) h dX5_failAt_20 (fun o3 H locs hZ h => ?_)
  refine lv_aload_n hx hb dX5_failAt_21 rfl (lv_at hl 0 rfl) ?_
  refine k_get hX hZ.1 0 5 rfl rfl iw_X5 5 rfl (wm_427) (v := .ref (a_v 4)) rfl dX5_failAt_22 ?_
  refine lv_iconst (v := 3) hx hb dX5_failAt_25 (by decide) ?_
  refine lv_iload hx hb dX5_failAt_26 (lv_at hl 4 rfl) ?_
  refine k_iast (wf := (fun o => wd_X5 aC a_v (a_n 0) (a_d 0) o)) (o := o3) hX hZ 4 5 rfl (fun _ => rfl) h dX5_failAt_28 (fun o4 H locs hZ h => ?_)
  refine lv_aload_n hx hb dX5_failAt_29 rfl (lv_at hl 0 rfl) ?_
  refine k_get hX hZ.1 0 5 rfl rfl iw_X5 5 rfl (wm_427) (v := .ref (a_v 4)) rfl dX5_failAt_30 ?_
  refine lv_iconst (v := 4) hx hb dX5_failAt_33 (by decide) ?_
  refine lv_iload hx hb dX5_failAt_34 (lv_at hl 5 rfl) ?_
  refine k_iast (wf := (fun o => wd_X5 aC a_v (a_n 0) (a_d 0) o)) (o := o4) hX hZ 4 5 rfl (fun _ => rfl) h dX5_failAt_36 (fun o5 H locs hZ h => ?_)
  cases h
  exact k_vretW hX hr hZ dX5_failAt_37
