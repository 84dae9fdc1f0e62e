def wlX9_solved : List Cond := .code yX9_solved cX9_solved 3 (some .int) :: WL_
theorem hd_X9_solved : yX9_solved.cls = RX9 ∧ yX9_solved.cls ≠ "java/lang/invoke/MethodHandle" ∧ yX9_solved.cls ≠ "java/lang/invoke/VarHandle" ∧ (parseMethodDescriptor yX9_solved.desc).map (fun d => d.parameters.length) = some 1 := by decide +kernel
theorem dX9_solved_0 : decode cX9_solved 0 = .ok (.iload_n 1, 1) := by decide +kernel
theorem dX9_solved_1 : decode cX9_solved 1 = .ok (.sipush 20000, 3) := by decide +kernel
theorem dX9_solved_4 : decode cX9_solved 4 = .ok (.if_icmp .ge 5, 3) := by decide +kernel
theorem dX9_solved_7 : decode cX9_solved 7 = .ok (.iload_n 1, 1) := by decide +kernel
theorem dX9_solved_8 : decode cX9_solved 8 = .ok (.ireturn, 1) := by decide +kernel
theorem dX9_solved_9 : decode cX9_solved 9 = .ok (.aload_n 0, 1) := by decide +kernel
theorem dX9_solved_10 : decode cX9_solved 10 = .ok (.getfield 74, 3) := by decide +kernel
theorem dX9_solved_13 : decode cX9_solved 13 = .ok (.iload_n 1, 1) := by decide +kernel
theorem dX9_solved_14 : decode cX9_solved 14 = .ok (.sipush 20000, 3) := by decide +kernel
theorem dX9_solved_17 : decode cX9_solved 17 = .ok (.isub, 1) := by decide +kernel
theorem dX9_solved_18 : decode cX9_solved 18 = .ok (.iaload, 1) := by decide +kernel
theorem dX9_solved_19 : decode cX9_solved 19 = .ok (.istore_n 2, 1) := by decide +kernel
theorem dX9_solved_20 : decode cX9_solved 20 = .ok (.aload_n 0, 1) := by decide +kernel
theorem dX9_solved_21 : decode cX9_solved 21 = .ok (.getfield 77, 3) := by decide +kernel
theorem dX9_solved_24 : decode cX9_solved 24 = .ok (.iload_n 2, 1) := by decide +kernel
theorem dX9_solved_25 : decode cX9_solved 25 = .ok (.iaload, 1) := by decide +kernel
theorem dX9_solved_26 : decode cX9_solved 26 = .ok (.ifCond .ge 11, 3) := by decide +kernel
theorem dX9_solved_29 : decode cX9_solved 29 = .ok (.sipush 20000, 3) := by decide +kernel
theorem dX9_solved_32 : decode cX9_solved 32 = .ok (.iload_n 2, 1) := by decide +kernel
theorem dX9_solved_33 : decode cX9_solved 33 = .ok (.iadd, 1) := by decide +kernel
theorem dX9_solved_34 : decode cX9_solved 34 = .ok (.goto 9, 3) := by decide +kernel
theorem dX9_solved_37 : decode cX9_solved 37 = .ok (.aload_n 0, 1) := by decide +kernel
theorem dX9_solved_38 : decode cX9_solved 38 = .ok (.getfield 77, 3) := by decide +kernel
theorem dX9_solved_41 : decode cX9_solved 41 = .ok (.iload_n 2, 1) := by decide +kernel
theorem dX9_solved_42 : decode cX9_solved 42 = .ok (.iaload, 1) := by decide +kernel
theorem dX9_solved_43 : decode cX9_solved 43 = .ok (.ireturn, 1) := by decide +kernel
set_option maxHeartbeats 4000000 in
set_option maxRecDepth 100000 in
theorem c_X9_solved {l : Launch} {D : va_G} {aC : Nat → ClassId} {a_o : Nat → Nat} (s_o : Ob_T) (x1 : Int32) {out : Int32} (h : f_X9_solved s_o x1 = some out) : M_R l yX9_solved wlX9_solved 0 0 D aC [.ref (a_o 0), .int x1] (wd_X9 aC a_o s_o) (some (.int out)) := by
  refine k_entR (cc := cX9_solved) (ret := (some .int)) (maxL := 3) (own := RX9) (by decide) rfl rfl rfl ?_
  intro p e s m below meth c A ls hX hr hZ hl
  have hl : lv_has ls 3 [(0, .ref (a_o 0)), (1, .int x1)] := hl
  generalize ([.ref (a_o 0), .int x1] : List Value).toArray = args at hX ⊢
  obtain ⟨hx, hb, hml, hown, hts, hK, hA, hlk⟩ := id hX
  unfold f_X9_solved at h
  have hF : ∀ q ∈ ([] : List Loc), False := fun _ h => nomatch h
  generalize ([] : List Loc) = locs at hF ⊢
  refine lv_iload_n hx hb dX9_solved_0 rfl (lv_at hl 1 rfl) ?_
  refine lv_sipush (v := 20000) hx hb dX9_solved_1 (by decide) ?_
  refine lv_icmp_ge (tgt := 9) hx hb dX9_solved_4 (by decide) (fun cd => ?_) (fun cd => ?_)
  · replace h := k_t cd h
    clear cd
    refine lv_aload_n hx hb dX9_solved_9 rfl (lv_at hl 0 rfl) ?_
    refine k_get hX hZ.1 0 9 rfl rfl iw_X9 31 rfl (wm_123) (v := .ref (a_o 22)) rfl dX9_solved_10 ?_
    refine lv_iload_n hx hb dX9_solved_13 rfl (lv_at hl 1 rfl) ?_
    refine lv_sipush (v := 20000) hx hb dX9_solved_14 (by decide) ?_
    refine lv_isub hx hb dX9_solved_17 ?_
    refine k_iald hX hZ.1 22 rfl h dX9_solved_18 (fun v1 h => ?_)
    refine lv_istore_n (lv' := [(2, .int v1), (0, .ref (a_o 0)), (1, .int x1)]) hx hb dX9_solved_19 rfl hl (by decide) rfl (fun ls hl => ?_)
    refine lv_aload_n hx hb dX9_solved_20 rfl (lv_at hl 1 rfl) ?_
    refine k_get hX hZ.1 0 9 rfl rfl iw_X9 32 rfl (wm_124) (v := .ref (a_o 23)) rfl dX9_solved_21 ?_
    refine lv_iload_n hx hb dX9_solved_24 rfl (lv_at hl 0 rfl) ?_
    refine k_iald hX hZ.1 23 rfl h dX9_solved_25 (fun v2 h => ?_)
    refine lv_if_ge (tgt := 37) hx hb dX9_solved_26 (by decide) (fun cd => ?_) (fun cd => ?_)
    · replace h := k_t cd h
      clear cd
      refine lv_aload_n hx hb dX9_solved_37 rfl (lv_at hl 1 rfl) ?_
      refine k_get hX hZ.1 0 9 rfl rfl iw_X9 32 rfl (wm_124) (v := .ref (a_o 23)) rfl dX9_solved_38 ?_
      refine lv_iload_n hx hb dX9_solved_41 rfl (lv_at hl 0 rfl) ?_
      refine k_iald hX hZ.1 23 rfl h dX9_solved_42 (fun v3 h => ?_)
      cases h
      exact k_iretR hX hr hF dX9_solved_43
    · replace h := k_f cd h
      clear cd
      refine lv_sipush (v := 20000) hx hb dX9_solved_29 (by decide) ?_
      refine lv_iload_n hx hb dX9_solved_32 rfl (lv_at hl 0 rfl) ?_
      refine lv_iadd hx hb dX9_solved_33 ?_
      refine lv_goto (tgt := 43) hx hb dX9_solved_34 (by decide) ?_
      cases h
      exact k_iretR hX hr hF dX9_solved_43
  · replace h := k_f cd h
    clear cd
    refine lv_iload_n hx hb dX9_solved_7 rfl (lv_at hl 1 rfl) ?_
    cases h
    exact k_iretR hX hr hF dX9_solved_8
def wlX9_fail : List Cond := .code yX9_fail cX9_fail 6 none :: WL_
theorem hd_X9_fail : yX9_fail.cls = RX9 ∧ yX9_fail.cls ≠ "java/lang/invoke/MethodHandle" ∧ yX9_fail.cls ≠ "java/lang/invoke/VarHandle" ∧ (parseMethodDescriptor yX9_fail.desc).map (fun d => d.parameters.length) = some 5 := by decide +kernel
theorem dX9_fail_0 : decode cX9_fail 0 = .ok (.aload_n 0, 1) := by decide +kernel
theorem dX9_fail_1 : decode cX9_fail 1 = .ok (.iconst 1, 1) := by decide +kernel
theorem dX9_fail_2 : decode cX9_fail 2 = .ok (.putfield 217, 3) := by decide +kernel
theorem dX9_fail_5 : decode cX9_fail 5 = .ok (.aload_n 0, 1) := by decide +kernel
theorem dX9_fail_6 : decode cX9_fail 6 = .ok (.getfield 83, 3) := by decide +kernel
theorem dX9_fail_9 : decode cX9_fail 9 = .ok (.iconst 0, 1) := by decide +kernel
theorem dX9_fail_10 : decode cX9_fail 10 = .ok (.iload_n 1, 1) := by decide +kernel
theorem dX9_fail_11 : decode cX9_fail 11 = .ok (.iastore, 1) := by decide +kernel
theorem dX9_fail_12 : decode cX9_fail 12 = .ok (.aload_n 0, 1) := by decide +kernel
theorem dX9_fail_13 : decode cX9_fail 13 = .ok (.getfield 83, 3) := by decide +kernel
theorem dX9_fail_16 : decode cX9_fail 16 = .ok (.iconst 1, 1) := by decide +kernel
theorem dX9_fail_17 : decode cX9_fail 17 = .ok (.iload_n 2, 1) := by decide +kernel
theorem dX9_fail_18 : decode cX9_fail 18 = .ok (.iastore, 1) := by decide +kernel
theorem dX9_fail_19 : decode cX9_fail 19 = .ok (.aload_n 0, 1) := by decide +kernel
theorem dX9_fail_20 : decode cX9_fail 20 = .ok (.getfield 83, 3) := by decide +kernel
theorem dX9_fail_23 : decode cX9_fail 23 = .ok (.iconst 2, 1) := by decide +kernel
theorem dX9_fail_24 : decode cX9_fail 24 = .ok (.iload_n 3, 1) := by decide +kernel
theorem dX9_fail_25 : decode cX9_fail 25 = .ok (.iastore, 1) := by decide +kernel
theorem dX9_fail_26 : decode cX9_fail 26 = .ok (.aload_n 0, 1) := by decide +kernel
theorem dX9_fail_27 : decode cX9_fail 27 = .ok (.getfield 83, 3) := by decide +kernel
theorem dX9_fail_30 : decode cX9_fail 30 = .ok (.iconst 3, 1) := by decide +kernel
theorem dX9_fail_31 : decode cX9_fail 31 = .ok (.iload 4, 2) := by decide +kernel
theorem dX9_fail_33 : decode cX9_fail 33 = .ok (.iastore, 1) := by decide +kernel
theorem dX9_fail_34 : decode cX9_fail 34 = .ok (.aload_n 0, 1) := by decide +kernel
theorem dX9_fail_35 : decode cX9_fail 35 = .ok (.getfield 83, 3) := by decide +kernel
theorem dX9_fail_38 : decode cX9_fail 38 = .ok (.iconst 4, 1) := by decide +kernel
theorem dX9_fail_39 : decode cX9_fail 39 = .ok (.iload 5, 2) := by decide +kernel
theorem dX9_fail_41 : decode cX9_fail 41 = .ok (.iastore, 1) := by decide +kernel
theorem dX9_fail_42 : decode cX9_fail 42 = .ok (.return_, 1) := by decide +kernel
set_option maxHeartbeats 4000000 in
set_option maxRecDepth 100000 in
theorem c_X9_fail {l : Launch} {D : va_G} {aC : Nat → ClassId} {a_o : Nat → Nat} (s_o : Ob_T) (x1 : Int32) (x2 : Int32) (x3 : Int32) (x4 : Int32) (x5 : Int32) {out : Ob_T} (h : f_X9_fail s_o x1 x2 x3 x4 x5 = some out) : M_W l yX9_fail wlX9_fail 0 0 D aC [.ref (a_o 0), .int x1, .int x2, .int x3, .int x4, .int x5] (wd_X9 aC a_o s_o) (none) (wd_X9 aC a_o out) := by
  refine k_entW (cc := cX9_fail) (ret := none) (maxL := 6) (own := RX9) (by decide) rfl rfl rfl ?_
  intro p e s m below meth c A ls hX hr hZ hl
  have hl : lv_has ls 6 [(0, .ref (a_o 0)), (1, .int x1), (2, .int x2), (3, .int x3), (4, .int x4), (5, .int x5)] := hl
  generalize ([.ref (a_o 0), .int x1, .int x2, .int x3, .int x4, .int x5] : List Value).toArray = args at hX ⊢
  obtain ⟨hx, hb, hml, hown, hts, hK, hA, hlk⟩ := id hX
  unfold f_X9_fail at h
  generalize s.heap = H at hZ ⊢
  generalize ([] : List Loc) = locs at hZ ⊢
  refine lv_aload_n hx hb dX9_fail_0 rfl (lv_at hl 0 rfl) ?_
  refine lv_iconst (v := 1) hx hb dX9_fail_1 (by decide) ?_
  refine k_put (wf := (fun o => wd_X9 aC a_o o)) (o := s_o) hX hZ 0 9 rfl rfl iw_X9 tyX9 tyX9_ok nmX9 35 rfl (wm_126) rfl rfl rfl rfl rfl h dX9_fail_2 (fun o1 H locs hZ h => ?_)
  refine lv_aload_n hx hb dX9_fail_5 rfl (lv_at hl 0 rfl) ?_
  refine k_get hX hZ.1 0 9 rfl rfl iw_X9 34 rfl (wm_125) (v := .ref (a_o 25)) rfl dX9_fail_6 ?_
  refine lv_iconst (v := 0) hx hb dX9_fail_9 (by decide) ?_
  refine lv_iload_n hx hb dX9_fail_10 rfl (lv_at hl 1 rfl) ?_
  refine k_iast (wf := (fun o => wd_X9 aC a_o o)) (o := o1) hX hZ 25 34 rfl (fun _ => rfl) h dX9_fail_11 (fun o2 H locs hZ h => ?_)
  refine lv_aload_n hx hb dX9_fail_12 rfl (lv_at hl 0 rfl) ?_
  refine k_get hX hZ.1 0 9 rfl rfl iw_X9 34 rfl (wm_125) (v := .ref (a_o 25)) rfl dX9_fail_13 ?_
  refine lv_iconst (v := 1) hx hb dX9_fail_16 (by decide) ?_
  refine lv_iload_n hx hb dX9_fail_17 rfl (lv_at hl 2 rfl) ?_
  refine k_iast (wf := (fun o => wd_X9 aC a_o o)) (o := o2) hX hZ 25 34 rfl (fun _ => rfl) h dX9_fail_18 (fun o3 H locs hZ h => ?_)
  refine lv_aload_n hx hb dX9_fail_19 rfl (lv_at hl 0 rfl) ?_
  refine k_get hX hZ.1 0 9 rfl rfl iw_X9 34 rfl (wm_125) (v := .ref (a_o 25)) rfl dX9_fail_20 ?_
  refine lv_iconst (v := 2) hx hb dX9_fail_23 (by decide) ?_
  refine lv_iload_n hx hb dX9_fail_24 rfl (lv_at hl 3 rfl) ?_
  refine k_iast (wf := (fun o => wd_X9 aC a_o o)) (o := o3) hX hZ 25 34 rfl (fun _ => rfl) h dX9_fail_25 (fun o4 H locs hZ h => ?_)
  refine lv_aload_n hx hb dX9_fail_26 rfl (lv_at hl 0 rfl) ?_
  refine k_get hX hZ.1 0 9 rfl rfl iw_X9 34 rfl (wm_125) (v := .ref (a_o 25)) rfl dX9_fail_27 ?_
  refine lv_iconst (v := 3) hx hb dX9_fail_30 (by decide) ?_
  refine lv_iload hx hb dX9_fail_31 (lv_at hl 4 rfl) ?_
  refine k_iast (wf := (fun o => wd_X9 aC a_o o)) (o := o4) hX hZ 25 34 rfl (fun _ => rfl) h dX9_fail_33 (fun o5 H locs hZ h => ?_)
  refine lv_aload_n hx hb dX9_fail_34 rfl (lv_at hl 0 rfl) ?_
  refine k_get hX hZ.1 0 9 rfl rfl iw_X9 34 rfl (wm_125) (v := .ref (a_o 25)) rfl dX9_fail_35 ?_
  refine lv_iconst (v := 4) hx hb dX9_fail_38 (by decide) ?_
  refine lv_iload hx hb dX9_fail_39 (lv_at hl 5 rfl) ?_
  refine k_iast (wf := (fun o => wd_X9 aC a_o o)) (o := o5) hX hZ 25 34 rfl (fun _ => rfl) h dX9_fail_41 (fun o6 H locs hZ h => ?_)
  cases h
  exact k_vretW hX hr hZ dX9_fail_42
