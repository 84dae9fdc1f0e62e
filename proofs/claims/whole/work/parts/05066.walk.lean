def wlX2_hasPlaces : List Cond := .code yX2_hasPlaces cX2_hasPlaces 4 (some .boolean) :: WL_
theorem hd_X2_hasPlaces : yX2_hasPlaces.cls = RX2 ∧ yX2_hasPlaces.cls ≠ "java/lang/invoke/MethodHandle" ∧ yX2_hasPlaces.cls ≠ "java/lang/invoke/VarHandle" ∧ (parseMethodDescriptor yX2_hasPlaces.desc).map (fun d => d.parameters.length) = some 3 := by decide +kernel
theorem dX2_hasPlaces_0 : decode cX2_hasPlaces 0 = .ok (.iload_n 2, 1) := by decide +kernel
theorem dX2_hasPlaces_1 : decode cX2_hasPlaces 1 = .ok (.ifCond .lt 29, 3) := by decide +kernel
theorem dX2_hasPlaces_4 : decode cX2_hasPlaces 4 = .ok (.iload_n 2, 1) := by decide +kernel
theorem dX2_hasPlaces_5 : decode cX2_hasPlaces 5 = .ok (.aload_n 0, 1) := by decide +kernel
theorem dX2_hasPlaces_6 : decode cX2_hasPlaces 6 = .ok (.getfield 15, 3) := by decide +kernel
theorem dX2_hasPlaces_9 : decode cX2_hasPlaces 9 = .ok (.iload_n 1, 1) := by decide +kernel
theorem dX2_hasPlaces_10 : decode cX2_hasPlaces 10 = .ok (.iaload, 1) := by decide +kernel
theorem dX2_hasPlaces_11 : decode cX2_hasPlaces 11 = .ok (.if_icmp .gt 19, 3) := by decide +kernel
theorem dX2_hasPlaces_14 : decode cX2_hasPlaces 14 = .ok (.iload_n 3, 1) := by decide +kernel
theorem dX2_hasPlaces_15 : decode cX2_hasPlaces 15 = .ok (.aload_n 0, 1) := by decide +kernel
theorem dX2_hasPlaces_16 : decode cX2_hasPlaces 16 = .ok (.getfield 15, 3) := by decide +kernel
theorem dX2_hasPlaces_19 : decode cX2_hasPlaces 19 = .ok (.iload_n 1, 1) := by decide +kernel
theorem dX2_hasPlaces_20 : decode cX2_hasPlaces 20 = .ok (.iaload, 1) := by decide +kernel
theorem dX2_hasPlaces_21 : decode cX2_hasPlaces 21 = .ok (.iload_n 2, 1) := by decide +kernel
theorem dX2_hasPlaces_22 : decode cX2_hasPlaces 22 = .ok (.isub, 1) := by decide +kernel
theorem dX2_hasPlaces_23 : decode cX2_hasPlaces 23 = .ok (.if_icmp .gt 7, 3) := by decide +kernel
theorem dX2_hasPlaces_26 : decode cX2_hasPlaces 26 = .ok (.iconst 1, 1) := by decide +kernel
theorem dX2_hasPlaces_27 : decode cX2_hasPlaces 27 = .ok (.goto 4, 3) := by decide +kernel
theorem dX2_hasPlaces_30 : decode cX2_hasPlaces 30 = .ok (.iconst 0, 1) := by decide +kernel
theorem dX2_hasPlaces_31 : decode cX2_hasPlaces 31 = .ok (.ireturn, 1) := by decide +kernel
set_option maxHeartbeats 4000000 in
set_option maxRecDepth 100000 in
theorem c_X2_hasPlaces {l : Launch} {D : va_G} {aC : Nat → ClassId} {a_r : Nat → Nat} (s_r : Ob_T) (x1 : Int32) (x2 : Int32) (x3 : Int32) {out : Int32} (h : f_X2_hasPlaces s_r x1 x2 x3 = some out) : M_R l yX2_hasPlaces wlX2_hasPlaces 0 0 D aC [.ref (a_r 0), .int x1, .int x2, .int x3] (wd_X2 aC a_r s_r) (some (.int out)) := by
  refine k_entR (cc := cX2_hasPlaces) (ret := (some .boolean)) (maxL := 4) (own := RX2) (by decide) rfl rfl rfl ?_
  intro p e s m below meth c A ls hX hr hZ hl
  have hl : lv_has ls 4 [(0, .ref (a_r 0)), (1, .int x1), (2, .int x2), (3, .int x3)] := hl
  generalize ([.ref (a_r 0), .int x1, .int x2, .int x3] : List Value).toArray = args at hX ⊢
  obtain ⟨hx, hb, hml, hown, hts, hK, hA, hlk⟩ := id hX
  unfold f_X2_hasPlaces at h
  have hF : ∀ q ∈ ([] : List Loc), False := fun _ h => nomatch h
  generalize ([] : List Loc) = locs at hF ⊢
  refine lv_iload_n hx hb dX2_hasPlaces_0 rfl (lv_at hl 2 rfl) ?_
  refine lv_if_lt (tgt := 30) hx hb dX2_hasPlaces_1 (by decide) (fun cd => ?_) (fun cd => ?_)
  · replace h := k_t cd h
    clear cd
    refine lv_iconst (v := 0) hx hb dX2_hasPlaces_30 (by decide) ?_
    cases h
    exact k_zretR (v := (0 : Int32)) hX hr rfl hF dX2_hasPlaces_31
  · replace h := k_f cd h
    clear cd
    refine lv_iload_n hx hb dX2_hasPlaces_4 rfl (lv_at hl 2 rfl) ?_
    refine lv_aload_n hx hb dX2_hasPlaces_5 rfl (lv_at hl 0 rfl) ?_
    refine k_get hX hZ.1 0 2 rfl rfl iw_X2 1 rfl (wm_376) (v := .ref (a_r 2)) rfl dX2_hasPlaces_6 ?_
    refine lv_iload_n hx hb dX2_hasPlaces_9 rfl (lv_at hl 1 rfl) ?_
    refine k_iald hX hZ.1 2 rfl h dX2_hasPlaces_10 (fun v1 h => ?_)
    refine lv_icmp_gt (tgt := 30) hx hb dX2_hasPlaces_11 (by decide) (fun cd => ?_) (fun cd => ?_)
    · replace h := k_t cd h
      clear cd
      refine lv_iconst (v := 0) hx hb dX2_hasPlaces_30 (by decide) ?_
      cases h
      exact k_zretR (v := (0 : Int32)) hX hr rfl hF dX2_hasPlaces_31
    · replace h := k_f cd h
      clear cd
      refine lv_iload_n hx hb dX2_hasPlaces_14 rfl (lv_at hl 3 rfl) ?_
      refine lv_aload_n hx hb dX2_hasPlaces_15 rfl (lv_at hl 0 rfl) ?_
      refine k_get hX hZ.1 0 2 rfl rfl iw_X2 1 rfl (wm_376) (v := .ref (a_r 2)) rfl dX2_hasPlaces_16 ?_
      refine lv_iload_n hx hb dX2_hasPlaces_19 rfl (lv_at hl 1 rfl) ?_
      refine k_iald hX hZ.1 2 rfl h dX2_hasPlaces_20 (fun v2 h => ?_)
      refine lv_iload_n hx hb dX2_hasPlaces_21 rfl (lv_at hl 2 rfl) ?_
      refine lv_isub hx hb dX2_hasPlaces_22 ?_
      refine lv_icmp_gt (tgt := 30) hx hb dX2_hasPlaces_23 (by decide) (fun cd => ?_) (fun cd => ?_)
      · replace h := k_t cd h
        clear cd
        refine lv_iconst (v := 0) hx hb dX2_hasPlaces_30 (by decide) ?_
        cases h
        exact k_zretR (v := (0 : Int32)) hX hr rfl hF dX2_hasPlaces_31
      · replace h := k_f cd h
        clear cd
        refine lv_iconst (v := 1) hx hb dX2_hasPlaces_26 (by decide) ?_
        refine lv_goto (tgt := 31) hx hb dX2_hasPlaces_27 (by decide) ?_
        cases h
        exact k_zretR (v := (1 : Int32)) hX hr rfl hF dX2_hasPlaces_31
def wlX2_at : List Cond := .code yX2_at cX2_at 3 (some .int) :: WL_
theorem hd_X2_at : yX2_at.cls = RX2 ∧ yX2_at.cls ≠ "java/lang/invoke/MethodHandle" ∧ yX2_at.cls ≠ "java/lang/invoke/VarHandle" ∧ (parseMethodDescriptor yX2_at.desc).map (fun d => d.parameters.length) = some 2 := by decide +kernel
theorem dX2_at_0 : decode cX2_at 0 = .ok (.aload_n 0, 1) := by decide +kernel
theorem dX2_at_1 : decode cX2_at 1 = .ok (.getfield 9, 3) := by decide +kernel
theorem dX2_at_4 : decode cX2_at 4 = .ok (.iload_n 1, 1) := by decide +kernel
theorem dX2_at_5 : decode cX2_at 5 = .ok (.bipush 10, 2) := by decide +kernel
theorem dX2_at_7 : decode cX2_at 7 = .ok (.imul, 1) := by decide +kernel
theorem dX2_at_8 : decode cX2_at 8 = .ok (.iload_n 2, 1) := by decide +kernel
theorem dX2_at_9 : decode cX2_at 9 = .ok (.iadd, 1) := by decide +kernel
theorem dX2_at_10 : decode cX2_at 10 = .ok (.iaload, 1) := by decide +kernel
theorem dX2_at_11 : decode cX2_at 11 = .ok (.ireturn, 1) := by decide +kernel
set_option maxHeartbeats 4000000 in
set_option maxRecDepth 100000 in
theorem c_X2_at {l : Launch} {D : va_G} {aC : Nat → ClassId} {a_r : Nat → Nat} (s_r : Ob_T) (x1 : Int32) (x2 : Int32) {out : Int32} (h : f_X2_at s_r x1 x2 = some out) : M_R l yX2_at wlX2_at 0 0 D aC [.ref (a_r 0), .int x1, .int x2] (wd_X2 aC a_r s_r) (some (.int out)) := by
  refine k_entR (cc := cX2_at) (ret := (some .int)) (maxL := 3) (own := RX2) (by decide) rfl rfl rfl ?_
  intro p e s m below meth c A ls hX hr hZ hl
  have hl : lv_has ls 3 [(0, .ref (a_r 0)), (1, .int x1), (2, .int x2)] := hl
  generalize ([.ref (a_r 0), .int x1, .int x2] : List Value).toArray = args at hX ⊢
  obtain ⟨hx, hb, hml, hown, hts, hK, hA, hlk⟩ := id hX
  unfold f_X2_at at h
  have hF : ∀ q ∈ ([] : List Loc), False := fun _ h => nomatch h
  generalize ([] : List Loc) = locs at hF ⊢
  refine lv_aload_n hx hb dX2_at_0 rfl (lv_at hl 0 rfl) ?_
  refine k_get hX hZ.1 0 2 rfl rfl iw_X2 0 rfl (wm_379) (v := .ref (a_r 1)) rfl dX2_at_1 ?_
  refine lv_iload_n hx hb dX2_at_4 rfl (lv_at hl 1 rfl) ?_
  refine lv_bipush (v := 10) hx hb dX2_at_5 (by decide) ?_
  refine lv_imul hx hb dX2_at_7 ?_
  refine lv_iload_n hx hb dX2_at_8 rfl (lv_at hl 2 rfl) ?_
  refine lv_iadd hx hb dX2_at_9 ?_
  refine k_iald hX hZ.1 1 rfl h dX2_at_10 (fun v1 h => ?_)
  cases h
  exact k_iretR hX hr hF dX2_at_11
def wlX2_put : List Cond := .code yX2_put cX2_put 4 none :: WL_
theorem hd_X2_put : yX2_put.cls = RX2 ∧ yX2_put.cls ≠ "java/lang/invoke/MethodHandle" ∧ yX2_put.cls ≠ "java/lang/invoke/VarHandle" ∧ (parseMethodDescriptor yX2_put.desc).map (fun d => d.parameters.length) = some 3 := by decide +kernel
theorem dX2_put_0 : decode cX2_put 0 = .ok (.aload_n 0, 1) := by decide +kernel
theorem dX2_put_1 : decode cX2_put 1 = .ok (.getfield 9, 3) := by decide +kernel
theorem dX2_put_4 : decode cX2_put 4 = .ok (.iload_n 1, 1) := by decide +kernel
theorem dX2_put_5 : decode cX2_put 5 = .ok (.bipush 10, 2) := by decide +kernel
theorem dX2_put_7 : decode cX2_put 7 = .ok (.imul, 1) := by decide +kernel
theorem dX2_put_8 : decode cX2_put 8 = .ok (.iload_n 2, 1) := by decide +kernel
theorem dX2_put_9 : decode cX2_put 9 = .ok (.iadd, 1) := by decide +kernel
theorem dX2_put_10 : decode cX2_put 10 = .ok (.iload_n 3, 1) := by decide +kernel
theorem dX2_put_11 : decode cX2_put 11 = .ok (.iastore, 1) := by decide +kernel
theorem dX2_put_12 : decode cX2_put 12 = .ok (.return_, 1) := by decide +kernel
set_option maxHeartbeats 4000000 in
set_option maxRecDepth 100000 in
theorem c_X2_put {l : Launch} {D : va_G} {aC : Nat → ClassId} {a_r : Nat → Nat} (s_r : Ob_T) (x1 : Int32) (x2 : Int32) (x3 : Int32) {out : Ob_T} (h : f_X2_put s_r x1 x2 x3 = some out) : M_W l yX2_put wlX2_put 0 0 D aC [.ref (a_r 0), .int x1, .int x2, .int x3] (wd_X2 aC a_r s_r) (none) (wd_X2 aC a_r out) := by
  refine k_entW (cc := cX2_put) (ret := none) (maxL := 4) (own := RX2) (by decide) rfl rfl rfl ?_
  intro p e s m below meth c A ls hX hr hZ hl
  have hl : lv_has ls 4 [(0, .ref (a_r 0)), (1, .int x1), (2, .int x2), (3, .int x3)] := hl
  generalize ([.ref (a_r 0), .int x1, .int x2, .int x3] : List Value).toArray = args at hX ⊢
  obtain ⟨hx, hb, hml, hown, hts, hK, hA, hlk⟩ := id hX
  unfold f_X2_put at h
  generalize s.heap = H at hZ ⊢
  generalize ([] : List Loc) = locs at hZ ⊢
  refine lv_aload_n hx hb dX2_put_0 rfl (lv_at hl 0 rfl) ?_
  refine k_get hX hZ.1 0 2 rfl rfl iw_X2 0 rfl (wm_379) (v := .ref (a_r 1)) rfl dX2_put_1 ?_
  refine lv_iload_n hx hb dX2_put_4 rfl (lv_at hl 1 rfl) ?_
  refine lv_bipush (v := 10) hx hb dX2_put_5 (by decide) ?_
  refine lv_imul hx hb dX2_put_7 ?_
  refine lv_iload_n hx hb dX2_put_8 rfl (lv_at hl 2 rfl) ?_
  refine lv_iadd hx hb dX2_put_9 ?_
  refine lv_iload_n hx hb dX2_put_10 rfl (lv_at hl 3 rfl) ?_
  refine k_iast (wf := (fun o => wd_X2 aC a_r o)) (o := s_r) hX hZ 1 0 rfl (fun _ => rfl) h dX2_put_11 (fun o1 H locs hZ h => ?_)
  cases h
  exact k_vretW hX hr hZ dX2_put_12
def wlX2_move : List Cond := .code yX2_move cX2_move 6 none :: WL_
theorem hd_X2_move : yX2_move.cls = RX2 ∧ yX2_move.cls ≠ "java/lang/invoke/MethodHandle" ∧ yX2_move.cls ≠ "java/lang/invoke/VarHandle" ∧ (parseMethodDescriptor yX2_move.desc).map (fun d => d.parameters.length) = some 5 := by decide +kernel
theorem dX2_move_0 : decode cX2_move 0 = .ok (.aload_n 0, 1) := by decide +kernel
theorem dX2_move_1 : decode cX2_move 1 = .ok (.getfield 9, 3) := by decide +kernel
theorem dX2_move_4 : decode cX2_move 4 = .ok (.iload_n 1, 1) := by decide +kernel
theorem dX2_move_5 : decode cX2_move 5 = .ok (.bipush 10, 2) := by decide +kernel
theorem dX2_move_7 : decode cX2_move 7 = .ok (.imul, 1) := by decide +kernel
theorem dX2_move_8 : decode cX2_move 8 = .ok (.iload_n 2, 1) := by decide +kernel
theorem dX2_move_9 : decode cX2_move 9 = .ok (.iadd, 1) := by decide +kernel
theorem dX2_move_10 : decode cX2_move 10 = .ok (.aload_n 0, 1) := by decide +kernel
theorem dX2_move_11 : decode cX2_move 11 = .ok (.getfield 9, 3) := by decide +kernel
theorem dX2_move_14 : decode cX2_move 14 = .ok (.iload_n 3, 1) := by decide +kernel
theorem dX2_move_15 : decode cX2_move 15 = .ok (.bipush 10, 2) := by decide +kernel
theorem dX2_move_17 : decode cX2_move 17 = .ok (.imul, 1) := by decide +kernel
theorem dX2_move_18 : decode cX2_move 18 = .ok (.iload 4, 2) := by decide +kernel
theorem dX2_move_20 : decode cX2_move 20 = .ok (.iadd, 1) := by decide +kernel
theorem dX2_move_21 : decode cX2_move 21 = .ok (.iload 5, 2) := by decide +kernel
theorem dX2_move_23 : decode cX2_move 23 = .ok (.invokestatic 34, 3) := by decide +kernel
theorem dX2_move_26 : decode cX2_move 26 = .ok (.return_, 1) := by decide +kernel
set_option maxHeartbeats 4000000 in
set_option maxRecDepth 100000 in
theorem c_X2_move {l : Launch} {D : va_G} {aC : Nat → ClassId} {a_r : Nat → Nat} (s_r : Ob_T) (x1 : Int32) (x2 : Int32) (x3 : Int32) (x4 : Int32) (x5 : Int32) {out : Ob_T} (h : f_X2_move s_r x1 x2 x3 x4 x5 = some out) : M_W l yX2_move wlX2_move 1 100 D aC [.ref (a_r 0), .int x1, .int x2, .int x3, .int x4, .int x5] (wd_X2 aC a_r s_r) (none) (wd_X2 aC a_r out) := by
  refine k_entW (cc := cX2_move) (ret := none) (maxL := 6) (own := RX2) (by decide) rfl rfl rfl ?_
  intro p e s m below meth c A ls hX hr hZ hl
  have hl : lv_has ls 6 [(0, .ref (a_r 0)), (1, .int x1), (2, .int x2), (3, .int x3), (4, .int x4), (5, .int x5)] := hl
  generalize ([.ref (a_r 0), .int x1, .int x2, .int x3, .int x4, .int x5] : List Value).toArray = args at hX ⊢
  obtain ⟨hx, hb, hml, hown, hts, hK, hA, hlk⟩ := id hX
  unfold f_X2_move at h
  generalize s.heap = H at hZ ⊢
  generalize ([] : List Loc) = locs at hZ ⊢
  refine lv_aload_n hx hb dX2_move_0 rfl (lv_at hl 0 rfl) ?_
  refine k_get hX hZ.1 0 2 rfl rfl iw_X2 0 rfl (wm_379) (v := .ref (a_r 1)) rfl dX2_move_1 ?_
  refine lv_iload_n hx hb dX2_move_4 rfl (lv_at hl 1 rfl) ?_
  refine lv_bipush (v := 10) hx hb dX2_move_5 (by decide) ?_
  refine lv_imul hx hb dX2_move_7 ?_
  refine lv_iload_n hx hb dX2_move_8 rfl (lv_at hl 2 rfl) ?_
  refine lv_iadd hx hb dX2_move_9 ?_
  refine lv_aload_n hx hb dX2_move_10 rfl (lv_at hl 0 rfl) ?_
  refine k_get hX hZ.1 0 2 rfl rfl iw_X2 0 rfl (wm_379) (v := .ref (a_r 1)) rfl dX2_move_11 ?_
  refine lv_iload_n hx hb dX2_move_14 rfl (lv_at hl 3 rfl) ?_
  refine lv_bipush (v := 10) hx hb dX2_move_15 (by decide) ?_
  refine lv_imul hx hb dX2_move_17 ?_
  refine lv_iload hx hb dX2_move_18 (lv_at hl 4 rfl) ?_
  refine lv_iadd hx hb dX2_move_20 ?_
  refine lv_iload hx hb dX2_move_21 (lv_at hl 5 rfl) ?_
  refine k_copy (wf := (fun o => wd_X2 aC a_r o)) (o := s_r) hX hl.1 hZ 1 1 0 rfl rfl (fun _ => rfl) (hts _ wm_388) (hts _ wm_308) (hts _ wm_309) (hts _ wm_310) rfl rfl h dX2_move_23 (fun o2 H locs hZ h => ?_)
  cases h
  exact k_vretW hX hr hZ dX2_move_26
def wlX2_extend : List Cond := .code yX2_extend cX2_extend 4 none :: WL_
theorem hd_X2_extend : yX2_extend.cls = RX2 ∧ yX2_extend.cls ≠ "java/lang/invoke/MethodHandle" ∧ yX2_extend.cls ≠ "java/lang/invoke/VarHandle" ∧ (parseMethodDescriptor yX2_extend.desc).map (fun d => d.parameters.length) = some 2 := by decide +kernel
theorem dX2_extend_0 : decode cX2_extend 0 = .ok (.aload_n 0, 1) := by decide +kernel
theorem dX2_extend_1 : decode cX2_extend 1 = .ok (.getfield 15, 3) := by decide +kernel
theorem dX2_extend_4 : decode cX2_extend 4 = .ok (.iload_n 2, 1) := by decide +kernel
theorem dX2_extend_5 : decode cX2_extend 5 = .ok (.iaload, 1) := by decide +kernel
theorem dX2_extend_6 : decode cX2_extend 6 = .ok (.istore_n 3, 1) := by decide +kernel
theorem dX2_extend_7 : decode cX2_extend 7 = .ok (.aload_n 0, 1) := by decide +kernel
theorem dX2_extend_8 : decode cX2_extend 8 = .ok (.iload_n 2, 1) := by decide +kernel
theorem dX2_extend_9 : decode cX2_extend 9 = .ok (.iconst 0, 1) := by decide +kernel
theorem dX2_extend_10 : decode cX2_extend 10 = .ok (.iload_n 1, 1) := by decide +kernel
theorem dX2_extend_11 : decode cX2_extend 11 = .ok (.aload_n 0, 1) := by decide +kernel
theorem dX2_extend_12 : decode cX2_extend 12 = .ok (.getfield 15, 3) := by decide +kernel
theorem dX2_extend_15 : decode cX2_extend 15 = .ok (.iload_n 1, 1) := by decide +kernel
theorem dX2_extend_16 : decode cX2_extend 16 = .ok (.iaload, 1) := by decide +kernel
theorem dX2_extend_17 : decode cX2_extend 17 = .ok (.iload_n 3, 1) := by decide +kernel
theorem dX2_extend_18 : decode cX2_extend 18 = .ok (.invokevirtual 40, 3) := by decide +kernel
theorem dX2_extend_21 : decode cX2_extend 21 = .ok (.aload_n 0, 1) := by decide +kernel
theorem dX2_extend_22 : decode cX2_extend 22 = .ok (.getfield 15, 3) := by decide +kernel
theorem dX2_extend_25 : decode cX2_extend 25 = .ok (.iload_n 1, 1) := by decide +kernel
theorem dX2_extend_26 : decode cX2_extend 26 = .ok (.dup2, 1) := by decide +kernel
theorem dX2_extend_27 : decode cX2_extend 27 = .ok (.iaload, 1) := by decide +kernel
theorem dX2_extend_28 : decode cX2_extend 28 = .ok (.iload_n 3, 1) := by decide +kernel
theorem dX2_extend_29 : decode cX2_extend 29 = .ok (.iadd, 1) := by decide +kernel
theorem dX2_extend_30 : decode cX2_extend 30 = .ok (.iastore, 1) := by decide +kernel
theorem dX2_extend_31 : decode cX2_extend 31 = .ok (.return_, 1) := by decide +kernel
set_option maxHeartbeats 4000000 in
set_option maxRecDepth 100000 in
theorem c_X2_extend {l : Launch} {D : va_G} {aC : Nat → ClassId} {a_r : Nat → Nat} (s_r : Ob_T) (x1 : Int32) (x2 : Int32) {out : Ob_T} (h : f_X2_extend s_r x1 x2 = some out) : M_W l yX2_extend wlX2_extend 2 125 D aC [.ref (a_r 0), .int x1, .int x2] (wd_X2 aC a_r s_r) (none) (wd_X2 aC a_r out) := by
  refine k_entW (cc := cX2_extend) (ret := none) (maxL := 4) (own := RX2) (by decide) rfl rfl rfl ?_
  intro p e s m below meth c A ls hX hr hZ hl
  have hl : lv_has ls 4 [(0, .ref (a_r 0)), (1, .int x1), (2, .int x2)] := hl
  generalize ([.ref (a_r 0), .int x1, .int x2] : List Value).toArray = args at hX ⊢
  obtain ⟨hx, hb, hml, hown, hts, hK, hA, hlk⟩ := id hX
  unfold f_X2_extend at h
  generalize s.heap = H at hZ ⊢
  generalize ([] : List Loc) = locs at hZ ⊢
  refine lv_aload_n hx hb dX2_extend_0 rfl (lv_at hl 0 rfl) ?_
  refine k_get hX hZ.1 0 2 rfl rfl iw_X2 1 rfl (wm_376) (v := .ref (a_r 2)) rfl dX2_extend_1 ?_
  refine lv_iload_n hx hb dX2_extend_4 rfl (lv_at hl 2 rfl) ?_
  refine k_iald hX hZ.1 2 rfl h dX2_extend_5 (fun v1 h => ?_)
  refine lv_istore_n (lv' := [(3, .int v1), (0, .ref (a_r 0)), (1, .int x1), (2, .int x2)]) hx hb dX2_extend_6 rfl hl (by decide) rfl (fun ls hl => ?_)
  refine lv_aload_n hx hb dX2_extend_7 rfl (lv_at hl 1 rfl) ?_
  refine lv_iload_n hx hb dX2_extend_8 rfl (lv_at hl 3 rfl) ?_
  refine lv_iconst (v := 0) hx hb dX2_extend_9 (by decide) ?_
  refine lv_iload_n hx hb dX2_extend_10 rfl (lv_at hl 2 rfl) ?_
  refine lv_aload_n hx hb dX2_extend_11 rfl (lv_at hl 1 rfl) ?_
  refine k_get hX hZ.1 0 2 rfl rfl iw_X2 1 rfl (wm_376) (v := .ref (a_r 2)) rfl dX2_extend_12 ?_
  refine lv_iload_n hx hb dX2_extend_15 rfl (lv_at hl 2 rfl) ?_
  refine k_iald hX hZ.1 2 rfl h dX2_extend_16 (fun v2 h => ?_)
  refine lv_iload_n hx hb dX2_extend_17 rfl (lv_at hl 0 rfl) ?_
  obtain ⟨u3, hu, h⟩ := k_bd h
  refine k_vWs (As := [.int x2, .int (0 : Int32), .int x1, .int v2, .int v1]) (rest := []) (v := none) (st1 := []) hX hl.1 hZ (c_X2_move (a_r := a_r) s_r x2 (0 : Int32) x1 v2 v1 hu) (gv_ wm_389 wm_391 wm_392 wm_384 wm_390) rfl hd_X2_move ⟨rfl, rfl⟩ 2 0 rfl rfl rfl rfl rfl dX2_extend_18 rfl ⟨rfl, rfl⟩ rfl (fun H locs hZ => ?_)
  clear hu
  refine lv_aload_n hx hb dX2_extend_21 rfl (lv_at hl 1 rfl) ?_
  refine k_get hX hZ.1 0 2 rfl rfl iw_X2 1 rfl (wm_376) (v := .ref (a_r 2)) rfl dX2_extend_22 ?_
  refine lv_iload_n hx hb dX2_extend_25 rfl (lv_at hl 2 rfl) ?_
  refine lv_dup2_11 hx hb dX2_extend_26 rfl rfl ?_
  refine k_iald hX hZ.1 2 rfl h dX2_extend_27 (fun v4 h => ?_)
  refine lv_iload_n hx hb dX2_extend_28 rfl (lv_at hl 0 rfl) ?_
  refine lv_iadd hx hb dX2_extend_29 ?_
  refine k_iast (wf := (fun o => wd_X2 aC a_r o)) (o := u3) hX hZ 2 1 rfl (fun _ => rfl) h dX2_extend_30 (fun o5 H locs hZ h => ?_)
  cases h
  exact k_vretW hX hr hZ dX2_extend_31
