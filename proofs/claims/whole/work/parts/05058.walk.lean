def wlX1_firstOf : List Cond := .code yX1_firstOf cX1_firstOf 2 (some .int) :: WL_
theorem hd_X1_firstOf : yX1_firstOf.cls = RX1 ∧ yX1_firstOf.cls ≠ "java/lang/invoke/MethodHandle" ∧ yX1_firstOf.cls ≠ "java/lang/invoke/VarHandle" ∧ (parseMethodDescriptor yX1_firstOf.desc).map (fun d => d.parameters.length) = some 1 := by decide +kernel
theorem dX1_firstOf_0 : decode cX1_firstOf 0 = .ok (.aload_n 0, 1) := by decide +kernel
theorem dX1_firstOf_1 : decode cX1_firstOf 1 = .ok (.getfield 15, 3) := by decide +kernel
theorem dX1_firstOf_4 : decode cX1_firstOf 4 = .ok (.iload_n 1, 1) := by decide +kernel
theorem dX1_firstOf_5 : decode cX1_firstOf 5 = .ok (.iaload, 1) := by decide +kernel
theorem dX1_firstOf_6 : decode cX1_firstOf 6 = .ok (.ireturn, 1) := by decide +kernel
set_option maxHeartbeats 4000000 in
set_option maxRecDepth 100000 in
theorem c_X1_firstOf {l : Launch} {D : va_G} {aC : Nat → ClassId} {a_n : Nat → Nat} (s_n : Ob_T) (x1 : Int32) {out : Int32} (h : f_X1_firstOf s_n x1 = some out) : M_R l yX1_firstOf wlX1_firstOf 0 0 D aC [.ref (a_n 0), .int x1] (wd_X1 aC a_n s_n) (some (.int out)) := by
  refine k_entR (cc := cX1_firstOf) (ret := (some .int)) (maxL := 2) (own := RX1) (by decide) rfl rfl rfl ?_
  intro p e s m below meth c A ls hX hr hZ hl
  have hl : lv_has ls 2 [(0, .ref (a_n 0)), (1, .int x1)] := hl
  generalize ([.ref (a_n 0), .int x1] : List Value).toArray = args at hX ⊢
  obtain ⟨hx, hb, hml, hown, hts, hK, hA, hlk⟩ := id hX
  unfold f_X1_firstOf at h
  have hF : ∀ q ∈ ([] : List Loc), False := fun _ h => nomatch h
  generalize ([] : List Loc) = locs at hF ⊢
  refine lv_aload_n hx hb dX1_firstOf_0 rfl (lv_at hl 0 rfl) ?_
  refine k_get hX hZ.1 0 1 rfl rfl iw_X1 1 rfl (wm_314) (v := .ref (a_n 2)) rfl dX1_firstOf_1 ?_
  refine lv_iload_n hx hb dX1_firstOf_4 rfl (lv_at hl 1 rfl) ?_
  refine k_iald hX hZ.1 2 rfl h dX1_firstOf_5 (fun v1 h => ?_)
  cases h
  exact k_iretR hX hr hF dX1_firstOf_6
def wlX1_secondOf : List Cond := .code yX1_secondOf cX1_secondOf 2 (some .int) :: WL_
theorem hd_X1_secondOf : yX1_secondOf.cls = RX1 ∧ yX1_secondOf.cls ≠ "java/lang/invoke/MethodHandle" ∧ yX1_secondOf.cls ≠ "java/lang/invoke/VarHandle" ∧ (parseMethodDescriptor yX1_secondOf.desc).map (fun d => d.parameters.length) = some 1 := by decide +kernel
theorem dX1_secondOf_0 : decode cX1_secondOf 0 = .ok (.aload_n 0, 1) := by decide +kernel
theorem dX1_secondOf_1 : decode cX1_secondOf 1 = .ok (.getfield 18, 3) := by decide +kernel
theorem dX1_secondOf_4 : decode cX1_secondOf 4 = .ok (.iload_n 1, 1) := by decide +kernel
theorem dX1_secondOf_5 : decode cX1_secondOf 5 = .ok (.iaload, 1) := by decide +kernel
theorem dX1_secondOf_6 : decode cX1_secondOf 6 = .ok (.ireturn, 1) := by decide +kernel
set_option maxHeartbeats 4000000 in
set_option maxRecDepth 100000 in
theorem c_X1_secondOf {l : Launch} {D : va_G} {aC : Nat → ClassId} {a_n : Nat → Nat} (s_n : Ob_T) (x1 : Int32) {out : Int32} (h : f_X1_secondOf s_n x1 = some out) : M_R l yX1_secondOf wlX1_secondOf 0 0 D aC [.ref (a_n 0), .int x1] (wd_X1 aC a_n s_n) (some (.int out)) := by
  refine k_entR (cc := cX1_secondOf) (ret := (some .int)) (maxL := 2) (own := RX1) (by decide) rfl rfl rfl ?_
  intro p e s m below meth c A ls hX hr hZ hl
  have hl : lv_has ls 2 [(0, .ref (a_n 0)), (1, .int x1)] := hl
  generalize ([.ref (a_n 0), .int x1] : List Value).toArray = args at hX ⊢
  obtain ⟨hx, hb, hml, hown, hts, hK, hA, hlk⟩ := id hX
  unfold f_X1_secondOf at h
  have hF : ∀ q ∈ ([] : List Loc), False := fun _ h => nomatch h
  generalize ([] : List Loc) = locs at hF ⊢
  refine lv_aload_n hx hb dX1_secondOf_0 rfl (lv_at hl 0 rfl) ?_
  refine k_get hX hZ.1 0 1 rfl rfl iw_X1 2 rfl (wm_315) (v := .ref (a_n 3)) rfl dX1_secondOf_1 ?_
  refine lv_iload_n hx hb dX1_secondOf_4 rfl (lv_at hl 1 rfl) ?_
  refine k_iald hX hZ.1 3 rfl h dX1_secondOf_5 (fun v1 h => ?_)
  cases h
  exact k_iretR hX hr hF dX1_secondOf_6
def wlX1_rankOf : List Cond := .code yX1_rankOf cX1_rankOf 2 (some .int) :: WL_
theorem hd_X1_rankOf : yX1_rankOf.cls = RX1 ∧ yX1_rankOf.cls ≠ "java/lang/invoke/MethodHandle" ∧ yX1_rankOf.cls ≠ "java/lang/invoke/VarHandle" ∧ (parseMethodDescriptor yX1_rankOf.desc).map (fun d => d.parameters.length) = some 1 := by decide +kernel
theorem dX1_rankOf_0 : decode cX1_rankOf 0 = .ok (.aload_n 0, 1) := by decide +kernel
theorem dX1_rankOf_1 : decode cX1_rankOf 1 = .ok (.getfield 21, 3) := by decide +kernel
theorem dX1_rankOf_4 : decode cX1_rankOf 4 = .ok (.iload_n 1, 1) := by decide +kernel
theorem dX1_rankOf_5 : decode cX1_rankOf 5 = .ok (.iaload, 1) := by decide +kernel
theorem dX1_rankOf_6 : decode cX1_rankOf 6 = .ok (.ireturn, 1) := by decide +kernel
set_option maxHeartbeats 4000000 in
set_option maxRecDepth 100000 in
theorem c_X1_rankOf {l : Launch} {D : va_G} {aC : Nat → ClassId} {a_n : Nat → Nat} (s_n : Ob_T) (x1 : Int32) {out : Int32} (h : f_X1_rankOf s_n x1 = some out) : M_R l yX1_rankOf wlX1_rankOf 0 0 D aC [.ref (a_n 0), .int x1] (wd_X1 aC a_n s_n) (some (.int out)) := by
  refine k_entR (cc := cX1_rankOf) (ret := (some .int)) (maxL := 2) (own := RX1) (by decide) rfl rfl rfl ?_
  intro p e s m below meth c A ls hX hr hZ hl
  have hl : lv_has ls 2 [(0, .ref (a_n 0)), (1, .int x1)] := hl
  generalize ([.ref (a_n 0), .int x1] : List Value).toArray = args at hX ⊢
  obtain ⟨hx, hb, hml, hown, hts, hK, hA, hlk⟩ := id hX
  unfold f_X1_rankOf at h
  have hF : ∀ q ∈ ([] : List Loc), False := fun _ h => nomatch h
  generalize ([] : List Loc) = locs at hF ⊢
  refine lv_aload_n hx hb dX1_rankOf_0 rfl (lv_at hl 0 rfl) ?_
  refine k_get hX hZ.1 0 1 rfl rfl iw_X1 3 rfl (wm_316) (v := .ref (a_n 4)) rfl dX1_rankOf_1 ?_
  refine lv_iload_n hx hb dX1_rankOf_4 rfl (lv_at hl 1 rfl) ?_
  refine k_iald hX hZ.1 4 rfl h dX1_rankOf_5 (fun v1 h => ?_)
  cases h
  exact k_iretR hX hr hF dX1_rankOf_6
def wlX1_at : List Cond := .code yX1_at cX1_at 3 (some .int) :: WL_
theorem hd_X1_at : yX1_at.cls = RX1 ∧ yX1_at.cls ≠ "java/lang/invoke/MethodHandle" ∧ yX1_at.cls ≠ "java/lang/invoke/VarHandle" ∧ (parseMethodDescriptor yX1_at.desc).map (fun d => d.parameters.length) = some 2 := by decide +kernel
theorem dX1_at_0 : decode cX1_at 0 = .ok (.aload_n 0, 1) := by decide +kernel
theorem dX1_at_1 : decode cX1_at 1 = .ok (.getfield 27, 3) := by decide +kernel
theorem dX1_at_4 : decode cX1_at 4 = .ok (.iload_n 1, 1) := by decide +kernel
theorem dX1_at_5 : decode cX1_at 5 = .ok (.bipush 6, 2) := by decide +kernel
theorem dX1_at_7 : decode cX1_at 7 = .ok (.imul, 1) := by decide +kernel
theorem dX1_at_8 : decode cX1_at 8 = .ok (.iload_n 2, 1) := by decide +kernel
theorem dX1_at_9 : decode cX1_at 9 = .ok (.iadd, 1) := by decide +kernel
theorem dX1_at_10 : decode cX1_at 10 = .ok (.iaload, 1) := by decide +kernel
theorem dX1_at_11 : decode cX1_at 11 = .ok (.ireturn, 1) := by decide +kernel
set_option maxHeartbeats 4000000 in
set_option maxRecDepth 100000 in
theorem c_X1_at {l : Launch} {D : va_G} {aC : Nat → ClassId} {a_n : Nat → Nat} (s_n : Ob_T) (x1 : Int32) (x2 : Int32) {out : Int32} (h : f_X1_at s_n x1 x2 = some out) : M_R l yX1_at wlX1_at 0 0 D aC [.ref (a_n 0), .int x1, .int x2] (wd_X1 aC a_n s_n) (some (.int out)) := by
  refine k_entR (cc := cX1_at) (ret := (some .int)) (maxL := 3) (own := RX1) (by decide) rfl rfl rfl ?_
  intro p e s m below meth c A ls hX hr hZ hl
  have hl : lv_has ls 3 [(0, .ref (a_n 0)), (1, .int x1), (2, .int x2)] := hl
  generalize ([.ref (a_n 0), .int x1, .int x2] : List Value).toArray = args at hX ⊢
  obtain ⟨hx, hb, hml, hown, hts, hK, hA, hlk⟩ := id hX
  unfold f_X1_at at h
  have hF : ∀ q ∈ ([] : List Loc), False := fun _ h => nomatch h
  generalize ([] : List Loc) = locs at hF ⊢
  refine lv_aload_n hx hb dX1_at_0 rfl (lv_at hl 0 rfl) ?_
  refine k_get hX hZ.1 0 1 rfl rfl iw_X1 5 rfl (wm_318) (v := .ref (a_n 6)) rfl dX1_at_1 ?_
  refine lv_iload_n hx hb dX1_at_4 rfl (lv_at hl 1 rfl) ?_
  refine lv_bipush (v := 6) hx hb dX1_at_5 (by decide) ?_
  refine lv_imul hx hb dX1_at_7 ?_
  refine lv_iload_n hx hb dX1_at_8 rfl (lv_at hl 2 rfl) ?_
  refine lv_iadd hx hb dX1_at_9 ?_
  refine k_iald hX hZ.1 6 rfl h dX1_at_10 (fun v1 h => ?_)
  cases h
  exact k_iretR hX hr hF dX1_at_11
def wlX1_joinedAt : List Cond := .code yX1_joinedAt cX1_joinedAt 3 (some .int) :: WL_
theorem hd_X1_joinedAt : yX1_joinedAt.cls = RX1 ∧ yX1_joinedAt.cls ≠ "java/lang/invoke/MethodHandle" ∧ yX1_joinedAt.cls ≠ "java/lang/invoke/VarHandle" ∧ (parseMethodDescriptor yX1_joinedAt.desc).map (fun d => d.parameters.length) = some 2 := by decide +kernel
theorem dX1_joinedAt_0 : decode cX1_joinedAt 0 = .ok (.iload_n 2, 1) := by decide +kernel
theorem dX1_joinedAt_1 : decode cX1_joinedAt 1 = .ok (.aload_n 0, 1) := by decide +kernel
theorem dX1_joinedAt_2 : decode cX1_joinedAt 2 = .ok (.getfield 24, 3) := by decide +kernel
theorem dX1_joinedAt_5 : decode cX1_joinedAt 5 = .ok (.iload_n 1, 1) := by decide +kernel
theorem dX1_joinedAt_6 : decode cX1_joinedAt 6 = .ok (.iaload, 1) := by decide +kernel
theorem dX1_joinedAt_7 : decode cX1_joinedAt 7 = .ok (.if_icmp .ge 17, 3) := by decide +kernel
theorem dX1_joinedAt_10 : decode cX1_joinedAt 10 = .ok (.aload_n 0, 1) := by decide +kernel
theorem dX1_joinedAt_11 : decode cX1_joinedAt 11 = .ok (.getfield 27, 3) := by decide +kernel
theorem dX1_joinedAt_14 : decode cX1_joinedAt 14 = .ok (.iload_n 1, 1) := by decide +kernel
theorem dX1_joinedAt_15 : decode cX1_joinedAt 15 = .ok (.bipush 6, 2) := by decide +kernel
theorem dX1_joinedAt_17 : decode cX1_joinedAt 17 = .ok (.imul, 1) := by decide +kernel
theorem dX1_joinedAt_18 : decode cX1_joinedAt 18 = .ok (.iload_n 2, 1) := by decide +kernel
theorem dX1_joinedAt_19 : decode cX1_joinedAt 19 = .ok (.iadd, 1) := by decide +kernel
theorem dX1_joinedAt_20 : decode cX1_joinedAt 20 = .ok (.iaload, 1) := by decide +kernel
theorem dX1_joinedAt_21 : decode cX1_joinedAt 21 = .ok (.goto 4, 3) := by decide +kernel
theorem dX1_joinedAt_24 : decode cX1_joinedAt 24 = .ok (.iconst 1, 1) := by decide +kernel
theorem dX1_joinedAt_25 : decode cX1_joinedAt 25 = .ok (.ireturn, 1) := by decide +kernel
set_option maxHeartbeats 4000000 in
set_option maxRecDepth 100000 in
theorem c_X1_joinedAt {l : Launch} {D : va_G} {aC : Nat → ClassId} {a_n : Nat → Nat} (s_n : Ob_T) (x1 : Int32) (x2 : Int32) {out : Int32} (h : f_X1_joinedAt s_n x1 x2 = some out) : M_R l yX1_joinedAt wlX1_joinedAt 0 0 D aC [.ref (a_n 0), .int x1, .int x2] (wd_X1 aC a_n s_n) (some (.int out)) := by
  refine k_entR (cc := cX1_joinedAt) (ret := (some .int)) (maxL := 3) (own := RX1) (by decide) rfl rfl rfl ?_
  intro p e s m below meth c A ls hX hr hZ hl
  have hl : lv_has ls 3 [(0, .ref (a_n 0)), (1, .int x1), (2, .int x2)] := hl
  generalize ([.ref (a_n 0), .int x1, .int x2] : List Value).toArray = args at hX ⊢
  obtain ⟨hx, hb, hml, hown, hts, hK, hA, hlk⟩ := id hX
  unfold f_X1_joinedAt at h
  have hF : ∀ q ∈ ([] : List Loc), False := fun _ h => nomatch h
  generalize ([] : List Loc) = locs at hF ⊢
  refine lv_iload_n hx hb dX1_joinedAt_0 rfl (lv_at hl 2 rfl) ?_
  refine lv_aload_n hx hb dX1_joinedAt_1 rfl (lv_at hl 0 rfl) ?_
  refine k_get hX hZ.1 0 1 rfl rfl iw_X1 4 rfl (wm_317) (v := .ref (a_n 5)) rfl dX1_joinedAt_2 ?_
  refine lv_iload_n hx hb dX1_joinedAt_5 rfl (lv_at hl 1 rfl) ?_
  refine k_iald hX hZ.1 5 rfl h dX1_joinedAt_6 (fun v1 h => ?_)
  refine lv_icmp_ge (tgt := 24) hx hb dX1_joinedAt_7 (by decide) (fun cd => ?_) (fun cd => ?_)
  · replace h := k_t cd h
    clear cd
    refine lv_iconst (v := 1) hx hb dX1_joinedAt_24 (by decide) ?_
    cases h
    exact k_iretR hX hr hF dX1_joinedAt_25
  · replace h := k_f cd h
    clear cd
    refine lv_aload_n hx hb dX1_joinedAt_10 rfl (lv_at hl 0 rfl) ?_
    refine k_get hX hZ.1 0 1 rfl rfl iw_X1 5 rfl (wm_318) (v := .ref (a_n 6)) rfl dX1_joinedAt_11 ?_
    refine lv_iload_n hx hb dX1_joinedAt_14 rfl (lv_at hl 1 rfl) ?_
    refine lv_bipush (v := 6) hx hb dX1_joinedAt_15 (by decide) ?_
    refine lv_imul hx hb dX1_joinedAt_17 ?_
    refine lv_iload_n hx hb dX1_joinedAt_18 rfl (lv_at hl 2 rfl) ?_
    refine lv_iadd hx hb dX1_joinedAt_19 ?_
    refine k_iald hX hZ.1 6 rfl h dX1_joinedAt_20 (fun v2 h => ?_)
    refine lv_goto (tgt := 25) hx hb dX1_joinedAt_21 (by decide) ?_
    cases h
    exact k_iretR hX hr hF dX1_joinedAt_25
def wlX1_isTold : List Cond := .code yX1_isTold cX1_isTold 2 (some .boolean) :: WL_
theorem hd_X1_isTold : yX1_isTold.cls = RX1 ∧ yX1_isTold.cls ≠ "java/lang/invoke/MethodHandle" ∧ yX1_isTold.cls ≠ "java/lang/invoke/VarHandle" ∧ (parseMethodDescriptor yX1_isTold.desc).map (fun d => d.parameters.length) = some 1 := by decide +kernel
theorem dX1_isTold_0 : decode cX1_isTold 0 = .ok (.aload_n 0, 1) := by decide +kernel
theorem dX1_isTold_1 : decode cX1_isTold 1 = .ok (.getfield 9, 3) := by decide +kernel
theorem dX1_isTold_4 : decode cX1_isTold 4 = .ok (.iload_n 1, 1) := by decide +kernel
theorem dX1_isTold_5 : decode cX1_isTold 5 = .ok (.iaload, 1) := by decide +kernel
theorem dX1_isTold_6 : decode cX1_isTold 6 = .ok (.ifCond .eq 14, 3) := by decide +kernel
theorem dX1_isTold_9 : decode cX1_isTold 9 = .ok (.aload_n 0, 1) := by decide +kernel
theorem dX1_isTold_10 : decode cX1_isTold 10 = .ok (.getfield 9, 3) := by decide +kernel
theorem dX1_isTold_13 : decode cX1_isTold 13 = .ok (.iload_n 1, 1) := by decide +kernel
theorem dX1_isTold_14 : decode cX1_isTold 14 = .ok (.iaload, 1) := by decide +kernel
theorem dX1_isTold_15 : decode cX1_isTold 15 = .ok (.bipush 6, 2) := by decide +kernel
theorem dX1_isTold_17 : decode cX1_isTold 17 = .ok (.if_icmp .ne 7, 3) := by decide +kernel
theorem dX1_isTold_20 : decode cX1_isTold 20 = .ok (.iconst 1, 1) := by decide +kernel
theorem dX1_isTold_21 : decode cX1_isTold 21 = .ok (.goto 4, 3) := by decide +kernel
theorem dX1_isTold_24 : decode cX1_isTold 24 = .ok (.iconst 0, 1) := by decide +kernel
theorem dX1_isTold_25 : decode cX1_isTold 25 = .ok (.ireturn, 1) := by decide +kernel
set_option maxHeartbeats 4000000 in
set_option maxRecDepth 100000 in
theorem c_X1_isTold {l : Launch} {D : va_G} {aC : Nat → ClassId} {a_n : Nat → Nat} (s_n : Ob_T) (x1 : Int32) {out : Int32} (h : f_X1_isTold s_n x1 = some out) : M_R l yX1_isTold wlX1_isTold 0 0 D aC [.ref (a_n 0), .int x1] (wd_X1 aC a_n s_n) (some (.int out)) := by
  refine k_entR (cc := cX1_isTold) (ret := (some .boolean)) (maxL := 2) (own := RX1) (by decide) rfl rfl rfl ?_
  intro p e s m below meth c A ls hX hr hZ hl
  have hl : lv_has ls 2 [(0, .ref (a_n 0)), (1, .int x1)] := hl
  generalize ([.ref (a_n 0), .int x1] : List Value).toArray = args at hX ⊢
  obtain ⟨hx, hb, hml, hown, hts, hK, hA, hlk⟩ := id hX
  unfold f_X1_isTold at h
  have hF : ∀ q ∈ ([] : List Loc), False := fun _ h => nomatch h
  generalize ([] : List Loc) = locs at hF ⊢
  refine lv_aload_n hx hb dX1_isTold_0 rfl (lv_at hl 0 rfl) ?_
  refine k_get hX hZ.1 0 1 rfl rfl iw_X1 0 rfl (wm_313) (v := .ref (a_n 1)) rfl dX1_isTold_1 ?_
  refine lv_iload_n hx hb dX1_isTold_4 rfl (lv_at hl 1 rfl) ?_
  refine k_iald hX hZ.1 1 rfl h dX1_isTold_5 (fun v1 h => ?_)
  refine lv_if_eq (tgt := 20) hx hb dX1_isTold_6 (by decide) (fun cd => ?_) (fun cd => ?_)
  · replace h := k_t cd h
    clear cd
    refine lv_iconst (v := 1) hx hb dX1_isTold_20 (by decide) ?_
    refine lv_goto (tgt := 25) hx hb dX1_isTold_21 (by decide) ?_
    cases h
    exact k_zretR (v := (1 : Int32)) hX hr rfl hF dX1_isTold_25
  · replace h := k_f cd h
    clear cd
    refine lv_aload_n hx hb dX1_isTold_9 rfl (lv_at hl 0 rfl) ?_
    refine k_get hX hZ.1 0 1 rfl rfl iw_X1 0 rfl (wm_313) (v := .ref (a_n 1)) rfl dX1_isTold_10 ?_
    refine lv_iload_n hx hb dX1_isTold_13 rfl (lv_at hl 1 rfl) ?_
    refine k_iald hX hZ.1 1 rfl h dX1_isTold_14 (fun v2 h => ?_)
    refine lv_bipush (v := 6) hx hb dX1_isTold_15 (by decide) ?_
    refine lv_icmp_ne (tgt := 24) hx hb dX1_isTold_17 (by decide) (fun cd => ?_) (fun cd => ?_)
    · replace h := k_f cd h
      clear cd
      refine lv_iconst (v := 0) hx hb dX1_isTold_24 (by decide) ?_
      cases h
      exact k_zretR (v := (0 : Int32)) hX hr rfl hF dX1_isTold_25
    · replace h := k_t cd h
      clear cd
      refine lv_iconst (v := 1) hx hb dX1_isTold_20 (by decide) ?_
      refine lv_goto (tgt := 25) hx hb dX1_isTold_21 (by decide) ?_
      cases h
      exact k_zretR (v := (1 : Int32)) hX hr rfl hF dX1_isTold_25
def wlX1_hasOwnLetter : List Cond := .code yX1_hasOwnLetter cX1_hasOwnLetter 3 (some .boolean) :: WL_
theorem hd_X1_hasOwnLetter : yX1_hasOwnLetter.cls = RX1 ∧ yX1_hasOwnLetter.cls ≠ "java/lang/invoke/MethodHandle" ∧ yX1_hasOwnLetter.cls ≠ "java/lang/invoke/VarHandle" ∧ (parseMethodDescriptor yX1_hasOwnLetter.desc).map (fun d => d.parameters.length) = some 1 := by decide +kernel
theorem dX1_hasOwnLetter_0 : decode cX1_hasOwnLetter 0 = .ok (.iload_n 1, 1) := by decide +kernel
theorem dX1_hasOwnLetter_1 : decode cX1_hasOwnLetter 1 = .ok (.iconst 4, 1) := by decide +kernel
theorem dX1_hasOwnLetter_2 : decode cX1_hasOwnLetter 2 = .ok (.isub, 1) := by decide +kernel
theorem dX1_hasOwnLetter_3 : decode cX1_hasOwnLetter 3 = .ok (.istore_n 2, 1) := by decide +kernel
theorem dX1_hasOwnLetter_4 : decode cX1_hasOwnLetter 4 = .ok (.iload_n 1, 1) := by decide +kernel
theorem dX1_hasOwnLetter_5 : decode cX1_hasOwnLetter 5 = .ok (.iconst 4, 1) := by decide +kernel
theorem dX1_hasOwnLetter_6 : decode cX1_hasOwnLetter 6 = .ok (.if_icmp .lt 35, 3) := by decide +kernel
theorem dX1_hasOwnLetter_9 : decode cX1_hasOwnLetter 9 = .ok (.aload_n 0, 1) := by decide +kernel
theorem dX1_hasOwnLetter_10 : decode cX1_hasOwnLetter 10 = .ok (.iload_n 2, 1) := by decide +kernel
theorem dX1_hasOwnLetter_11 : decode cX1_hasOwnLetter 11 = .ok (.invokevirtual 40, 3) := by decide +kernel
theorem dX1_hasOwnLetter_14 : decode cX1_hasOwnLetter 14 = .ok (.ifCond .eq 27, 3) := by decide +kernel
theorem dX1_hasOwnLetter_17 : decode cX1_hasOwnLetter 17 = .ok (.aload_n 0, 1) := by decide +kernel
theorem dX1_hasOwnLetter_18 : decode cX1_hasOwnLetter 18 = .ok (.getfield 9, 3) := by decide +kernel
theorem dX1_hasOwnLetter_21 : decode cX1_hasOwnLetter 21 = .ok (.iload_n 2, 1) := by decide +kernel
theorem dX1_hasOwnLetter_22 : decode cX1_hasOwnLetter 22 = .ok (.iaload, 1) := by decide +kernel
theorem dX1_hasOwnLetter_23 : decode cX1_hasOwnLetter 23 = .ok (.iconst 2, 1) := by decide +kernel
theorem dX1_hasOwnLetter_24 : decode cX1_hasOwnLetter 24 = .ok (.if_icmp .eq 13, 3) := by decide +kernel
theorem dX1_hasOwnLetter_27 : decode cX1_hasOwnLetter 27 = .ok (.aload_n 0, 1) := by decide +kernel
theorem dX1_hasOwnLetter_28 : decode cX1_hasOwnLetter 28 = .ok (.getfield 9, 3) := by decide +kernel
theorem dX1_hasOwnLetter_31 : decode cX1_hasOwnLetter 31 = .ok (.iload_n 2, 1) := by decide +kernel
theorem dX1_hasOwnLetter_32 : decode cX1_hasOwnLetter 32 = .ok (.iaload, 1) := by decide +kernel
theorem dX1_hasOwnLetter_33 : decode cX1_hasOwnLetter 33 = .ok (.iconst 5, 1) := by decide +kernel
theorem dX1_hasOwnLetter_34 : decode cX1_hasOwnLetter 34 = .ok (.if_icmp .ne 7, 3) := by decide +kernel
theorem dX1_hasOwnLetter_37 : decode cX1_hasOwnLetter 37 = .ok (.iconst 1, 1) := by decide +kernel
theorem dX1_hasOwnLetter_38 : decode cX1_hasOwnLetter 38 = .ok (.goto 4, 3) := by decide +kernel
theorem dX1_hasOwnLetter_41 : decode cX1_hasOwnLetter 41 = .ok (.iconst 0, 1) := by decide +kernel
theorem dX1_hasOwnLetter_42 : decode cX1_hasOwnLetter 42 = .ok (.ireturn, 1) := by decide +kernel
set_option maxHeartbeats 4000000 in
set_option maxRecDepth 100000 in
theorem c_X1_hasOwnLetter {l : Launch} {D : va_G} {aC : Nat → ClassId} {a_n : Nat → Nat} (s_n : Ob_T) (x1 : Int32) {out : Int32} (h : f_X1_hasOwnLetter s_n x1 = some out) : M_R l yX1_hasOwnLetter wlX1_hasOwnLetter 1 21 D aC [.ref (a_n 0), .int x1] (wd_X1 aC a_n s_n) (some (.int out)) := by
  refine k_entR (cc := cX1_hasOwnLetter) (ret := (some .boolean)) (maxL := 3) (own := RX1) (by decide) rfl rfl rfl ?_
  intro p e s m below meth c A ls hX hr hZ hl
  have hl : lv_has ls 3 [(0, .ref (a_n 0)), (1, .int x1)] := hl
  generalize ([.ref (a_n 0), .int x1] : List Value).toArray = args at hX ⊢
  obtain ⟨hx, hb, hml, hown, hts, hK, hA, hlk⟩ := id hX
  unfold f_X1_hasOwnLetter at h
  have hF : ∀ q ∈ ([] : List Loc), False := fun _ h => nomatch h
  generalize ([] : List Loc) = locs at hF ⊢
  refine lv_iload_n hx hb dX1_hasOwnLetter_0 rfl (lv_at hl 1 rfl) ?_
  refine lv_iconst (v := 4) hx hb dX1_hasOwnLetter_1 (by decide) ?_
  refine lv_isub hx hb dX1_hasOwnLetter_2 ?_
  refine lv_istore_n (lv' := [(2, .int (x1 - (4 : Int32))), (0, .ref (a_n 0)), (1, .int x1)]) hx hb dX1_hasOwnLetter_3 rfl hl (by decide) rfl (fun ls hl => ?_)
  refine lv_iload_n hx hb dX1_hasOwnLetter_4 rfl (lv_at hl 2 rfl) ?_
  refine lv_iconst (v := 4) hx hb dX1_hasOwnLetter_5 (by decide) ?_
  refine lv_icmp_lt (tgt := 41) hx hb dX1_hasOwnLetter_6 (by decide) (fun cd => ?_) (fun cd => ?_)
  · replace h := k_t cd h
    clear cd
    refine lv_iconst (v := 0) hx hb dX1_hasOwnLetter_41 (by decide) ?_
    cases h
    exact k_zretR (v := (0 : Int32)) hX hr rfl hF dX1_hasOwnLetter_42
  · replace h := k_f cd h
    clear cd
    refine lv_aload_n hx hb dX1_hasOwnLetter_9 rfl (lv_at hl 1 rfl) ?_
    refine lv_iload_n hx hb dX1_hasOwnLetter_10 rfl (lv_at hl 0 rfl) ?_
    obtain ⟨u1, hu, h⟩ := k_bd h
    refine k_vRRs (As := [.int (x1 - (4 : Int32))]) (rest := []) (v := some (.int u1)) (st1 := [.int u1]) hX hl.1 hZ hF (c_X1_has (a_n := a_n) s_n (x1 - (4 : Int32)) hu) (gv_ wm_320 wm_323 wm_324 wm_321 wm_322) rfl hd_X1_has ⟨rfl, rfl⟩ 1 0 rfl rfl rfl rfl rfl dX1_hasOwnLetter_11 rfl ⟨rfl, rfl⟩ (fun locs hF => ?_)
    clear hu
    refine lv_if_eq (tgt := 41) hx hb dX1_hasOwnLetter_14 (by decide) (fun cd => ?_) (fun cd => ?_)
    · replace h := k_t cd h
      clear cd
      refine lv_iconst (v := 0) hx hb dX1_hasOwnLetter_41 (by decide) ?_
      cases h
      exact k_zretR (v := (0 : Int32)) hX hr rfl hF dX1_hasOwnLetter_42
    · replace h := k_f cd h
      clear cd
      refine lv_aload_n hx hb dX1_hasOwnLetter_17 rfl (lv_at hl 1 rfl) ?_
      refine k_get hX hZ.1 0 1 rfl rfl iw_X1 0 rfl (wm_313) (v := .ref (a_n 1)) rfl dX1_hasOwnLetter_18 ?_
      refine lv_iload_n hx hb dX1_hasOwnLetter_21 rfl (lv_at hl 0 rfl) ?_
      refine k_iald hX hZ.1 1 rfl h dX1_hasOwnLetter_22 (fun v2 h => ?_)
      refine lv_iconst (v := 2) hx hb dX1_hasOwnLetter_23 (by decide) ?_
      refine lv_icmp_eq (tgt := 37) hx hb dX1_hasOwnLetter_24 (by decide) (fun cd => ?_) (fun cd => ?_)
      · replace h := k_t cd h
        clear cd
        refine lv_iconst (v := 1) hx hb dX1_hasOwnLetter_37 (by decide) ?_
        refine lv_goto (tgt := 42) hx hb dX1_hasOwnLetter_38 (by decide) ?_
        cases h
        exact k_zretR (v := (1 : Int32)) hX hr rfl hF dX1_hasOwnLetter_42
      · replace h := k_f cd h
        clear cd
        refine lv_aload_n hx hb dX1_hasOwnLetter_27 rfl (lv_at hl 1 rfl) ?_
        refine k_get hX hZ.1 0 1 rfl rfl iw_X1 0 rfl (wm_313) (v := .ref (a_n 1)) rfl dX1_hasOwnLetter_28 ?_
        refine lv_iload_n hx hb dX1_hasOwnLetter_31 rfl (lv_at hl 0 rfl) ?_
        refine k_iald hX hZ.1 1 rfl h dX1_hasOwnLetter_32 (fun v3 h => ?_)
        refine lv_iconst (v := 5) hx hb dX1_hasOwnLetter_33 (by decide) ?_
        refine lv_icmp_ne (tgt := 41) hx hb dX1_hasOwnLetter_34 (by decide) (fun cd => ?_) (fun cd => ?_)
        · replace h := k_f cd h
          clear cd
          refine lv_iconst (v := 0) hx hb dX1_hasOwnLetter_41 (by decide) ?_
          cases h
          exact k_zretR (v := (0 : Int32)) hX hr rfl hF dX1_hasOwnLetter_42
        · replace h := k_t cd h
          clear cd
          refine lv_iconst (v := 1) hx hb dX1_hasOwnLetter_37 (by decide) ?_
          refine lv_goto (tgt := 42) hx hb dX1_hasOwnLetter_38 (by decide) ?_
          cases h
          exact k_zretR (v := (1 : Int32)) hX hr rfl hF dX1_hasOwnLetter_42
