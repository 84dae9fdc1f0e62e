def wlX9_layExtent : List Cond := .code yX9_layExtent cX9_layExtent 3 none :: WL_
theorem hd_X9_layExtent : yX9_layExtent.cls = RX9 ∧ yX9_layExtent.cls ≠ "java/lang/invoke/MethodHandle" ∧ yX9_layExtent.cls ≠ "java/lang/invoke/VarHandle" ∧ (parseMethodDescriptor yX9_layExtent.desc).map (fun d => d.parameters.length) = some 2 := by decide +kernel
theorem dX9_layExtent_0 : decode cX9_layExtent 0 = .ok (.aload_n 0, 1) := by decide +kernel
theorem dX9_layExtent_1 : decode cX9_layExtent 1 = .ok (.getfield 188, 3) := by decide +kernel
theorem dX9_layExtent_4 : decode cX9_layExtent 4 = .ok (.bipush 6, 2) := by decide +kernel
theorem dX9_layExtent_6 : decode cX9_layExtent 6 = .ok (.if_icmp .ne 8, 3) := by decide +kernel
theorem dX9_layExtent_9 : decode cX9_layExtent 9 = .ok (.aload_n 0, 1) := by decide +kernel
theorem dX9_layExtent_10 : decode cX9_layExtent 10 = .ok (.iconst (-1), 1) := by decide +kernel
theorem dX9_layExtent_11 : decode cX9_layExtent 11 = .ok (.putfield 188, 3) := by decide +kernel
theorem dX9_layExtent_14 : decode cX9_layExtent 14 = .ok (.aload_n 0, 1) := by decide +kernel
theorem dX9_layExtent_15 : decode cX9_layExtent 15 = .ok (.getfield 188, 3) := by decide +kernel
theorem dX9_layExtent_18 : decode cX9_layExtent 18 = .ok (.ifCond .lt 31, 3) := by decide +kernel
theorem dX9_layExtent_21 : decode cX9_layExtent 21 = .ok (.aload_n 0, 1) := by decide +kernel
theorem dX9_layExtent_22 : decode cX9_layExtent 22 = .ok (.getfield 13, 3) := by decide +kernel
theorem dX9_layExtent_25 : decode cX9_layExtent 25 = .ok (.bipush 15, 2) := by decide +kernel
theorem dX9_layExtent_27 : decode cX9_layExtent 27 = .ok (.iload_n 1, 1) := by decide +kernel
theorem dX9_layExtent_28 : decode cX9_layExtent 28 = .ok (.imul, 1) := by decide +kernel
theorem dX9_layExtent_29 : decode cX9_layExtent 29 = .ok (.bipush 9, 2) := by decide +kernel
theorem dX9_layExtent_31 : decode cX9_layExtent 31 = .ok (.iadd, 1) := by decide +kernel
theorem dX9_layExtent_32 : decode cX9_layExtent 32 = .ok (.aload_n 0, 1) := by decide +kernel
theorem dX9_layExtent_33 : decode cX9_layExtent 33 = .ok (.getfield 188, 3) := by decide +kernel
theorem dX9_layExtent_36 : decode cX9_layExtent 36 = .ok (.iadd, 1) := by decide +kernel
theorem dX9_layExtent_37 : decode cX9_layExtent 37 = .ok (.iload_n 2, 1) := by decide +kernel
theorem dX9_layExtent_38 : decode cX9_layExtent 38 = .ok (.iastore, 1) := by decide +kernel
theorem dX9_layExtent_39 : decode cX9_layExtent 39 = .ok (.aload_n 0, 1) := by decide +kernel
theorem dX9_layExtent_40 : decode cX9_layExtent 40 = .ok (.dup, 1) := by decide +kernel
theorem dX9_layExtent_41 : decode cX9_layExtent 41 = .ok (.getfield 188, 3) := by decide +kernel
theorem dX9_layExtent_44 : decode cX9_layExtent 44 = .ok (.iconst 1, 1) := by decide +kernel
theorem dX9_layExtent_45 : decode cX9_layExtent 45 = .ok (.iadd, 1) := by decide +kernel
theorem dX9_layExtent_46 : decode cX9_layExtent 46 = .ok (.putfield 188, 3) := by decide +kernel
theorem dX9_layExtent_49 : decode cX9_layExtent 49 = .ok (.return_, 1) := by decide +kernel
set_option maxHeartbeats 4000000 in
set_option maxRecDepth 100000 in
theorem t_X9_layExtent_J14 {p : Program} {l : Launch} {e : Env} {s : State} {m : MethodId} {args : Array Value} {below : List Frame} {meth : Method} {c : Code} {D : va_G} {aC : Nat → ClassId} {A : Nat → Prop} {a_o : Nat → Nat} {out : Ob_T} (hX : K_X p s m args meth c cX9_layExtent 3 WL_ RX9 D aC A) (hr : meth.sig.returnType = none) (x1 : Int32) (x2 : Int32) (s_o : Ob_T) (h : f_X9_layExtent_J14 x1 x2 s_o = some out) (H : Heap) (locs : List Loc) (ls : Array Slot) (hZ : K_S D A s (wd_X9 aC a_o s_o) H locs) (hl : lv_has ls 3 [(0, .ref (a_o 0)), (1, .int x1), (2, .int x2)]) : W p l e (R_m 0 0) s m args below meth c H locs 0 0 (MQ below (Q_W (none) D A (wd_X9 aC a_o out)) args s 0 0 A) (F0 m 14 ls []) := by
  obtain ⟨hx, hb, hml, hown, hts, hK, hA, hlk⟩ := id hX
  unfold f_X9_layExtent_J14 at h
  refine lv_aload_n hx hb dX9_layExtent_14 rfl (lv_at hl 0 rfl) ?_
  refine k_get hX hZ.1 0 9 rfl rfl iw_X9 30 rfl (wm_66) (v := .int (o_F s_o 30)) rfl dX9_layExtent_15 ?_
  refine lv_if_lt (tgt := 49) hx hb dX9_layExtent_18 (by decide) (fun cd => ?_) (fun cd => ?_)
  · replace h := k_t cd h
    clear cd
    cases h
    exact k_vretW hX hr hZ dX9_layExtent_49
  · replace h := k_f cd h
    clear cd
    refine lv_aload_n hx hb dX9_layExtent_21 rfl (lv_at hl 0 rfl) ?_
    refine k_get hX hZ.1 0 9 rfl rfl iw_X9 1 rfl (wm_31) (v := .ref (a_o 2)) rfl dX9_layExtent_22 ?_
    refine lv_bipush (v := 15) hx hb dX9_layExtent_25 (by decide) ?_
    refine lv_iload_n hx hb dX9_layExtent_27 rfl (lv_at hl 1 rfl) ?_
    refine lv_imul hx hb dX9_layExtent_28 ?_
    refine lv_bipush (v := 9) hx hb dX9_layExtent_29 (by decide) ?_
    refine lv_iadd hx hb dX9_layExtent_31 ?_
    refine lv_aload_n hx hb dX9_layExtent_32 rfl (lv_at hl 0 rfl) ?_
    refine k_get hX hZ.1 0 9 rfl rfl iw_X9 30 rfl (wm_66) (v := .int (o_F s_o 30)) rfl dX9_layExtent_33 ?_
    refine lv_iadd hx hb dX9_layExtent_36 ?_
    refine lv_iload_n hx hb dX9_layExtent_37 rfl (lv_at hl 2 rfl) ?_
    refine k_iast (wf := (fun o => wd_X9 aC a_o o)) (o := s_o) hX hZ 2 1 rfl (fun _ => rfl) h dX9_layExtent_38 (fun o1 H locs hZ h => ?_)
    refine lv_aload_n hx hb dX9_layExtent_39 rfl (lv_at hl 0 rfl) ?_
    refine lv_dup hx hb dX9_layExtent_40 rfl ?_
    refine k_get hX hZ.1 0 9 rfl rfl iw_X9 30 rfl (wm_66) (v := .int (o_F o1 30)) rfl dX9_layExtent_41 ?_
    refine lv_iconst (v := 1) hx hb dX9_layExtent_44 (by decide) ?_
    refine lv_iadd hx hb dX9_layExtent_45 ?_
    refine k_put (wf := (fun o => wd_X9 aC a_o o)) (o := o1) hX hZ 0 9 rfl rfl iw_X9 tyX9 tyX9_ok nmX9 30 rfl (wm_66) rfl rfl rfl rfl rfl h dX9_layExtent_46 (fun o2 H locs hZ h => ?_)
    cases h
    exact k_vretW hX hr hZ dX9_layExtent_49
set_option maxHeartbeats 4000000 in
set_option maxRecDepth 100000 in
theorem c_X9_layExtent {l : Launch} {D : va_G} {aC : Nat → ClassId} {a_o : Nat → Nat} (s_o : Ob_T) (x1 : Int32) (x2 : Int32) {out : Ob_T} (h : f_X9_layExtent s_o x1 x2 = some out) : M_W l yX9_layExtent wlX9_layExtent 0 0 D aC [.ref (a_o 0), .int x1, .int x2] (wd_X9 aC a_o s_o) (none) (wd_X9 aC a_o out) := by
  refine k_entW (cc := cX9_layExtent) (ret := none) (maxL := 3) (own := RX9) (by decide) rfl rfl rfl ?_
  intro p e s m below meth c A ls hX hr hZ hl
  have hl : lv_has ls 3 [(0, .ref (a_o 0)), (1, .int x1), (2, .int x2)] := hl
  generalize ([.ref (a_o 0), .int x1, .int x2] : List Value).toArray = args at hX ⊢
  obtain ⟨hx, hb, hml, hown, hts, hK, hA, hlk⟩ := id hX
  unfold f_X9_layExtent at h
  generalize s.heap = H at hZ ⊢
  generalize ([] : List Loc) = locs at hZ ⊢
  refine lv_aload_n hx hb dX9_layExtent_0 rfl (lv_at hl 0 rfl) ?_
  refine k_get hX hZ.1 0 9 rfl rfl iw_X9 30 rfl (wm_66) (v := .int (o_F s_o 30)) rfl dX9_layExtent_1 ?_
  refine lv_bipush (v := 6) hx hb dX9_layExtent_4 (by decide) ?_
  refine lv_icmp_ne (tgt := 14) hx hb dX9_layExtent_6 (by decide) (fun cd => ?_) (fun cd => ?_)
  · replace h := k_f cd h
    clear cd
    exact t_X9_layExtent_J14 hX hr x1 x2 s_o h H locs ls hZ (lv_sub hl [0, 1, 2] rfl)
  · replace h := k_t cd h
    clear cd
    refine lv_aload_n hx hb dX9_layExtent_9 rfl (lv_at hl 0 rfl) ?_
    refine lv_iconst (v := -1) hx hb dX9_layExtent_10 (by decide) ?_
    refine k_put (wf := (fun o => wd_X9 aC a_o o)) (o := s_o) hX hZ 0 9 rfl rfl iw_X9 tyX9 tyX9_ok nmX9 30 rfl (wm_66) rfl rfl rfl rfl rfl h dX9_layExtent_11 (fun o3 H locs hZ h => ?_)
    exact t_X9_layExtent_J14 hX hr x1 x2 o3 h H locs ls hZ (lv_sub hl [0, 1, 2] rfl)
def wlX9_longOf : List Cond := .code yX9_longOf cX9_longOf 2 (some .int) :: WL_
theorem hd_X9_longOf : yX9_longOf.cls = RX9 ∧ yX9_longOf.cls ≠ "java/lang/invoke/MethodHandle" ∧ yX9_longOf.cls ≠ "java/lang/invoke/VarHandle" ∧ (parseMethodDescriptor yX9_longOf.desc).map (fun d => d.parameters.length) = some 1 := by decide +kernel
theorem dX9_longOf_0 : decode cX9_longOf 0 = .ok (.aload_n 0, 1) := by decide +kernel
theorem dX9_longOf_1 : decode cX9_longOf 1 = .ok (.getfield 13, 3) := by decide +kernel
theorem dX9_longOf_4 : decode cX9_longOf 4 = .ok (.bipush 15, 2) := by decide +kernel
theorem dX9_longOf_6 : decode cX9_longOf 6 = .ok (.iload_n 1, 1) := by decide +kernel
theorem dX9_longOf_7 : decode cX9_longOf 7 = .ok (.imul, 1) := by decide +kernel
theorem dX9_longOf_8 : decode cX9_longOf 8 = .ok (.bipush 8, 2) := by decide +kernel
theorem dX9_longOf_10 : decode cX9_longOf 10 = .ok (.iadd, 1) := by decide +kernel
theorem dX9_longOf_11 : decode cX9_longOf 11 = .ok (.iaload, 1) := by decide +kernel
theorem dX9_longOf_12 : decode cX9_longOf 12 = .ok (.ireturn, 1) := by decide +kernel
set_option maxHeartbeats 4000000 in
set_option maxRecDepth 100000 in
theorem c_X9_longOf {l : Launch} {D : va_G} {aC : Nat → ClassId} {a_o : Nat → Nat} (s_o : Ob_T) (x1 : Int32) {out : Int32} (h : f_X9_longOf s_o x1 = some out) : M_R l yX9_longOf wlX9_longOf 0 0 D aC [.ref (a_o 0), .int x1] (wd_X9 aC a_o s_o) (some (.int out)) := by
  refine k_entR (cc := cX9_longOf) (ret := (some .int)) (maxL := 2) (own := RX9) (by decide) rfl rfl rfl ?_
  intro p e s m below meth c A ls hX hr hZ hl
  have hl : lv_has ls 2 [(0, .ref (a_o 0)), (1, .int x1)] := hl
  generalize ([.ref (a_o 0), .int x1] : List Value).toArray = args at hX ⊢
  obtain ⟨hx, hb, hml, hown, hts, hK, hA, hlk⟩ := id hX
  unfold f_X9_longOf at h
  have hF : ∀ q ∈ ([] : List Loc), False := fun _ h => nomatch h
  generalize ([] : List Loc) = locs at hF ⊢
  refine lv_aload_n hx hb dX9_longOf_0 rfl (lv_at hl 0 rfl) ?_
  refine k_get hX hZ.1 0 9 rfl rfl iw_X9 1 rfl (wm_31) (v := .ref (a_o 2)) rfl dX9_longOf_1 ?_
  refine lv_bipush (v := 15) hx hb dX9_longOf_4 (by decide) ?_
  refine lv_iload_n hx hb dX9_longOf_6 rfl (lv_at hl 1 rfl) ?_
  refine lv_imul hx hb dX9_longOf_7 ?_
  refine lv_bipush (v := 8) hx hb dX9_longOf_8 (by decide) ?_
  refine lv_iadd hx hb dX9_longOf_10 ?_
  refine k_iald hX hZ.1 2 rfl h dX9_longOf_11 (fun v1 h => ?_)
  cases h
  exact k_iretR hX hr hF dX9_longOf_12
def wlX9_frameOf : List Cond := .code yX9_frameOf cX9_frameOf 2 (some .int) :: WL_
theorem hd_X9_frameOf : yX9_frameOf.cls ≠ "java/lang/invoke/MethodHandle" ∧ yX9_frameOf.cls ≠ "java/lang/invoke/VarHandle" ∧ (parseMethodDescriptor yX9_frameOf.desc).map (fun d => d.parameters.length) = some 2 := by decide +kernel
theorem dX9_frameOf_0 : decode cX9_frameOf 0 = .ok (.iload_n 1, 1) := by decide +kernel
theorem dX9_frameOf_1 : decode cX9_frameOf 1 = .ok (.ifCond .ge 18, 3) := by decide +kernel
theorem dX9_frameOf_4 : decode cX9_frameOf 4 = .ok (.iload_n 0, 1) := by decide +kernel
theorem dX9_frameOf_5 : decode cX9_frameOf 5 = .ok (.iload_n 1, 1) := by decide +kernel
theorem dX9_frameOf_6 : decode cX9_frameOf 6 = .ok (.ineg, 1) := by decide +kernel
theorem dX9_frameOf_7 : decode cX9_frameOf 7 = .ok (.if_icmp .ge 7, 3) := by decide +kernel
theorem dX9_frameOf_10 : decode cX9_frameOf 10 = .ok (.iload_n 0, 1) := by decide +kernel
theorem dX9_frameOf_11 : decode cX9_frameOf 11 = .ok (.goto 20, 3) := by decide +kernel
theorem dX9_frameOf_14 : decode cX9_frameOf 14 = .ok (.iload_n 1, 1) := by decide +kernel
theorem dX9_frameOf_15 : decode cX9_frameOf 15 = .ok (.ineg, 1) := by decide +kernel
theorem dX9_frameOf_16 : decode cX9_frameOf 16 = .ok (.goto 15, 3) := by decide +kernel
theorem dX9_frameOf_19 : decode cX9_frameOf 19 = .ok (.iload_n 0, 1) := by decide +kernel
theorem dX9_frameOf_20 : decode cX9_frameOf 20 = .ok (.iload_n 1, 1) := by decide +kernel
theorem dX9_frameOf_21 : decode cX9_frameOf 21 = .ok (.if_icmp .ge 7, 3) := by decide +kernel
theorem dX9_frameOf_24 : decode cX9_frameOf 24 = .ok (.iconst 0, 1) := by decide +kernel
theorem dX9_frameOf_25 : decode cX9_frameOf 25 = .ok (.goto 6, 3) := by decide +kernel
theorem dX9_frameOf_28 : decode cX9_frameOf 28 = .ok (.iload_n 0, 1) := by decide +kernel
theorem dX9_frameOf_29 : decode cX9_frameOf 29 = .ok (.iload_n 1, 1) := by decide +kernel
theorem dX9_frameOf_30 : decode cX9_frameOf 30 = .ok (.isub, 1) := by decide +kernel
theorem dX9_frameOf_31 : decode cX9_frameOf 31 = .ok (.ireturn, 1) := by decide +kernel
set_option maxHeartbeats 4000000 in
set_option maxRecDepth 100000 in
theorem c_X9_frameOf {l : Launch} {D : va_G} {aC : Nat → ClassId} (x0 : Int32) (x1 : Int32) {out : Int32} (h : f_X9_frameOf x0 x1 = some out) : M_R l yX9_frameOf wlX9_frameOf 0 0 D aC [.int x0, .int x1] (([] : va_W)) (some (.int out)) := by
  refine k_entR (cc := cX9_frameOf) (ret := (some .int)) (maxL := 2) (own := RX9) (by decide) rfl rfl rfl ?_
  intro p e s m below meth c A ls hX hr hZ hl
  have hl : lv_has ls 2 [(0, .int x0), (1, .int x1)] := hl
  generalize ([.int x0, .int x1] : List Value).toArray = args at hX ⊢
  obtain ⟨hx, hb, hml, hown, hts, hK, hA, hlk⟩ := id hX
  unfold f_X9_frameOf at h
  have hF : ∀ q ∈ ([] : List Loc), False := fun _ h => nomatch h
  generalize ([] : List Loc) = locs at hF ⊢
  refine lv_iload_n hx hb dX9_frameOf_0 rfl (lv_at hl 1 rfl) ?_
  refine lv_if_ge (tgt := 19) hx hb dX9_frameOf_1 (by decide) (fun cd => ?_) (fun cd => ?_)
  · replace h := k_t cd h
    clear cd
    refine lv_iload_n hx hb dX9_frameOf_19 rfl (lv_at hl 0 rfl) ?_
    refine lv_iload_n hx hb dX9_frameOf_20 rfl (lv_at hl 1 rfl) ?_
    refine lv_icmp_ge (tgt := 28) hx hb dX9_frameOf_21 (by decide) (fun cd => ?_) (fun cd => ?_)
    · replace h := k_t cd h
      clear cd
      refine lv_iload_n hx hb dX9_frameOf_28 rfl (lv_at hl 0 rfl) ?_
      refine lv_iload_n hx hb dX9_frameOf_29 rfl (lv_at hl 1 rfl) ?_
      refine lv_isub hx hb dX9_frameOf_30 ?_
      cases h
      exact k_iretR hX hr hF dX9_frameOf_31
    · replace h := k_f cd h
      clear cd
      refine lv_iconst (v := 0) hx hb dX9_frameOf_24 (by decide) ?_
      refine lv_goto (tgt := 31) hx hb dX9_frameOf_25 (by decide) ?_
      cases h
      exact k_iretR hX hr hF dX9_frameOf_31
  · replace h := k_f cd h
    clear cd
    refine lv_iload_n hx hb dX9_frameOf_4 rfl (lv_at hl 0 rfl) ?_
    refine lv_iload_n hx hb dX9_frameOf_5 rfl (lv_at hl 1 rfl) ?_
    refine lv_ineg hx hb dX9_frameOf_6 ?_
    refine lv_icmp_ge (tgt := 14) hx hb dX9_frameOf_7 (by decide) (fun cd => ?_) (fun cd => ?_)
    · replace h := k_t cd h
      clear cd
      refine lv_iload_n hx hb dX9_frameOf_14 rfl (lv_at hl 1 rfl) ?_
      refine lv_ineg hx hb dX9_frameOf_15 ?_
      refine lv_goto (tgt := 31) hx hb dX9_frameOf_16 (by decide) ?_
      cases h
      exact k_iretR hX hr hF dX9_frameOf_31
    · replace h := k_f cd h
      clear cd
      refine lv_iload_n hx hb dX9_frameOf_10 rfl (lv_at hl 0 rfl) ?_
      refine lv_goto (tgt := 31) hx hb dX9_frameOf_11 (by decide) ?_
      cases h
      exact k_iretR hX hr hF dX9_frameOf_31
def wlX9_extentOf : List Cond := .code yX9_extentOf cX9_extentOf 3 (some .int) :: WL_
theorem hd_X9_extentOf : yX9_extentOf.cls = RX9 ∧ yX9_extentOf.cls ≠ "java/lang/invoke/MethodHandle" ∧ yX9_extentOf.cls ≠ "java/lang/invoke/VarHandle" ∧ (parseMethodDescriptor yX9_extentOf.desc).map (fun d => d.parameters.length) = some 2 := by decide +kernel
theorem dX9_extentOf_0 : decode cX9_extentOf 0 = .ok (.aload_n 0, 1) := by decide +kernel
theorem dX9_extentOf_1 : decode cX9_extentOf 1 = .ok (.getfield 13, 3) := by decide +kernel
theorem dX9_extentOf_4 : decode cX9_extentOf 4 = .ok (.bipush 15, 2) := by decide +kernel
theorem dX9_extentOf_6 : decode cX9_extentOf 6 = .ok (.iload_n 1, 1) := by decide +kernel
theorem dX9_extentOf_7 : decode cX9_extentOf 7 = .ok (.imul, 1) := by decide +kernel
theorem dX9_extentOf_8 : decode cX9_extentOf 8 = .ok (.bipush 9, 2) := by decide +kernel
theorem dX9_extentOf_10 : decode cX9_extentOf 10 = .ok (.iadd, 1) := by decide +kernel
theorem dX9_extentOf_11 : decode cX9_extentOf 11 = .ok (.iload_n 2, 1) := by decide +kernel
theorem dX9_extentOf_12 : decode cX9_extentOf 12 = .ok (.iadd, 1) := by decide +kernel
theorem dX9_extentOf_13 : decode cX9_extentOf 13 = .ok (.iaload, 1) := by decide +kernel
theorem dX9_extentOf_14 : decode cX9_extentOf 14 = .ok (.ireturn, 1) := by decide +kernel
set_option maxHeartbeats 4000000 in
set_option maxRecDepth 100000 in
theorem c_X9_extentOf {l : Launch} {D : va_G} {aC : Nat → ClassId} {a_o : Nat → Nat} (s_o : Ob_T) (x1 : Int32) (x2 : Int32) {out : Int32} (h : f_X9_extentOf s_o x1 x2 = some out) : M_R l yX9_extentOf wlX9_extentOf 0 0 D aC [.ref (a_o 0), .int x1, .int x2] (wd_X9 aC a_o s_o) (some (.int out)) := by
  refine k_entR (cc := cX9_extentOf) (ret := (some .int)) (maxL := 3) (own := RX9) (by decide) rfl rfl rfl ?_
  intro p e s m below meth c A ls hX hr hZ hl
  have hl : lv_has ls 3 [(0, .ref (a_o 0)), (1, .int x1), (2, .int x2)] := hl
  generalize ([.ref (a_o 0), .int x1, .int x2] : List Value).toArray = args at hX ⊢
  obtain ⟨hx, hb, hml, hown, hts, hK, hA, hlk⟩ := id hX
  unfold f_X9_extentOf at h
  have hF : ∀ q ∈ ([] : List Loc), False := fun _ h => nomatch h
  generalize ([] : List Loc) = locs at hF ⊢
  refine lv_aload_n hx hb dX9_extentOf_0 rfl (lv_at hl 0 rfl) ?_
  refine k_get hX hZ.1 0 9 rfl rfl iw_X9 1 rfl (wm_31) (v := .ref (a_o 2)) rfl dX9_extentOf_1 ?_
  refine lv_bipush (v := 15) hx hb dX9_extentOf_4 (by decide) ?_
  refine lv_iload_n hx hb dX9_extentOf_6 rfl (lv_at hl 1 rfl) ?_
  refine lv_imul hx hb dX9_extentOf_7 ?_
  refine lv_bipush (v := 9) hx hb dX9_extentOf_8 (by decide) ?_
  refine lv_iadd hx hb dX9_extentOf_10 ?_
  refine lv_iload_n hx hb dX9_extentOf_11 rfl (lv_at hl 2 rfl) ?_
  refine lv_iadd hx hb dX9_extentOf_12 ?_
  refine k_iald hX hZ.1 2 rfl h dX9_extentOf_13 (fun v1 h => ?_)
  cases h
  exact k_iretR hX hr hF dX9_extentOf_14
def wlX9_layExtents : List Cond := .code yX9_layExtents cX9_layExtents 6 none :: WL_
theorem hd_X9_layExtents : yX9_layExtents.cls = RX9 ∧ yX9_layExtents.cls ≠ "java/lang/invoke/MethodHandle" ∧ yX9_layExtents.cls ≠ "java/lang/invoke/VarHandle" ∧ (parseMethodDescriptor yX9_layExtents.desc).map (fun d => d.parameters.length) = some 4 := by decide +kernel
theorem dX9_layExtents_0 : decode cX9_layExtents 0 = .ok (.iload_n 3, 1) := by decide +kernel
theorem dX9_layExtents_1 : decode cX9_layExtents 1 = .ok (.istore 5, 2) := by decide +kernel
theorem dX9_layExtents_3 : decode cX9_layExtents 3 = .ok (.iload 5, 2) := by decide +kernel
theorem dX9_layExtents_5 : decode cX9_layExtents 5 = .ok (.iload 4, 2) := by decide +kernel
theorem dX9_layExtents_7 : decode cX9_layExtents 7 = .ok (.if_icmp .ge 21, 3) := by decide +kernel
theorem dX9_layExtents_10 : decode cX9_layExtents 10 = .ok (.aload_n 0, 1) := by decide +kernel
theorem dX9_layExtents_11 : decode cX9_layExtents 11 = .ok (.iload_n 1, 1) := by decide +kernel
theorem dX9_layExtents_12 : decode cX9_layExtents 12 = .ok (.aload_n 0, 1) := by decide +kernel
theorem dX9_layExtents_13 : decode cX9_layExtents 13 = .ok (.iload_n 2, 1) := by decide +kernel
theorem dX9_layExtents_14 : decode cX9_layExtents 14 = .ok (.iload 5, 2) := by decide +kernel
theorem dX9_layExtents_16 : decode cX9_layExtents 16 = .ok (.invokevirtual 191, 3) := by decide +kernel
theorem dX9_layExtents_19 : decode cX9_layExtents 19 = .ok (.invokevirtual 195, 3) := by decide +kernel
theorem dX9_layExtents_22 : decode cX9_layExtents 22 = .ok (.iinc 5 1, 3) := by decide +kernel
theorem dX9_layExtents_25 : decode cX9_layExtents 25 = .ok (.goto (-22), 3) := by decide +kernel
theorem dX9_layExtents_28 : decode cX9_layExtents 28 = .ok (.return_, 1) := by decide +kernel
set_option maxHeartbeats 4000000 in
set_option maxRecDepth 100000 in
theorem t_X9_layExtents_L3 {p : Program} {l : Launch} {e : Env} {s : State} {m : MethodId} {args : Array Value} {below : List Frame} {meth : Method} {c : Code} {D : va_G} {aC : Nat → ClassId} {A : Nat → Prop} {a_o : Nat → Nat} {out : Ob_T} {rec3 : (Int32 × Int32 × Int32 × Int32 × Ob_T) → Option Ob_T} (hX : K_X p s m args meth c cX9_layExtents 6 WL_ RX9 D aC A) (hr : meth.sig.returnType = none) (hrec3 : ∀ x : Int32 × Int32 × Int32 × Int32 × Ob_T, rec3 x = some out → ∀ (H : Heap) (locs : List Loc) (ls : Array Slot), K_S D A s (wd_X9 aC a_o x.2.2.2.2) H locs → lv_has ls 6 [(0, .ref (a_o 0)), (1, .int x.1), (2, .int x.2.1), (4, .int x.2.2.1), (5, .int x.2.2.2.1)] → W p l e (R_m 1 22) s m args below meth c H locs 0 0 (MQ below (Q_W (none) D A (wd_X9 aC a_o out)) args s 0 0 A) (F0 m 3 ls [])) (x1 : Int32) (x2 : Int32) (x4 : Int32) (x5 : Int32) (s_o : Ob_T) (h : f_X9_layExtents_L3 rec3 x1 x2 x4 x5 s_o = some out) (H : Heap) (locs : List Loc) (ls : Array Slot) (hZ : K_S D A s (wd_X9 aC a_o s_o) H locs) (hl : lv_has ls 6 [(0, .ref (a_o 0)), (1, .int x1), (2, .int x2), (4, .int x4), (5, .int x5)]) : W p l e (R_m 1 22) s m args below meth c H locs 0 0 (MQ below (Q_W (none) D A (wd_X9 aC a_o out)) args s 0 0 A) (F0 m 3 ls []) := by
  obtain ⟨hx, hb, hml, hown, hts, hK, hA, hlk⟩ := id hX
  unfold f_X9_layExtents_L3 at h
  refine lv_iload hx hb dX9_layExtents_3 (lv_at hl 4 rfl) ?_
  refine lv_iload hx hb dX9_layExtents_5 (lv_at hl 3 rfl) ?_
  refine lv_icmp_ge (tgt := 28) hx hb dX9_layExtents_7 (by decide) (fun cd => ?_) (fun cd => ?_)
  · replace h := k_t cd h
    clear cd
    cases h
    exact k_vretW hX hr hZ dX9_layExtents_28
  · replace h := k_f cd h
    clear cd
    refine lv_aload_n hx hb dX9_layExtents_10 rfl (lv_at hl 0 rfl) ?_
    refine lv_iload_n hx hb dX9_layExtents_11 rfl (lv_at hl 1 rfl) ?_
    refine lv_aload_n hx hb dX9_layExtents_12 rfl (lv_at hl 0 rfl) ?_
    refine lv_iload_n hx hb dX9_layExtents_13 rfl (lv_at hl 2 rfl) ?_
    refine lv_iload hx hb dX9_layExtents_14 (lv_at hl 4 rfl) ?_
    obtain ⟨u1, hu, h⟩ := k_bd h
    refine k_vRs (As := [.int x2, .int x5]) (rest := [.int x1, .ref (a_o 0)]) (v := some (.int u1)) (st1 := [.int u1, .int x1, .ref (a_o 0)]) hX hl.1 hZ (c_X9_extentOf (a_o := a_o) s_o x2 x5 hu) (gv_ wm_71 wm_73 wm_74 wm_11 wm_72) rfl hd_X9_extentOf ⟨rfl, rfl⟩ 9 0 rfl rfl rfl rfl rfl dX9_layExtents_16 rfl ⟨rfl, rfl⟩ (fun locs hZ => ?_)
    clear hu
    obtain ⟨u2, hu, h⟩ := k_bd h
    refine k_vWs (As := [.int x1, .int u1]) (rest := []) (v := none) (st1 := []) hX hl.1 hZ (c_X9_layExtent (a_o := a_o) s_o x1 u1 hu) (gv_ wm_67 wm_69 wm_70 wm_11 wm_68) rfl hd_X9_layExtent ⟨rfl, rfl⟩ 9 0 rfl rfl rfl rfl rfl dX9_layExtents_19 rfl ⟨rfl, rfl⟩ rfl (fun H locs hZ => ?_)
    clear hu
    refine lv_iinc (v := (x5 + (1 : Int32))) (lv' := [(5, .int (x5 + (1 : Int32))), (0, .ref (a_o 0)), (1, .int x1), (2, .int x2), (4, .int x4)]) hx hb dX9_layExtents_22 hl (k := 4) rfl rfl (by decide) rfl (fun ls hl => ?_)
    refine lv_goto (tgt := 3) hx hb dX9_layExtents_25 (by decide) ?_
    exact hrec3 (x1, x2, x4, (x5 + (1 : Int32)), u2) h H locs ls hZ (lv_sub hl [1, 2, 3, 4, 0] rfl)
set_option maxHeartbeats 4000000 in
set_option maxRecDepth 100000 in
theorem c_X9_layExtents {l : Launch} {D : va_G} {aC : Nat → ClassId} {a_o : Nat → Nat} (s_o : Ob_T) (x1 : Int32) (x2 : Int32) (x3 : Int32) (x4 : Int32) {out : Ob_T} (h : f_X9_layExtents s_o x1 x2 x3 x4 = some out) : M_W l yX9_layExtents wlX9_layExtents 1 22 D aC [.ref (a_o 0), .int x1, .int x2, .int x3, .int x4] (wd_X9 aC a_o s_o) (none) (wd_X9 aC a_o out) := by
  refine k_entW (cc := cX9_layExtents) (ret := none) (maxL := 6) (own := RX9) (by decide) rfl rfl rfl ?_
  intro p e s m below meth c A ls hX hr hZ hl
  have hl : lv_has ls 6 [(0, .ref (a_o 0)), (1, .int x1), (2, .int x2), (3, .int x3), (4, .int x4)] := hl
  generalize ([.ref (a_o 0), .int x1, .int x2, .int x3, .int x4] : List Value).toArray = args at hX ⊢
  obtain ⟨hx, hb, hml, hown, hts, hK, hA, hlk⟩ := id hX
  unfold f_X9_layExtents at h
  generalize s.heap = H at hZ ⊢
  generalize ([] : List Loc) = locs at hZ ⊢
  refine lv_iload_n hx hb dX9_layExtents_0 rfl (lv_at hl 3 rfl) ?_
  refine lv_istore (lv' := [(5, .int x3), (0, .ref (a_o 0)), (1, .int x1), (2, .int x2), (3, .int x3), (4, .int x4)]) hx hb dX9_layExtents_1 hl (by decide) rfl (fun ls hl => ?_)
  exact Lp_ok (body := (fun (rec : (Int32 × Int32 × Int32 × Int32 × Ob_T) → Option Ob_T) x => f_X9_layExtents_L3 rec x.1 x.2.1 x.2.2.1 x.2.2.2.1 x.2.2.2.2)) (out := out) (fun x => ∀ (H : Heap) (locs : List Loc) (ls : Array Slot), K_S D A s (wd_X9 aC a_o x.2.2.2.2) H locs → lv_has ls 6 [(0, .ref (a_o 0)), (1, .int x.1), (2, .int x.2.1), (4, .int x.2.2.1), (5, .int x.2.2.2.1)] → W p l e (R_m 1 22) s m args below meth c H locs 0 0 (MQ below (Q_W (none) D A (wd_X9 aC a_o out)) args s 0 0 A) (F0 m 3 ls [])) (fun rec hrec x h H locs ls hZ hl => t_X9_layExtents_L3 hX hr hrec x.1 x.2.1 x.2.2.1 x.2.2.2.1 x.2.2.2.2 h H locs ls hZ hl) FU_ (x1, x2, x4, x3, s_o) h H locs ls hZ (lv_sub hl [1, 2, 3, 5, 0] rfl)
