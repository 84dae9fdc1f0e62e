def wlX4_add : List Cond := .code yX4_add cX4_add 3 none :: WL_
theorem hd_X4_add : yX4_add.cls = RX4 ∧ yX4_add.cls ≠ "java/lang/invoke/MethodHandle" ∧ yX4_add.cls ≠ "java/lang/invoke/VarHandle" ∧ (parseMethodDescriptor yX4_add.desc).map (fun d => d.parameters.length) = some 2 := by decide +kernel
theorem dX4_add_0 : decode cX4_add 0 = .ok (.iload_n 2, 1) := by decide +kernel
theorem dX4_add_1 : decode cX4_add 1 = .ok (.sipush 20000, 3) := by decide +kernel
theorem dX4_add_4 : decode cX4_add 4 = .ok (.if_icmp .lt 43, 3) := by decide +kernel
theorem dX4_add_7 : decode cX4_add 7 = .ok (.aload_n 0, 1) := by decide +kernel
theorem dX4_add_8 : decode cX4_add 8 = .ok (.dup, 1) := by decide +kernel
theorem dX4_add_9 : decode cX4_add 9 = .ok (.getfield 18, 3) := by decide +kernel
theorem dX4_add_12 : decode cX4_add 12 = .ok (.iconst 1, 1) := by decide +kernel
theorem dX4_add_13 : decode cX4_add 13 = .ok (.iadd, 1) := by decide +kernel
theorem dX4_add_14 : decode cX4_add 14 = .ok (.putfield 18, 3) := by decide +kernel
theorem dX4_add_17 : decode cX4_add 17 = .ok (.aload_n 0, 1) := by decide +kernel
theorem dX4_add_18 : decode cX4_add 18 = .ok (.iload_n 2, 1) := by decide +kernel
theorem dX4_add_19 : decode cX4_add 19 = .ok (.sipush 20000, 3) := by decide +kernel
theorem dX4_add_22 : decode cX4_add 22 = .ok (.isub, 1) := by decide +kernel
theorem dX4_add_23 : decode cX4_add 23 = .ok (.putfield 22, 3) := by decide +kernel
theorem dX4_add_26 : decode cX4_add 26 = .ok (.aload_n 0, 1) := by decide +kernel
theorem dX4_add_27 : decode cX4_add 27 = .ok (.iload_n 1, 1) := by decide +kernel
theorem dX4_add_28 : decode cX4_add 28 = .ok (.putfield 25, 3) := by decide +kernel
theorem dX4_add_31 : decode cX4_add 31 = .ok (.aload_n 0, 1) := by decide +kernel
theorem dX4_add_32 : decode cX4_add 32 = .ok (.dup, 1) := by decide +kernel
theorem dX4_add_33 : decode cX4_add 33 = .ok (.getfield 28, 3) := by decide +kernel
theorem dX4_add_36 : decode cX4_add 36 = .ok (.iconst 1, 1) := by decide +kernel
theorem dX4_add_37 : decode cX4_add 37 = .ok (.aload_n 0, 1) := by decide +kernel
theorem dX4_add_38 : decode cX4_add 38 = .ok (.getfield 22, 3) := by decide +kernel
theorem dX4_add_41 : decode cX4_add 41 = .ok (.ishl, 1) := by decide +kernel
theorem dX4_add_42 : decode cX4_add 42 = .ok (.ior, 1) := by decide +kernel
theorem dX4_add_43 : decode cX4_add 43 = .ok (.putfield 28, 3) := by decide +kernel
theorem dX4_add_46 : decode cX4_add 46 = .ok (.return_, 1) := by decide +kernel
theorem dX4_add_47 : decode cX4_add 47 = .ok (.aload_n 0, 1) := by decide +kernel
theorem dX4_add_48 : decode cX4_add 48 = .ok (.getfield 9, 3) := by decide +kernel
theorem dX4_add_51 : decode cX4_add 51 = .ok (.iload_n 1, 1) := by decide +kernel
theorem dX4_add_52 : decode cX4_add 52 = .ok (.dup2, 1) := by decide +kernel
theorem dX4_add_53 : decode cX4_add 53 = .ok (.laload, 1) := by decide +kernel
theorem dX4_add_54 : decode cX4_add 54 = .ok (.iload_n 2, 1) := by decide +kernel
theorem dX4_add_55 : decode cX4_add 55 = .ok (.i2l, 1) := by decide +kernel
theorem dX4_add_56 : decode cX4_add 56 = .ok (.ladd, 1) := by decide +kernel
theorem dX4_add_57 : decode cX4_add 57 = .ok (.lastore, 1) := by decide +kernel
theorem dX4_add_58 : decode cX4_add 58 = .ok (.iload_n 2, 1) := by decide +kernel
theorem dX4_add_59 : decode cX4_add 59 = .ok (.ifCond .ne 13, 3) := by decide +kernel
theorem dX4_add_62 : decode cX4_add 62 = .ok (.aload_n 0, 1) := by decide +kernel
theorem dX4_add_63 : decode cX4_add 63 = .ok (.getfield 15, 3) := by decide +kernel
theorem dX4_add_66 : decode cX4_add 66 = .ok (.iload_n 1, 1) := by decide +kernel
theorem dX4_add_67 : decode cX4_add 67 = .ok (.lconst 0, 1) := by decide +kernel
theorem dX4_add_68 : decode cX4_add 68 = .ok (.lastore, 1) := by decide +kernel
theorem dX4_add_69 : decode cX4_add 69 = .ok (.goto 27, 3) := by decide +kernel
theorem dX4_add_72 : decode cX4_add 72 = .ok (.aload_n 0, 1) := by decide +kernel
theorem dX4_add_73 : decode cX4_add 73 = .ok (.getfield 15, 3) := by decide +kernel
theorem dX4_add_76 : decode cX4_add 76 = .ok (.iload_n 1, 1) := by decide +kernel
theorem dX4_add_77 : decode cX4_add 77 = .ok (.laload, 1) := by decide +kernel
theorem dX4_add_78 : decode cX4_add 78 = .ok (.ldc2_w 31, 3) := by decide +kernel
theorem dX4_add_81 : decode cX4_add 81 = .ok (.lcmp, 1) := by decide +kernel
theorem dX4_add_82 : decode cX4_add 82 = .ok (.ifCond .gt 14, 3) := by decide +kernel
theorem dX4_add_85 : decode cX4_add 85 = .ok (.aload_n 0, 1) := by decide +kernel
theorem dX4_add_86 : decode cX4_add 86 = .ok (.getfield 15, 3) := by decide +kernel
theorem dX4_add_89 : decode cX4_add 89 = .ok (.iload_n 1, 1) := by decide +kernel
theorem dX4_add_90 : decode cX4_add 90 = .ok (.dup2, 1) := by decide +kernel
theorem dX4_add_91 : decode cX4_add 91 = .ok (.laload, 1) := by decide +kernel
theorem dX4_add_92 : decode cX4_add 92 = .ok (.iload_n 2, 1) := by decide +kernel
theorem dX4_add_93 : decode cX4_add 93 = .ok (.i2l, 1) := by decide +kernel
theorem dX4_add_94 : decode cX4_add 94 = .ok (.lmul, 1) := by decide +kernel
theorem dX4_add_95 : decode cX4_add 95 = .ok (.lastore, 1) := by decide +kernel
theorem dX4_add_96 : decode cX4_add 96 = .ok (.return_, 1) := by decide +kernel
set_option maxHeartbeats 4000000 in
set_option maxRecDepth 100000 in
theorem c_X4_add {l : Launch} {D : va_G} {aC : Nat → ClassId} {a_d : Nat → Nat} (s_d : Ob_T) (x1 : Int32) (x2 : Int32) {out : Ob_T} (h : f_X4_add s_d x1 x2 = some out) : M_W l yX4_add wlX4_add 0 0 D aC [.ref (a_d 0), .int x1, .int x2] (wd_X4 aC a_d s_d) (none) (wd_X4 aC a_d out) := by
  refine k_entW (cc := cX4_add) (ret := none) (maxL := 3) (own := RX4) (by decide) rfl rfl rfl ?_
  intro p e s m below meth c A ls hX hr hZ hl
  have hl : lv_has ls 3 [(0, .ref (a_d 0)), (1, .int x1), (2, .int x2)] := hl
  generalize ([.ref (a_d 0), .int x1, .int x2] : List Value).toArray = args at hX ⊢
  obtain ⟨hx, hb, hml, hown, hts, hK, hA, hlk⟩ := id hX
  unfold f_X4_add at h
  generalize s.heap = H at hZ ⊢
  generalize ([] : List Loc) = locs at hZ ⊢
  refine lv_iload_n hx hb dX4_add_0 rfl (lv_at hl 2 rfl) ?_
  refine lv_sipush (v := 20000) hx hb dX4_add_1 (by decide) ?_
  refine lv_icmp_lt (tgt := 47) hx hb dX4_add_4 (by decide) (fun cd => ?_) (fun cd => ?_)
  · replace h := k_t cd h
    clear cd
    refine lv_aload_n hx hb dX4_add_47 rfl (lv_at hl 0 rfl) ?_
    refine k_get hX hZ.1 0 4 rfl rfl iw_X4 0 rfl (wm_417) (v := .ref (a_d 1)) rfl dX4_add_48 ?_
    refine lv_iload_n hx hb dX4_add_51 rfl (lv_at hl 1 rfl) ?_
    refine lv_dup2_11 hx hb dX4_add_52 rfl rfl ?_
    refine k_lald hX hZ.1 1 rfl h dX4_add_53 (fun v1 h => ?_)
    refine lv_iload_n hx hb dX4_add_54 rfl (lv_at hl 2 rfl) ?_
    refine lv_i2l (v := x2.toInt64) hx hb dX4_add_55 rfl ?_
    refine lv_ladd hx hb dX4_add_56 ?_
    refine k_last (wf := (fun o => wd_X4 aC a_d o)) (o := s_d) hX hZ 1 0 rfl (fun _ => rfl) h dX4_add_57 (fun o2 H locs hZ h => ?_)
    refine lv_iload_n hx hb dX4_add_58 rfl (lv_at hl 2 rfl) ?_
    refine lv_if_ne (tgt := 72) hx hb dX4_add_59 (by decide) (fun cd => ?_) (fun cd => ?_)
    · replace h := k_f cd h
      clear cd
      refine lv_aload_n hx hb dX4_add_72 rfl (lv_at hl 0 rfl) ?_
      refine k_get hX hZ.1 0 4 rfl rfl iw_X4 1 rfl (wm_418) (v := .ref (a_d 2)) rfl dX4_add_73 ?_
      refine lv_iload_n hx hb dX4_add_76 rfl (lv_at hl 1 rfl) ?_
      refine k_lald hX hZ.1 2 rfl h dX4_add_77 (fun v3 h => ?_)
      refine lv_ldc2 (v := 999999999999) hx hb hown (hts _ wm_423) dX4_add_78 ?_
      refine W.lcmp hx hb dX4_add_81 ?_
      refine lv_if_gt (tgt := 96) hx hb dX4_add_82 (by decide) (fun cd => ?_) (fun cd => ?_)
      · replace h := k_t cd h
        clear cd
        cases h
        exact k_vretW hX hr hZ dX4_add_96
      · replace h := k_f cd h
        clear cd
        refine lv_aload_n hx hb dX4_add_85 rfl (lv_at hl 0 rfl) ?_
        refine k_get hX hZ.1 0 4 rfl rfl iw_X4 1 rfl (wm_418) (v := .ref (a_d 2)) rfl dX4_add_86 ?_
        refine lv_iload_n hx hb dX4_add_89 rfl (lv_at hl 1 rfl) ?_
        refine lv_dup2_11 hx hb dX4_add_90 rfl rfl ?_
        refine k_lald hX hZ.1 2 rfl h dX4_add_91 (fun v4 h => ?_)
        refine lv_iload_n hx hb dX4_add_92 rfl (lv_at hl 2 rfl) ?_
        refine lv_i2l (v := x2.toInt64) hx hb dX4_add_93 rfl ?_
        refine lv_lmul hx hb dX4_add_94 ?_
        refine k_last (wf := (fun o => wd_X4 aC a_d o)) (o := o2) hX hZ 2 1 rfl (fun _ => rfl) h dX4_add_95 (fun o5 H locs hZ h => ?_)
        cases h
        exact k_vretW hX hr hZ dX4_add_96
    · replace h := k_t cd h
      clear cd
      refine lv_aload_n hx hb dX4_add_62 rfl (lv_at hl 0 rfl) ?_
      refine k_get hX hZ.1 0 4 rfl rfl iw_X4 1 rfl (wm_418) (v := .ref (a_d 2)) rfl dX4_add_63 ?_
      refine lv_iload_n hx hb dX4_add_66 rfl (lv_at hl 1 rfl) ?_
      refine lv_lconst (v := 0) hx hb dX4_add_67 (by decide) ?_
      refine k_last (wf := (fun o => wd_X4 aC a_d o)) (o := o2) hX hZ 2 1 rfl (fun _ => rfl) h dX4_add_68 (fun o6 H locs hZ h => ?_)
      refine lv_goto (tgt := 96) hx hb dX4_add_69 (by decide) ?_
      cases h
      exact k_vretW hX hr hZ dX4_add_96
  · replace h := k_f cd h
    clear cd
    refine lv_aload_n hx hb dX4_add_7 rfl (lv_at hl 0 rfl) ?_
    refine lv_dup hx hb dX4_add_8 rfl ?_
    refine k_get hX hZ.1 0 4 rfl rfl iw_X4 2 rfl (wm_422) (v := .int (o_F s_d 2)) rfl dX4_add_9 ?_
    refine lv_iconst (v := 1) hx hb dX4_add_12 (by decide) ?_
    refine lv_iadd hx hb dX4_add_13 ?_
    refine k_put (wf := (fun o => wd_X4 aC a_d o)) (o := s_d) hX hZ 0 4 rfl rfl iw_X4 tyX4 tyX4_ok nmX4 2 rfl (wm_422) rfl rfl rfl rfl rfl h dX4_add_14 (fun o7 H locs hZ h => ?_)
    refine lv_aload_n hx hb dX4_add_17 rfl (lv_at hl 0 rfl) ?_
    refine lv_iload_n hx hb dX4_add_18 rfl (lv_at hl 2 rfl) ?_
    refine lv_sipush (v := 20000) hx hb dX4_add_19 (by decide) ?_
    refine lv_isub hx hb dX4_add_22 ?_
    refine k_put (wf := (fun o => wd_X4 aC a_d o)) (o := o7) hX hZ 0 4 rfl rfl iw_X4 tyX4 tyX4_ok nmX4 3 rfl (wm_421) rfl rfl rfl rfl rfl h dX4_add_23 (fun o8 H locs hZ h => ?_)
    refine lv_aload_n hx hb dX4_add_26 rfl (lv_at hl 0 rfl) ?_
    refine lv_iload_n hx hb dX4_add_27 rfl (lv_at hl 1 rfl) ?_
    refine k_put (wf := (fun o => wd_X4 aC a_d o)) (o := o8) hX hZ 0 4 rfl rfl iw_X4 tyX4 tyX4_ok nmX4 4 rfl (wm_420) rfl rfl rfl rfl rfl h dX4_add_28 (fun o9 H locs hZ h => ?_)
    refine lv_aload_n hx hb dX4_add_31 rfl (lv_at hl 0 rfl) ?_
    refine lv_dup hx hb dX4_add_32 rfl ?_
    refine k_get hX hZ.1 0 4 rfl rfl iw_X4 5 rfl (wm_419) (v := .int (o_F o9 5)) rfl dX4_add_33 ?_
    refine lv_iconst (v := 1) hx hb dX4_add_36 (by decide) ?_
    refine lv_aload_n hx hb dX4_add_37 rfl (lv_at hl 0 rfl) ?_
    refine k_get hX hZ.1 0 4 rfl rfl iw_X4 3 rfl (wm_421) (v := .int (o_F o9 3)) rfl dX4_add_38 ?_
    refine lv_ishl hx hb dX4_add_41 ?_
    refine lv_ior hx hb dX4_add_42 ?_
    refine k_put (wf := (fun o => wd_X4 aC a_d o)) (o := o9) hX hZ 0 4 rfl rfl iw_X4 tyX4 tyX4_ok nmX4 5 rfl (wm_419) rfl rfl rfl rfl rfl h dX4_add_43 (fun o10 H locs hZ h => ?_)
    cases h
    exact k_vretW hX hr hZ dX4_add_46
def wlX4_letters : List Cond := .code yX4_letters cX4_letters 1 (some .int) :: WL_
theorem hd_X4_letters : yX4_letters.cls = RX4 ∧ yX4_letters.cls ≠ "java/lang/invoke/MethodHandle" ∧ yX4_letters.cls ≠ "java/lang/invoke/VarHandle" ∧ (parseMethodDescriptor yX4_letters.desc).map (fun d => d.parameters.length) = some 0 := by decide +kernel
theorem dX4_letters_0 : decode cX4_letters 0 = .ok (.aload_n 0, 1) := by decide +kernel
theorem dX4_letters_1 : decode cX4_letters 1 = .ok (.getfield 18, 3) := by decide +kernel
theorem dX4_letters_4 : decode cX4_letters 4 = .ok (.ireturn, 1) := by decide +kernel
set_option maxHeartbeats 4000000 in
set_option maxRecDepth 100000 in
theorem c_X4_letters {l : Launch} {D : va_G} {aC : Nat → ClassId} {a_d : Nat → Nat} (s_d : Ob_T) {out : Int32} (h : f_X4_letters s_d = some out) : M_R l yX4_letters wlX4_letters 0 0 D aC [.ref (a_d 0)] (wd_X4 aC a_d s_d) (some (.int out)) := by
  refine k_entR (cc := cX4_letters) (ret := (some .int)) (maxL := 1) (own := RX4) (by decide) rfl rfl rfl ?_
  intro p e s m below meth c A ls hX hr hZ hl
  have hl : lv_has ls 1 [(0, .ref (a_d 0))] := hl
  generalize ([.ref (a_d 0)] : List Value).toArray = args at hX ⊢
  obtain ⟨hx, hb, hml, hown, hts, hK, hA, hlk⟩ := id hX
  unfold f_X4_letters at h
  have hF : ∀ q ∈ ([] : List Loc), False := fun _ h => nomatch h
  generalize ([] : List Loc) = locs at hF ⊢
  refine lv_aload_n hx hb dX4_letters_0 rfl (lv_at hl 0 rfl) ?_
  refine k_get hX hZ.1 0 4 rfl rfl iw_X4 2 rfl (wm_422) (v := .int (o_F s_d 2)) rfl dX4_letters_1 ?_
  cases h
  exact k_iretR hX hr hF dX4_letters_4
def wlX4_latestLetter : List Cond := .code yX4_latestLetter cX4_latestLetter 1 (some .int) :: WL_
theorem hd_X4_latestLetter : yX4_latestLetter.cls = RX4 ∧ yX4_latestLetter.cls ≠ "java/lang/invoke/MethodHandle" ∧ yX4_latestLetter.cls ≠ "java/lang/invoke/VarHandle" ∧ (parseMethodDescriptor yX4_latestLetter.desc).map (fun d => d.parameters.length) = some 0 := by decide +kernel
theorem dX4_latestLetter_0 : decode cX4_latestLetter 0 = .ok (.aload_n 0, 1) := by decide +kernel
theorem dX4_latestLetter_1 : decode cX4_latestLetter 1 = .ok (.getfield 22, 3) := by decide +kernel
theorem dX4_latestLetter_4 : decode cX4_latestLetter 4 = .ok (.ireturn, 1) := by decide +kernel
set_option maxHeartbeats 4000000 in
set_option maxRecDepth 100000 in
theorem c_X4_latestLetter {l : Launch} {D : va_G} {aC : Nat → ClassId} {a_d : Nat → Nat} (s_d : Ob_T) {out : Int32} (h : f_X4_latestLetter s_d = some out) : M_R l yX4_latestLetter wlX4_latestLetter 0 0 D aC [.ref (a_d 0)] (wd_X4 aC a_d s_d) (some (.int out)) := by
  refine k_entR (cc := cX4_latestLetter) (ret := (some .int)) (maxL := 1) (own := RX4) (by decide) rfl rfl rfl ?_
  intro p e s m below meth c A ls hX hr hZ hl
  have hl : lv_has ls 1 [(0, .ref (a_d 0))] := hl
  generalize ([.ref (a_d 0)] : List Value).toArray = args at hX ⊢
  obtain ⟨hx, hb, hml, hown, hts, hK, hA, hlk⟩ := id hX
  unfold f_X4_latestLetter at h
  have hF : ∀ q ∈ ([] : List Loc), False := fun _ h => nomatch h
  generalize ([] : List Loc) = locs at hF ⊢
  refine lv_aload_n hx hb dX4_latestLetter_0 rfl (lv_at hl 0 rfl) ?_
  refine k_get hX hZ.1 0 4 rfl rfl iw_X4 3 rfl (wm_421) (v := .int (o_F s_d 3)) rfl dX4_latestLetter_1 ?_
  cases h
  exact k_iretR hX hr hF dX4_latestLetter_4
def wlX4_letterBits : List Cond := .code yX4_letterBits cX4_letterBits 1 (some .int) :: WL_
theorem hd_X4_letterBits : yX4_letterBits.cls = RX4 ∧ yX4_letterBits.cls ≠ "java/lang/invoke/MethodHandle" ∧ yX4_letterBits.cls ≠ "java/lang/invoke/VarHandle" ∧ (parseMethodDescriptor yX4_letterBits.desc).map (fun d => d.parameters.length) = some 0 := by decide +kernel
theorem dX4_letterBits_0 : decode cX4_letterBits 0 = .ok (.aload_n 0, 1) := by decide +kernel
theorem dX4_letterBits_1 : decode cX4_letterBits 1 = .ok (.getfield 28, 3) := by decide +kernel
theorem dX4_letterBits_4 : decode cX4_letterBits 4 = .ok (.ireturn, 1) := by decide +kernel
set_option maxHeartbeats 4000000 in
set_option maxRecDepth 100000 in
theorem c_X4_letterBits {l : Launch} {D : va_G} {aC : Nat → ClassId} {a_d : Nat → Nat} (s_d : Ob_T) {out : Int32} (h : f_X4_letterBits s_d = some out) : M_R l yX4_letterBits wlX4_letterBits 0 0 D aC [.ref (a_d 0)] (wd_X4 aC a_d s_d) (some (.int out)) := by
  refine k_entR (cc := cX4_letterBits) (ret := (some .int)) (maxL := 1) (own := RX4) (by decide) rfl rfl rfl ?_
  intro p e s m below meth c A ls hX hr hZ hl
  have hl : lv_has ls 1 [(0, .ref (a_d 0))] := hl
  generalize ([.ref (a_d 0)] : List Value).toArray = args at hX ⊢
  obtain ⟨hx, hb, hml, hown, hts, hK, hA, hlk⟩ := id hX
  unfold f_X4_letterBits at h
  have hF : ∀ q ∈ ([] : List Loc), False := fun _ h => nomatch h
  generalize ([] : List Loc) = locs at hF ⊢
  refine lv_aload_n hx hb dX4_letterBits_0 rfl (lv_at hl 0 rfl) ?_
  refine k_get hX hZ.1 0 4 rfl rfl iw_X4 5 rfl (wm_419) (v := .int (o_F s_d 5)) rfl dX4_letterBits_1 ?_
  cases h
  exact k_iretR hX hr hF dX4_letterBits_4
def wlX4_isTooGreat : List Cond := .code yX4_isTooGreat cX4_isTooGreat 1 (some .boolean) :: WL_
theorem hd_X4_isTooGreat : yX4_isTooGreat.cls = RX4 ∧ yX4_isTooGreat.cls ≠ "java/lang/invoke/MethodHandle" ∧ yX4_isTooGreat.cls ≠ "java/lang/invoke/VarHandle" ∧ (parseMethodDescriptor yX4_isTooGreat.desc).map (fun d => d.parameters.length) = some 0 := by decide +kernel
theorem dX4_isTooGreat_0 : decode cX4_isTooGreat 0 = .ok (.aload_n 0, 1) := by decide +kernel
theorem dX4_isTooGreat_1 : decode cX4_isTooGreat 1 = .ok (.getfield 15, 3) := by decide +kernel
theorem dX4_isTooGreat_4 : decode cX4_isTooGreat 4 = .ok (.iconst 0, 1) := by decide +kernel
theorem dX4_isTooGreat_5 : decode cX4_isTooGreat 5 = .ok (.laload, 1) := by decide +kernel
theorem dX4_isTooGreat_6 : decode cX4_isTooGreat 6 = .ok (.ldc2_w 31, 3) := by decide +kernel
theorem dX4_isTooGreat_9 : decode cX4_isTooGreat 9 = .ok (.lcmp, 1) := by decide +kernel
theorem dX4_isTooGreat_10 : decode cX4_isTooGreat 10 = .ok (.ifCond .gt 16, 3) := by decide +kernel
theorem dX4_isTooGreat_13 : decode cX4_isTooGreat 13 = .ok (.aload_n 0, 1) := by decide +kernel
theorem dX4_isTooGreat_14 : decode cX4_isTooGreat 14 = .ok (.getfield 15, 3) := by decide +kernel
theorem dX4_isTooGreat_17 : decode cX4_isTooGreat 17 = .ok (.iconst 1, 1) := by decide +kernel
theorem dX4_isTooGreat_18 : decode cX4_isTooGreat 18 = .ok (.laload, 1) := by decide +kernel
theorem dX4_isTooGreat_19 : decode cX4_isTooGreat 19 = .ok (.ldc2_w 31, 3) := by decide +kernel
theorem dX4_isTooGreat_22 : decode cX4_isTooGreat 22 = .ok (.lcmp, 1) := by decide +kernel
theorem dX4_isTooGreat_23 : decode cX4_isTooGreat 23 = .ok (.ifCond .le 7, 3) := by decide +kernel
theorem dX4_isTooGreat_26 : decode cX4_isTooGreat 26 = .ok (.iconst 1, 1) := by decide +kernel
theorem dX4_isTooGreat_27 : decode cX4_isTooGreat 27 = .ok (.goto 4, 3) := by decide +kernel
theorem dX4_isTooGreat_30 : decode cX4_isTooGreat 30 = .ok (.iconst 0, 1) := by decide +kernel
theorem dX4_isTooGreat_31 : decode cX4_isTooGreat 31 = .ok (.ireturn, 1) := by decide +kernel
set_option maxHeartbeats 4000000 in
set_option maxRecDepth 100000 in
theorem c_X4_isTooGreat {l : Launch} {D : va_G} {aC : Nat → ClassId} {a_d : Nat → Nat} (s_d : Ob_T) {out : Int32} (h : f_X4_isTooGreat s_d = some out) : M_R l yX4_isTooGreat wlX4_isTooGreat 0 0 D aC [.ref (a_d 0)] (wd_X4 aC a_d s_d) (some (.int out)) := by
  refine k_entR (cc := cX4_isTooGreat) (ret := (some .boolean)) (maxL := 1) (own := RX4) (by decide) rfl rfl rfl ?_
  intro p e s m below meth c A ls hX hr hZ hl
  have hl : lv_has ls 1 [(0, .ref (a_d 0))] := hl
  generalize ([.ref (a_d 0)] : List Value).toArray = args at hX ⊢
  obtain ⟨hx, hb, hml, hown, hts, hK, hA, hlk⟩ := id hX
  unfold f_X4_isTooGreat at h
  have hF : ∀ q ∈ ([] : List Loc), False := fun _ h => nomatch h
  generalize ([] : List Loc) = locs at hF ⊢
  refine lv_aload_n hx hb dX4_isTooGreat_0 rfl (lv_at hl 0 rfl) ?_
  refine k_get hX hZ.1 0 4 rfl rfl iw_X4 1 rfl (wm_418) (v := .ref (a_d 2)) rfl dX4_isTooGreat_1 ?_
  refine lv_iconst (v := 0) hx hb dX4_isTooGreat_4 (by decide) ?_
  refine k_lald hX hZ.1 2 rfl h dX4_isTooGreat_5 (fun v1 h => ?_)
  refine lv_ldc2 (v := 999999999999) hx hb hown (hts _ wm_423) dX4_isTooGreat_6 ?_
  refine W.lcmp hx hb dX4_isTooGreat_9 ?_
  refine lv_if_gt (tgt := 26) hx hb dX4_isTooGreat_10 (by decide) (fun cd => ?_) (fun cd => ?_)
  · replace h := k_t cd h
    clear cd
    refine lv_iconst (v := 1) hx hb dX4_isTooGreat_26 (by decide) ?_
    refine lv_goto (tgt := 31) hx hb dX4_isTooGreat_27 (by decide) ?_
    cases h
    exact k_zretR (v := (1 : Int32)) hX hr rfl hF dX4_isTooGreat_31
  · replace h := k_f cd h
    clear cd
    refine lv_aload_n hx hb dX4_isTooGreat_13 rfl (lv_at hl 0 rfl) ?_
    refine k_get hX hZ.1 0 4 rfl rfl iw_X4 1 rfl (wm_418) (v := .ref (a_d 2)) rfl dX4_isTooGreat_14 ?_
    refine lv_iconst (v := 1) hx hb dX4_isTooGreat_17 (by decide) ?_
    refine k_lald hX hZ.1 2 rfl h dX4_isTooGreat_18 (fun v2 h => ?_)
    refine lv_ldc2 (v := 999999999999) hx hb hown (hts _ wm_423) dX4_isTooGreat_19 ?_
    refine W.lcmp hx hb dX4_isTooGreat_22 ?_
    refine lv_if_le (tgt := 30) hx hb dX4_isTooGreat_23 (by decide) (fun cd => ?_) (fun cd => ?_)
    · replace h := k_t cd h
      clear cd
      refine lv_iconst (v := 0) hx hb dX4_isTooGreat_30 (by decide) ?_
      cases h
      exact k_zretR (v := (0 : Int32)) hX hr rfl hF dX4_isTooGreat_31
    · replace h := k_f cd h
      clear cd
      refine lv_iconst (v := 1) hx hb dX4_isTooGreat_26 (by decide) ?_
      refine lv_goto (tgt := 31) hx hb dX4_isTooGreat_27 (by decide) ?_
      cases h
      exact k_zretR (v := (1 : Int32)) hX hr rfl hF dX4_isTooGreat_31
