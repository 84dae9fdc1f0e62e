def wlX2_clear : List Cond := .code yX2_clear cX2_clear 1 none :: WL_
theorem hd_X2_clear : yX2_clear.cls = RX2 ∧ yX2_clear.cls ≠ "java/lang/invoke/MethodHandle" ∧ yX2_clear.cls ≠ "java/lang/invoke/VarHandle" ∧ (parseMethodDescriptor yX2_clear.desc).map (fun d => d.parameters.length) = some 0 := by decide +kernel
theorem dX2_clear_0 : decode cX2_clear 0 = .ok (.aload_n 0, 1) := by decide +kernel
theorem dX2_clear_1 : decode cX2_clear 1 = .ok (.getfield 15, 3) := by decide +kernel
theorem dX2_clear_4 : decode cX2_clear 4 = .ok (.iconst (-1), 1) := by decide +kernel
theorem dX2_clear_5 : decode cX2_clear 5 = .ok (.invokestatic 21, 3) := by decide +kernel
theorem dX2_clear_8 : decode cX2_clear 8 = .ok (.return_, 1) := by decide +kernel
set_option maxHeartbeats 4000000 in
set_option maxRecDepth 100000 in
theorem c_X2_clear {l : Launch} {D : va_G} {aC : Nat → ClassId} {a_r : Nat → Nat} (s_r : Ob_T) {out : Ob_T} (h : f_X2_clear s_r = some out) : M_W l yX2_clear wlX2_clear 1 23 D aC [.ref (a_r 0)] (wd_X2 aC a_r s_r) (none) (wd_X2 aC a_r out) := by
  refine k_entW (cc := cX2_clear) (ret := none) (maxL := 1) (own := RX2) (by decide) rfl rfl rfl ?_
  intro p e s m below meth c A ls hX hr hZ hl
  have hl : lv_has ls 1 [(0, .ref (a_r 0))] := hl
  generalize ([.ref (a_r 0)] : List Value).toArray = args at hX ⊢
  obtain ⟨hx, hb, hml, hown, hts, hK, hA, hlk⟩ := id hX
  unfold f_X2_clear at h
  generalize s.heap = H at hZ ⊢
  generalize ([] : List Loc) = locs at hZ ⊢
  refine lv_aload_n hx hb dX2_clear_0 rfl (lv_at hl 0 rfl) ?_
  refine k_get hX hZ.1 0 2 rfl rfl iw_X2 1 rfl (wm_376) (v := .ref (a_r 2)) rfl dX2_clear_1 ?_
  refine lv_iconst (v := -1) hx hb dX2_clear_4 (by decide) ?_
  obtain ⟨u1, hu, h⟩ := k_bd h
  refine k_sW (As := [.ref (a_r 2), .int (-1 : Int32)]) (rest := []) (wc := wd_AR aC (fun _ => (a_r 2)) 3 (p_A ob_0 0 (o_A s_r 1))) (w1 := wd_AR aC (fun _ => (a_r 2)) 3 u1) (v := none) (st1 := []) (w' := wd_X2 aC a_r (p_A s_r 1 (o_A u1 0))) hX hl.1 hZ (c_J7_fill_53178 (a_ar := (fun _ => (a_r 2))) (z_ar := 3) (p_A ob_0 0 (o_A s_r 1)) (-1 : Int32) hu) (gs_ wm_377 wm_295 wm_4 wm_294) rfl hd_J7_fill_53178 ⟨rfl, rfl⟩ [2] rfl rfl rfl rfl rfl dX2_clear_5 rfl ⟨rfl, rfl⟩ rfl rfl rfl (fun H locs hZ => ?_)
  clear hu
  obtain ⟨o2, eo⟩ : ∃ z, z = p_A s_r 1 (o_A u1 0) := ⟨_, rfl⟩
  replace h := k_lt eo h
  rw [← eo] at hZ
  clear eo
  cases h
  exact k_vretW hX hr hZ dX2_clear_8
def wlX2_make : List Cond := .code yX2_make cX2_make 4 none :: WL_
theorem hd_X2_make : yX2_make.cls = RX2 ∧ yX2_make.cls ≠ "java/lang/invoke/MethodHandle" ∧ yX2_make.cls ≠ "java/lang/invoke/VarHandle" ∧ (parseMethodDescriptor yX2_make.desc).map (fun d => d.parameters.length) = some 3 := by decide +kernel
theorem dX2_make_0 : decode cX2_make 0 = .ok (.aload_n 0, 1) := by decide +kernel
theorem dX2_make_1 : decode cX2_make 1 = .ok (.getfield 15, 3) := by decide +kernel
theorem dX2_make_4 : decode cX2_make 4 = .ok (.iload_n 1, 1) := by decide +kernel
theorem dX2_make_5 : decode cX2_make 5 = .ok (.iload_n 3, 1) := by decide +kernel
theorem dX2_make_6 : decode cX2_make 6 = .ok (.iastore, 1) := by decide +kernel
theorem dX2_make_7 : decode cX2_make 7 = .ok (.aload_n 0, 1) := by decide +kernel
theorem dX2_make_8 : decode cX2_make 8 = .ok (.getfield 18, 3) := by decide +kernel
theorem dX2_make_11 : decode cX2_make 11 = .ok (.iload_n 1, 1) := by decide +kernel
theorem dX2_make_12 : decode cX2_make 12 = .ok (.iload_n 2, 1) := by decide +kernel
theorem dX2_make_13 : decode cX2_make 13 = .ok (.iastore, 1) := by decide +kernel
theorem dX2_make_14 : decode cX2_make 14 = .ok (.aload_n 0, 1) := by decide +kernel
theorem dX2_make_15 : decode cX2_make 15 = .ok (.getfield 9, 3) := by decide +kernel
theorem dX2_make_18 : decode cX2_make 18 = .ok (.iload_n 1, 1) := by decide +kernel
theorem dX2_make_19 : decode cX2_make 19 = .ok (.bipush 10, 2) := by decide +kernel
theorem dX2_make_21 : decode cX2_make 21 = .ok (.imul, 1) := by decide +kernel
theorem dX2_make_22 : decode cX2_make 22 = .ok (.iload_n 1, 1) := by decide +kernel
theorem dX2_make_23 : decode cX2_make 23 = .ok (.iconst 1, 1) := by decide +kernel
theorem dX2_make_24 : decode cX2_make 24 = .ok (.iadd, 1) := by decide +kernel
theorem dX2_make_25 : decode cX2_make 25 = .ok (.bipush 10, 2) := by decide +kernel
theorem dX2_make_27 : decode cX2_make 27 = .ok (.imul, 1) := by decide +kernel
theorem dX2_make_28 : decode cX2_make 28 = .ok (.iconst 0, 1) := by decide +kernel
theorem dX2_make_29 : decode cX2_make 29 = .ok (.invokestatic 27, 3) := by decide +kernel
theorem dX2_make_32 : decode cX2_make 32 = .ok (.return_, 1) := by decide +kernel
set_option maxHeartbeats 4000000 in
set_option maxRecDepth 100000 in
theorem c_X2_make {l : Launch} {D : va_G} {aC : Nat → ClassId} {a_r : Nat → Nat} (s_r : Ob_T) (x1 : Int32) (x2 : Int32) (x3 : Int32) {out : Ob_T} (h : f_X2_make s_r x1 x2 x3 = some out) : M_W l yX2_make wlX2_make 2 46 D aC [.ref (a_r 0), .int x1, .int x2, .int x3] (wd_X2 aC a_r s_r) (none) (wd_X2 aC a_r out) := by
  refine k_entW (cc := cX2_make) (ret := none) (maxL := 4) (own := RX2) (by decide) rfl rfl rfl ?_
  intro p e s m below meth c A ls hX hr hZ hl
  have hl : lv_has ls 4 [(0, .ref (a_r 0)), (1, .int x1), (2, .int x2), (3, .int x3)] := hl
  generalize ([.ref (a_r 0), .int x1, .int x2, .int x3] : List Value).toArray = args at hX ⊢
  obtain ⟨hx, hb, hml, hown, hts, hK, hA, hlk⟩ := id hX
  unfold f_X2_make at h
  generalize s.heap = H at hZ ⊢
  generalize ([] : List Loc) = locs at hZ ⊢
  refine lv_aload_n hx hb dX2_make_0 rfl (lv_at hl 0 rfl) ?_
  refine k_get hX hZ.1 0 2 rfl rfl iw_X2 1 rfl (wm_376) (v := .ref (a_r 2)) rfl dX2_make_1 ?_
  refine lv_iload_n hx hb dX2_make_4 rfl (lv_at hl 1 rfl) ?_
  refine lv_iload_n hx hb dX2_make_5 rfl (lv_at hl 3 rfl) ?_
  refine k_iast (wf := (fun o => wd_X2 aC a_r o)) (o := s_r) hX hZ 2 1 rfl (fun _ => rfl) h dX2_make_6 (fun o1 H locs hZ h => ?_)
  refine lv_aload_n hx hb dX2_make_7 rfl (lv_at hl 0 rfl) ?_
  refine k_get hX hZ.1 0 2 rfl rfl iw_X2 2 rfl (wm_378) (v := .ref (a_r 3)) rfl dX2_make_8 ?_
  refine lv_iload_n hx hb dX2_make_11 rfl (lv_at hl 1 rfl) ?_
  refine lv_iload_n hx hb dX2_make_12 rfl (lv_at hl 2 rfl) ?_
  refine k_iast (wf := (fun o => wd_X2 aC a_r o)) (o := o1) hX hZ 3 2 rfl (fun _ => rfl) h dX2_make_13 (fun o2 H locs hZ h => ?_)
  refine lv_aload_n hx hb dX2_make_14 rfl (lv_at hl 0 rfl) ?_
  refine k_get hX hZ.1 0 2 rfl rfl iw_X2 0 rfl (wm_379) (v := .ref (a_r 1)) rfl dX2_make_15 ?_
  refine lv_iload_n hx hb dX2_make_18 rfl (lv_at hl 1 rfl) ?_
  refine lv_bipush (v := 10) hx hb dX2_make_19 (by decide) ?_
  refine lv_imul hx hb dX2_make_21 ?_
  refine lv_iload_n hx hb dX2_make_22 rfl (lv_at hl 1 rfl) ?_
  refine lv_iconst (v := 1) hx hb dX2_make_23 (by decide) ?_
  refine lv_iadd hx hb dX2_make_24 ?_
  refine lv_bipush (v := 10) hx hb dX2_make_25 (by decide) ?_
  refine lv_imul hx hb dX2_make_27 ?_
  refine lv_iconst (v := 0) hx hb dX2_make_28 (by decide) ?_
  obtain ⟨u3, hu, h⟩ := k_bd h
  refine k_sW (As := [.ref (a_r 1), .int (x1 * (10 : Int32)), .int ((x1 + (1 : Int32)) * (10 : Int32)), .int (0 : Int32)]) (rest := []) (wc := wd_AR aC (fun _ => (a_r 1)) 30 (p_A ob_0 0 (o_A o2 0))) (w1 := wd_AR aC (fun _ => (a_r 1)) 30 u3) (v := none) (st1 := []) (w' := wd_X2 aC a_r (p_A o2 0 (o_A u3 0))) hX hl.1 hZ (c_J7_fill_fda19 (a_ar := (fun _ => (a_r 1))) (z_ar := 30) (p_A ob_0 0 (o_A o2 0)) (x1 * (10 : Int32)) ((x1 + (1 : Int32)) * (10 : Int32)) (0 : Int32) hu) (gs_ wm_380 wm_382 wm_4 wm_381) rfl hd_J7_fill_fda19 ⟨rfl, rfl⟩ [1] rfl rfl rfl rfl rfl dX2_make_29 rfl ⟨rfl, rfl⟩ rfl rfl rfl (fun H locs hZ => ?_)
  clear hu
  obtain ⟨o4, eo⟩ : ∃ z, z = p_A o2 0 (o_A u3 0) := ⟨_, rfl⟩
  replace h := k_lt eo h
  rw [← eo] at hZ
  clear eo
  cases h
  exact k_vretW hX hr hZ dX2_make_32
def wlX2_remove : List Cond := .code yX2_remove cX2_remove 2 none :: WL_
theorem hd_X2_remove : yX2_remove.cls = RX2 ∧ yX2_remove.cls ≠ "java/lang/invoke/MethodHandle" ∧ yX2_remove.cls ≠ "java/lang/invoke/VarHandle" ∧ (parseMethodDescriptor yX2_remove.desc).map (fun d => d.parameters.length) = some 1 := by decide +kernel
theorem dX2_remove_0 : decode cX2_remove 0 = .ok (.aload_n 0, 1) := by decide +kernel
theorem dX2_remove_1 : decode cX2_remove 1 = .ok (.getfield 15, 3) := by decide +kernel
theorem dX2_remove_4 : decode cX2_remove 4 = .ok (.iload_n 1, 1) := by decide +kernel
theorem dX2_remove_5 : decode cX2_remove 5 = .ok (.iconst (-1), 1) := by decide +kernel
theorem dX2_remove_6 : decode cX2_remove 6 = .ok (.iastore, 1) := by decide +kernel
theorem dX2_remove_7 : decode cX2_remove 7 = .ok (.return_, 1) := by decide +kernel
set_option maxHeartbeats 4000000 in
set_option maxRecDepth 100000 in
theorem c_X2_remove {l : Launch} {D : va_G} {aC : Nat → ClassId} {a_r : Nat → Nat} (s_r : Ob_T) (x1 : Int32) {out : Ob_T} (h : f_X2_remove s_r x1 = some out) : M_W l yX2_remove wlX2_remove 0 0 D aC [.ref (a_r 0), .int x1] (wd_X2 aC a_r s_r) (none) (wd_X2 aC a_r out) := by
  refine k_entW (cc := cX2_remove) (ret := none) (maxL := 2) (own := RX2) (by decide) rfl rfl rfl ?_
  intro p e s m below meth c A ls hX hr hZ hl
  have hl : lv_has ls 2 [(0, .ref (a_r 0)), (1, .int x1)] := hl
  generalize ([.ref (a_r 0), .int x1] : List Value).toArray = args at hX ⊢
  obtain ⟨hx, hb, hml, hown, hts, hK, hA, hlk⟩ := id hX
  unfold f_X2_remove at h
  generalize s.heap = H at hZ ⊢
  generalize ([] : List Loc) = locs at hZ ⊢
  refine lv_aload_n hx hb dX2_remove_0 rfl (lv_at hl 0 rfl) ?_
  refine k_get hX hZ.1 0 2 rfl rfl iw_X2 1 rfl (wm_376) (v := .ref (a_r 2)) rfl dX2_remove_1 ?_
  refine lv_iload_n hx hb dX2_remove_4 rfl (lv_at hl 1 rfl) ?_
  refine lv_iconst (v := -1) hx hb dX2_remove_5 (by decide) ?_
  refine k_iast (wf := (fun o => wd_X2 aC a_r o)) (o := s_r) hX hZ 2 1 rfl (fun _ => rfl) h dX2_remove_6 (fun o1 H locs hZ h => ?_)
  cases h
  exact k_vretW hX hr hZ dX2_remove_7
def wlX2_isMissing : List Cond := .code yX2_isMissing cX2_isMissing 2 (some .boolean) :: WL_
theorem hd_X2_isMissing : yX2_isMissing.cls = RX2 ∧ yX2_isMissing.cls ≠ "java/lang/invoke/MethodHandle" ∧ yX2_isMissing.cls ≠ "java/lang/invoke/VarHandle" ∧ (parseMethodDescriptor yX2_isMissing.desc).map (fun d => d.parameters.length) = some 1 := by decide +kernel
theorem dX2_isMissing_0 : decode cX2_isMissing 0 = .ok (.aload_n 0, 1) := by decide +kernel
theorem dX2_isMissing_1 : decode cX2_isMissing 1 = .ok (.getfield 15, 3) := by decide +kernel
theorem dX2_isMissing_4 : decode cX2_isMissing 4 = .ok (.iload_n 1, 1) := by decide +kernel
theorem dX2_isMissing_5 : decode cX2_isMissing 5 = .ok (.iaload, 1) := by decide +kernel
theorem dX2_isMissing_6 : decode cX2_isMissing 6 = .ok (.iconst (-1), 1) := by decide +kernel
theorem dX2_isMissing_7 : decode cX2_isMissing 7 = .ok (.if_icmp .ne 7, 3) := by decide +kernel
theorem dX2_isMissing_10 : decode cX2_isMissing 10 = .ok (.iconst 1, 1) := by decide +kernel
theorem dX2_isMissing_11 : decode cX2_isMissing 11 = .ok (.goto 4, 3) := by decide +kernel
theorem dX2_isMissing_14 : decode cX2_isMissing 14 = .ok (.iconst 0, 1) := by decide +kernel
theorem dX2_isMissing_15 : decode cX2_isMissing 15 = .ok (.ireturn, 1) := by decide +kernel
set_option maxHeartbeats 4000000 in
set_option maxRecDepth 100000 in
theorem c_X2_isMissing {l : Launch} {D : va_G} {aC : Nat → ClassId} {a_r : Nat → Nat} (s_r : Ob_T) (x1 : Int32) {out : Int32} (h : f_X2_isMissing s_r x1 = some out) : M_R l yX2_isMissing wlX2_isMissing 0 0 D aC [.ref (a_r 0), .int x1] (wd_X2 aC a_r s_r) (some (.int out)) := by
  refine k_entR (cc := cX2_isMissing) (ret := (some .boolean)) (maxL := 2) (own := RX2) (by decide) rfl rfl rfl ?_
  intro p e s m below meth c A ls hX hr hZ hl
  have hl : lv_has ls 2 [(0, .ref (a_r 0)), (1, .int x1)] := hl
  generalize ([.ref (a_r 0), .int x1] : List Value).toArray = args at hX ⊢
  obtain ⟨hx, hb, hml, hown, hts, hK, hA, hlk⟩ := id hX
  unfold f_X2_isMissing at h
  have hF : ∀ q ∈ ([] : List Loc), False := fun _ h => nomatch h
  generalize ([] : List Loc) = locs at hF ⊢
  refine lv_aload_n hx hb dX2_isMissing_0 rfl (lv_at hl 0 rfl) ?_
  refine k_get hX hZ.1 0 2 rfl rfl iw_X2 1 rfl (wm_376) (v := .ref (a_r 2)) rfl dX2_isMissing_1 ?_
  refine lv_iload_n hx hb dX2_isMissing_4 rfl (lv_at hl 1 rfl) ?_
  refine k_iald hX hZ.1 2 rfl h dX2_isMissing_5 (fun v1 h => ?_)
  refine lv_iconst (v := -1) hx hb dX2_isMissing_6 (by decide) ?_
  refine lv_icmp_ne (tgt := 14) hx hb dX2_isMissing_7 (by decide) (fun cd => ?_) (fun cd => ?_)
  · replace h := k_f cd h
    clear cd
    refine lv_iconst (v := 0) hx hb dX2_isMissing_14 (by decide) ?_
    cases h
    exact k_zretR (v := (0 : Int32)) hX hr rfl hF dX2_isMissing_15
  · replace h := k_t cd h
    clear cd
    refine lv_iconst (v := 1) hx hb dX2_isMissing_10 (by decide) ?_
    refine lv_goto (tgt := 15) hx hb dX2_isMissing_11 (by decide) ?_
    cases h
    exact k_zretR (v := (1 : Int32)) hX hr rfl hF dX2_isMissing_15
def wlX2_sizeOf : List Cond := .code yX2_sizeOf cX2_sizeOf 2 (some .int) :: WL_
theorem hd_X2_sizeOf : yX2_sizeOf.cls = RX2 ∧ yX2_sizeOf.cls ≠ "java/lang/invoke/MethodHandle" ∧ yX2_sizeOf.cls ≠ "java/lang/invoke/VarHandle" ∧ (parseMethodDescriptor yX2_sizeOf.desc).map (fun d => d.parameters.length) = some 1 := by decide +kernel
theorem dX2_sizeOf_0 : decode cX2_sizeOf 0 = .ok (.aload_n 0, 1) := by decide +kernel
theorem dX2_sizeOf_1 : decode cX2_sizeOf 1 = .ok (.getfield 15, 3) := by decide +kernel
theorem dX2_sizeOf_4 : decode cX2_sizeOf 4 = .ok (.iload_n 1, 1) := by decide +kernel
theorem dX2_sizeOf_5 : decode cX2_sizeOf 5 = .ok (.iaload, 1) := by decide +kernel
theorem dX2_sizeOf_6 : decode cX2_sizeOf 6 = .ok (.ireturn, 1) := by decide +kernel
set_option maxHeartbeats 4000000 in
set_option maxRecDepth 100000 in
theorem c_X2_sizeOf {l : Launch} {D : va_G} {aC : Nat → ClassId} {a_r : Nat → Nat} (s_r : Ob_T) (x1 : Int32) {out : Int32} (h : f_X2_sizeOf s_r x1 = some out) : M_R l yX2_sizeOf wlX2_sizeOf 0 0 D aC [.ref (a_r 0), .int x1] (wd_X2 aC a_r s_r) (some (.int out)) := by
  refine k_entR (cc := cX2_sizeOf) (ret := (some .int)) (maxL := 2) (own := RX2) (by decide) rfl rfl rfl ?_
  intro p e s m below meth c A ls hX hr hZ hl
  have hl : lv_has ls 2 [(0, .ref (a_r 0)), (1, .int x1)] := hl
  generalize ([.ref (a_r 0), .int x1] : List Value).toArray = args at hX ⊢
  obtain ⟨hx, hb, hml, hown, hts, hK, hA, hlk⟩ := id hX
  unfold f_X2_sizeOf at h
  have hF : ∀ q ∈ ([] : List Loc), False := fun _ h => nomatch h
  generalize ([] : List Loc) = locs at hF ⊢
  refine lv_aload_n hx hb dX2_sizeOf_0 rfl (lv_at hl 0 rfl) ?_
  refine k_get hX hZ.1 0 2 rfl rfl iw_X2 1 rfl (wm_376) (v := .ref (a_r 2)) rfl dX2_sizeOf_1 ?_
  refine lv_iload_n hx hb dX2_sizeOf_4 rfl (lv_at hl 1 rfl) ?_
  refine k_iald hX hZ.1 2 rfl h dX2_sizeOf_5 (fun v1 h => ?_)
  cases h
  exact k_iretR hX hr hF dX2_sizeOf_6
def wlX2_sortOf : List Cond := .code yX2_sortOf cX2_sortOf 2 (some .int) :: WL_
theorem hd_X2_sortOf : yX2_sortOf.cls = RX2 ∧ yX2_sortOf.cls ≠ "java/lang/invoke/MethodHandle" ∧ yX2_sortOf.cls ≠ "java/lang/invoke/VarHandle" ∧ (parseMethodDescriptor yX2_sortOf.desc).map (fun d => d.parameters.length) = some 1 := by decide +kernel
theorem dX2_sortOf_0 : decode cX2_sortOf 0 = .ok (.aload_n 0, 1) := by decide +kernel
theorem dX2_sortOf_1 : decode cX2_sortOf 1 = .ok (.getfield 18, 3) := by decide +kernel
theorem dX2_sortOf_4 : decode cX2_sortOf 4 = .ok (.iload_n 1, 1) := by decide +kernel
theorem dX2_sortOf_5 : decode cX2_sortOf 5 = .ok (.iaload, 1) := by decide +kernel
theorem dX2_sortOf_6 : decode cX2_sortOf 6 = .ok (.ireturn, 1) := by decide +kernel
set_option maxHeartbeats 4000000 in
set_option maxRecDepth 100000 in
theorem c_X2_sortOf {l : Launch} {D : va_G} {aC : Nat → ClassId} {a_r : Nat → Nat} (s_r : Ob_T) (x1 : Int32) {out : Int32} (h : f_X2_sortOf s_r x1 = some out) : M_R l yX2_sortOf wlX2_sortOf 0 0 D aC [.ref (a_r 0), .int x1] (wd_X2 aC a_r s_r) (some (.int out)) := by
  refine k_entR (cc := cX2_sortOf) (ret := (some .int)) (maxL := 2) (own := RX2) (by decide) rfl rfl rfl ?_
  intro p e s m below meth c A ls hX hr hZ hl
  have hl : lv_has ls 2 [(0, .ref (a_r 0)), (1, .int x1)] := hl
  generalize ([.ref (a_r 0), .int x1] : List Value).toArray = args at hX ⊢
  obtain ⟨hx, hb, hml, hown, hts, hK, hA, hlk⟩ := id hX
  unfold f_X2_sortOf at h
  have hF : ∀ q ∈ ([] : List Loc), False := fun _ h => nomatch h
  generalize ([] : List Loc) = locs at hF ⊢
  refine lv_aload_n hx hb dX2_sortOf_0 rfl (lv_at hl 0 rfl) ?_
  refine k_get hX hZ.1 0 2 rfl rfl iw_X2 2 rfl (wm_378) (v := .ref (a_r 3)) rfl dX2_sortOf_1 ?_
  refine lv_iload_n hx hb dX2_sortOf_4 rfl (lv_at hl 1 rfl) ?_
  refine k_iald hX hZ.1 3 rfl h dX2_sortOf_5 (fun v1 h => ?_)
  cases h
  exact k_iretR hX hr hF dX2_sortOf_6
def wlX2_placeTrouble : List Cond := .code yX2_placeTrouble cX2_placeTrouble 4 (some .int) :: WL_
theorem hd_X2_placeTrouble : yX2_placeTrouble.cls = RX2 ∧ yX2_placeTrouble.cls ≠ "java/lang/invoke/MethodHandle" ∧ yX2_placeTrouble.cls ≠ "java/lang/invoke/VarHandle" ∧ (parseMethodDescriptor yX2_placeTrouble.desc).map (fun d => d.parameters.length) = some 3 := by decide +kernel
theorem dX2_placeTrouble_0 : decode cX2_placeTrouble 0 = .ok (.aload_n 0, 1) := by decide +kernel
theorem dX2_placeTrouble_1 : decode cX2_placeTrouble 1 = .ok (.iload_n 1, 1) := by decide +kernel
theorem dX2_placeTrouble_2 : decode cX2_placeTrouble 2 = .ok (.invokevirtual 30, 3) := by decide +kernel
theorem dX2_placeTrouble_5 : decode cX2_placeTrouble 5 = .ok (.ifCond .eq 6, 3) := by decide +kernel
theorem dX2_placeTrouble_8 : decode cX2_placeTrouble 8 = .ok (.bipush (-11), 2) := by decide +kernel
theorem dX2_placeTrouble_10 : decode cX2_placeTrouble 10 = .ok (.ireturn, 1) := by decide +kernel
theorem dX2_placeTrouble_11 : decode cX2_placeTrouble 11 = .ok (.aload_n 0, 1) := by decide +kernel
theorem dX2_placeTrouble_12 : decode cX2_placeTrouble 12 = .ok (.getfield 18, 3) := by decide +kernel
theorem dX2_placeTrouble_15 : decode cX2_placeTrouble 15 = .ok (.iload_n 1, 1) := by decide +kernel
theorem dX2_placeTrouble_16 : decode cX2_placeTrouble 16 = .ok (.iaload, 1) := by decide +kernel
theorem dX2_placeTrouble_17 : decode cX2_placeTrouble 17 = .ok (.iload_n 2, 1) := by decide +kernel
theorem dX2_placeTrouble_18 : decode cX2_placeTrouble 18 = .ok (.if_icmp .eq 6, 3) := by decide +kernel
theorem dX2_placeTrouble_21 : decode cX2_placeTrouble 21 = .ok (.bipush (-13), 2) := by decide +kernel
theorem dX2_placeTrouble_23 : decode cX2_placeTrouble 23 = .ok (.ireturn, 1) := by decide +kernel
theorem dX2_placeTrouble_24 : decode cX2_placeTrouble 24 = .ok (.iload_n 3, 1) := by decide +kernel
theorem dX2_placeTrouble_25 : decode cX2_placeTrouble 25 = .ok (.ifCond .lt 13, 3) := by decide +kernel
theorem dX2_placeTrouble_28 : decode cX2_placeTrouble 28 = .ok (.iload_n 3, 1) := by decide +kernel
theorem dX2_placeTrouble_29 : decode cX2_placeTrouble 29 = .ok (.aload_n 0, 1) := by decide +kernel
theorem dX2_placeTrouble_30 : decode cX2_placeTrouble 30 = .ok (.getfield 15, 3) := by decide +kernel
theorem dX2_placeTrouble_33 : decode cX2_placeTrouble 33 = .ok (.iload_n 1, 1) := by decide +kernel
theorem dX2_placeTrouble_34 : decode cX2_placeTrouble 34 = .ok (.iaload, 1) := by decide +kernel
theorem dX2_placeTrouble_35 : decode cX2_placeTrouble 35 = .ok (.if_icmp .lt 8, 3) := by decide +kernel
theorem dX2_placeTrouble_38 : decode cX2_placeTrouble 38 = .ok (.bipush (-14), 2) := by decide +kernel
theorem dX2_placeTrouble_40 : decode cX2_placeTrouble 40 = .ok (.goto 4, 3) := by decide +kernel
theorem dX2_placeTrouble_43 : decode cX2_placeTrouble 43 = .ok (.iconst (-1), 1) := by decide +kernel
theorem dX2_placeTrouble_44 : decode cX2_placeTrouble 44 = .ok (.ireturn, 1) := by decide +kernel
set_option maxHeartbeats 4000000 in
set_option maxRecDepth 100000 in
theorem c_X2_placeTrouble {l : Launch} {D : va_G} {aC : Nat → ClassId} {a_r : Nat → Nat} (s_r : Ob_T) (x1 : Int32) (x2 : Int32) (x3 : Int32) {out : Int32} (h : f_X2_placeTrouble s_r x1 x2 x3 = some out) : M_R l yX2_placeTrouble wlX2_placeTrouble 1 21 D aC [.ref (a_r 0), .int x1, .int x2, .int x3] (wd_X2 aC a_r s_r) (some (.int out)) := by
  refine k_entR (cc := cX2_placeTrouble) (ret := (some .int)) (maxL := 4) (own := RX2) (by decide) rfl rfl rfl ?_
  intro p e s m below meth c A ls hX hr hZ hl
  have hl : lv_has ls 4 [(0, .ref (a_r 0)), (1, .int x1), (2, .int x2), (3, .int x3)] := hl
  generalize ([.ref (a_r 0), .int x1, .int x2, .int x3] : List Value).toArray = args at hX ⊢
  obtain ⟨hx, hb, hml, hown, hts, hK, hA, hlk⟩ := id hX
  unfold f_X2_placeTrouble at h
  have hF : ∀ q ∈ ([] : List Loc), False := fun _ h => nomatch h
  generalize ([] : List Loc) = locs at hF ⊢
  refine lv_aload_n hx hb dX2_placeTrouble_0 rfl (lv_at hl 0 rfl) ?_
  refine lv_iload_n hx hb dX2_placeTrouble_1 rfl (lv_at hl 1 rfl) ?_
  obtain ⟨u1, hu, h⟩ := k_bd h
  refine k_vRRs (As := [.int x1]) (rest := []) (v := some (.int u1)) (st1 := [.int u1]) hX hl.1 hZ hF (c_X2_isMissing (a_r := a_r) s_r x1 hu) (gv_ wm_383 wm_386 wm_387 wm_384 wm_385) rfl hd_X2_isMissing ⟨rfl, rfl⟩ 2 0 rfl rfl rfl rfl rfl dX2_placeTrouble_2 rfl ⟨rfl, rfl⟩ (fun locs hF => ?_)
  clear hu
  refine lv_if_eq (tgt := 11) hx hb dX2_placeTrouble_5 (by decide) (fun cd => ?_) (fun cd => ?_)
  · replace h := k_t cd h
    clear cd
    refine lv_aload_n hx hb dX2_placeTrouble_11 rfl (lv_at hl 0 rfl) ?_
    refine k_get hX hZ.1 0 2 rfl rfl iw_X2 2 rfl (wm_378) (v := .ref (a_r 3)) rfl dX2_placeTrouble_12 ?_
    refine lv_iload_n hx hb dX2_placeTrouble_15 rfl (lv_at hl 1 rfl) ?_
    refine k_iald hX hZ.1 3 rfl h dX2_placeTrouble_16 (fun v2 h => ?_)
    refine lv_iload_n hx hb dX2_placeTrouble_17 rfl (lv_at hl 2 rfl) ?_
    refine lv_icmp_eq (tgt := 24) hx hb dX2_placeTrouble_18 (by decide) (fun cd => ?_) (fun cd => ?_)
    · replace h := k_t cd h
      clear cd
      refine lv_iload_n hx hb dX2_placeTrouble_24 rfl (lv_at hl 3 rfl) ?_
      refine lv_if_lt (tgt := 38) hx hb dX2_placeTrouble_25 (by decide) (fun cd => ?_) (fun cd => ?_)
      · replace h := k_t cd h
        clear cd
        refine lv_bipush (v := -14) hx hb dX2_placeTrouble_38 (by decide) ?_
        refine lv_goto (tgt := 44) hx hb dX2_placeTrouble_40 (by decide) ?_
        cases h
        exact k_iretR hX hr hF dX2_placeTrouble_44
      · replace h := k_f cd h
        clear cd
        refine lv_iload_n hx hb dX2_placeTrouble_28 rfl (lv_at hl 3 rfl) ?_
        refine lv_aload_n hx hb dX2_placeTrouble_29 rfl (lv_at hl 0 rfl) ?_
        refine k_get hX hZ.1 0 2 rfl rfl iw_X2 1 rfl (wm_376) (v := .ref (a_r 2)) rfl dX2_placeTrouble_30 ?_
        refine lv_iload_n hx hb dX2_placeTrouble_33 rfl (lv_at hl 1 rfl) ?_
        refine k_iald hX hZ.1 2 rfl h dX2_placeTrouble_34 (fun v3 h => ?_)
        refine lv_icmp_lt (tgt := 43) hx hb dX2_placeTrouble_35 (by decide) (fun cd => ?_) (fun cd => ?_)
        · replace h := k_t cd h
          clear cd
          refine lv_iconst (v := -1) hx hb dX2_placeTrouble_43 (by decide) ?_
          cases h
          exact k_iretR hX hr hF dX2_placeTrouble_44
        · replace h := k_f cd h
          clear cd
          refine lv_bipush (v := -14) hx hb dX2_placeTrouble_38 (by decide) ?_
          refine lv_goto (tgt := 44) hx hb dX2_placeTrouble_40 (by decide) ?_
          cases h
          exact k_iretR hX hr hF dX2_placeTrouble_44
    · replace h := k_f cd h
      clear cd
      refine lv_bipush (v := -13) hx hb dX2_placeTrouble_21 (by decide) ?_
      cases h
      exact k_iretR hX hr hF dX2_placeTrouble_23
  · replace h := k_f cd h
    clear cd
    refine lv_bipush (v := -11) hx hb dX2_placeTrouble_8 (by decide) ?_
    cases h
    exact k_iretR hX hr hF dX2_placeTrouble_10
