def wlX1_add : List Cond := .code yX1_add cX1_add 5 none :: WL_
theorem hd_X1_add : yX1_add.cls = RX1 ∧ yX1_add.cls ≠ "java/lang/invoke/MethodHandle" ∧ yX1_add.cls ≠ "java/lang/invoke/VarHandle" ∧ (parseMethodDescriptor yX1_add.desc).map (fun d => d.parameters.length) = some 4 := by decide +kernel
theorem dX1_add_0 : decode cX1_add 0 = .ok (.aload_n 0, 1) := by decide +kernel
theorem dX1_add_1 : decode cX1_add 1 = .ok (.getfield 30, 3) := by decide +kernel
theorem dX1_add_4 : decode cX1_add 4 = .ok (.bipush 10, 2) := by decide +kernel
theorem dX1_add_6 : decode cX1_add 6 = .ok (.if_icmp .lt 4, 3) := by decide +kernel
theorem dX1_add_9 : decode cX1_add 9 = .ok (.return_, 1) := by decide +kernel
theorem dX1_add_10 : decode cX1_add 10 = .ok (.aload_n 0, 1) := by decide +kernel
theorem dX1_add_11 : decode cX1_add 11 = .ok (.getfield 9, 3) := by decide +kernel
theorem dX1_add_14 : decode cX1_add 14 = .ok (.aload_n 0, 1) := by decide +kernel
theorem dX1_add_15 : decode cX1_add 15 = .ok (.getfield 30, 3) := by decide +kernel
theorem dX1_add_18 : decode cX1_add 18 = .ok (.iload_n 1, 1) := by decide +kernel
theorem dX1_add_19 : decode cX1_add 19 = .ok (.iastore, 1) := by decide +kernel
theorem dX1_add_20 : decode cX1_add 20 = .ok (.aload_n 0, 1) := by decide +kernel
theorem dX1_add_21 : decode cX1_add 21 = .ok (.getfield 15, 3) := by decide +kernel
theorem dX1_add_24 : decode cX1_add 24 = .ok (.aload_n 0, 1) := by decide +kernel
theorem dX1_add_25 : decode cX1_add 25 = .ok (.getfield 30, 3) := by decide +kernel
theorem dX1_add_28 : decode cX1_add 28 = .ok (.iload_n 2, 1) := by decide +kernel
theorem dX1_add_29 : decode cX1_add 29 = .ok (.iastore, 1) := by decide +kernel
theorem dX1_add_30 : decode cX1_add 30 = .ok (.aload_n 0, 1) := by decide +kernel
theorem dX1_add_31 : decode cX1_add 31 = .ok (.getfield 18, 3) := by decide +kernel
theorem dX1_add_34 : decode cX1_add 34 = .ok (.aload_n 0, 1) := by decide +kernel
theorem dX1_add_35 : decode cX1_add 35 = .ok (.getfield 30, 3) := by decide +kernel
theorem dX1_add_38 : decode cX1_add 38 = .ok (.iload_n 3, 1) := by decide +kernel
theorem dX1_add_39 : decode cX1_add 39 = .ok (.iastore, 1) := by decide +kernel
theorem dX1_add_40 : decode cX1_add 40 = .ok (.aload_n 0, 1) := by decide +kernel
theorem dX1_add_41 : decode cX1_add 41 = .ok (.getfield 21, 3) := by decide +kernel
theorem dX1_add_44 : decode cX1_add 44 = .ok (.aload_n 0, 1) := by decide +kernel
theorem dX1_add_45 : decode cX1_add 45 = .ok (.getfield 30, 3) := by decide +kernel
theorem dX1_add_48 : decode cX1_add 48 = .ok (.iload 4, 2) := by decide +kernel
theorem dX1_add_50 : decode cX1_add 50 = .ok (.iastore, 1) := by decide +kernel
theorem dX1_add_51 : decode cX1_add 51 = .ok (.aload_n 0, 1) := by decide +kernel
theorem dX1_add_52 : decode cX1_add 52 = .ok (.getfield 24, 3) := by decide +kernel
theorem dX1_add_55 : decode cX1_add 55 = .ok (.aload_n 0, 1) := by decide +kernel
theorem dX1_add_56 : decode cX1_add 56 = .ok (.getfield 30, 3) := by decide +kernel
theorem dX1_add_59 : decode cX1_add 59 = .ok (.aload_n 0, 1) := by decide +kernel
theorem dX1_add_60 : decode cX1_add 60 = .ok (.iload_n 1, 1) := by decide +kernel
theorem dX1_add_61 : decode cX1_add 61 = .ok (.iload_n 2, 1) := by decide +kernel
theorem dX1_add_62 : decode cX1_add 62 = .ok (.iload_n 3, 1) := by decide +kernel
theorem dX1_add_63 : decode cX1_add 63 = .ok (.iload 4, 2) := by decide +kernel
theorem dX1_add_65 : decode cX1_add 65 = .ok (.invokevirtual 62, 3) := by decide +kernel
theorem dX1_add_68 : decode cX1_add 68 = .ok (.iastore, 1) := by decide +kernel
theorem dX1_add_69 : decode cX1_add 69 = .ok (.aload_n 0, 1) := by decide +kernel
theorem dX1_add_70 : decode cX1_add 70 = .ok (.aload_n 0, 1) := by decide +kernel
theorem dX1_add_71 : decode cX1_add 71 = .ok (.getfield 30, 3) := by decide +kernel
theorem dX1_add_74 : decode cX1_add 74 = .ok (.invokevirtual 66, 3) := by decide +kernel
theorem dX1_add_77 : decode cX1_add 77 = .ok (.aload_n 0, 1) := by decide +kernel
theorem dX1_add_78 : decode cX1_add 78 = .ok (.dup, 1) := by decide +kernel
theorem dX1_add_79 : decode cX1_add 79 = .ok (.getfield 30, 3) := by decide +kernel
theorem dX1_add_82 : decode cX1_add 82 = .ok (.iconst 1, 1) := by decide +kernel
theorem dX1_add_83 : decode cX1_add 83 = .ok (.iadd, 1) := by decide +kernel
theorem dX1_add_84 : decode cX1_add 84 = .ok (.putfield 30, 3) := by decide +kernel
theorem dX1_add_87 : decode cX1_add 87 = .ok (.return_, 1) := by decide +kernel
set_option maxHeartbeats 4000000 in
set_option maxRecDepth 100000 in
theorem c_X1_add {l : Launch} {D : va_G} {aC : Nat → ClassId} {a_n : Nat → Nat} (s_n : Ob_T) (x1 : Int32) (x2 : Int32) (x3 : Int32) (x4 : Int32) {out : Ob_T} (h : f_X1_add s_n x1 x2 x3 x4 = some out) : M_W l yX1_add wlX1_add 4 96 D aC [.ref (a_n 0), .int x1, .int x2, .int x3, .int x4] (wd_X1 aC a_n s_n) (none) (wd_X1 aC a_n out) := by
  refine k_entW (cc := cX1_add) (ret := none) (maxL := 5) (own := RX1) (by decide) rfl rfl rfl ?_
  intro p e s m below meth c A ls hX hr hZ hl
  have hl : lv_has ls 5 [(0, .ref (a_n 0)), (1, .int x1), (2, .int x2), (3, .int x3), (4, .int x4)] := hl
  generalize ([.ref (a_n 0), .int x1, .int x2, .int x3, .int x4] : List Value).toArray = args at hX ⊢
  obtain ⟨hx, hb, hml, hown, hts, hK, hA, hlk⟩ := id hX
  unfold f_X1_add at h
  generalize s.heap = H at hZ ⊢
  generalize ([] : List Loc) = locs at hZ ⊢
  refine lv_aload_n hx hb dX1_add_0 rfl (lv_at hl 0 rfl) ?_
  refine k_get hX hZ.1 0 1 rfl rfl iw_X1 6 rfl (wm_312) (v := .int (o_F s_n 6)) rfl dX1_add_1 ?_
  refine lv_bipush (v := 10) hx hb dX1_add_4 (by decide) ?_
  refine lv_icmp_lt (tgt := 10) hx hb dX1_add_6 (by decide) (fun cd => ?_) (fun cd => ?_)
  · replace h := k_t cd h
    clear cd
    refine lv_aload_n hx hb dX1_add_10 rfl (lv_at hl 0 rfl) ?_
    refine k_get hX hZ.1 0 1 rfl rfl iw_X1 0 rfl (wm_313) (v := .ref (a_n 1)) rfl dX1_add_11 ?_
    refine lv_aload_n hx hb dX1_add_14 rfl (lv_at hl 0 rfl) ?_
    refine k_get hX hZ.1 0 1 rfl rfl iw_X1 6 rfl (wm_312) (v := .int (o_F s_n 6)) rfl dX1_add_15 ?_
    refine lv_iload_n hx hb dX1_add_18 rfl (lv_at hl 1 rfl) ?_
    refine k_iast (wf := (fun o => wd_X1 aC a_n o)) (o := s_n) hX hZ 1 0 rfl (fun _ => rfl) h dX1_add_19 (fun o1 H locs hZ h => ?_)
    refine lv_aload_n hx hb dX1_add_20 rfl (lv_at hl 0 rfl) ?_
    refine k_get hX hZ.1 0 1 rfl rfl iw_X1 1 rfl (wm_314) (v := .ref (a_n 2)) rfl dX1_add_21 ?_
    refine lv_aload_n hx hb dX1_add_24 rfl (lv_at hl 0 rfl) ?_
    refine k_get hX hZ.1 0 1 rfl rfl iw_X1 6 rfl (wm_312) (v := .int (o_F o1 6)) rfl dX1_add_25 ?_
    refine lv_iload_n hx hb dX1_add_28 rfl (lv_at hl 2 rfl) ?_
    refine k_iast (wf := (fun o => wd_X1 aC a_n o)) (o := o1) hX hZ 2 1 rfl (fun _ => rfl) h dX1_add_29 (fun o2 H locs hZ h => ?_)
    refine lv_aload_n hx hb dX1_add_30 rfl (lv_at hl 0 rfl) ?_
    refine k_get hX hZ.1 0 1 rfl rfl iw_X1 2 rfl (wm_315) (v := .ref (a_n 3)) rfl dX1_add_31 ?_
    refine lv_aload_n hx hb dX1_add_34 rfl (lv_at hl 0 rfl) ?_
    refine k_get hX hZ.1 0 1 rfl rfl iw_X1 6 rfl (wm_312) (v := .int (o_F o2 6)) rfl dX1_add_35 ?_
    refine lv_iload_n hx hb dX1_add_38 rfl (lv_at hl 3 rfl) ?_
    refine k_iast (wf := (fun o => wd_X1 aC a_n o)) (o := o2) hX hZ 3 2 rfl (fun _ => rfl) h dX1_add_39 (fun o3 H locs hZ h => ?_)
    refine lv_aload_n hx hb dX1_add_40 rfl (lv_at hl 0 rfl) ?_
    refine k_get hX hZ.1 0 1 rfl rfl iw_X1 3 rfl (wm_316) (v := .ref (a_n 4)) rfl dX1_add_41 ?_
    refine lv_aload_n hx hb dX1_add_44 rfl (lv_at hl 0 rfl) ?_
    refine k_get hX hZ.1 0 1 rfl rfl iw_X1 6 rfl (wm_312) (v := .int (o_F o3 6)) rfl dX1_add_45 ?_
    refine lv_iload hx hb dX1_add_48 (lv_at hl 4 rfl) ?_
    refine k_iast (wf := (fun o => wd_X1 aC a_n o)) (o := o3) hX hZ 4 3 rfl (fun _ => rfl) h dX1_add_50 (fun o4 H locs hZ h => ?_)
    refine lv_aload_n hx hb dX1_add_51 rfl (lv_at hl 0 rfl) ?_
    refine k_get hX hZ.1 0 1 rfl rfl iw_X1 4 rfl (wm_317) (v := .ref (a_n 5)) rfl dX1_add_52 ?_
    refine lv_aload_n hx hb dX1_add_55 rfl (lv_at hl 0 rfl) ?_
    refine k_get hX hZ.1 0 1 rfl rfl iw_X1 6 rfl (wm_312) (v := .int (o_F o4 6)) rfl dX1_add_56 ?_
    refine lv_aload_n hx hb dX1_add_59 rfl (lv_at hl 0 rfl) ?_
    refine lv_iload_n hx hb dX1_add_60 rfl (lv_at hl 1 rfl) ?_
    refine lv_iload_n hx hb dX1_add_61 rfl (lv_at hl 2 rfl) ?_
    refine lv_iload_n hx hb dX1_add_62 rfl (lv_at hl 3 rfl) ?_
    refine lv_iload hx hb dX1_add_63 (lv_at hl 4 rfl) ?_
    obtain ⟨u5, hu, h⟩ := k_bd h
    refine k_vRs (As := [.int x1, .int x2, .int x3, .int x4]) (rest := [.int (o_F o4 6), .ref (a_n 5)]) (v := some (.int u5)) (st1 := [.int u5, .int (o_F o4 6), .ref (a_n 5)]) hX hl.1 hZ (c_X1_axesOfVerb (a_n := a_n) o4 x1 x2 x3 x4 hu) (gv_ wm_372 wm_374 wm_375 wm_321 wm_373) rfl hd_X1_axesOfVerb ⟨rfl, rfl⟩ 1 0 rfl rfl rfl rfl rfl dX1_add_65 rfl ⟨rfl, rfl⟩ (fun locs hZ => ?_)
    clear hu
    refine k_iast (wf := (fun o => wd_X1 aC a_n o)) (o := o4) hX hZ 5 4 rfl (fun _ => rfl) h dX1_add_68 (fun o6 H locs hZ h => ?_)
    refine lv_aload_n hx hb dX1_add_69 rfl (lv_at hl 0 rfl) ?_
    refine lv_aload_n hx hb dX1_add_70 rfl (lv_at hl 0 rfl) ?_
    refine k_get hX hZ.1 0 1 rfl rfl iw_X1 6 rfl (wm_312) (v := .int (o_F o6 6)) rfl dX1_add_71 ?_
    obtain ⟨u7, hu, h⟩ := k_bd h
    refine k_vWs (As := [.int (o_F o6 6)]) (rest := []) (v := none) (st1 := []) hX hl.1 hZ (c_X1_derive (a_n := a_n) o6 (o_F o6 6) hu) (gv_ wm_368 wm_370 wm_371 wm_321 wm_369) rfl hd_X1_derive ⟨rfl, rfl⟩ 1 0 rfl rfl rfl rfl rfl dX1_add_74 rfl ⟨rfl, rfl⟩ rfl (fun H locs hZ => ?_)
    clear hu
    refine lv_aload_n hx hb dX1_add_77 rfl (lv_at hl 0 rfl) ?_
    refine lv_dup hx hb dX1_add_78 rfl ?_
    refine k_get hX hZ.1 0 1 rfl rfl iw_X1 6 rfl (wm_312) (v := .int (o_F u7 6)) rfl dX1_add_79 ?_
    refine lv_iconst (v := 1) hx hb dX1_add_82 (by decide) ?_
    refine lv_iadd hx hb dX1_add_83 ?_
    refine k_put (wf := (fun o => wd_X1 aC a_n o)) (o := u7) hX hZ 0 1 rfl rfl iw_X1 tyX1 tyX1_ok nmX1 6 rfl (wm_312) rfl rfl rfl rfl rfl h dX1_add_84 (fun o8 H locs hZ h => ?_)
    cases h
    exact k_vretW hX hr hZ dX1_add_87
  · replace h := k_f cd h
    clear cd
    cases h
    exact k_vretW hX hr hZ dX1_add_9
def wlX1_tell : List Cond := .code yX1_tell cX1_tell 3 none :: WL_
theorem hd_X1_tell : yX1_tell.cls = RX1 ∧ yX1_tell.cls ≠ "java/lang/invoke/MethodHandle" ∧ yX1_tell.cls ≠ "java/lang/invoke/VarHandle" ∧ (parseMethodDescriptor yX1_tell.desc).map (fun d => d.parameters.length) = some 1 := by decide +kernel
theorem dX1_tell_0 : decode cX1_tell 0 = .ok (.aload_n 0, 1) := by decide +kernel
theorem dX1_tell_1 : decode cX1_tell 1 = .ok (.getfield 30, 3) := by decide +kernel
theorem dX1_tell_4 : decode cX1_tell 4 = .ok (.iconst 1, 1) := by decide +kernel
theorem dX1_tell_5 : decode cX1_tell 5 = .ok (.isub, 1) := by decide +kernel
theorem dX1_tell_6 : decode cX1_tell 6 = .ok (.istore_n 2, 1) := by decide +kernel
theorem dX1_tell_7 : decode cX1_tell 7 = .ok (.iload_n 2, 1) := by decide +kernel
theorem dX1_tell_8 : decode cX1_tell 8 = .ok (.ifCond .lt 13, 3) := by decide +kernel
theorem dX1_tell_11 : decode cX1_tell 11 = .ok (.aload_n 0, 1) := by decide +kernel
theorem dX1_tell_12 : decode cX1_tell 12 = .ok (.getfield 24, 3) := by decide +kernel
theorem dX1_tell_15 : decode cX1_tell 15 = .ok (.iload_n 2, 1) := by decide +kernel
theorem dX1_tell_16 : decode cX1_tell 16 = .ok (.iaload, 1) := by decide +kernel
theorem dX1_tell_17 : decode cX1_tell 17 = .ok (.iconst 3, 1) := by decide +kernel
theorem dX1_tell_18 : decode cX1_tell 18 = .ok (.if_icmp .lt 4, 3) := by decide +kernel
theorem dX1_tell_21 : decode cX1_tell 21 = .ok (.return_, 1) := by decide +kernel
theorem dX1_tell_22 : decode cX1_tell 22 = .ok (.aload_n 0, 1) := by decide +kernel
theorem dX1_tell_23 : decode cX1_tell 23 = .ok (.iload_n 2, 1) := by decide +kernel
theorem dX1_tell_24 : decode cX1_tell 24 = .ok (.aload_n 0, 1) := by decide +kernel
theorem dX1_tell_25 : decode cX1_tell 25 = .ok (.getfield 24, 3) := by decide +kernel
theorem dX1_tell_28 : decode cX1_tell 28 = .ok (.iload_n 2, 1) := by decide +kernel
theorem dX1_tell_29 : decode cX1_tell 29 = .ok (.iaload, 1) := by decide +kernel
theorem dX1_tell_30 : decode cX1_tell 30 = .ok (.iload_n 1, 1) := by decide +kernel
theorem dX1_tell_31 : decode cX1_tell 31 = .ok (.invokevirtual 70, 3) := by decide +kernel
theorem dX1_tell_34 : decode cX1_tell 34 = .ok (.pop, 1) := by decide +kernel
theorem dX1_tell_35 : decode cX1_tell 35 = .ok (.aload_n 0, 1) := by decide +kernel
theorem dX1_tell_36 : decode cX1_tell 36 = .ok (.getfield 24, 3) := by decide +kernel
theorem dX1_tell_39 : decode cX1_tell 39 = .ok (.iload_n 2, 1) := by decide +kernel
theorem dX1_tell_40 : decode cX1_tell 40 = .ok (.dup2, 1) := by decide +kernel
theorem dX1_tell_41 : decode cX1_tell 41 = .ok (.iaload, 1) := by decide +kernel
theorem dX1_tell_42 : decode cX1_tell 42 = .ok (.iconst 1, 1) := by decide +kernel
theorem dX1_tell_43 : decode cX1_tell 43 = .ok (.iadd, 1) := by decide +kernel
theorem dX1_tell_44 : decode cX1_tell 44 = .ok (.iastore, 1) := by decide +kernel
theorem dX1_tell_45 : decode cX1_tell 45 = .ok (.return_, 1) := by decide +kernel
set_option maxHeartbeats 4000000 in
set_option maxRecDepth 100000 in
theorem c_X1_tell {l : Launch} {D : va_G} {aC : Nat → ClassId} {a_n : Nat → Nat} (s_n : Ob_T) (x1 : Int32) {out : Ob_T} (h : f_X1_tell s_n x1 = some out) : M_W l yX1_tell wlX1_tell 1 23 D aC [.ref (a_n 0), .int x1] (wd_X1 aC a_n s_n) (none) (wd_X1 aC a_n out) := by
  refine k_entW (cc := cX1_tell) (ret := none) (maxL := 3) (own := RX1) (by decide) rfl rfl rfl ?_
  intro p e s m below meth c A ls hX hr hZ hl
  have hl : lv_has ls 3 [(0, .ref (a_n 0)), (1, .int x1)] := hl
  generalize ([.ref (a_n 0), .int x1] : List Value).toArray = args at hX ⊢
  obtain ⟨hx, hb, hml, hown, hts, hK, hA, hlk⟩ := id hX
  unfold f_X1_tell at h
  generalize s.heap = H at hZ ⊢
  generalize ([] : List Loc) = locs at hZ ⊢
  refine lv_aload_n hx hb dX1_tell_0 rfl (lv_at hl 0 rfl) ?_
  refine k_get hX hZ.1 0 1 rfl rfl iw_X1 6 rfl (wm_312) (v := .int (o_F s_n 6)) rfl dX1_tell_1 ?_
  refine lv_iconst (v := 1) hx hb dX1_tell_4 (by decide) ?_
  refine lv_isub hx hb dX1_tell_5 ?_
  refine lv_istore_n (lv' := [(2, .int ((o_F s_n 6) - (1 : Int32))), (0, .ref (a_n 0)), (1, .int x1)]) hx hb dX1_tell_6 rfl hl (by decide) rfl (fun ls hl => ?_)
  refine lv_iload_n hx hb dX1_tell_7 rfl (lv_at hl 0 rfl) ?_
  refine lv_if_lt (tgt := 21) hx hb dX1_tell_8 (by decide) (fun cd => ?_) (fun cd => ?_)
  · replace h := k_t cd h
    clear cd
    cases h
    exact k_vretW hX hr hZ dX1_tell_21
  · replace h := k_f cd h
    clear cd
    refine lv_aload_n hx hb dX1_tell_11 rfl (lv_at hl 1 rfl) ?_
    refine k_get hX hZ.1 0 1 rfl rfl iw_X1 4 rfl (wm_317) (v := .ref (a_n 5)) rfl dX1_tell_12 ?_
    refine lv_iload_n hx hb dX1_tell_15 rfl (lv_at hl 0 rfl) ?_
    refine k_iald hX hZ.1 5 rfl h dX1_tell_16 (fun v1 h => ?_)
    refine lv_iconst (v := 3) hx hb dX1_tell_17 (by decide) ?_
    refine lv_icmp_lt (tgt := 22) hx hb dX1_tell_18 (by decide) (fun cd => ?_) (fun cd => ?_)
    · replace h := k_t cd h
      clear cd
      refine lv_aload_n hx hb dX1_tell_22 rfl (lv_at hl 1 rfl) ?_
      refine lv_iload_n hx hb dX1_tell_23 rfl (lv_at hl 0 rfl) ?_
      refine lv_aload_n hx hb dX1_tell_24 rfl (lv_at hl 1 rfl) ?_
      refine k_get hX hZ.1 0 1 rfl rfl iw_X1 4 rfl (wm_317) (v := .ref (a_n 5)) rfl dX1_tell_25 ?_
      refine lv_iload_n hx hb dX1_tell_28 rfl (lv_at hl 0 rfl) ?_
      refine k_iald hX hZ.1 5 rfl h dX1_tell_29 (fun v2 h => ?_)
      refine lv_iload_n hx hb dX1_tell_30 rfl (lv_at hl 2 rfl) ?_
      obtain ⟨u3, hu, h⟩ := k_bd h
      refine k_vWs (As := [.int ((o_F s_n 6) - (1 : Int32)), .int v2, .int x1]) (rest := []) (v := some (.int u3.1)) (st1 := [.int u3.1]) hX hl.1 hZ (c_X1_putOne (a_n := a_n) s_n ((o_F s_n 6) - (1 : Int32)) v2 x1 hu) (gv_ wm_345 wm_347 wm_348 wm_321 wm_346) rfl hd_X1_putOne ⟨rfl, rfl⟩ 1 0 rfl rfl rfl rfl rfl dX1_tell_31 rfl ⟨rfl, rfl⟩ rfl (fun H locs hZ => ?_)
      clear hu
      refine lv_pop hx hb dX1_tell_34 rfl ?_
      refine lv_aload_n hx hb dX1_tell_35 rfl (lv_at hl 1 rfl) ?_
      refine k_get hX hZ.1 0 1 rfl rfl iw_X1 4 rfl (wm_317) (v := .ref (a_n 5)) rfl dX1_tell_36 ?_
      refine lv_iload_n hx hb dX1_tell_39 rfl (lv_at hl 0 rfl) ?_
      refine lv_dup2_11 hx hb dX1_tell_40 rfl rfl ?_
      refine k_iald hX hZ.1 5 rfl h dX1_tell_41 (fun v4 h => ?_)
      refine lv_iconst (v := 1) hx hb dX1_tell_42 (by decide) ?_
      refine lv_iadd hx hb dX1_tell_43 ?_
      refine k_iast (wf := (fun o => wd_X1 aC a_n o)) (o := u3.2) hX hZ 5 4 rfl (fun _ => rfl) h dX1_tell_44 (fun o5 H locs hZ h => ?_)
      cases h
      exact k_vretW hX hr hZ dX1_tell_45
    · replace h := k_f cd h
      clear cd
      cases h
      exact k_vretW hX hr hZ dX1_tell_21
def wlX1_tellInstead : List Cond := .code yX1_tellInstead cX1_tellInstead 5 none :: WL_
theorem hd_X1_tellInstead : yX1_tellInstead.cls = RX1 ∧ yX1_tellInstead.cls ≠ "java/lang/invoke/MethodHandle" ∧ yX1_tellInstead.cls ≠ "java/lang/invoke/VarHandle" ∧ (parseMethodDescriptor yX1_tellInstead.desc).map (fun d => d.parameters.length) = some 3 := by decide +kernel
theorem dX1_tellInstead_0 : decode cX1_tellInstead 0 = .ok (.aload_n 0, 1) := by decide +kernel
theorem dX1_tellInstead_1 : decode cX1_tellInstead 1 = .ok (.iload_n 1, 1) := by decide +kernel
theorem dX1_tellInstead_2 : decode cX1_tellInstead 2 = .ok (.iload_n 2, 1) := by decide +kernel
theorem dX1_tellInstead_3 : decode cX1_tellInstead 3 = .ok (.iload_n 3, 1) := by decide +kernel
theorem dX1_tellInstead_4 : decode cX1_tellInstead 4 = .ok (.invokevirtual 70, 3) := by decide +kernel
theorem dX1_tellInstead_7 : decode cX1_tellInstead 7 = .ok (.pop, 1) := by decide +kernel
theorem dX1_tellInstead_8 : decode cX1_tellInstead 8 = .ok (.iload_n 1, 1) := by decide +kernel
theorem dX1_tellInstead_9 : decode cX1_tellInstead 9 = .ok (.iconst 1, 1) := by decide +kernel
theorem dX1_tellInstead_10 : decode cX1_tellInstead 10 = .ok (.iadd, 1) := by decide +kernel
theorem dX1_tellInstead_11 : decode cX1_tellInstead 11 = .ok (.istore 4, 2) := by decide +kernel
theorem dX1_tellInstead_13 : decode cX1_tellInstead 13 = .ok (.iload 4, 2) := by decide +kernel
theorem dX1_tellInstead_15 : decode cX1_tellInstead 15 = .ok (.aload_n 0, 1) := by decide +kernel
theorem dX1_tellInstead_16 : decode cX1_tellInstead 16 = .ok (.getfield 30, 3) := by decide +kernel
theorem dX1_tellInstead_19 : decode cX1_tellInstead 19 = .ok (.if_icmp .ge 15, 3) := by decide +kernel
theorem dX1_tellInstead_22 : decode cX1_tellInstead 22 = .ok (.aload_n 0, 1) := by decide +kernel
theorem dX1_tellInstead_23 : decode cX1_tellInstead 23 = .ok (.iload 4, 2) := by decide +kernel
theorem dX1_tellInstead_25 : decode cX1_tellInstead 25 = .ok (.invokevirtual 66, 3) := by decide +kernel
theorem dX1_tellInstead_28 : decode cX1_tellInstead 28 = .ok (.iinc 4 1, 3) := by decide +kernel
theorem dX1_tellInstead_31 : decode cX1_tellInstead 31 = .ok (.goto (-18), 3) := by decide +kernel
theorem dX1_tellInstead_34 : decode cX1_tellInstead 34 = .ok (.return_, 1) := by decide +kernel
set_option maxHeartbeats 4000000 in
set_option maxRecDepth 100000 in
theorem t_X1_tellInstead_L13 {p : Program} {l : Launch} {e : Env} {s : State} {m : MethodId} {args : Array Value} {below : List Frame} {meth : Method} {c : Code} {D : va_G} {aC : Nat → ClassId} {A : Nat → Prop} {a_n : Nat → Nat} {out : Ob_T} {rec13 : (Int32 × Ob_T) → Option Ob_T} (hX : K_X p s m args meth c cX1_tellInstead 5 WL_ RX1 D aC A) (hr : meth.sig.returnType = none) (hrec13 : ∀ x : Int32 × Ob_T, rec13 x = some out → ∀ (H : Heap) (locs : List Loc) (ls : Array Slot), K_S D A s (wd_X1 aC a_n x.2) H locs → lv_has ls 5 [(0, .ref (a_n 0)), (4, .int x.1)] → W p l e (R_m 4 96) s m args below meth c H locs 0 0 (MQ below (Q_W (none) D A (wd_X1 aC a_n out)) args s 0 0 A) (F0 m 13 ls [])) (x4 : Int32) (s_n : Ob_T) (h : f_X1_tellInstead_L13 rec13 x4 s_n = some out) (H : Heap) (locs : List Loc) (ls : Array Slot) (hZ : K_S D A s (wd_X1 aC a_n s_n) H locs) (hl : lv_has ls 5 [(0, .ref (a_n 0)), (4, .int x4)]) : W p l e (R_m 4 96) s m args below meth c H locs 0 0 (MQ below (Q_W (none) D A (wd_X1 aC a_n out)) args s 0 0 A) (F0 m 13 ls []) := by
  obtain ⟨hx, hb, hml, hown, hts, hK, hA, hlk⟩ := id hX
  unfold f_X1_tellInstead_L13 at h
  refine lv_iload hx hb dX1_tellInstead_13 (lv_at hl 1 rfl) ?_
  refine lv_aload_n hx hb dX1_tellInstead_15 rfl (lv_at hl 0 rfl) ?_
  refine k_get hX hZ.1 0 1 rfl rfl iw_X1 6 rfl (wm_312) (v := .int (o_F s_n 6)) rfl dX1_tellInstead_16 ?_
  refine lv_icmp_ge (tgt := 34) hx hb dX1_tellInstead_19 (by decide) (fun cd => ?_) (fun cd => ?_)
  · replace h := k_t cd h
    clear cd
    cases h
    exact k_vretW hX hr hZ dX1_tellInstead_34
  · replace h := k_f cd h
    clear cd
    refine lv_aload_n hx hb dX1_tellInstead_22 rfl (lv_at hl 0 rfl) ?_
    refine lv_iload hx hb dX1_tellInstead_23 (lv_at hl 1 rfl) ?_
    obtain ⟨u2, hu, h⟩ := k_bd h
    refine k_vWs (As := [.int x4]) (rest := []) (v := none) (st1 := []) hX hl.1 hZ (c_X1_derive (a_n := a_n) s_n x4 hu) (gv_ wm_368 wm_370 wm_371 wm_321 wm_369) rfl hd_X1_derive ⟨rfl, rfl⟩ 1 0 rfl rfl rfl rfl rfl dX1_tellInstead_25 rfl ⟨rfl, rfl⟩ rfl (fun H locs hZ => ?_)
    clear hu
    refine lv_iinc (v := (x4 + (1 : Int32))) (lv' := [(4, .int (x4 + (1 : Int32))), (0, .ref (a_n 0))]) hx hb dX1_tellInstead_28 hl (k := 1) rfl rfl (by decide) rfl (fun ls hl => ?_)
    refine lv_goto (tgt := 13) hx hb dX1_tellInstead_31 (by decide) ?_
    exact hrec13 ((x4 + (1 : Int32)), u2) h H locs ls hZ (lv_sub hl [1, 0] rfl)
set_option maxHeartbeats 4000000 in
set_option maxRecDepth 100000 in
theorem c_X1_tellInstead {l : Launch} {D : va_G} {aC : Nat → ClassId} {a_n : Nat → Nat} (s_n : Ob_T) (x1 : Int32) (x2 : Int32) (x3 : Int32) {out : Ob_T} (h : f_X1_tellInstead s_n x1 x2 x3 = some out) : M_W l yX1_tellInstead wlX1_tellInstead 4 96 D aC [.ref (a_n 0), .int x1, .int x2, .int x3] (wd_X1 aC a_n s_n) (none) (wd_X1 aC a_n out) := by
  refine k_entW (cc := cX1_tellInstead) (ret := none) (maxL := 5) (own := RX1) (by decide) rfl rfl rfl ?_
  intro p e s m below meth c A ls hX hr hZ hl
  have hl : lv_has ls 5 [(0, .ref (a_n 0)), (1, .int x1), (2, .int x2), (3, .int x3)] := hl
  generalize ([.ref (a_n 0), .int x1, .int x2, .int x3] : List Value).toArray = args at hX ⊢
  obtain ⟨hx, hb, hml, hown, hts, hK, hA, hlk⟩ := id hX
  unfold f_X1_tellInstead at h
  generalize s.heap = H at hZ ⊢
  generalize ([] : List Loc) = locs at hZ ⊢
  refine lv_aload_n hx hb dX1_tellInstead_0 rfl (lv_at hl 0 rfl) ?_
  refine lv_iload_n hx hb dX1_tellInstead_1 rfl (lv_at hl 1 rfl) ?_
  refine lv_iload_n hx hb dX1_tellInstead_2 rfl (lv_at hl 2 rfl) ?_
  refine lv_iload_n hx hb dX1_tellInstead_3 rfl (lv_at hl 3 rfl) ?_
  obtain ⟨u1, hu, h⟩ := k_bd h
  refine k_vWs (As := [.int x1, .int x2, .int x3]) (rest := []) (v := some (.int u1.1)) (st1 := [.int u1.1]) hX hl.1 hZ (c_X1_putOne (a_n := a_n) s_n x1 x2 x3 hu) (gv_ wm_345 wm_347 wm_348 wm_321 wm_346) rfl hd_X1_putOne ⟨rfl, rfl⟩ 1 0 rfl rfl rfl rfl rfl dX1_tellInstead_4 rfl ⟨rfl, rfl⟩ rfl (fun H locs hZ => ?_)
  clear hu
  refine lv_pop hx hb dX1_tellInstead_7 rfl ?_
  refine lv_iload_n hx hb dX1_tellInstead_8 rfl (lv_at hl 1 rfl) ?_
  refine lv_iconst (v := 1) hx hb dX1_tellInstead_9 (by decide) ?_
  refine lv_iadd hx hb dX1_tellInstead_10 ?_
  refine lv_istore (lv' := [(4, .int (x1 + (1 : Int32))), (0, .ref (a_n 0)), (1, .int x1), (2, .int x2), (3, .int x3)]) hx hb dX1_tellInstead_11 hl (by decide) rfl (fun ls hl => ?_)
  exact Lp_ok (body := (fun (rec : (Int32 × Ob_T) → Option Ob_T) x => f_X1_tellInstead_L13 rec x.1 x.2)) (out := out) (fun x => ∀ (H : Heap) (locs : List Loc) (ls : Array Slot), K_S D A s (wd_X1 aC a_n x.2) H locs → lv_has ls 5 [(0, .ref (a_n 0)), (4, .int x.1)] → W p l e (R_m 4 96) s m args below meth c H locs 0 0 (MQ below (Q_W (none) D A (wd_X1 aC a_n out)) args s 0 0 A) (F0 m 13 ls [])) (fun rec hrec x h H locs ls hZ hl => t_X1_tellInstead_L13 hX hr hrec x.1 x.2 h H locs ls hZ hl) FU_ ((x1 + (1 : Int32)), u1.2) h H locs ls hZ (lv_sub hl [1, 0] rfl)
