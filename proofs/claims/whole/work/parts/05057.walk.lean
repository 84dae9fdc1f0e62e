def wlX0_restore : List Cond := .code yX0_restore cX0_restore 2 none :: WL_
theorem hd_X0_restore : yX0_restore.cls = RX0 ∧ yX0_restore.cls ≠ "java/lang/invoke/MethodHandle" ∧ yX0_restore.cls ≠ "java/lang/invoke/VarHandle" ∧ (parseMethodDescriptor yX0_restore.desc).map (fun d => d.parameters.length) = some 1 := by decide +kernel
theorem dX0_restore_0 : decode cX0_restore 0 = .ok (.aload_n 0, 1) := by decide +kernel
theorem dX0_restore_1 : decode cX0_restore 1 = .ok (.getfield 21, 3) := by decide +kernel
theorem dX0_restore_4 : decode cX0_restore 4 = .ok (.iload_n 1, 1) := by decide +kernel
theorem dX0_restore_5 : decode cX0_restore 5 = .ok (.iconst 4, 1) := by decide +kernel
theorem dX0_restore_6 : decode cX0_restore 6 = .ok (.imul, 1) := by decide +kernel
theorem dX0_restore_7 : decode cX0_restore 7 = .ok (.aload_n 0, 1) := by decide +kernel
theorem dX0_restore_8 : decode cX0_restore 8 = .ok (.getfield 9, 3) := by decide +kernel
theorem dX0_restore_11 : decode cX0_restore 11 = .ok (.iconst 0, 1) := by decide +kernel
theorem dX0_restore_12 : decode cX0_restore 12 = .ok (.iconst 4, 1) := by decide +kernel
theorem dX0_restore_13 : decode cX0_restore 13 = .ok (.invokestatic 48, 3) := by decide +kernel
theorem dX0_restore_16 : decode cX0_restore 16 = .ok (.aload_n 0, 1) := by decide +kernel
theorem dX0_restore_17 : decode cX0_restore 17 = .ok (.iconst 0, 1) := by decide +kernel
theorem dX0_restore_18 : decode cX0_restore 18 = .ok (.putfield 34, 3) := by decide +kernel
theorem dX0_restore_21 : decode cX0_restore 21 = .ok (.return_, 1) := by decide +kernel
set_option maxHeartbeats 4000000 in
set_option maxRecDepth 100000 in
theorem c_X0_restore {l : Launch} {D : va_G} {aC : Nat → ClassId} {a_g : Nat → Nat} (s_g : Ob_T) (x1 : Int32) {out : Ob_T} (h : f_X0_restore s_g x1 = some out) : M_W l yX0_restore wlX0_restore 1 100 D aC [.ref (a_g 0), .int x1] (wd_X0 aC a_g s_g) (none) (wd_X0 aC a_g out) := by
  refine k_entW (cc := cX0_restore) (ret := none) (maxL := 2) (own := RX0) (by decide) rfl rfl rfl ?_
  intro p e s m below meth c A ls hX hr hZ hl
  have hl : lv_has ls 2 [(0, .ref (a_g 0)), (1, .int x1)] := hl
  generalize ([.ref (a_g 0), .int x1] : List Value).toArray = args at hX ⊢
  obtain ⟨hx, hb, hml, hown, hts, hK, hA, hlk⟩ := id hX
  unfold f_X0_restore at h
  generalize s.heap = H at hZ ⊢
  generalize ([] : List Loc) = locs at hZ ⊢
  refine lv_aload_n hx hb dX0_restore_0 rfl (lv_at hl 0 rfl) ?_
  refine k_get hX hZ.1 0 0 rfl rfl iw_X0 3 rfl (wm_311) (v := .ref (a_g 4)) rfl dX0_restore_1 ?_
  refine lv_iload_n hx hb dX0_restore_4 rfl (lv_at hl 1 rfl) ?_
  refine lv_iconst (v := 4) hx hb dX0_restore_5 (by decide) ?_
  refine lv_imul hx hb dX0_restore_6 ?_
  refine lv_aload_n hx hb dX0_restore_7 rfl (lv_at hl 0 rfl) ?_
  refine k_get hX hZ.1 0 0 rfl rfl iw_X0 0 rfl (wm_290) (v := .ref (a_g 1)) rfl dX0_restore_8 ?_
  refine lv_iconst (v := 0) hx hb dX0_restore_11 (by decide) ?_
  refine lv_iconst (v := 4) hx hb dX0_restore_12 (by decide) ?_
  refine k_copy (wf := (fun o => wd_X0 aC a_g o)) (o := s_g) hX hl.1 hZ 4 1 0 rfl rfl (fun _ => rfl) (hts _ wm_307) (hts _ wm_308) (hts _ wm_309) (hts _ wm_310) rfl rfl h dX0_restore_13 (fun o2 H locs hZ h => ?_)
  refine lv_aload_n hx hb dX0_restore_16 rfl (lv_at hl 0 rfl) ?_
  refine lv_iconst (v := 0) hx hb dX0_restore_17 (by decide) ?_
  refine k_put (wf := (fun o => wd_X0 aC a_g o)) (o := o2) hX hZ 0 0 rfl rfl iw_X0 tyX0 tyX0_ok nmX0 5 rfl (wm_292) rfl rfl rfl rfl rfl h dX0_restore_18 (fun o3 H locs hZ h => ?_)
  cases h
  exact k_vretW hX hr hZ dX0_restore_21
def wlX1_clear : List Cond := .code yX1_clear cX1_clear 1 none :: WL_
theorem hd_X1_clear : yX1_clear.cls = RX1 ∧ yX1_clear.cls ≠ "java/lang/invoke/MethodHandle" ∧ yX1_clear.cls ≠ "java/lang/invoke/VarHandle" ∧ (parseMethodDescriptor yX1_clear.desc).map (fun d => d.parameters.length) = some 0 := by decide +kernel
theorem dX1_clear_0 : decode cX1_clear 0 = .ok (.aload_n 0, 1) := by decide +kernel
theorem dX1_clear_1 : decode cX1_clear 1 = .ok (.iconst 0, 1) := by decide +kernel
theorem dX1_clear_2 : decode cX1_clear 2 = .ok (.putfield 30, 3) := by decide +kernel
theorem dX1_clear_5 : decode cX1_clear 5 = .ok (.return_, 1) := by decide +kernel
set_option maxHeartbeats 4000000 in
set_option maxRecDepth 100000 in
theorem c_X1_clear {l : Launch} {D : va_G} {aC : Nat → ClassId} {a_n : Nat → Nat} (s_n : Ob_T) {out : Ob_T} (h : f_X1_clear s_n = some out) : M_W l yX1_clear wlX1_clear 0 0 D aC [.ref (a_n 0)] (wd_X1 aC a_n s_n) (none) (wd_X1 aC a_n out) := by
  refine k_entW (cc := cX1_clear) (ret := none) (maxL := 1) (own := RX1) (by decide) rfl rfl rfl ?_
  intro p e s m below meth c A ls hX hr hZ hl
  have hl : lv_has ls 1 [(0, .ref (a_n 0))] := hl
  generalize ([.ref (a_n 0)] : List Value).toArray = args at hX ⊢
  obtain ⟨hx, hb, hml, hown, hts, hK, hA, hlk⟩ := id hX
  unfold f_X1_clear at h
  generalize s.heap = H at hZ ⊢
  generalize ([] : List Loc) = locs at hZ ⊢
  refine lv_aload_n hx hb dX1_clear_0 rfl (lv_at hl 0 rfl) ?_
  refine lv_iconst (v := 0) hx hb dX1_clear_1 (by decide) ?_
  refine k_put (wf := (fun o => wd_X1 aC a_n o)) (o := s_n) hX hZ 0 1 rfl rfl iw_X1 tyX1 tyX1_ok nmX1 6 rfl (wm_312) rfl rfl rfl rfl rfl h dX1_clear_2 (fun o1 H locs hZ h => ?_)
  cases h
  exact k_vretW hX hr hZ dX1_clear_5
def wlX1_takeAll : List Cond := .code yX1_takeAll cX1_takeAll 2 none :: WL_
theorem hd_X1_takeAll : yX1_takeAll.cls = RX1 ∧ yX1_takeAll.cls ≠ "java/lang/invoke/MethodHandle" ∧ yX1_takeAll.cls ≠ "java/lang/invoke/VarHandle" ∧ (parseMethodDescriptor yX1_takeAll.desc).map (fun d => d.parameters.length) = some 1 := by decide +kernel
theorem dX1_takeAll_0 : decode cX1_takeAll 0 = .ok (.aload_n 0, 1) := by decide +kernel
theorem dX1_takeAll_1 : decode cX1_takeAll 1 = .ok (.aload_n 1, 1) := by decide +kernel
theorem dX1_takeAll_2 : decode cX1_takeAll 2 = .ok (.getfield 30, 3) := by decide +kernel
theorem dX1_takeAll_5 : decode cX1_takeAll 5 = .ok (.putfield 30, 3) := by decide +kernel
theorem dX1_takeAll_8 : decode cX1_takeAll 8 = .ok (.aload_n 1, 1) := by decide +kernel
theorem dX1_takeAll_9 : decode cX1_takeAll 9 = .ok (.getfield 9, 3) := by decide +kernel
theorem dX1_takeAll_12 : decode cX1_takeAll 12 = .ok (.iconst 0, 1) := by decide +kernel
theorem dX1_takeAll_13 : decode cX1_takeAll 13 = .ok (.aload_n 0, 1) := by decide +kernel
theorem dX1_takeAll_14 : decode cX1_takeAll 14 = .ok (.getfield 9, 3) := by decide +kernel
theorem dX1_takeAll_17 : decode cX1_takeAll 17 = .ok (.iconst 0, 1) := by decide +kernel
theorem dX1_takeAll_18 : decode cX1_takeAll 18 = .ok (.bipush 10, 2) := by decide +kernel
theorem dX1_takeAll_20 : decode cX1_takeAll 20 = .ok (.invokestatic 34, 3) := by decide +kernel
theorem dX1_takeAll_23 : decode cX1_takeAll 23 = .ok (.aload_n 1, 1) := by decide +kernel
theorem dX1_takeAll_24 : decode cX1_takeAll 24 = .ok (.getfield 15, 3) := by decide +kernel
theorem dX1_takeAll_27 : decode cX1_takeAll 27 = .ok (.iconst 0, 1) := by decide +kernel
theorem dX1_takeAll_28 : decode cX1_takeAll 28 = .ok (.aload_n 0, 1) := by decide +kernel
theorem dX1_takeAll_29 : decode cX1_takeAll 29 = .ok (.getfield 15, 3) := by decide +kernel
theorem dX1_takeAll_32 : decode cX1_takeAll 32 = .ok (.iconst 0, 1) := by decide +kernel
theorem dX1_takeAll_33 : decode cX1_takeAll 33 = .ok (.bipush 10, 2) := by decide +kernel
theorem dX1_takeAll_35 : decode cX1_takeAll 35 = .ok (.invokestatic 34, 3) := by decide +kernel
theorem dX1_takeAll_38 : decode cX1_takeAll 38 = .ok (.aload_n 1, 1) := by decide +kernel
theorem dX1_takeAll_39 : decode cX1_takeAll 39 = .ok (.getfield 18, 3) := by decide +kernel
theorem dX1_takeAll_42 : decode cX1_takeAll 42 = .ok (.iconst 0, 1) := by decide +kernel
theorem dX1_takeAll_43 : decode cX1_takeAll 43 = .ok (.aload_n 0, 1) := by decide +kernel
theorem dX1_takeAll_44 : decode cX1_takeAll 44 = .ok (.getfield 18, 3) := by decide +kernel
theorem dX1_takeAll_47 : decode cX1_takeAll 47 = .ok (.iconst 0, 1) := by decide +kernel
theorem dX1_takeAll_48 : decode cX1_takeAll 48 = .ok (.bipush 10, 2) := by decide +kernel
theorem dX1_takeAll_50 : decode cX1_takeAll 50 = .ok (.invokestatic 34, 3) := by decide +kernel
theorem dX1_takeAll_53 : decode cX1_takeAll 53 = .ok (.aload_n 1, 1) := by decide +kernel
theorem dX1_takeAll_54 : decode cX1_takeAll 54 = .ok (.getfield 21, 3) := by decide +kernel
theorem dX1_takeAll_57 : decode cX1_takeAll 57 = .ok (.iconst 0, 1) := by decide +kernel
theorem dX1_takeAll_58 : decode cX1_takeAll 58 = .ok (.aload_n 0, 1) := by decide +kernel
theorem dX1_takeAll_59 : decode cX1_takeAll 59 = .ok (.getfield 21, 3) := by decide +kernel
theorem dX1_takeAll_62 : decode cX1_takeAll 62 = .ok (.iconst 0, 1) := by decide +kernel
theorem dX1_takeAll_63 : decode cX1_takeAll 63 = .ok (.bipush 10, 2) := by decide +kernel
theorem dX1_takeAll_65 : decode cX1_takeAll 65 = .ok (.invokestatic 34, 3) := by decide +kernel
theorem dX1_takeAll_68 : decode cX1_takeAll 68 = .ok (.aload_n 1, 1) := by decide +kernel
theorem dX1_takeAll_69 : decode cX1_takeAll 69 = .ok (.getfield 24, 3) := by decide +kernel
theorem dX1_takeAll_72 : decode cX1_takeAll 72 = .ok (.iconst 0, 1) := by decide +kernel
theorem dX1_takeAll_73 : decode cX1_takeAll 73 = .ok (.aload_n 0, 1) := by decide +kernel
theorem dX1_takeAll_74 : decode cX1_takeAll 74 = .ok (.getfield 24, 3) := by decide +kernel
theorem dX1_takeAll_77 : decode cX1_takeAll 77 = .ok (.iconst 0, 1) := by decide +kernel
theorem dX1_takeAll_78 : decode cX1_takeAll 78 = .ok (.bipush 10, 2) := by decide +kernel
theorem dX1_takeAll_80 : decode cX1_takeAll 80 = .ok (.invokestatic 34, 3) := by decide +kernel
theorem dX1_takeAll_83 : decode cX1_takeAll 83 = .ok (.aload_n 1, 1) := by decide +kernel
theorem dX1_takeAll_84 : decode cX1_takeAll 84 = .ok (.getfield 27, 3) := by decide +kernel
theorem dX1_takeAll_87 : decode cX1_takeAll 87 = .ok (.iconst 0, 1) := by decide +kernel
theorem dX1_takeAll_88 : decode cX1_takeAll 88 = .ok (.aload_n 0, 1) := by decide +kernel
theorem dX1_takeAll_89 : decode cX1_takeAll 89 = .ok (.getfield 27, 3) := by decide +kernel
theorem dX1_takeAll_92 : decode cX1_takeAll 92 = .ok (.iconst 0, 1) := by decide +kernel
theorem dX1_takeAll_93 : decode cX1_takeAll 93 = .ok (.bipush 60, 2) := by decide +kernel
theorem dX1_takeAll_95 : decode cX1_takeAll 95 = .ok (.invokestatic 34, 3) := by decide +kernel
theorem dX1_takeAll_98 : decode cX1_takeAll 98 = .ok (.return_, 1) := by decide +kernel
set_option maxHeartbeats 4000000 in
set_option maxRecDepth 100000 in
theorem c_X1_takeAll {l : Launch} {D : va_G} {aC : Nat → ClassId} {a_n : Nat → Nat} {a_n2 : Nat → Nat} (s_n : Ob_T) (s_n2 : Ob_T) {out : Ob_T} (h : f_X1_takeAll s_n s_n2 = some out) : M_W l yX1_takeAll wlX1_takeAll 1 100 D aC [.ref (a_n 0), .ref (a_n2 0)] (wd_X1 aC a_n s_n ++ wd_X1 aC a_n2 s_n2) (none) (wd_X1 aC a_n out ++ wd_X1 aC a_n2 s_n2) := by
  refine k_entW (cc := cX1_takeAll) (ret := none) (maxL := 2) (own := RX1) (by decide) rfl rfl rfl ?_
  intro p e s m below meth c A ls hX hr hZ hl
  have hl : lv_has ls 2 [(0, .ref (a_n 0)), (1, .ref (a_n2 0))] := hl
  generalize ([.ref (a_n 0), .ref (a_n2 0)] : List Value).toArray = args at hX ⊢
  obtain ⟨hx, hb, hml, hown, hts, hK, hA, hlk⟩ := id hX
  unfold f_X1_takeAll at h
  generalize s.heap = H at hZ ⊢
  generalize ([] : List Loc) = locs at hZ ⊢
  refine lv_aload_n hx hb dX1_takeAll_0 rfl (lv_at hl 0 rfl) ?_
  refine lv_aload_n hx hb dX1_takeAll_1 rfl (lv_at hl 1 rfl) ?_
  refine k_get hX hZ.1 7 1 rfl rfl iw_X1 6 rfl (wm_312) (v := .int (o_F s_n2 6)) rfl dX1_takeAll_2 ?_
  refine k_put (wf := (fun o => wd_X1 aC a_n o ++ wd_X1 aC a_n2 s_n2)) (o := s_n) hX hZ 0 1 rfl rfl iw_X1 tyX1 tyX1_ok nmX1 6 rfl (wm_312) rfl rfl rfl rfl rfl h dX1_takeAll_5 (fun o1 H locs hZ h => ?_)
  refine lv_aload_n hx hb dX1_takeAll_8 rfl (lv_at hl 1 rfl) ?_
  refine k_get hX hZ.1 7 1 rfl rfl iw_X1 0 rfl (wm_313) (v := .ref (a_n2 1)) rfl dX1_takeAll_9 ?_
  refine lv_iconst (v := 0) hx hb dX1_takeAll_12 (by decide) ?_
  refine lv_aload_n hx hb dX1_takeAll_13 rfl (lv_at hl 0 rfl) ?_
  refine k_get hX hZ.1 0 1 rfl rfl iw_X1 0 rfl (wm_313) (v := .ref (a_n 1)) rfl dX1_takeAll_14 ?_
  refine lv_iconst (v := 0) hx hb dX1_takeAll_17 (by decide) ?_
  refine lv_bipush (v := 10) hx hb dX1_takeAll_18 (by decide) ?_
  refine k_copy (wf := (fun o => wd_X1 aC a_n o ++ wd_X1 aC a_n2 s_n2)) (o := o1) hX hl.1 hZ 8 1 0 rfl rfl (fun _ => rfl) (hts _ wm_319) (hts _ wm_308) (hts _ wm_309) (hts _ wm_310) rfl rfl h dX1_takeAll_20 (fun o3 H locs hZ h => ?_)
  refine lv_aload_n hx hb dX1_takeAll_23 rfl (lv_at hl 1 rfl) ?_
  refine k_get hX hZ.1 7 1 rfl rfl iw_X1 1 rfl (wm_314) (v := .ref (a_n2 2)) rfl dX1_takeAll_24 ?_
  refine lv_iconst (v := 0) hx hb dX1_takeAll_27 (by decide) ?_
  refine lv_aload_n hx hb dX1_takeAll_28 rfl (lv_at hl 0 rfl) ?_
  refine k_get hX hZ.1 0 1 rfl rfl iw_X1 1 rfl (wm_314) (v := .ref (a_n 2)) rfl dX1_takeAll_29 ?_
  refine lv_iconst (v := 0) hx hb dX1_takeAll_32 (by decide) ?_
  refine lv_bipush (v := 10) hx hb dX1_takeAll_33 (by decide) ?_
  refine k_copy (wf := (fun o => wd_X1 aC a_n o ++ wd_X1 aC a_n2 s_n2)) (o := o3) hX hl.1 hZ 9 2 1 rfl rfl (fun _ => rfl) (hts _ wm_319) (hts _ wm_308) (hts _ wm_309) (hts _ wm_310) rfl rfl h dX1_takeAll_35 (fun o5 H locs hZ h => ?_)
  refine lv_aload_n hx hb dX1_takeAll_38 rfl (lv_at hl 1 rfl) ?_
  refine k_get hX hZ.1 7 1 rfl rfl iw_X1 2 rfl (wm_315) (v := .ref (a_n2 3)) rfl dX1_takeAll_39 ?_
  refine lv_iconst (v := 0) hx hb dX1_takeAll_42 (by decide) ?_
  refine lv_aload_n hx hb dX1_takeAll_43 rfl (lv_at hl 0 rfl) ?_
  refine k_get hX hZ.1 0 1 rfl rfl iw_X1 2 rfl (wm_315) (v := .ref (a_n 3)) rfl dX1_takeAll_44 ?_
  refine lv_iconst (v := 0) hx hb dX1_takeAll_47 (by decide) ?_
  refine lv_bipush (v := 10) hx hb dX1_takeAll_48 (by decide) ?_
  refine k_copy (wf := (fun o => wd_X1 aC a_n o ++ wd_X1 aC a_n2 s_n2)) (o := o5) hX hl.1 hZ 10 3 2 rfl rfl (fun _ => rfl) (hts _ wm_319) (hts _ wm_308) (hts _ wm_309) (hts _ wm_310) rfl rfl h dX1_takeAll_50 (fun o7 H locs hZ h => ?_)
  refine lv_aload_n hx hb dX1_takeAll_53 rfl (lv_at hl 1 rfl) ?_
  refine k_get hX hZ.1 7 1 rfl rfl iw_X1 3 rfl (wm_316) (v := .ref (a_n2 4)) rfl dX1_takeAll_54 ?_
  refine lv_iconst (v := 0) hx hb dX1_takeAll_57 (by decide) ?_
  refine lv_aload_n hx hb dX1_takeAll_58 rfl (lv_at hl 0 rfl) ?_
  refine k_get hX hZ.1 0 1 rfl rfl iw_X1 3 rfl (wm_316) (v := .ref (a_n 4)) rfl dX1_takeAll_59 ?_
  refine lv_iconst (v := 0) hx hb dX1_takeAll_62 (by decide) ?_
  refine lv_bipush (v := 10) hx hb dX1_takeAll_63 (by decide) ?_
  refine k_copy (wf := (fun o => wd_X1 aC a_n o ++ wd_X1 aC a_n2 s_n2)) (o := o7) hX hl.1 hZ 11 4 3 rfl rfl (fun _ => rfl) (hts _ wm_319) (hts _ wm_308) (hts _ wm_309) (hts _ wm_310) rfl rfl h dX1_takeAll_65 (fun o9 H locs hZ h => ?_)
  refine lv_aload_n hx hb dX1_takeAll_68 rfl (lv_at hl 1 rfl) ?_
  refine k_get hX hZ.1 7 1 rfl rfl iw_X1 4 rfl (wm_317) (v := .ref (a_n2 5)) rfl dX1_takeAll_69 ?_
  refine lv_iconst (v := 0) hx hb dX1_takeAll_72 (by decide) ?_
  refine lv_aload_n hx hb dX1_takeAll_73 rfl (lv_at hl 0 rfl) ?_
  refine k_get hX hZ.1 0 1 rfl rfl iw_X1 4 rfl (wm_317) (v := .ref (a_n 5)) rfl dX1_takeAll_74 ?_
  refine lv_iconst (v := 0) hx hb dX1_takeAll_77 (by decide) ?_
  refine lv_bipush (v := 10) hx hb dX1_takeAll_78 (by decide) ?_
  refine k_copy (wf := (fun o => wd_X1 aC a_n o ++ wd_X1 aC a_n2 s_n2)) (o := o9) hX hl.1 hZ 12 5 4 rfl rfl (fun _ => rfl) (hts _ wm_319) (hts _ wm_308) (hts _ wm_309) (hts _ wm_310) rfl rfl h dX1_takeAll_80 (fun o11 H locs hZ h => ?_)
  refine lv_aload_n hx hb dX1_takeAll_83 rfl (lv_at hl 1 rfl) ?_
  refine k_get hX hZ.1 7 1 rfl rfl iw_X1 5 rfl (wm_318) (v := .ref (a_n2 6)) rfl dX1_takeAll_84 ?_
  refine lv_iconst (v := 0) hx hb dX1_takeAll_87 (by decide) ?_
  refine lv_aload_n hx hb dX1_takeAll_88 rfl (lv_at hl 0 rfl) ?_
  refine k_get hX hZ.1 0 1 rfl rfl iw_X1 5 rfl (wm_318) (v := .ref (a_n 6)) rfl dX1_takeAll_89 ?_
  refine lv_iconst (v := 0) hx hb dX1_takeAll_92 (by decide) ?_
  refine lv_bipush (v := 60) hx hb dX1_takeAll_93 (by decide) ?_
  refine k_copy (wf := (fun o => wd_X1 aC a_n o ++ wd_X1 aC a_n2 s_n2)) (o := o11) hX hl.1 hZ 13 6 5 rfl rfl (fun _ => rfl) (hts _ wm_319) (hts _ wm_308) (hts _ wm_309) (hts _ wm_310) rfl rfl h dX1_takeAll_95 (fun o13 H locs hZ h => ?_)
  cases h
  exact k_vretW hX hr hZ dX1_takeAll_98
def wlX1_size : List Cond := .code yX1_size cX1_size 1 (some .int) :: WL_
theorem hd_X1_size : yX1_size.cls = RX1 ∧ yX1_size.cls ≠ "java/lang/invoke/MethodHandle" ∧ yX1_size.cls ≠ "java/lang/invoke/VarHandle" ∧ (parseMethodDescriptor yX1_size.desc).map (fun d => d.parameters.length) = some 0 := by decide +kernel
theorem dX1_size_0 : decode cX1_size 0 = .ok (.aload_n 0, 1) := by decide +kernel
theorem dX1_size_1 : decode cX1_size 1 = .ok (.getfield 30, 3) := by decide +kernel
theorem dX1_size_4 : decode cX1_size 4 = .ok (.ireturn, 1) := by decide +kernel
set_option maxHeartbeats 4000000 in
set_option maxRecDepth 100000 in
theorem c_X1_size {l : Launch} {D : va_G} {aC : Nat → ClassId} {a_n : Nat → Nat} (s_n : Ob_T) {out : Int32} (h : f_X1_size s_n = some out) : M_R l yX1_size wlX1_size 0 0 D aC [.ref (a_n 0)] (wd_X1 aC a_n s_n) (some (.int out)) := by
  refine k_entR (cc := cX1_size) (ret := (some .int)) (maxL := 1) (own := RX1) (by decide) rfl rfl rfl ?_
  intro p e s m below meth c A ls hX hr hZ hl
  have hl : lv_has ls 1 [(0, .ref (a_n 0))] := hl
  generalize ([.ref (a_n 0)] : List Value).toArray = args at hX ⊢
  obtain ⟨hx, hb, hml, hown, hts, hK, hA, hlk⟩ := id hX
  unfold f_X1_size at h
  have hF : ∀ q ∈ ([] : List Loc), False := fun _ h => nomatch h
  generalize ([] : List Loc) = locs at hF ⊢
  refine lv_aload_n hx hb dX1_size_0 rfl (lv_at hl 0 rfl) ?_
  refine k_get hX hZ.1 0 1 rfl rfl iw_X1 6 rfl (wm_312) (v := .int (o_F s_n 6)) rfl dX1_size_1 ?_
  cases h
  exact k_iretR hX hr hF dX1_size_4
def wlX1_has : List Cond := .code yX1_has cX1_has 2 (some .boolean) :: WL_
theorem hd_X1_has : yX1_has.cls = RX1 ∧ yX1_has.cls ≠ "java/lang/invoke/MethodHandle" ∧ yX1_has.cls ≠ "java/lang/invoke/VarHandle" ∧ (parseMethodDescriptor yX1_has.desc).map (fun d => d.parameters.length) = some 1 := by decide +kernel
theorem dX1_has_0 : decode cX1_has 0 = .ok (.iload_n 1, 1) := by decide +kernel
theorem dX1_has_1 : decode cX1_has 1 = .ok (.ifCond .lt 15, 3) := by decide +kernel
theorem dX1_has_4 : decode cX1_has 4 = .ok (.iload_n 1, 1) := by decide +kernel
theorem dX1_has_5 : decode cX1_has 5 = .ok (.aload_n 0, 1) := by decide +kernel
theorem dX1_has_6 : decode cX1_has 6 = .ok (.getfield 30, 3) := by decide +kernel
theorem dX1_has_9 : decode cX1_has 9 = .ok (.if_icmp .ge 7, 3) := by decide +kernel
theorem dX1_has_12 : decode cX1_has 12 = .ok (.iconst 1, 1) := by decide +kernel
theorem dX1_has_13 : decode cX1_has 13 = .ok (.goto 4, 3) := by decide +kernel
theorem dX1_has_16 : decode cX1_has 16 = .ok (.iconst 0, 1) := by decide +kernel
theorem dX1_has_17 : decode cX1_has 17 = .ok (.ireturn, 1) := by decide +kernel
set_option maxHeartbeats 4000000 in
set_option maxRecDepth 100000 in
theorem c_X1_has {l : Launch} {D : va_G} {aC : Nat → ClassId} {a_n : Nat → Nat} (s_n : Ob_T) (x1 : Int32) {out : Int32} (h : f_X1_has s_n x1 = some out) : M_R l yX1_has wlX1_has 0 0 D aC [.ref (a_n 0), .int x1] (wd_X1 aC a_n s_n) (some (.int out)) := by
  refine k_entR (cc := cX1_has) (ret := (some .boolean)) (maxL := 2) (own := RX1) (by decide) rfl rfl rfl ?_
  intro p e s m below meth c A ls hX hr hZ hl
  have hl : lv_has ls 2 [(0, .ref (a_n 0)), (1, .int x1)] := hl
  generalize ([.ref (a_n 0), .int x1] : List Value).toArray = args at hX ⊢
  obtain ⟨hx, hb, hml, hown, hts, hK, hA, hlk⟩ := id hX
  unfold f_X1_has at h
  have hF : ∀ q ∈ ([] : List Loc), False := fun _ h => nomatch h
  generalize ([] : List Loc) = locs at hF ⊢
  refine lv_iload_n hx hb dX1_has_0 rfl (lv_at hl 1 rfl) ?_
  refine lv_if_lt (tgt := 16) hx hb dX1_has_1 (by decide) (fun cd => ?_) (fun cd => ?_)
  · replace h := k_t cd h
    clear cd
    refine lv_iconst (v := 0) hx hb dX1_has_16 (by decide) ?_
    cases h
    exact k_zretR (v := (0 : Int32)) hX hr rfl hF dX1_has_17
  · replace h := k_f cd h
    clear cd
    refine lv_iload_n hx hb dX1_has_4 rfl (lv_at hl 1 rfl) ?_
    refine lv_aload_n hx hb dX1_has_5 rfl (lv_at hl 0 rfl) ?_
    refine k_get hX hZ.1 0 1 rfl rfl iw_X1 6 rfl (wm_312) (v := .int (o_F s_n 6)) rfl dX1_has_6 ?_
    refine lv_icmp_ge (tgt := 16) hx hb dX1_has_9 (by decide) (fun cd => ?_) (fun cd => ?_)
    · replace h := k_t cd h
      clear cd
      refine lv_iconst (v := 0) hx hb dX1_has_16 (by decide) ?_
      cases h
      exact k_zretR (v := (0 : Int32)) hX hr rfl hF dX1_has_17
    · replace h := k_f cd h
      clear cd
      refine lv_iconst (v := 1) hx hb dX1_has_12 (by decide) ?_
      refine lv_goto (tgt := 17) hx hb dX1_has_13 (by decide) ?_
      cases h
      exact k_zretR (v := (1 : Int32)) hX hr rfl hF dX1_has_17
def wlX1_kindOf : List Cond := .code yX1_kindOf cX1_kindOf 2 (some .int) :: WL_
theorem hd_X1_kindOf : yX1_kindOf.cls = RX1 ∧ yX1_kindOf.cls ≠ "java/lang/invoke/MethodHandle" ∧ yX1_kindOf.cls ≠ "java/lang/invoke/VarHandle" ∧ (parseMethodDescriptor yX1_kindOf.desc).map (fun d => d.parameters.length) = some 1 := by decide +kernel
theorem dX1_kindOf_0 : decode cX1_kindOf 0 = .ok (.aload_n 0, 1) := by decide +kernel
theorem dX1_kindOf_1 : decode cX1_kindOf 1 = .ok (.getfield 9, 3) := by decide +kernel
theorem dX1_kindOf_4 : decode cX1_kindOf 4 = .ok (.iload_n 1, 1) := by decide +kernel
theorem dX1_kindOf_5 : decode cX1_kindOf 5 = .ok (.iaload, 1) := by decide +kernel
theorem dX1_kindOf_6 : decode cX1_kindOf 6 = .ok (.ireturn, 1) := by decide +kernel
set_option maxHeartbeats 4000000 in
set_option maxRecDepth 100000 in
theorem c_X1_kindOf {l : Launch} {D : va_G} {aC : Nat → ClassId} {a_n : Nat → Nat} (s_n : Ob_T) (x1 : Int32) {out : Int32} (h : f_X1_kindOf s_n x1 = some out) : M_R l yX1_kindOf wlX1_kindOf 0 0 D aC [.ref (a_n 0), .int x1] (wd_X1 aC a_n s_n) (some (.int out)) := by
  refine k_entR (cc := cX1_kindOf) (ret := (some .int)) (maxL := 2) (own := RX1) (by decide) rfl rfl rfl ?_
  intro p e s m below meth c A ls hX hr hZ hl
  have hl : lv_has ls 2 [(0, .ref (a_n 0)), (1, .int x1)] := hl
  generalize ([.ref (a_n 0), .int x1] : List Value).toArray = args at hX ⊢
  obtain ⟨hx, hb, hml, hown, hts, hK, hA, hlk⟩ := id hX
  unfold f_X1_kindOf at h
  have hF : ∀ q ∈ ([] : List Loc), False := fun _ h => nomatch h
  generalize ([] : List Loc) = locs at hF ⊢
  refine lv_aload_n hx hb dX1_kindOf_0 rfl (lv_at hl 0 rfl) ?_
  refine k_get hX hZ.1 0 1 rfl rfl iw_X1 0 rfl (wm_313) (v := .ref (a_n 1)) rfl dX1_kindOf_1 ?_
  refine lv_iload_n hx hb dX1_kindOf_4 rfl (lv_at hl 1 rfl) ?_
  refine k_iald hX hZ.1 1 rfl h dX1_kindOf_5 (fun v1 h => ?_)
  cases h
  exact k_iretR hX hr hF dX1_kindOf_6
def wlX1_axesOf : List Cond := .code yX1_axesOf cX1_axesOf 2 (some .int) :: WL_
theorem hd_X1_axesOf : yX1_axesOf.cls = RX1 ∧ yX1_axesOf.cls ≠ "java/lang/invoke/MethodHandle" ∧ yX1_axesOf.cls ≠ "java/lang/invoke/VarHandle" ∧ (parseMethodDescriptor yX1_axesOf.desc).map (fun d => d.parameters.length) = some 1 := by decide +kernel
theorem dX1_axesOf_0 : decode cX1_axesOf 0 = .ok (.aload_n 0, 1) := by decide +kernel
theorem dX1_axesOf_1 : decode cX1_axesOf 1 = .ok (.getfield 24, 3) := by decide +kernel
theorem dX1_axesOf_4 : decode cX1_axesOf 4 = .ok (.iload_n 1, 1) := by decide +kernel
theorem dX1_axesOf_5 : decode cX1_axesOf 5 = .ok (.iaload, 1) := by decide +kernel
theorem dX1_axesOf_6 : decode cX1_axesOf 6 = .ok (.ireturn, 1) := by decide +kernel
set_option maxHeartbeats 4000000 in
set_option maxRecDepth 100000 in
theorem c_X1_axesOf {l : Launch} {D : va_G} {aC : Nat → ClassId} {a_n : Nat → Nat} (s_n : Ob_T) (x1 : Int32) {out : Int32} (h : f_X1_axesOf s_n x1 = some out) : M_R l yX1_axesOf wlX1_axesOf 0 0 D aC [.ref (a_n 0), .int x1] (wd_X1 aC a_n s_n) (some (.int out)) := by
  refine k_entR (cc := cX1_axesOf) (ret := (some .int)) (maxL := 2) (own := RX1) (by decide) rfl rfl rfl ?_
  intro p e s m below meth c A ls hX hr hZ hl
  have hl : lv_has ls 2 [(0, .ref (a_n 0)), (1, .int x1)] := hl
  generalize ([.ref (a_n 0), .int x1] : List Value).toArray = args at hX ⊢
  obtain ⟨hx, hb, hml, hown, hts, hK, hA, hlk⟩ := id hX
  unfold f_X1_axesOf at h
  have hF : ∀ q ∈ ([] : List Loc), False := fun _ h => nomatch h
  generalize ([] : List Loc) = locs at hF ⊢
  refine lv_aload_n hx hb dX1_axesOf_0 rfl (lv_at hl 0 rfl) ?_
  refine k_get hX hZ.1 0 1 rfl rfl iw_X1 4 rfl (wm_317) (v := .ref (a_n 5)) rfl dX1_axesOf_1 ?_
  refine lv_iload_n hx hb dX1_axesOf_4 rfl (lv_at hl 1 rfl) ?_
  refine k_iald hX hZ.1 5 rfl h dX1_axesOf_5 (fun v1 h => ?_)
  cases h
  exact k_iretR hX hr hF dX1_axesOf_6
