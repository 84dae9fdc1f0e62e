def wlX0_change : List Cond := .code yX0_change cX0_change 3 none :: WL_
theorem hd_X0_change : yX0_change.cls = RX0 ∧ yX0_change.cls ≠ "java/lang/invoke/MethodHandle" ∧ yX0_change.cls ≠ "java/lang/invoke/VarHandle" ∧ (parseMethodDescriptor yX0_change.desc).map (fun d => d.parameters.length) = some 2 := by decide +kernel
theorem dX0_change_0 : decode cX0_change 0 = .ok (.aload_n 0, 1) := by decide +kernel
theorem dX0_change_1 : decode cX0_change 1 = .ok (.getfield 34, 3) := by decide +kernel
theorem dX0_change_4 : decode cX0_change 4 = .ok (.bipush 8, 2) := by decide +kernel
theorem dX0_change_6 : decode cX0_change 6 = .ok (.if_icmp .lt 39, 3) := by decide +kernel
theorem dX0_change_9 : decode cX0_change 9 = .ok (.aload_n 0, 1) := by decide +kernel
theorem dX0_change_10 : decode cX0_change 10 = .ok (.getfield 15, 3) := by decide +kernel
theorem dX0_change_13 : decode cX0_change 13 = .ok (.iconst 1, 1) := by decide +kernel
theorem dX0_change_14 : decode cX0_change 14 = .ok (.aload_n 0, 1) := by decide +kernel
theorem dX0_change_15 : decode cX0_change 15 = .ok (.getfield 15, 3) := by decide +kernel
theorem dX0_change_18 : decode cX0_change 18 = .ok (.iconst 0, 1) := by decide +kernel
theorem dX0_change_19 : decode cX0_change 19 = .ok (.bipush 7, 2) := by decide +kernel
theorem dX0_change_21 : decode cX0_change 21 = .ok (.invokestatic 48, 3) := by decide +kernel
theorem dX0_change_24 : decode cX0_change 24 = .ok (.aload_n 0, 1) := by decide +kernel
theorem dX0_change_25 : decode cX0_change 25 = .ok (.getfield 18, 3) := by decide +kernel
theorem dX0_change_28 : decode cX0_change 28 = .ok (.iconst 1, 1) := by decide +kernel
theorem dX0_change_29 : decode cX0_change 29 = .ok (.aload_n 0, 1) := by decide +kernel
theorem dX0_change_30 : decode cX0_change 30 = .ok (.getfield 18, 3) := by decide +kernel
theorem dX0_change_33 : decode cX0_change 33 = .ok (.iconst 0, 1) := by decide +kernel
theorem dX0_change_34 : decode cX0_change 34 = .ok (.bipush 7, 2) := by decide +kernel
theorem dX0_change_36 : decode cX0_change 36 = .ok (.invokestatic 48, 3) := by decide +kernel
theorem dX0_change_39 : decode cX0_change 39 = .ok (.aload_n 0, 1) := by decide +kernel
theorem dX0_change_40 : decode cX0_change 40 = .ok (.bipush 7, 2) := by decide +kernel
theorem dX0_change_42 : decode cX0_change 42 = .ok (.putfield 34, 3) := by decide +kernel
theorem dX0_change_45 : decode cX0_change 45 = .ok (.aload_n 0, 1) := by decide +kernel
theorem dX0_change_46 : decode cX0_change 46 = .ok (.getfield 15, 3) := by decide +kernel
theorem dX0_change_49 : decode cX0_change 49 = .ok (.aload_n 0, 1) := by decide +kernel
theorem dX0_change_50 : decode cX0_change 50 = .ok (.getfield 34, 3) := by decide +kernel
theorem dX0_change_53 : decode cX0_change 53 = .ok (.iload_n 1, 1) := by decide +kernel
theorem dX0_change_54 : decode cX0_change 54 = .ok (.iastore, 1) := by decide +kernel
theorem dX0_change_55 : decode cX0_change 55 = .ok (.aload_n 0, 1) := by decide +kernel
theorem dX0_change_56 : decode cX0_change 56 = .ok (.getfield 18, 3) := by decide +kernel
theorem dX0_change_59 : decode cX0_change 59 = .ok (.aload_n 0, 1) := by decide +kernel
theorem dX0_change_60 : decode cX0_change 60 = .ok (.getfield 34, 3) := by decide +kernel
theorem dX0_change_63 : decode cX0_change 63 = .ok (.aload_n 0, 1) := by decide +kernel
theorem dX0_change_64 : decode cX0_change 64 = .ok (.getfield 9, 3) := by decide +kernel
theorem dX0_change_67 : decode cX0_change 67 = .ok (.iload_n 1, 1) := by decide +kernel
theorem dX0_change_68 : decode cX0_change 68 = .ok (.iaload, 1) := by decide +kernel
theorem dX0_change_69 : decode cX0_change 69 = .ok (.iastore, 1) := by decide +kernel
theorem dX0_change_70 : decode cX0_change 70 = .ok (.aload_n 0, 1) := by decide +kernel
theorem dX0_change_71 : decode cX0_change 71 = .ok (.dup, 1) := by decide +kernel
theorem dX0_change_72 : decode cX0_change 72 = .ok (.getfield 34, 3) := by decide +kernel
theorem dX0_change_75 : decode cX0_change 75 = .ok (.iconst 1, 1) := by decide +kernel
theorem dX0_change_76 : decode cX0_change 76 = .ok (.iadd, 1) := by decide +kernel
theorem dX0_change_77 : decode cX0_change 77 = .ok (.putfield 34, 3) := by decide +kernel
theorem dX0_change_80 : decode cX0_change 80 = .ok (.aload_n 0, 1) := by decide +kernel
theorem dX0_change_81 : decode cX0_change 81 = .ok (.getfield 9, 3) := by decide +kernel
theorem dX0_change_84 : decode cX0_change 84 = .ok (.iload_n 1, 1) := by decide +kernel
theorem dX0_change_85 : decode cX0_change 85 = .ok (.iload_n 2, 1) := by decide +kernel
theorem dX0_change_86 : decode cX0_change 86 = .ok (.iastore, 1) := by decide +kernel
theorem dX0_change_87 : decode cX0_change 87 = .ok (.return_, 1) := by decide +kernel
set_option maxHeartbeats 4000000 in
set_option maxRecDepth 100000 in
theorem t_X0_change_J45 {p : Program} {l : Launch} {e : Env} {s : State} {m : MethodId} {args : Array Value} {below : List Frame} {meth : Method} {c : Code} {D : va_G} {aC : Nat → ClassId} {A : Nat → Prop} {a_g : Nat → Nat} {out : Ob_T} (hX : K_X p s m args meth c cX0_change 3 WL_ RX0 D aC A) (hr : meth.sig.returnType = none) (x1 : Int32) (x2 : Int32) (s_g : Ob_T) (h : f_X0_change_J45 x1 x2 s_g = some out) (H : Heap) (locs : List Loc) (ls : Array Slot) (hZ : K_S D A s (wd_X0 aC a_g s_g) H locs) (hl : lv_has ls 3 [(0, .ref (a_g 0)), (1, .int x1), (2, .int x2)]) : W p l e (R_m 1 100) s m args below meth c H locs 0 0 (MQ below (Q_W (none) D A (wd_X0 aC a_g out)) args s 0 0 A) (F0 m 45 ls []) := by
  obtain ⟨hx, hb, hml, hown, hts, hK, hA, hlk⟩ := id hX
  unfold f_X0_change_J45 at h
  refine lv_aload_n hx hb dX0_change_45 rfl (lv_at hl 0 rfl) ?_
  refine k_get hX hZ.1 0 0 rfl rfl iw_X0 1 rfl (wm_305) (v := .ref (a_g 2)) rfl dX0_change_46 ?_
  refine lv_aload_n hx hb dX0_change_49 rfl (lv_at hl 0 rfl) ?_
  refine k_get hX hZ.1 0 0 rfl rfl iw_X0 5 rfl (wm_292) (v := .int (o_F s_g 5)) rfl dX0_change_50 ?_
  refine lv_iload_n hx hb dX0_change_53 rfl (lv_at hl 1 rfl) ?_
  refine k_iast (wf := (fun o => wd_X0 aC a_g o)) (o := s_g) hX hZ 2 1 rfl (fun _ => rfl) h dX0_change_54 (fun o1 H locs hZ h => ?_)
  refine lv_aload_n hx hb dX0_change_55 rfl (lv_at hl 0 rfl) ?_
  refine k_get hX hZ.1 0 0 rfl rfl iw_X0 2 rfl (wm_306) (v := .ref (a_g 3)) rfl dX0_change_56 ?_
  refine lv_aload_n hx hb dX0_change_59 rfl (lv_at hl 0 rfl) ?_
  refine k_get hX hZ.1 0 0 rfl rfl iw_X0 5 rfl (wm_292) (v := .int (o_F o1 5)) rfl dX0_change_60 ?_
  refine lv_aload_n hx hb dX0_change_63 rfl (lv_at hl 0 rfl) ?_
  refine k_get hX hZ.1 0 0 rfl rfl iw_X0 0 rfl (wm_290) (v := .ref (a_g 1)) rfl dX0_change_64 ?_
  refine lv_iload_n hx hb dX0_change_67 rfl (lv_at hl 1 rfl) ?_
  refine k_iald hX hZ.1 1 rfl h dX0_change_68 (fun v2 h => ?_)
  refine k_iast (wf := (fun o => wd_X0 aC a_g o)) (o := o1) hX hZ 3 2 rfl (fun _ => rfl) h dX0_change_69 (fun o3 H locs hZ h => ?_)
  refine lv_aload_n hx hb dX0_change_70 rfl (lv_at hl 0 rfl) ?_
  refine lv_dup hx hb dX0_change_71 rfl ?_
  refine k_get hX hZ.1 0 0 rfl rfl iw_X0 5 rfl (wm_292) (v := .int (o_F o3 5)) rfl dX0_change_72 ?_
  refine lv_iconst (v := 1) hx hb dX0_change_75 (by decide) ?_
  refine lv_iadd hx hb dX0_change_76 ?_
  refine k_put (wf := (fun o => wd_X0 aC a_g o)) (o := o3) hX hZ 0 0 rfl rfl iw_X0 tyX0 tyX0_ok nmX0 5 rfl (wm_292) rfl rfl rfl rfl rfl h dX0_change_77 (fun o4 H locs hZ h => ?_)
  refine lv_aload_n hx hb dX0_change_80 rfl (lv_at hl 0 rfl) ?_
  refine k_get hX hZ.1 0 0 rfl rfl iw_X0 0 rfl (wm_290) (v := .ref (a_g 1)) rfl dX0_change_81 ?_
  refine lv_iload_n hx hb dX0_change_84 rfl (lv_at hl 1 rfl) ?_
  refine lv_iload_n hx hb dX0_change_85 rfl (lv_at hl 2 rfl) ?_
  refine k_iast (wf := (fun o => wd_X0 aC a_g o)) (o := o4) hX hZ 1 0 rfl (fun _ => rfl) h dX0_change_86 (fun o5 H locs hZ h => ?_)
  cases h
  exact k_vretW hX hr hZ dX0_change_87
set_option maxHeartbeats 4000000 in
set_option maxRecDepth 100000 in
theorem c_X0_change {l : Launch} {D : va_G} {aC : Nat → ClassId} {a_g : Nat → Nat} (s_g : Ob_T) (x1 : Int32) (x2 : Int32) {out : Ob_T} (h : f_X0_change s_g x1 x2 = some out) : M_W l yX0_change wlX0_change 1 100 D aC [.ref (a_g 0), .int x1, .int x2] (wd_X0 aC a_g s_g) (none) (wd_X0 aC a_g out) := by
  refine k_entW (cc := cX0_change) (ret := none) (maxL := 3) (own := RX0) (by decide) rfl rfl rfl ?_
  intro p e s m below meth c A ls hX hr hZ hl
  have hl : lv_has ls 3 [(0, .ref (a_g 0)), (1, .int x1), (2, .int x2)] := hl
  generalize ([.ref (a_g 0), .int x1, .int x2] : List Value).toArray = args at hX ⊢
  obtain ⟨hx, hb, hml, hown, hts, hK, hA, hlk⟩ := id hX
  unfold f_X0_change at h
  generalize s.heap = H at hZ ⊢
  generalize ([] : List Loc) = locs at hZ ⊢
  refine lv_aload_n hx hb dX0_change_0 rfl (lv_at hl 0 rfl) ?_
  refine k_get hX hZ.1 0 0 rfl rfl iw_X0 5 rfl (wm_292) (v := .int (o_F s_g 5)) rfl dX0_change_1 ?_
  refine lv_bipush (v := 8) hx hb dX0_change_4 (by decide) ?_
  refine lv_icmp_lt (tgt := 45) hx hb dX0_change_6 (by decide) (fun cd => ?_) (fun cd => ?_)
  · replace h := k_t cd h
    clear cd
    exact t_X0_change_J45 hX hr x1 x2 s_g h H locs ls hZ (lv_sub hl [0, 1, 2] rfl)
  · replace h := k_f cd h
    clear cd
    refine lv_aload_n hx hb dX0_change_9 rfl (lv_at hl 0 rfl) ?_
    refine k_get hX hZ.1 0 0 rfl rfl iw_X0 1 rfl (wm_305) (v := .ref (a_g 2)) rfl dX0_change_10 ?_
    refine lv_iconst (v := 1) hx hb dX0_change_13 (by decide) ?_
    refine lv_aload_n hx hb dX0_change_14 rfl (lv_at hl 0 rfl) ?_
    refine k_get hX hZ.1 0 0 rfl rfl iw_X0 1 rfl (wm_305) (v := .ref (a_g 2)) rfl dX0_change_15 ?_
    refine lv_iconst (v := 0) hx hb dX0_change_18 (by decide) ?_
    refine lv_bipush (v := 7) hx hb dX0_change_19 (by decide) ?_
    refine k_copy (wf := (fun o => wd_X0 aC a_g o)) (o := s_g) hX hl.1 hZ 2 2 1 rfl rfl (fun _ => rfl) (hts _ wm_307) (hts _ wm_308) (hts _ wm_309) (hts _ wm_310) rfl rfl h dX0_change_21 (fun o7 H locs hZ h => ?_)
    refine lv_aload_n hx hb dX0_change_24 rfl (lv_at hl 0 rfl) ?_
    refine k_get hX hZ.1 0 0 rfl rfl iw_X0 2 rfl (wm_306) (v := .ref (a_g 3)) rfl dX0_change_25 ?_
    refine lv_iconst (v := 1) hx hb dX0_change_28 (by decide) ?_
    refine lv_aload_n hx hb dX0_change_29 rfl (lv_at hl 0 rfl) ?_
    refine k_get hX hZ.1 0 0 rfl rfl iw_X0 2 rfl (wm_306) (v := .ref (a_g 3)) rfl dX0_change_30 ?_
    refine lv_iconst (v := 0) hx hb dX0_change_33 (by decide) ?_
    refine lv_bipush (v := 7) hx hb dX0_change_34 (by decide) ?_
    refine k_copy (wf := (fun o => wd_X0 aC a_g o)) (o := o7) hX hl.1 hZ 3 3 2 rfl rfl (fun _ => rfl) (hts _ wm_307) (hts _ wm_308) (hts _ wm_309) (hts _ wm_310) rfl rfl h dX0_change_36 (fun o9 H locs hZ h => ?_)
    refine lv_aload_n hx hb dX0_change_39 rfl (lv_at hl 0 rfl) ?_
    refine lv_bipush (v := 7) hx hb dX0_change_40 (by decide) ?_
    refine k_put (wf := (fun o => wd_X0 aC a_g o)) (o := o9) hX hZ 0 0 rfl rfl iw_X0 tyX0 tyX0_ok nmX0 5 rfl (wm_292) rfl rfl rfl rfl rfl h dX0_change_42 (fun o10 H locs hZ h => ?_)
    exact t_X0_change_J45 hX hr x1 x2 o10 h H locs ls hZ (lv_sub hl [0, 1, 2] rfl)
def wlX0_takeBack : List Cond := .code yX0_takeBack cX0_takeBack 1 none :: WL_
theorem hd_X0_takeBack : yX0_takeBack.cls = RX0 ∧ yX0_takeBack.cls ≠ "java/lang/invoke/MethodHandle" ∧ yX0_takeBack.cls ≠ "java/lang/invoke/VarHandle" ∧ (parseMethodDescriptor yX0_takeBack.desc).map (fun d => d.parameters.length) = some 0 := by decide +kernel
theorem dX0_takeBack_0 : decode cX0_takeBack 0 = .ok (.aload_n 0, 1) := by decide +kernel
theorem dX0_takeBack_1 : decode cX0_takeBack 1 = .ok (.getfield 34, 3) := by decide +kernel
theorem dX0_takeBack_4 : decode cX0_takeBack 4 = .ok (.ifCond .le 36, 3) := by decide +kernel
theorem dX0_takeBack_7 : decode cX0_takeBack 7 = .ok (.aload_n 0, 1) := by decide +kernel
theorem dX0_takeBack_8 : decode cX0_takeBack 8 = .ok (.dup, 1) := by decide +kernel
theorem dX0_takeBack_9 : decode cX0_takeBack 9 = .ok (.getfield 34, 3) := by decide +kernel
theorem dX0_takeBack_12 : decode cX0_takeBack 12 = .ok (.iconst 1, 1) := by decide +kernel
theorem dX0_takeBack_13 : decode cX0_takeBack 13 = .ok (.isub, 1) := by decide +kernel
theorem dX0_takeBack_14 : decode cX0_takeBack 14 = .ok (.putfield 34, 3) := by decide +kernel
theorem dX0_takeBack_17 : decode cX0_takeBack 17 = .ok (.aload_n 0, 1) := by decide +kernel
theorem dX0_takeBack_18 : decode cX0_takeBack 18 = .ok (.getfield 9, 3) := by decide +kernel
theorem dX0_takeBack_21 : decode cX0_takeBack 21 = .ok (.aload_n 0, 1) := by decide +kernel
theorem dX0_takeBack_22 : decode cX0_takeBack 22 = .ok (.getfield 15, 3) := by decide +kernel
theorem dX0_takeBack_25 : decode cX0_takeBack 25 = .ok (.aload_n 0, 1) := by decide +kernel
theorem dX0_takeBack_26 : decode cX0_takeBack 26 = .ok (.getfield 34, 3) := by decide +kernel
theorem dX0_takeBack_29 : decode cX0_takeBack 29 = .ok (.iaload, 1) := by decide +kernel
theorem dX0_takeBack_30 : decode cX0_takeBack 30 = .ok (.aload_n 0, 1) := by decide +kernel
theorem dX0_takeBack_31 : decode cX0_takeBack 31 = .ok (.getfield 18, 3) := by decide +kernel
theorem dX0_takeBack_34 : decode cX0_takeBack 34 = .ok (.aload_n 0, 1) := by decide +kernel
theorem dX0_takeBack_35 : decode cX0_takeBack 35 = .ok (.getfield 34, 3) := by decide +kernel
theorem dX0_takeBack_38 : decode cX0_takeBack 38 = .ok (.iaload, 1) := by decide +kernel
theorem dX0_takeBack_39 : decode cX0_takeBack 39 = .ok (.iastore, 1) := by decide +kernel
theorem dX0_takeBack_40 : decode cX0_takeBack 40 = .ok (.return_, 1) := by decide +kernel
set_option maxHeartbeats 4000000 in
set_option maxRecDepth 100000 in
theorem c_X0_takeBack {l : Launch} {D : va_G} {aC : Nat → ClassId} {a_g : Nat → Nat} (s_g : Ob_T) {out : Ob_T} (h : f_X0_takeBack s_g = some out) : M_W l yX0_takeBack wlX0_takeBack 0 0 D aC [.ref (a_g 0)] (wd_X0 aC a_g s_g) (none) (wd_X0 aC a_g out) := by
  refine k_entW (cc := cX0_takeBack) (ret := none) (maxL := 1) (own := RX0) (by decide) rfl rfl rfl ?_
  intro p e s m below meth c A ls hX hr hZ hl
  have hl : lv_has ls 1 [(0, .ref (a_g 0))] := hl
  generalize ([.ref (a_g 0)] : List Value).toArray = args at hX ⊢
  obtain ⟨hx, hb, hml, hown, hts, hK, hA, hlk⟩ := id hX
  unfold f_X0_takeBack at h
  generalize s.heap = H at hZ ⊢
  generalize ([] : List Loc) = locs at hZ ⊢
  refine lv_aload_n hx hb dX0_takeBack_0 rfl (lv_at hl 0 rfl) ?_
  refine k_get hX hZ.1 0 0 rfl rfl iw_X0 5 rfl (wm_292) (v := .int (o_F s_g 5)) rfl dX0_takeBack_1 ?_
  refine lv_if_le (tgt := 40) hx hb dX0_takeBack_4 (by decide) (fun cd => ?_) (fun cd => ?_)
  · replace h := k_t cd h
    clear cd
    cases h
    exact k_vretW hX hr hZ dX0_takeBack_40
  · replace h := k_f cd h
    clear cd
    refine lv_aload_n hx hb dX0_takeBack_7 rfl (lv_at hl 0 rfl) ?_
    refine lv_dup hx hb dX0_takeBack_8 rfl ?_
    refine k_get hX hZ.1 0 0 rfl rfl iw_X0 5 rfl (wm_292) (v := .int (o_F s_g 5)) rfl dX0_takeBack_9 ?_
    refine lv_iconst (v := 1) hx hb dX0_takeBack_12 (by decide) ?_
    refine lv_isub hx hb dX0_takeBack_13 ?_
    refine k_put (wf := (fun o => wd_X0 aC a_g o)) (o := s_g) hX hZ 0 0 rfl rfl iw_X0 tyX0 tyX0_ok nmX0 5 rfl (wm_292) rfl rfl rfl rfl rfl h dX0_takeBack_14 (fun o1 H locs hZ h => ?_)
    refine lv_aload_n hx hb dX0_takeBack_17 rfl (lv_at hl 0 rfl) ?_
    refine k_get hX hZ.1 0 0 rfl rfl iw_X0 0 rfl (wm_290) (v := .ref (a_g 1)) rfl dX0_takeBack_18 ?_
    refine lv_aload_n hx hb dX0_takeBack_21 rfl (lv_at hl 0 rfl) ?_
    refine k_get hX hZ.1 0 0 rfl rfl iw_X0 1 rfl (wm_305) (v := .ref (a_g 2)) rfl dX0_takeBack_22 ?_
    refine lv_aload_n hx hb dX0_takeBack_25 rfl (lv_at hl 0 rfl) ?_
    refine k_get hX hZ.1 0 0 rfl rfl iw_X0 5 rfl (wm_292) (v := .int (o_F o1 5)) rfl dX0_takeBack_26 ?_
    refine k_iald hX hZ.1 2 rfl h dX0_takeBack_29 (fun v2 h => ?_)
    refine lv_aload_n hx hb dX0_takeBack_30 rfl (lv_at hl 0 rfl) ?_
    refine k_get hX hZ.1 0 0 rfl rfl iw_X0 2 rfl (wm_306) (v := .ref (a_g 3)) rfl dX0_takeBack_31 ?_
    refine lv_aload_n hx hb dX0_takeBack_34 rfl (lv_at hl 0 rfl) ?_
    refine k_get hX hZ.1 0 0 rfl rfl iw_X0 5 rfl (wm_292) (v := .int (o_F o1 5)) rfl dX0_takeBack_35 ?_
    refine k_iald hX hZ.1 3 rfl h dX0_takeBack_38 (fun v3 h => ?_)
    refine k_iast (wf := (fun o => wd_X0 aC a_g o)) (o := o1) hX hZ 1 0 rfl (fun _ => rfl) h dX0_takeBack_39 (fun o4 H locs hZ h => ?_)
    cases h
    exact k_vretW hX hr hZ dX0_takeBack_40
def wlX0_store : List Cond := .code yX0_store cX0_store 2 none :: WL_
theorem hd_X0_store : yX0_store.cls = RX0 ∧ yX0_store.cls ≠ "java/lang/invoke/MethodHandle" ∧ yX0_store.cls ≠ "java/lang/invoke/VarHandle" ∧ (parseMethodDescriptor yX0_store.desc).map (fun d => d.parameters.length) = some 1 := by decide +kernel
theorem dX0_store_0 : decode cX0_store 0 = .ok (.aload_n 0, 1) := by decide +kernel
theorem dX0_store_1 : decode cX0_store 1 = .ok (.getfield 9, 3) := by decide +kernel
theorem dX0_store_4 : decode cX0_store 4 = .ok (.iconst 0, 1) := by decide +kernel
theorem dX0_store_5 : decode cX0_store 5 = .ok (.aload_n 0, 1) := by decide +kernel
theorem dX0_store_6 : decode cX0_store 6 = .ok (.getfield 21, 3) := by decide +kernel
theorem dX0_store_9 : decode cX0_store 9 = .ok (.iload_n 1, 1) := by decide +kernel
theorem dX0_store_10 : decode cX0_store 10 = .ok (.iconst 4, 1) := by decide +kernel
theorem dX0_store_11 : decode cX0_store 11 = .ok (.imul, 1) := by decide +kernel
theorem dX0_store_12 : decode cX0_store 12 = .ok (.iconst 4, 1) := by decide +kernel
theorem dX0_store_13 : decode cX0_store 13 = .ok (.invokestatic 48, 3) := by decide +kernel
theorem dX0_store_16 : decode cX0_store 16 = .ok (.aload_n 0, 1) := by decide +kernel
theorem dX0_store_17 : decode cX0_store 17 = .ok (.getfield 24, 3) := by decide +kernel
theorem dX0_store_20 : decode cX0_store 20 = .ok (.iload_n 1, 1) := by decide +kernel
theorem dX0_store_21 : decode cX0_store 21 = .ok (.iconst 1, 1) := by decide +kernel
theorem dX0_store_22 : decode cX0_store 22 = .ok (.bastore, 1) := by decide +kernel
theorem dX0_store_23 : decode cX0_store 23 = .ok (.return_, 1) := by decide +kernel
set_option maxHeartbeats 4000000 in
set_option maxRecDepth 100000 in
theorem c_X0_store {l : Launch} {D : va_G} {aC : Nat → ClassId} {a_g : Nat → Nat} (s_g : Ob_T) (x1 : Int32) {out : Ob_T} (h : f_X0_store s_g x1 = some out) : M_W l yX0_store wlX0_store 1 100 D aC [.ref (a_g 0), .int x1] (wd_X0 aC a_g s_g) (none) (wd_X0 aC a_g out) := by
  refine k_entW (cc := cX0_store) (ret := none) (maxL := 2) (own := RX0) (by decide) rfl rfl rfl ?_
  intro p e s m below meth c A ls hX hr hZ hl
  have hl : lv_has ls 2 [(0, .ref (a_g 0)), (1, .int x1)] := hl
  generalize ([.ref (a_g 0), .int x1] : List Value).toArray = args at hX ⊢
  obtain ⟨hx, hb, hml, hown, hts, hK, hA, hlk⟩ := id hX
  unfold f_X0_store at h
  generalize s.heap = H at hZ ⊢
  generalize ([] : List Loc) = locs at hZ ⊢
  refine lv_aload_n hx hb dX0_store_0 rfl (lv_at hl 0 rfl) ?_
  refine k_get hX hZ.1 0 0 rfl rfl iw_X0 0 rfl (wm_290) (v := .ref (a_g 1)) rfl dX0_store_1 ?_
  refine lv_iconst (v := 0) hx hb dX0_store_4 (by decide) ?_
  refine lv_aload_n hx hb dX0_store_5 rfl (lv_at hl 0 rfl) ?_
  refine k_get hX hZ.1 0 0 rfl rfl iw_X0 3 rfl (wm_311) (v := .ref (a_g 4)) rfl dX0_store_6 ?_
  refine lv_iload_n hx hb dX0_store_9 rfl (lv_at hl 1 rfl) ?_
  refine lv_iconst (v := 4) hx hb dX0_store_10 (by decide) ?_
  refine lv_imul hx hb dX0_store_11 ?_
  refine lv_iconst (v := 4) hx hb dX0_store_12 (by decide) ?_
  refine k_copy (wf := (fun o => wd_X0 aC a_g o)) (o := s_g) hX hl.1 hZ 1 4 3 rfl rfl (fun _ => rfl) (hts _ wm_307) (hts _ wm_308) (hts _ wm_309) (hts _ wm_310) rfl rfl h dX0_store_13 (fun o2 H locs hZ h => ?_)
  refine lv_aload_n hx hb dX0_store_16 rfl (lv_at hl 0 rfl) ?_
  refine k_get hX hZ.1 0 0 rfl rfl iw_X0 4 rfl (wm_291) (v := .ref (a_g 5)) rfl dX0_store_17 ?_
  refine lv_iload_n hx hb dX0_store_20 rfl (lv_at hl 1 rfl) ?_
  refine lv_iconst (v := 1) hx hb dX0_store_21 (by decide) ?_
  refine k_zast (wf := (fun o => wd_X0 aC a_g o)) (o := o2) hX hZ 5 4 rfl (fun _ => rfl) h dX0_store_22 (fun o3 H locs hZ h => ?_)
  cases h
  exact k_vretW hX hr hZ dX0_store_23
def wlX0_isStored : List Cond := .code yX0_isStored cX0_isStored 2 (some .boolean) :: WL_
theorem hd_X0_isStored : yX0_isStored.cls = RX0 ∧ yX0_isStored.cls ≠ "java/lang/invoke/MethodHandle" ∧ yX0_isStored.cls ≠ "java/lang/invoke/VarHandle" ∧ (parseMethodDescriptor yX0_isStored.desc).map (fun d => d.parameters.length) = some 1 := by decide +kernel
theorem dX0_isStored_0 : decode cX0_isStored 0 = .ok (.aload_n 0, 1) := by decide +kernel
theorem dX0_isStored_1 : decode cX0_isStored 1 = .ok (.getfield 24, 3) := by decide +kernel
theorem dX0_isStored_4 : decode cX0_isStored 4 = .ok (.iload_n 1, 1) := by decide +kernel
theorem dX0_isStored_5 : decode cX0_isStored 5 = .ok (.baload, 1) := by decide +kernel
theorem dX0_isStored_6 : decode cX0_isStored 6 = .ok (.ireturn, 1) := by decide +kernel
set_option maxHeartbeats 4000000 in
set_option maxRecDepth 100000 in
theorem c_X0_isStored {l : Launch} {D : va_G} {aC : Nat → ClassId} {a_g : Nat → Nat} (s_g : Ob_T) (x1 : Int32) {out : Int32} (h : f_X0_isStored s_g x1 = some out) : M_R l yX0_isStored wlX0_isStored 0 0 D aC [.ref (a_g 0), .int x1] (wd_X0 aC a_g s_g) (some (.int out)) := by
  refine k_entR (cc := cX0_isStored) (ret := (some .boolean)) (maxL := 2) (own := RX0) (by decide) rfl rfl rfl ?_
  intro p e s m below meth c A ls hX hr hZ hl
  have hl : lv_has ls 2 [(0, .ref (a_g 0)), (1, .int x1)] := hl
  generalize ([.ref (a_g 0), .int x1] : List Value).toArray = args at hX ⊢
  obtain ⟨hx, hb, hml, hown, hts, hK, hA, hlk⟩ := id hX
  unfold f_X0_isStored at h
  have hF : ∀ q ∈ ([] : List Loc), False := fun _ h => nomatch h
  generalize ([] : List Loc) = locs at hF ⊢
  refine lv_aload_n hx hb dX0_isStored_0 rfl (lv_at hl 0 rfl) ?_
  refine k_get hX hZ.1 0 0 rfl rfl iw_X0 4 rfl (wm_291) (v := .ref (a_g 5)) rfl dX0_isStored_1 ?_
  refine lv_iload_n hx hb dX0_isStored_4 rfl (lv_at hl 1 rfl) ?_
  refine k_zald hX hZ.1 5 rfl h dX0_isStored_5 (fun v1 h => ?_)
  obtain ⟨b2, hb0, h⟩ := k_bd h
  obtain ⟨hb1, hb2, hb3⟩ := k_zb hb0
  clear hb0
  cases h
  exact k_zretR hX hr hb2 hF dX0_isStored_6
