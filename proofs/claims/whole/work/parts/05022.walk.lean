def wlX9_layLeft : List Cond := .code yX9_layLeft cX9_layLeft 2 none :: WL_
theorem hd_X9_layLeft : yX9_layLeft.cls = RX9 ∧ yX9_layLeft.cls ≠ "java/lang/invoke/MethodHandle" ∧ yX9_layLeft.cls ≠ "java/lang/invoke/VarHandle" ∧ (parseMethodDescriptor yX9_layLeft.desc).map (fun d => d.parameters.length) = some 1 := by decide +kernel
theorem dX9_layLeft_0 : decode cX9_layLeft 0 = .ok (.aload_n 0, 1) := by decide +kernel
theorem dX9_layLeft_1 : decode cX9_layLeft 1 = .ok (.getfield 86, 3) := by decide +kernel
theorem dX9_layLeft_4 : decode cX9_layLeft 4 = .ok (.aload_n 0, 1) := by decide +kernel
theorem dX9_layLeft_5 : decode cX9_layLeft 5 = .ok (.getfield 234, 3) := by decide +kernel
theorem dX9_layLeft_8 : decode cX9_layLeft 8 = .ok (.iload_n 1, 1) := by decide +kernel
theorem dX9_layLeft_9 : decode cX9_layLeft 9 = .ok (.iastore, 1) := by decide +kernel
theorem dX9_layLeft_10 : decode cX9_layLeft 10 = .ok (.aload_n 0, 1) := by decide +kernel
theorem dX9_layLeft_11 : decode cX9_layLeft 11 = .ok (.dup, 1) := by decide +kernel
theorem dX9_layLeft_12 : decode cX9_layLeft 12 = .ok (.getfield 234, 3) := by decide +kernel
theorem dX9_layLeft_15 : decode cX9_layLeft 15 = .ok (.iconst 1, 1) := by decide +kernel
theorem dX9_layLeft_16 : decode cX9_layLeft 16 = .ok (.iadd, 1) := by decide +kernel
theorem dX9_layLeft_17 : decode cX9_layLeft 17 = .ok (.putfield 234, 3) := by decide +kernel
theorem dX9_layLeft_20 : decode cX9_layLeft 20 = .ok (.return_, 1) := by decide +kernel
set_option maxHeartbeats 4000000 in
set_option maxRecDepth 100000 in
theorem c_X9_layLeft {l : Launch} {D : va_G} {aC : Nat → ClassId} {a_o : Nat → Nat} (s_o : Ob_T) (x1 : Int32) {out : Ob_T} (h : f_X9_layLeft s_o x1 = some out) : M_W l yX9_layLeft wlX9_layLeft 0 0 D aC [.ref (a_o 0), .int x1] (wd_X9 aC a_o s_o) (none) (wd_X9 aC a_o out) := by
  refine k_entW (cc := cX9_layLeft) (ret := none) (maxL := 2) (own := RX9) (by decide) rfl rfl rfl ?_
  intro p e s m below meth c A ls hX hr hZ hl
  have hl : lv_has ls 2 [(0, .ref (a_o 0)), (1, .int x1)] := hl
  generalize ([.ref (a_o 0), .int x1] : List Value).toArray = args at hX ⊢
  obtain ⟨hx, hb, hml, hown, hts, hK, hA, hlk⟩ := id hX
  unfold f_X9_layLeft at h
  generalize s.heap = H at hZ ⊢
  generalize ([] : List Loc) = locs at hZ ⊢
  refine lv_aload_n hx hb dX9_layLeft_0 rfl (lv_at hl 0 rfl) ?_
  refine k_get hX hZ.1 0 9 rfl rfl iw_X9 37 rfl (wm_143) (v := .ref (a_o 26)) rfl dX9_layLeft_1 ?_
  refine lv_aload_n hx hb dX9_layLeft_4 rfl (lv_at hl 0 rfl) ?_
  refine k_get hX hZ.1 0 9 rfl rfl iw_X9 39 rfl (wm_144) (v := .int (o_F s_o 39)) rfl dX9_layLeft_5 ?_
  refine lv_iload_n hx hb dX9_layLeft_8 rfl (lv_at hl 1 rfl) ?_
  refine k_iast (wf := (fun o => wd_X9 aC a_o o)) (o := s_o) hX hZ 26 37 rfl (fun _ => rfl) h dX9_layLeft_9 (fun o1 H locs hZ h => ?_)
  refine lv_aload_n hx hb dX9_layLeft_10 rfl (lv_at hl 0 rfl) ?_
  refine lv_dup hx hb dX9_layLeft_11 rfl ?_
  refine k_get hX hZ.1 0 9 rfl rfl iw_X9 39 rfl (wm_144) (v := .int (o_F o1 39)) rfl dX9_layLeft_12 ?_
  refine lv_iconst (v := 1) hx hb dX9_layLeft_15 (by decide) ?_
  refine lv_iadd hx hb dX9_layLeft_16 ?_
  refine k_put (wf := (fun o => wd_X9 aC a_o o)) (o := o1) hX hZ 0 9 rfl rfl iw_X9 tyX9 tyX9_ok nmX9 39 rfl (wm_144) rfl rfl rfl rfl rfl h dX9_layLeft_17 (fun o2 H locs hZ h => ?_)
  cases h
  exact k_vretW hX hr hZ dX9_layLeft_20
def wlX9_layRight : List Cond := .code yX9_layRight cX9_layRight 2 none :: WL_
theorem hd_X9_layRight : yX9_layRight.cls = RX9 ∧ yX9_layRight.cls ≠ "java/lang/invoke/MethodHandle" ∧ yX9_layRight.cls ≠ "java/lang/invoke/VarHandle" ∧ (parseMethodDescriptor yX9_layRight.desc).map (fun d => d.parameters.length) = some 1 := by decide +kernel
theorem dX9_layRight_0 : decode cX9_layRight 0 = .ok (.aload_n 0, 1) := by decide +kernel
theorem dX9_layRight_1 : decode cX9_layRight 1 = .ok (.getfield 89, 3) := by decide +kernel
theorem dX9_layRight_4 : decode cX9_layRight 4 = .ok (.aload_n 0, 1) := by decide +kernel
theorem dX9_layRight_5 : decode cX9_layRight 5 = .ok (.getfield 237, 3) := by decide +kernel
theorem dX9_layRight_8 : decode cX9_layRight 8 = .ok (.iload_n 1, 1) := by decide +kernel
theorem dX9_layRight_9 : decode cX9_layRight 9 = .ok (.iastore, 1) := by decide +kernel
theorem dX9_layRight_10 : decode cX9_layRight 10 = .ok (.aload_n 0, 1) := by decide +kernel
theorem dX9_layRight_11 : decode cX9_layRight 11 = .ok (.dup, 1) := by decide +kernel
theorem dX9_layRight_12 : decode cX9_layRight 12 = .ok (.getfield 237, 3) := by decide +kernel
theorem dX9_layRight_15 : decode cX9_layRight 15 = .ok (.iconst 1, 1) := by decide +kernel
theorem dX9_layRight_16 : decode cX9_layRight 16 = .ok (.iadd, 1) := by decide +kernel
theorem dX9_layRight_17 : decode cX9_layRight 17 = .ok (.putfield 237, 3) := by decide +kernel
theorem dX9_layRight_20 : decode cX9_layRight 20 = .ok (.return_, 1) := by decide +kernel
set_option maxHeartbeats 4000000 in
set_option maxRecDepth 100000 in
theorem c_X9_layRight {l : Launch} {D : va_G} {aC : Nat → ClassId} {a_o : Nat → Nat} (s_o : Ob_T) (x1 : Int32) {out : Ob_T} (h : f_X9_layRight s_o x1 = some out) : M_W l yX9_layRight wlX9_layRight 0 0 D aC [.ref (a_o 0), .int x1] (wd_X9 aC a_o s_o) (none) (wd_X9 aC a_o out) := by
  refine k_entW (cc := cX9_layRight) (ret := none) (maxL := 2) (own := RX9) (by decide) rfl rfl rfl ?_
  intro p e s m below meth c A ls hX hr hZ hl
  have hl : lv_has ls 2 [(0, .ref (a_o 0)), (1, .int x1)] := hl
  generalize ([.ref (a_o 0), .int x1] : List Value).toArray = args at hX ⊢
  obtain ⟨hx, hb, hml, hown, hts, hK, hA, hlk⟩ := id hX
  unfold f_X9_layRight at h
  generalize s.heap = H at hZ ⊢
  generalize ([] : List Loc) = locs at hZ ⊢
  refine lv_aload_n hx hb dX9_layRight_0 rfl (lv_at hl 0 rfl) ?_
  refine k_get hX hZ.1 0 9 rfl rfl iw_X9 38 rfl (wm_145) (v := .ref (a_o 27)) rfl dX9_layRight_1 ?_
  refine lv_aload_n hx hb dX9_layRight_4 rfl (lv_at hl 0 rfl) ?_
  refine k_get hX hZ.1 0 9 rfl rfl iw_X9 40 rfl (wm_146) (v := .int (o_F s_o 40)) rfl dX9_layRight_5 ?_
  refine lv_iload_n hx hb dX9_layRight_8 rfl (lv_at hl 1 rfl) ?_
  refine k_iast (wf := (fun o => wd_X9 aC a_o o)) (o := s_o) hX hZ 27 38 rfl (fun _ => rfl) h dX9_layRight_9 (fun o1 H locs hZ h => ?_)
  refine lv_aload_n hx hb dX9_layRight_10 rfl (lv_at hl 0 rfl) ?_
  refine lv_dup hx hb dX9_layRight_11 rfl ?_
  refine k_get hX hZ.1 0 9 rfl rfl iw_X9 40 rfl (wm_146) (v := .int (o_F o1 40)) rfl dX9_layRight_12 ?_
  refine lv_iconst (v := 1) hx hb dX9_layRight_15 (by decide) ?_
  refine lv_iadd hx hb dX9_layRight_16 ?_
  refine k_put (wf := (fun o => wd_X9 aC a_o o)) (o := o1) hX hZ 0 9 rfl rfl iw_X9 tyX9 tyX9_ok nmX9 40 rfl (wm_146) rfl rfl rfl rfl rfl h dX9_layRight_17 (fun o2 H locs hZ h => ?_)
  cases h
  exact k_vretW hX hr hZ dX9_layRight_20
def wlX9_lookFor : List Cond := .code yX9_lookFor cX9_lookFor 3 none :: WL_
theorem hd_X9_lookFor : yX9_lookFor.cls = RX9 ∧ yX9_lookFor.cls ≠ "java/lang/invoke/MethodHandle" ∧ yX9_lookFor.cls ≠ "java/lang/invoke/VarHandle" ∧ (parseMethodDescriptor yX9_lookFor.desc).map (fun d => d.parameters.length) = some 1 := by decide +kernel
theorem dX9_lookFor_0 : decode cX9_lookFor 0 = .ok (.aload_n 0, 1) := by decide +kernel
theorem dX9_lookFor_1 : decode cX9_lookFor 1 = .ok (.iload_n 1, 1) := by decide +kernel
theorem dX9_lookFor_2 : decode cX9_lookFor 2 = .ok (.invokevirtual 221, 3) := by decide +kernel
theorem dX9_lookFor_5 : decode cX9_lookFor 5 = .ok (.istore_n 2, 1) := by decide +kernel
theorem dX9_lookFor_6 : decode cX9_lookFor 6 = .ok (.aload_n 0, 1) := by decide +kernel
theorem dX9_lookFor_7 : decode cX9_lookFor 7 = .ok (.dup, 1) := by decide +kernel
theorem dX9_lookFor_8 : decode cX9_lookFor 8 = .ok (.getfield 240, 3) := by decide +kernel
theorem dX9_lookFor_11 : decode cX9_lookFor 11 = .ok (.iload_n 2, 1) := by decide +kernel
theorem dX9_lookFor_12 : decode cX9_lookFor 12 = .ok (.sipush 20000, 3) := by decide +kernel
theorem dX9_lookFor_15 : decode cX9_lookFor 15 = .ok (.if_icmp .ge 7, 3) := by decide +kernel
theorem dX9_lookFor_18 : decode cX9_lookFor 18 = .ok (.iconst 0, 1) := by decide +kernel
theorem dX9_lookFor_19 : decode cX9_lookFor 19 = .ok (.goto 4, 3) := by decide +kernel
theorem dX9_lookFor_22 : decode cX9_lookFor 22 = .ok (.iconst 1, 1) := by decide +kernel
theorem dX9_lookFor_23 : decode cX9_lookFor 23 = .ok (.iadd, 1) := by decide +kernel
theorem dX9_lookFor_24 : decode cX9_lookFor 24 = .ok (.putfield 240, 3) := by decide +kernel
theorem dX9_lookFor_27 : decode cX9_lookFor 27 = .ok (.aload_n 0, 1) := by decide +kernel
theorem dX9_lookFor_28 : decode cX9_lookFor 28 = .ok (.iload_n 2, 1) := by decide +kernel
theorem dX9_lookFor_29 : decode cX9_lookFor 29 = .ok (.sipush 20000, 3) := by decide +kernel
theorem dX9_lookFor_32 : decode cX9_lookFor 32 = .ok (.if_icmp .ge 10, 3) := by decide +kernel
theorem dX9_lookFor_35 : decode cX9_lookFor 35 = .ok (.aload_n 0, 1) := by decide +kernel
theorem dX9_lookFor_36 : decode cX9_lookFor 36 = .ok (.getfield 243, 3) := by decide +kernel
theorem dX9_lookFor_39 : decode cX9_lookFor 39 = .ok (.goto 8, 3) := by decide +kernel
theorem dX9_lookFor_42 : decode cX9_lookFor 42 = .ok (.iload_n 2, 1) := by decide +kernel
theorem dX9_lookFor_43 : decode cX9_lookFor 43 = .ok (.sipush 20000, 3) := by decide +kernel
theorem dX9_lookFor_46 : decode cX9_lookFor 46 = .ok (.isub, 1) := by decide +kernel
theorem dX9_lookFor_47 : decode cX9_lookFor 47 = .ok (.putfield 243, 3) := by decide +kernel
theorem dX9_lookFor_50 : decode cX9_lookFor 50 = .ok (.return_, 1) := by decide +kernel
set_option maxHeartbeats 4000000 in
set_option maxRecDepth 100000 in
theorem t_X9_lookFor_J23 {p : Program} {l : Launch} {e : Env} {s : State} {m : MethodId} {args : Array Value} {below : List Frame} {meth : Method} {c : Code} {D : va_G} {aC : Nat → ClassId} {A : Nat → Prop} {a_o : Nat → Nat} {out : Ob_T} (hX : K_X p s m args meth c cX9_lookFor 3 WL_ RX9 D aC A) (hr : meth.sig.returnType = none) (x2 : Int32) (k1 : Int32) (k2 : Int32) (s_o : Ob_T) (h : f_X9_lookFor_J23 x2 k1 k2 s_o = some out) (H : Heap) (locs : List Loc) (ls : Array Slot) (hZ : K_S D A s (wd_X9 aC a_o s_o) H locs) (hl : lv_has ls 3 [(0, .ref (a_o 0)), (2, .int x2)]) : W p l e (R_m 1 22) s m args below meth c H locs 0 0 (MQ below (Q_W (none) D A (wd_X9 aC a_o out)) args s 0 0 A) (F0 m 23 ls [.int k2, .int k1, .ref (a_o 0)]) := by
  obtain ⟨hx, hb, hml, hown, hts, hK, hA, hlk⟩ := id hX
  unfold f_X9_lookFor_J23 at h
  refine lv_iadd hx hb dX9_lookFor_23 ?_
  refine k_put (wf := (fun o => wd_X9 aC a_o o)) (o := s_o) hX hZ 0 9 rfl rfl iw_X9 tyX9 tyX9_ok nmX9 41 rfl (wm_147) rfl rfl rfl rfl rfl h dX9_lookFor_24 (fun o2 H locs hZ h => ?_)
  refine lv_aload_n hx hb dX9_lookFor_27 rfl (lv_at hl 0 rfl) ?_
  refine lv_iload_n hx hb dX9_lookFor_28 rfl (lv_at hl 1 rfl) ?_
  refine lv_sipush (v := 20000) hx hb dX9_lookFor_29 (by decide) ?_
  refine lv_icmp_ge (tgt := 42) hx hb dX9_lookFor_32 (by decide) (fun cd => ?_) (fun cd => ?_)
  · replace h := k_t cd h
    clear cd
    refine lv_iload_n hx hb dX9_lookFor_42 rfl (lv_at hl 1 rfl) ?_
    refine lv_sipush (v := 20000) hx hb dX9_lookFor_43 (by decide) ?_
    refine lv_isub hx hb dX9_lookFor_46 ?_
    refine k_put (wf := (fun o => wd_X9 aC a_o o)) (o := o2) hX hZ 0 9 rfl rfl iw_X9 tyX9 tyX9_ok nmX9 42 rfl (wm_148) rfl rfl rfl rfl rfl h dX9_lookFor_47 (fun o3 H locs hZ h => ?_)
    cases h
    exact k_vretW hX hr hZ dX9_lookFor_50
  · replace h := k_f cd h
    clear cd
    refine lv_aload_n hx hb dX9_lookFor_35 rfl (lv_at hl 0 rfl) ?_
    refine k_get hX hZ.1 0 9 rfl rfl iw_X9 42 rfl (wm_148) (v := .int (o_F o2 42)) rfl dX9_lookFor_36 ?_
    refine lv_goto (tgt := 47) hx hb dX9_lookFor_39 (by decide) ?_
    refine k_put (wf := (fun o => wd_X9 aC a_o o)) (o := o2) hX hZ 0 9 rfl rfl iw_X9 tyX9 tyX9_ok nmX9 42 rfl (wm_148) rfl rfl rfl rfl rfl h dX9_lookFor_47 (fun o4 H locs hZ h => ?_)
    cases h
    exact k_vretW hX hr hZ dX9_lookFor_50
set_option maxHeartbeats 4000000 in
set_option maxRecDepth 100000 in
theorem c_X9_lookFor {l : Launch} {D : va_G} {aC : Nat → ClassId} {a_o : Nat → Nat} (s_o : Ob_T) (x1 : Int32) {out : Ob_T} (h : f_X9_lookFor s_o x1 = some out) : M_W l yX9_lookFor wlX9_lookFor 1 22 D aC [.ref (a_o 0), .int x1] (wd_X9 aC a_o s_o) (none) (wd_X9 aC a_o out) := by
  refine k_entW (cc := cX9_lookFor) (ret := none) (maxL := 3) (own := RX9) (by decide) rfl rfl rfl ?_
  intro p e s m below meth c A ls hX hr hZ hl
  have hl : lv_has ls 3 [(0, .ref (a_o 0)), (1, .int x1)] := hl
  generalize ([.ref (a_o 0), .int x1] : List Value).toArray = args at hX ⊢
  obtain ⟨hx, hb, hml, hown, hts, hK, hA, hlk⟩ := id hX
  unfold f_X9_lookFor at h
  generalize s.heap = H at hZ ⊢
  generalize ([] : List Loc) = locs at hZ ⊢
  refine lv_aload_n hx hb dX9_lookFor_0 rfl (lv_at hl 0 rfl) ?_
  refine lv_iload_n hx hb dX9_lookFor_1 rfl (lv_at hl 1 rfl) ?_
  obtain ⟨u1, hu, h⟩ := k_bd h
  refine k_vRs (As := [.int x1]) (rest := []) (v := some (.int u1)) (st1 := [.int u1]) hX hl.1 hZ (c_X9_solved (a_o := a_o) s_o x1 hu) (gv_ wm_135 wm_137 wm_138 wm_11 wm_136) rfl hd_X9_solved ⟨rfl, rfl⟩ 9 0 rfl rfl rfl rfl rfl dX9_lookFor_2 rfl ⟨rfl, rfl⟩ (fun locs hZ => ?_)
  clear hu
  refine lv_istore_n (lv' := [(2, .int u1), (0, .ref (a_o 0)), (1, .int x1)]) hx hb dX9_lookFor_5 rfl hl (by decide) rfl (fun ls hl => ?_)
  refine lv_aload_n hx hb dX9_lookFor_6 rfl (lv_at hl 1 rfl) ?_
  refine lv_dup hx hb dX9_lookFor_7 rfl ?_
  refine k_get hX hZ.1 0 9 rfl rfl iw_X9 41 rfl (wm_147) (v := .int (o_F s_o 41)) rfl dX9_lookFor_8 ?_
  refine lv_iload_n hx hb dX9_lookFor_11 rfl (lv_at hl 0 rfl) ?_
  refine lv_sipush (v := 20000) hx hb dX9_lookFor_12 (by decide) ?_
  refine lv_icmp_ge (tgt := 22) hx hb dX9_lookFor_15 (by decide) (fun cd => ?_) (fun cd => ?_)
  · replace h := k_t cd h
    clear cd
    refine lv_iconst (v := 1) hx hb dX9_lookFor_22 (by decide) ?_
    exact t_X9_lookFor_J23 hX hr u1 (o_F s_o 41) (1 : Int32) s_o h H locs ls hZ (lv_sub hl [1, 0] rfl)
  · replace h := k_f cd h
    clear cd
    refine lv_iconst (v := 0) hx hb dX9_lookFor_18 (by decide) ?_
    refine lv_goto (tgt := 23) hx hb dX9_lookFor_19 (by decide) ?_
    exact t_X9_lookFor_J23 hX hr u1 (o_F s_o 41) (0 : Int32) s_o h H locs ls hZ (lv_sub hl [1, 0] rfl)
