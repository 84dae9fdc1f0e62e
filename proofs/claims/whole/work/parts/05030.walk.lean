def wlX9_layNodes : List Cond := .code yX9_layNodes cX9_layNodes 2 none :: WL_
theorem hd_X9_layNodes : yX9_layNodes.cls = RX9 ∧ yX9_layNodes.cls ≠ "java/lang/invoke/MethodHandle" ∧ yX9_layNodes.cls ≠ "java/lang/invoke/VarHandle" ∧ (parseMethodDescriptor yX9_layNodes.desc).map (fun d => d.parameters.length) = some 0 := by decide +kernel
theorem dX9_layNodes_0 : decode cX9_layNodes 0 = .ok (.iconst 0, 1) := by decide +kernel
theorem dX9_layNodes_1 : decode cX9_layNodes 1 = .ok (.istore_n 1, 1) := by decide +kernel
theorem dX9_layNodes_2 : decode cX9_layNodes 2 = .ok (.iload_n 1, 1) := by decide +kernel
theorem dX9_layNodes_3 : decode cX9_layNodes 3 = .ok (.sipush 150, 3) := by decide +kernel
theorem dX9_layNodes_6 : decode cX9_layNodes 6 = .ok (.if_icmp .ge 21, 3) := by decide +kernel
theorem dX9_layNodes_9 : decode cX9_layNodes 9 = .ok (.aload_n 0, 1) := by decide +kernel
theorem dX9_layNodes_10 : decode cX9_layNodes 10 = .ok (.getfield 13, 3) := by decide +kernel
theorem dX9_layNodes_13 : decode cX9_layNodes 13 = .ok (.iload_n 1, 1) := by decide +kernel
theorem dX9_layNodes_14 : decode cX9_layNodes 14 = .ok (.aload_n 0, 1) := by decide +kernel
theorem dX9_layNodes_15 : decode cX9_layNodes 15 = .ok (.getfield 7, 3) := by decide +kernel
theorem dX9_layNodes_18 : decode cX9_layNodes 18 = .ok (.iload_n 1, 1) := by decide +kernel
theorem dX9_layNodes_19 : decode cX9_layNodes 19 = .ok (.iaload, 1) := by decide +kernel
theorem dX9_layNodes_20 : decode cX9_layNodes 20 = .ok (.iastore, 1) := by decide +kernel
theorem dX9_layNodes_21 : decode cX9_layNodes 21 = .ok (.iinc 1 1, 3) := by decide +kernel
theorem dX9_layNodes_24 : decode cX9_layNodes 24 = .ok (.goto (-22), 3) := by decide +kernel
theorem dX9_layNodes_27 : decode cX9_layNodes 27 = .ok (.aload_n 0, 1) := by decide +kernel
theorem dX9_layNodes_28 : decode cX9_layNodes 28 = .ok (.aload_n 0, 1) := by decide +kernel
theorem dX9_layNodes_29 : decode cX9_layNodes 29 = .ok (.getfield 170, 3) := by decide +kernel
theorem dX9_layNodes_32 : decode cX9_layNodes 32 = .ok (.putfield 144, 3) := by decide +kernel
theorem dX9_layNodes_35 : decode cX9_layNodes 35 = .ok (.return_, 1) := by decide +kernel
set_option maxHeartbeats 4000000 in
set_option maxRecDepth 100000 in
theorem t_X9_layNodes_L2 {p : Program} {l : Launch} {e : Env} {s : State} {m : MethodId} {args : Array Value} {below : List Frame} {meth : Method} {c : Code} {D : va_G} {aC : Nat → ClassId} {A : Nat → Prop} {a_o : Nat → Nat} {out : Ob_T} {rec2 : (Int32 × Ob_T) → Option Ob_T} (hX : K_X p s m args meth c cX9_layNodes 2 WL_ RX9 D aC A) (hr : meth.sig.returnType = none) (hrec2 : ∀ x : Int32 × Ob_T, rec2 x = some out → ∀ (H : Heap) (locs : List Loc) (ls : Array Slot), K_S D A s (wd_X9 aC a_o x.2) H locs → lv_has ls 2 [(0, .ref (a_o 0)), (1, .int x.1)] → W p l e (R_m 0 0) s m args below meth c H locs 0 0 (MQ below (Q_W (none) D A (wd_X9 aC a_o out)) args s 0 0 A) (F0 m 2 ls [])) (x1 : Int32) (s_o : Ob_T) (h : f_X9_layNodes_L2 rec2 x1 s_o = some out) (H : Heap) (locs : List Loc) (ls : Array Slot) (hZ : K_S D A s (wd_X9 aC a_o s_o) H locs) (hl : lv_has ls 2 [(0, .ref (a_o 0)), (1, .int x1)]) : W p l e (R_m 0 0) s m args below meth c H locs 0 0 (MQ below (Q_W (none) D A (wd_X9 aC a_o out)) args s 0 0 A) (F0 m 2 ls []) := by
  obtain ⟨hx, hb, hml, hown, hts, hK, hA, hlk⟩ := id hX
  unfold f_X9_layNodes_L2 at h
  refine lv_iload_n hx hb dX9_layNodes_2 rfl (lv_at hl 1 rfl) ?_
  refine lv_sipush (v := 150) hx hb dX9_layNodes_3 (by decide) ?_
  refine lv_icmp_ge (tgt := 27) hx hb dX9_layNodes_6 (by decide) (fun cd => ?_) (fun cd => ?_)
  · replace h := k_t cd h
    clear cd
    refine lv_aload_n hx hb dX9_layNodes_27 rfl (lv_at hl 0 rfl) ?_
    refine lv_aload_n hx hb dX9_layNodes_28 rfl (lv_at hl 0 rfl) ?_
    refine k_get hX hZ.1 0 9 rfl rfl iw_X9 2 rfl (wm_108) (v := .int (o_F s_o 2)) rfl dX9_layNodes_29 ?_
    refine k_put (wf := (fun o => wd_X9 aC a_o o)) (o := s_o) hX hZ 0 9 rfl rfl iw_X9 tyX9 tyX9_ok nmX9 3 rfl (wm_42) rfl rfl rfl rfl rfl h dX9_layNodes_32 (fun o1 H locs hZ h => ?_)
    cases h
    exact k_vretW hX hr hZ dX9_layNodes_35
  · replace h := k_f cd h
    clear cd
    refine lv_aload_n hx hb dX9_layNodes_9 rfl (lv_at hl 0 rfl) ?_
    refine k_get hX hZ.1 0 9 rfl rfl iw_X9 1 rfl (wm_31) (v := .ref (a_o 2)) rfl dX9_layNodes_10 ?_
    refine lv_iload_n hx hb dX9_layNodes_13 rfl (lv_at hl 1 rfl) ?_
    refine lv_aload_n hx hb dX9_layNodes_14 rfl (lv_at hl 0 rfl) ?_
    refine k_get hX hZ.1 0 9 rfl rfl iw_X9 0 rfl (wm_107) (v := .ref (a_o 1)) rfl dX9_layNodes_15 ?_
    refine lv_iload_n hx hb dX9_layNodes_18 rfl (lv_at hl 1 rfl) ?_
    refine k_iald hX hZ.1 1 rfl h dX9_layNodes_19 (fun v2 h => ?_)
    refine k_iast (wf := (fun o => wd_X9 aC a_o o)) (o := s_o) hX hZ 2 1 rfl (fun _ => rfl) h dX9_layNodes_20 (fun o3 H locs hZ h => ?_)
    refine lv_iinc (v := (x1 + (1 : Int32))) (lv' := [(1, .int (x1 + (1 : Int32))), (0, .ref (a_o 0))]) hx hb dX9_layNodes_21 hl (k := 1) rfl rfl (by decide) rfl (fun ls hl => ?_)
    refine lv_goto (tgt := 2) hx hb dX9_layNodes_24 (by decide) ?_
    exact hrec2 ((x1 + (1 : Int32)), o3) h H locs ls hZ (lv_sub hl [1, 0] rfl)
set_option maxHeartbeats 4000000 in
set_option maxRecDepth 100000 in
theorem c_X9_layNodes {l : Launch} {D : va_G} {aC : Nat → ClassId} {a_o : Nat → Nat} (s_o : Ob_T) {out : Ob_T} (h : f_X9_layNodes s_o = some out) : M_W l yX9_layNodes wlX9_layNodes 0 0 D aC [.ref (a_o 0)] (wd_X9 aC a_o s_o) (none) (wd_X9 aC a_o out) := by
  refine k_entW (cc := cX9_layNodes) (ret := none) (maxL := 2) (own := RX9) (by decide) rfl rfl rfl ?_
  intro p e s m below meth c A ls hX hr hZ hl
  have hl : lv_has ls 2 [(0, .ref (a_o 0))] := hl
  generalize ([.ref (a_o 0)] : List Value).toArray = args at hX ⊢
  obtain ⟨hx, hb, hml, hown, hts, hK, hA, hlk⟩ := id hX
  unfold f_X9_layNodes at h
  generalize s.heap = H at hZ ⊢
  generalize ([] : List Loc) = locs at hZ ⊢
  refine lv_iconst (v := 0) hx hb dX9_layNodes_0 (by decide) ?_
  refine lv_istore_n (lv' := [(1, .int (0 : Int32)), (0, .ref (a_o 0))]) hx hb dX9_layNodes_1 rfl hl (by decide) rfl (fun ls hl => ?_)
  exact Lp_ok (body := (fun (rec : (Int32 × Ob_T) → Option Ob_T) x => f_X9_layNodes_L2 rec x.1 x.2)) (out := out) (fun x => ∀ (H : Heap) (locs : List Loc) (ls : Array Slot), K_S D A s (wd_X9 aC a_o x.2) H locs → lv_has ls 2 [(0, .ref (a_o 0)), (1, .int x.1)] → W p l e (R_m 0 0) s m args below meth c H locs 0 0 (MQ below (Q_W (none) D A (wd_X9 aC a_o out)) args s 0 0 A) (F0 m 2 ls [])) (fun rec hrec x h H locs ls hZ hl => t_X9_layNodes_L2 hX hr hrec x.1 x.2 h H locs ls hZ hl) FU_ ((0 : Int32), s_o) h H locs ls hZ (lv_sub hl [1, 0] rfl)
def wlX9_solveNow : List Cond := .code yX9_solveNow cX9_solveNow 2 none :: WL_
theorem hd_X9_solveNow : yX9_solveNow.cls = RX9 ∧ yX9_solveNow.cls ≠ "java/lang/invoke/MethodHandle" ∧ yX9_solveNow.cls ≠ "java/lang/invoke/VarHandle" ∧ (parseMethodDescriptor yX9_solveNow.desc).map (fun d => d.parameters.length) = some 0 := by decide +kernel
theorem dX9_solveNow_0 : decode cX9_solveNow 0 = .ok (.aload_n 0, 1) := by decide +kernel
theorem dX9_solveNow_1 : decode cX9_solveNow 1 = .ok (.invokevirtual 290, 3) := by decide +kernel
theorem dX9_solveNow_4 : decode cX9_solveNow 4 = .ok (.iconst 0, 1) := by decide +kernel
theorem dX9_solveNow_5 : decode cX9_solveNow 5 = .ok (.istore_n 1, 1) := by decide +kernel
theorem dX9_solveNow_6 : decode cX9_solveNow 6 = .ok (.iload_n 1, 1) := by decide +kernel
theorem dX9_solveNow_7 : decode cX9_solveNow 7 = .ok (.iconst 4, 1) := by decide +kernel
theorem dX9_solveNow_8 : decode cX9_solveNow 8 = .ok (.if_icmp .ge 21, 3) := by decide +kernel
theorem dX9_solveNow_11 : decode cX9_solveNow 11 = .ok (.aload_n 0, 1) := by decide +kernel
theorem dX9_solveNow_12 : decode cX9_solveNow 12 = .ok (.getfield 80, 3) := by decide +kernel
theorem dX9_solveNow_15 : decode cX9_solveNow 15 = .ok (.iload_n 1, 1) := by decide +kernel
theorem dX9_solveNow_16 : decode cX9_solveNow 16 = .ok (.aload_n 0, 1) := by decide +kernel
theorem dX9_solveNow_17 : decode cX9_solveNow 17 = .ok (.getfield 16, 3) := by decide +kernel
theorem dX9_solveNow_20 : decode cX9_solveNow 20 = .ok (.iload_n 1, 1) := by decide +kernel
theorem dX9_solveNow_21 : decode cX9_solveNow 21 = .ok (.iaload, 1) := by decide +kernel
theorem dX9_solveNow_22 : decode cX9_solveNow 22 = .ok (.iastore, 1) := by decide +kernel
theorem dX9_solveNow_23 : decode cX9_solveNow 23 = .ok (.iinc 1 1, 3) := by decide +kernel
theorem dX9_solveNow_26 : decode cX9_solveNow 26 = .ok (.goto (-20), 3) := by decide +kernel
theorem dX9_solveNow_29 : decode cX9_solveNow 29 = .ok (.aload_n 0, 1) := by decide +kernel
theorem dX9_solveNow_30 : decode cX9_solveNow 30 = .ok (.invokevirtual 293, 3) := by decide +kernel
theorem dX9_solveNow_33 : decode cX9_solveNow 33 = .ok (.return_, 1) := by decide +kernel
set_option maxHeartbeats 4000000 in
set_option maxRecDepth 100000 in
theorem t_X9_solveNow_L6 {p : Program} {l : Launch} {e : Env} {s : State} {m : MethodId} {args : Array Value} {below : List Frame} {meth : Method} {c : Code} {D : va_G} {aC : Nat → ClassId} {A : Nat → Prop} {a_o : Nat → Nat} {out : Ob_T} {k29 : Ob_T → Option Ob_T} {rec6 : (Int32 × Ob_T) → Option Ob_T} (hX : K_X p s m args meth c cX9_solveNow 2 WL_ RX9 D aC A) (hr : meth.sig.returnType = none) (hk29 : ∀ (t_o : Ob_T), k29 t_o = some out → ∀ (H : Heap) (locs : List Loc) (ls : Array Slot), K_S D A s (wd_X9 aC a_o t_o) H locs → lv_has ls 2 [(0, .ref (a_o 0))] → W p l e (R_m 5 125) s m args below meth c H locs 0 0 (MQ below (Q_W (none) D A (wd_X9 aC a_o out)) args s 0 0 A) (F0 m 29 ls [])) (hrec6 : ∀ x : Int32 × Ob_T, rec6 x = some out → ∀ (H : Heap) (locs : List Loc) (ls : Array Slot), K_S D A s (wd_X9 aC a_o x.2) H locs → lv_has ls 2 [(0, .ref (a_o 0)), (1, .int x.1)] → W p l e (R_m 5 125) s m args below meth c H locs 0 0 (MQ below (Q_W (none) D A (wd_X9 aC a_o out)) args s 0 0 A) (F0 m 6 ls [])) (x1 : Int32) (s_o : Ob_T) (h : f_X9_solveNow_L6 k29 rec6 x1 s_o = some out) (H : Heap) (locs : List Loc) (ls : Array Slot) (hZ : K_S D A s (wd_X9 aC a_o s_o) H locs) (hl : lv_has ls 2 [(0, .ref (a_o 0)), (1, .int x1)]) : W p l e (R_m 5 125) s m args below meth c H locs 0 0 (MQ below (Q_W (none) D A (wd_X9 aC a_o out)) args s 0 0 A) (F0 m 6 ls []) := by
  obtain ⟨hx, hb, hml, hown, hts, hK, hA, hlk⟩ := id hX
  unfold f_X9_solveNow_L6 at h
  refine lv_iload_n hx hb dX9_solveNow_6 rfl (lv_at hl 1 rfl) ?_
  refine lv_iconst (v := 4) hx hb dX9_solveNow_7 (by decide) ?_
  refine lv_icmp_ge (tgt := 29) hx hb dX9_solveNow_8 (by decide) (fun cd => ?_) (fun cd => ?_)
  · replace h := k_t cd h
    clear cd
    exact hk29 s_o h H locs ls hZ (lv_sub hl [0] rfl)
  · replace h := k_f cd h
    clear cd
    refine lv_aload_n hx hb dX9_solveNow_11 rfl (lv_at hl 0 rfl) ?_
    refine k_get hX hZ.1 0 9 rfl rfl iw_X9 33 rfl (wm_189) (v := .ref (a_o 24)) rfl dX9_solveNow_12 ?_
    refine lv_iload_n hx hb dX9_solveNow_15 rfl (lv_at hl 1 rfl) ?_
    refine lv_aload_n hx hb dX9_solveNow_16 rfl (lv_at hl 0 rfl) ?_
    refine k_get hX hZ.1 0 9 rfl rfl iw_X9 4 rfl (wm_118) (v := .ref (a_o 3)) rfl dX9_solveNow_17 ?_
    refine lv_iload_n hx hb dX9_solveNow_20 rfl (lv_at hl 1 rfl) ?_
    refine k_iald hX hZ.1 3 rfl h dX9_solveNow_21 (fun v2 h => ?_)
    refine k_iast (wf := (fun o => wd_X9 aC a_o o)) (o := s_o) hX hZ 24 33 rfl (fun _ => rfl) h dX9_solveNow_22 (fun o3 H locs hZ h => ?_)
    refine lv_iinc (v := (x1 + (1 : Int32))) (lv' := [(1, .int (x1 + (1 : Int32))), (0, .ref (a_o 0))]) hx hb dX9_solveNow_23 hl (k := 1) rfl rfl (by decide) rfl (fun ls hl => ?_)
    refine lv_goto (tgt := 6) hx hb dX9_solveNow_26 (by decide) ?_
    exact hrec6 ((x1 + (1 : Int32)), o3) h H locs ls hZ (lv_sub hl [1, 0] rfl)
set_option maxHeartbeats 4000000 in
set_option maxRecDepth 100000 in
theorem t_X9_solveNow_J29 {p : Program} {l : Launch} {e : Env} {s : State} {m : MethodId} {args : Array Value} {below : List Frame} {meth : Method} {c : Code} {D : va_G} {aC : Nat → ClassId} {A : Nat → Prop} {a_o : Nat → Nat} {out : Ob_T} (hX : K_X p s m args meth c cX9_solveNow 2 WL_ RX9 D aC A) (hr : meth.sig.returnType = none) (s_o : Ob_T) (h : f_X9_solveNow_J29 s_o = some out) (H : Heap) (locs : List Loc) (ls : Array Slot) (hZ : K_S D A s (wd_X9 aC a_o s_o) H locs) (hl : lv_has ls 2 [(0, .ref (a_o 0))]) : W p l e (R_m 5 125) s m args below meth c H locs 0 0 (MQ below (Q_W (none) D A (wd_X9 aC a_o out)) args s 0 0 A) (F0 m 29 ls []) := by
  obtain ⟨hx, hb, hml, hown, hts, hK, hA, hlk⟩ := id hX
  unfold f_X9_solveNow_J29 at h
  refine lv_aload_n hx hb dX9_solveNow_29 rfl (lv_at hl 0 rfl) ?_
  obtain ⟨u4, hu, h⟩ := k_bd h
  refine k_vWs (As := []) (rest := []) (v := none) (st1 := []) hX hl.1 hZ (c_X9_solve (a_o := a_o) s_o hu) (gv_ wm_198 wm_200 wm_201 wm_11 wm_199) rfl hd_X9_solve ⟨rfl, rfl⟩ 9 0 rfl rfl rfl rfl rfl dX9_solveNow_30 rfl ⟨rfl, rfl⟩ rfl (fun H locs hZ => ?_)
  clear hu
  cases h
  exact k_vretW hX hr hZ dX9_solveNow_33
set_option maxHeartbeats 4000000 in
set_option maxRecDepth 100000 in
theorem c_X9_solveNow {l : Launch} {D : va_G} {aC : Nat → ClassId} {a_o : Nat → Nat} (s_o : Ob_T) {out : Ob_T} (h : f_X9_solveNow s_o = some out) : M_W l yX9_solveNow wlX9_solveNow 5 125 D aC [.ref (a_o 0)] (wd_X9 aC a_o s_o) (none) (wd_X9 aC a_o out) := by
  refine k_entW (cc := cX9_solveNow) (ret := none) (maxL := 2) (own := RX9) (by decide) rfl rfl rfl ?_
  intro p e s m below meth c A ls hX hr hZ hl
  have hl : lv_has ls 2 [(0, .ref (a_o 0))] := hl
  generalize ([.ref (a_o 0)] : List Value).toArray = args at hX ⊢
  obtain ⟨hx, hb, hml, hown, hts, hK, hA, hlk⟩ := id hX
  unfold f_X9_solveNow at h
  generalize s.heap = H at hZ ⊢
  generalize ([] : List Loc) = locs at hZ ⊢
  refine lv_aload_n hx hb dX9_solveNow_0 rfl (lv_at hl 0 rfl) ?_
  obtain ⟨u1, hu, h⟩ := k_bd h
  refine k_vWs (As := []) (rest := []) (v := none) (st1 := []) hX hl.1 hZ (c_X9_layNodes (a_o := a_o) s_o hu) (gv_ wm_202 wm_204 wm_205 wm_11 wm_203) rfl hd_X9_layNodes ⟨rfl, rfl⟩ 9 0 rfl rfl rfl rfl rfl dX9_solveNow_1 rfl ⟨rfl, rfl⟩ rfl (fun H locs hZ => ?_)
  clear hu
  refine lv_iconst (v := 0) hx hb dX9_solveNow_4 (by decide) ?_
  refine lv_istore_n (lv' := [(1, .int (0 : Int32)), (0, .ref (a_o 0))]) hx hb dX9_solveNow_5 rfl hl (by decide) rfl (fun ls hl => ?_)
  exact Lp_ok (body := (fun (rec : (Int32 × Ob_T) → Option Ob_T) x => f_X9_solveNow_L6 (fun t_o => f_X9_solveNow_J29 t_o) rec x.1 x.2)) (out := out) (fun x => ∀ (H : Heap) (locs : List Loc) (ls : Array Slot), K_S D A s (wd_X9 aC a_o x.2) H locs → lv_has ls 2 [(0, .ref (a_o 0)), (1, .int x.1)] → W p l e (R_m 5 125) s m args below meth c H locs 0 0 (MQ below (Q_W (none) D A (wd_X9 aC a_o out)) args s 0 0 A) (F0 m 6 ls [])) (fun rec hrec x h H locs ls hZ hl => t_X9_solveNow_L6 hX hr (fun t_o h H locs ls hZ hl => t_X9_solveNow_J29 hX hr t_o h H locs ls hZ (lv_sub hl [0] rfl)) hrec x.1 x.2 h H locs ls hZ hl) FU_ ((0 : Int32), u1) h H locs ls hZ (lv_sub hl [1, 0] rfl)
def wlX9_isNode : List Cond := .code yX9_isNode cX9_isNode 2 (some .boolean) :: WL_
theorem hd_X9_isNode : yX9_isNode.cls = RX9 ∧ yX9_isNode.cls ≠ "java/lang/invoke/MethodHandle" ∧ yX9_isNode.cls ≠ "java/lang/invoke/VarHandle" ∧ (parseMethodDescriptor yX9_isNode.desc).map (fun d => d.parameters.length) = some 1 := by decide +kernel
theorem dX9_isNode_0 : decode cX9_isNode 0 = .ok (.iload_n 1, 1) := by decide +kernel
theorem dX9_isNode_1 : decode cX9_isNode 1 = .ok (.i2l, 1) := by decide +kernel
theorem dX9_isNode_2 : decode cX9_isNode 2 = .ok (.lconst 0, 1) := by decide +kernel
theorem dX9_isNode_3 : decode cX9_isNode 3 = .ok (.aload_n 0, 1) := by decide +kernel
theorem dX9_isNode_4 : decode cX9_isNode 4 = .ok (.getfield 170, 3) := by decide +kernel
theorem dX9_isNode_7 : decode cX9_isNode 7 = .ok (.iconst 1, 1) := by decide +kernel
theorem dX9_isNode_8 : decode cX9_isNode 8 = .ok (.isub, 1) := by decide +kernel
theorem dX9_isNode_9 : decode cX9_isNode 9 = .ok (.i2l, 1) := by decide +kernel
theorem dX9_isNode_10 : decode cX9_isNode 10 = .ok (.invokestatic 97, 3) := by decide +kernel
theorem dX9_isNode_13 : decode cX9_isNode 13 = .ok (.ireturn, 1) := by decide +kernel
set_option maxHeartbeats 4000000 in
set_option maxRecDepth 100000 in
theorem c_X9_isNode {l : Launch} {D : va_G} {aC : Nat → ClassId} {a_o : Nat → Nat} (s_o : Ob_T) (x1 : Int32) {out : Int32} (h : f_X9_isNode s_o x1 = some out) : M_R l yX9_isNode wlX9_isNode 1 25 D aC [.ref (a_o 0), .int x1] (wd_X9 aC a_o s_o) (some (.int out)) := by
  refine k_entR (cc := cX9_isNode) (ret := (some .boolean)) (maxL := 2) (own := RX9) (by decide) rfl rfl rfl ?_
  intro p e s m below meth c A ls hX hr hZ hl
  have hl : lv_has ls 2 [(0, .ref (a_o 0)), (1, .int x1)] := hl
  generalize ([.ref (a_o 0), .int x1] : List Value).toArray = args at hX ⊢
  obtain ⟨hx, hb, hml, hown, hts, hK, hA, hlk⟩ := id hX
  unfold f_X9_isNode at h
  have hF : ∀ q ∈ ([] : List Loc), False := fun _ h => nomatch h
  generalize ([] : List Loc) = locs at hF ⊢
  refine lv_iload_n hx hb dX9_isNode_0 rfl (lv_at hl 1 rfl) ?_
  refine lv_i2l (v := x1.toInt64) hx hb dX9_isNode_1 rfl ?_
  refine lv_lconst (v := 0) hx hb dX9_isNode_2 (by decide) ?_
  refine lv_aload_n hx hb dX9_isNode_3 rfl (lv_at hl 0 rfl) ?_
  refine k_get hX hZ.1 0 9 rfl rfl iw_X9 2 rfl (wm_108) (v := .int (o_F s_o 2)) rfl dX9_isNode_4 ?_
  refine lv_iconst (v := 1) hx hb dX9_isNode_7 (by decide) ?_
  refine lv_isub hx hb dX9_isNode_8 ?_
  refine lv_i2l (v := ((o_F s_o 2) - (1 : Int32)).toInt64) hx hb dX9_isNode_9 rfl ?_
  obtain ⟨u1, hu, h⟩ := k_bd h
  refine k_sRR (As := [.long x1.toInt64, .long (0 : Int64), .long ((o_F s_o 2) - (1 : Int32)).toInt64]) (rest := []) (wc := []) (v := some (.int u1)) (st1 := [.int u1]) hX hl.1 hZ hF (c_X9_in  x1.toInt64 (0 : Int64) (((o_F s_o 2) - (1 : Int32)).toInt64) hu) (gs_ wm_10 wm_13 wm_11 wm_12) rfl hd_X9_in ⟨rfl, rfl⟩ [] rfl rfl rfl rfl rfl dX9_isNode_10 rfl ⟨rfl, rfl⟩ (fun locs hF => ?_)
  clear hu
  obtain ⟨b2, hb0, h⟩ := k_bd h
  obtain ⟨hb1, hb2, hb3⟩ := k_zb hb0
  clear hb0
  cases h
  exact k_zretR hX hr hb2 hF dX9_isNode_13
