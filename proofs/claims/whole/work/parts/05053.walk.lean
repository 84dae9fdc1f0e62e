def wlX9_sum : List Cond := .code yX9_sum cX9_sum 4 (some .int) :: WL_
theorem hd_X9_sum : yX9_sum.cls = RX9 ∧ yX9_sum.cls ≠ "java/lang/invoke/MethodHandle" ∧ yX9_sum.cls ≠ "java/lang/invoke/VarHandle" ∧ (parseMethodDescriptor yX9_sum.desc).map (fun d => d.parameters.length) = some 1 := by decide +kernel
theorem dX9_sum_0 : decode cX9_sum 0 = .ok (.iload_n 1, 1) := by decide +kernel
theorem dX9_sum_1 : decode cX9_sum 1 = .ok (.invokestatic 348, 3) := by decide +kernel
theorem dX9_sum_4 : decode cX9_sum 4 = .ok (.ifCond .ne 6, 3) := by decide +kernel
theorem dX9_sum_7 : decode cX9_sum 7 = .ok (.bipush (-2), 2) := by decide +kernel
theorem dX9_sum_9 : decode cX9_sum 9 = .ok (.ireturn, 1) := by decide +kernel
theorem dX9_sum_10 : decode cX9_sum 10 = .ok (.ldc_w 361, 3) := by decide +kernel
theorem dX9_sum_13 : decode cX9_sum 13 = .ok (.istore_n 2, 1) := by decide +kernel
theorem dX9_sum_14 : decode cX9_sum 14 = .ok (.iconst 0, 1) := by decide +kernel
theorem dX9_sum_15 : decode cX9_sum 15 = .ok (.istore_n 3, 1) := by decide +kernel
theorem dX9_sum_16 : decode cX9_sum 16 = .ok (.iload_n 3, 1) := by decide +kernel
theorem dX9_sum_17 : decode cX9_sum 17 = .ok (.aload_n 0, 1) := by decide +kernel
theorem dX9_sum_18 : decode cX9_sum 18 = .ok (.getfield 44, 3) := by decide +kernel
theorem dX9_sum_21 : decode cX9_sum 21 = .ok (.iload_n 1, 1) := by decide +kernel
theorem dX9_sum_22 : decode cX9_sum 22 = .ok (.iaload, 1) := by decide +kernel
theorem dX9_sum_23 : decode cX9_sum 23 = .ok (.if_icmp .ge 23, 3) := by decide +kernel
theorem dX9_sum_26 : decode cX9_sum 26 = .ok (.iload_n 2, 1) := by decide +kernel
theorem dX9_sum_27 : decode cX9_sum 27 = .ok (.aload_n 0, 1) := by decide +kernel
theorem dX9_sum_28 : decode cX9_sum 28 = .ok (.getfield 47, 3) := by decide +kernel
theorem dX9_sum_31 : decode cX9_sum 31 = .ok (.bipush 10, 2) := by decide +kernel
theorem dX9_sum_33 : decode cX9_sum 33 = .ok (.iload_n 1, 1) := by decide +kernel
theorem dX9_sum_34 : decode cX9_sum 34 = .ok (.imul, 1) := by decide +kernel
theorem dX9_sum_35 : decode cX9_sum 35 = .ok (.iload_n 3, 1) := by decide +kernel
theorem dX9_sum_36 : decode cX9_sum 36 = .ok (.iadd, 1) := by decide +kernel
theorem dX9_sum_37 : decode cX9_sum 37 = .ok (.iaload, 1) := by decide +kernel
theorem dX9_sum_38 : decode cX9_sum 38 = .ok (.iadd, 1) := by decide +kernel
theorem dX9_sum_39 : decode cX9_sum 39 = .ok (.istore_n 2, 1) := by decide +kernel
theorem dX9_sum_40 : decode cX9_sum 40 = .ok (.iinc 3 1, 3) := by decide +kernel
theorem dX9_sum_43 : decode cX9_sum 43 = .ok (.goto (-27), 3) := by decide +kernel
theorem dX9_sum_46 : decode cX9_sum 46 = .ok (.aload_n 0, 1) := by decide +kernel
theorem dX9_sum_47 : decode cX9_sum 47 = .ok (.getfield 44, 3) := by decide +kernel
theorem dX9_sum_50 : decode cX9_sum 50 = .ok (.iload_n 1, 1) := by decide +kernel
theorem dX9_sum_51 : decode cX9_sum 51 = .ok (.iaload, 1) := by decide +kernel
theorem dX9_sum_52 : decode cX9_sum 52 = .ok (.ifCond .ge 8, 3) := by decide +kernel
theorem dX9_sum_55 : decode cX9_sum 55 = .ok (.bipush (-11), 2) := by decide +kernel
theorem dX9_sum_57 : decode cX9_sum 57 = .ok (.goto 4, 3) := by decide +kernel
theorem dX9_sum_60 : decode cX9_sum 60 = .ok (.iload_n 2, 1) := by decide +kernel
theorem dX9_sum_61 : decode cX9_sum 61 = .ok (.ireturn, 1) := by decide +kernel
set_option maxHeartbeats 4000000 in
set_option maxRecDepth 100000 in
theorem t_X9_sum_L16 {p : Program} {l : Launch} {e : Env} {s : State} {m : MethodId} {args : Array Value} {below : List Frame} {meth : Method} {c : Code} {D : va_G} {aC : Nat → ClassId} {A : Nat → Prop} {a_o : Nat → Nat} {out : Int32} {s_o : Ob_T} {k46 : Int32 → Int32 → Option Int32} {rec16 : (Int32 × Int32 × Int32) → Option Int32} (hX : K_X p s m args meth c cX9_sum 4 WL_ RX9 D aC A) (hr : meth.sig.returnType = (some .int)) (hZ : va_P D vwCl (wd_X9 aC a_o s_o) s.heap ∧ va_D (fun _ => True) (wd_X9 aC a_o s_o)) (hk46 : ∀ (y1 : Int32) (y2 : Int32), k46 y1 y2 = some out → ∀ (locs : List Loc) (ls : Array Slot), (∀ q ∈ locs, False) → lv_has ls 4 [(0, .ref (a_o 0)), (1, .int y1), (2, .int y2)] → W p l e (R_m 2 45) s m args below meth c s.heap locs 0 0 (MQ below (Q_R (some (.int out))) args s 0 0 (fun _ => False)) (F0 m 46 ls [])) (hrec16 : ∀ x : Int32 × Int32 × Int32, rec16 x = some out → ∀ (locs : List Loc) (ls : Array Slot), (∀ q ∈ locs, False) → lv_has ls 4 [(0, .ref (a_o 0)), (1, .int x.1), (2, .int x.2.1), (3, .int x.2.2)] → W p l e (R_m 2 45) s m args below meth c s.heap locs 0 0 (MQ below (Q_R (some (.int out))) args s 0 0 (fun _ => False)) (F0 m 16 ls [])) (x1 : Int32) (x2 : Int32) (x3 : Int32) (h : f_X9_sum_L16 k46 rec16 x1 x2 x3 s_o = some out) (locs : List Loc) (ls : Array Slot) (hF : ∀ q ∈ locs, False) (hl : lv_has ls 4 [(0, .ref (a_o 0)), (1, .int x1), (2, .int x2), (3, .int x3)]) : W p l e (R_m 2 45) s m args below meth c s.heap locs 0 0 (MQ below (Q_R (some (.int out))) args s 0 0 (fun _ => False)) (F0 m 16 ls []) := by
  obtain ⟨hx, hb, hml, hown, hts, hK, hA, hlk⟩ := id hX
  unfold f_X9_sum_L16 at h
  refine lv_iload_n hx hb dX9_sum_16 rfl (lv_at hl 3 rfl) ?_
  refine lv_aload_n hx hb dX9_sum_17 rfl (lv_at hl 0 rfl) ?_
  refine k_get hX hZ.1 0 9 rfl rfl iw_X9 16 rfl (wm_120) (v := .ref (a_o 12)) rfl dX9_sum_18 ?_
  refine lv_iload_n hx hb dX9_sum_21 rfl (lv_at hl 1 rfl) ?_
  refine k_iald hX hZ.1 12 rfl h dX9_sum_22 (fun v2 h => ?_)
  refine lv_icmp_ge (tgt := 46) hx hb dX9_sum_23 (by decide) (fun cd => ?_) (fun cd => ?_)
  · replace h := k_t cd h
    clear cd
    exact hk46 x1 x2 h locs ls hF (lv_sub hl [0, 1, 2] rfl)
  · replace h := k_f cd h
    clear cd
    refine lv_iload_n hx hb dX9_sum_26 rfl (lv_at hl 2 rfl) ?_
    refine lv_aload_n hx hb dX9_sum_27 rfl (lv_at hl 0 rfl) ?_
    refine k_get hX hZ.1 0 9 rfl rfl iw_X9 17 rfl (wm_267) (v := .ref (a_o 13)) rfl dX9_sum_28 ?_
    refine lv_bipush (v := 10) hx hb dX9_sum_31 (by decide) ?_
    refine lv_iload_n hx hb dX9_sum_33 rfl (lv_at hl 1 rfl) ?_
    refine lv_imul hx hb dX9_sum_34 ?_
    refine lv_iload_n hx hb dX9_sum_35 rfl (lv_at hl 3 rfl) ?_
    refine lv_iadd hx hb dX9_sum_36 ?_
    refine k_iald hX hZ.1 13 rfl h dX9_sum_37 (fun v3 h => ?_)
    refine lv_iadd hx hb dX9_sum_38 ?_
    refine lv_istore_n (lv' := [(2, .int (x2 + v3)), (0, .ref (a_o 0)), (1, .int x1), (3, .int x3)]) hx hb dX9_sum_39 rfl hl (by decide) rfl (fun ls hl => ?_)
    refine lv_iinc (v := (x3 + (1 : Int32))) (lv' := [(3, .int (x3 + (1 : Int32))), (2, .int (x2 + v3)), (0, .ref (a_o 0)), (1, .int x1)]) hx hb dX9_sum_40 hl (k := 3) rfl rfl (by decide) rfl (fun ls hl => ?_)
    refine lv_goto (tgt := 16) hx hb dX9_sum_43 (by decide) ?_
    exact hrec16 (x1, (x2 + v3), (x3 + (1 : Int32))) h locs ls hF (lv_sub hl [2, 3, 1, 0] rfl)
set_option maxHeartbeats 4000000 in
set_option maxRecDepth 100000 in
theorem t_X9_sum_J46 {p : Program} {l : Launch} {e : Env} {s : State} {m : MethodId} {args : Array Value} {below : List Frame} {meth : Method} {c : Code} {D : va_G} {aC : Nat → ClassId} {A : Nat → Prop} {a_o : Nat → Nat} {out : Int32} {s_o : Ob_T} (hX : K_X p s m args meth c cX9_sum 4 WL_ RX9 D aC A) (hr : meth.sig.returnType = (some .int)) (hZ : va_P D vwCl (wd_X9 aC a_o s_o) s.heap ∧ va_D (fun _ => True) (wd_X9 aC a_o s_o)) (x1 : Int32) (x2 : Int32) (h : f_X9_sum_J46 x1 x2 s_o = some out) (locs : List Loc) (ls : Array Slot) (hF : ∀ q ∈ locs, False) (hl : lv_has ls 4 [(0, .ref (a_o 0)), (1, .int x1), (2, .int x2)]) : W p l e (R_m 2 45) s m args below meth c s.heap locs 0 0 (MQ below (Q_R (some (.int out))) args s 0 0 (fun _ => False)) (F0 m 46 ls []) := by
  obtain ⟨hx, hb, hml, hown, hts, hK, hA, hlk⟩ := id hX
  unfold f_X9_sum_J46 at h
  refine lv_aload_n hx hb dX9_sum_46 rfl (lv_at hl 0 rfl) ?_
  refine k_get hX hZ.1 0 9 rfl rfl iw_X9 16 rfl (wm_120) (v := .ref (a_o 12)) rfl dX9_sum_47 ?_
  refine lv_iload_n hx hb dX9_sum_50 rfl (lv_at hl 1 rfl) ?_
  refine k_iald hX hZ.1 12 rfl h dX9_sum_51 (fun v4 h => ?_)
  refine lv_if_ge (tgt := 60) hx hb dX9_sum_52 (by decide) (fun cd => ?_) (fun cd => ?_)
  · replace h := k_t cd h
    clear cd
    refine lv_iload_n hx hb dX9_sum_60 rfl (lv_at hl 2 rfl) ?_
    cases h
    exact k_iretR hX hr hF dX9_sum_61
  · replace h := k_f cd h
    clear cd
    refine lv_bipush (v := -11) hx hb dX9_sum_55 (by decide) ?_
    refine lv_goto (tgt := 61) hx hb dX9_sum_57 (by decide) ?_
    cases h
    exact k_iretR hX hr hF dX9_sum_61
set_option maxHeartbeats 4000000 in
set_option maxRecDepth 100000 in
theorem c_X9_sum {l : Launch} {D : va_G} {aC : Nat → ClassId} {a_o : Nat → Nat} (s_o : Ob_T) (x1 : Int32) {out : Int32} (h : f_X9_sum s_o x1 = some out) : M_R l yX9_sum wlX9_sum 2 45 D aC [.ref (a_o 0), .int x1] (wd_X9 aC a_o s_o) (some (.int out)) := by
  refine k_entR (cc := cX9_sum) (ret := (some .int)) (maxL := 4) (own := RX9) (by decide) rfl rfl rfl ?_
  intro p e s m below meth c A ls hX hr hZ hl
  have hl : lv_has ls 4 [(0, .ref (a_o 0)), (1, .int x1)] := hl
  generalize ([.ref (a_o 0), .int x1] : List Value).toArray = args at hX ⊢
  obtain ⟨hx, hb, hml, hown, hts, hK, hA, hlk⟩ := id hX
  unfold f_X9_sum at h
  have hF : ∀ q ∈ ([] : List Loc), False := fun _ h => nomatch h
  generalize ([] : List Loc) = locs at hF ⊢
  refine lv_iload_n hx hb dX9_sum_0 rfl (lv_at hl 1 rfl) ?_
  obtain ⟨u1, hu, h⟩ := k_bd h
  refine k_sRR (As := [.int x1]) (rest := []) (wc := []) (v := some (.int u1)) (st1 := [.int u1]) hX hl.1 hZ hF (c_X9_isRow  x1 hu) (gs_ wm_268 wm_270 wm_11 wm_269) rfl hd_X9_isRow ⟨rfl, rfl⟩ [] rfl rfl rfl rfl rfl dX9_sum_1 rfl ⟨rfl, rfl⟩ (fun locs hF => ?_)
  clear hu
  refine lv_if_ne (tgt := 10) hx hb dX9_sum_4 (by decide) (fun cd => ?_) (fun cd => ?_)
  · replace h := k_f cd h
    clear cd
    refine lv_ldcw (v := 500000) hx hb hown (hts _ wm_281) dX9_sum_10 ?_
    refine lv_istore_n (lv' := [(2, .int (500000 : Int32)), (0, .ref (a_o 0)), (1, .int x1)]) hx hb dX9_sum_13 rfl hl (by decide) rfl (fun ls hl => ?_)
    refine lv_iconst (v := 0) hx hb dX9_sum_14 (by decide) ?_
    refine lv_istore_n (lv' := [(3, .int (0 : Int32)), (2, .int (500000 : Int32)), (0, .ref (a_o 0)), (1, .int x1)]) hx hb dX9_sum_15 rfl hl (by decide) rfl (fun ls hl => ?_)
    exact Lp_ok (body := (fun (rec : (Int32 × Int32 × Int32) → Option Int32) x => f_X9_sum_L16 (fun y1 y2 => f_X9_sum_J46 y1 y2 s_o) rec x.1 x.2.1 x.2.2 s_o)) (out := out) (fun x => ∀ (locs : List Loc) (ls : Array Slot), (∀ q ∈ locs, False) → lv_has ls 4 [(0, .ref (a_o 0)), (1, .int x.1), (2, .int x.2.1), (3, .int x.2.2)] → W p l e (R_m 2 45) s m args below meth c s.heap locs 0 0 (MQ below (Q_R (some (.int out))) args s 0 0 (fun _ => False)) (F0 m 16 ls [])) (fun rec hrec x h locs ls hF hl => t_X9_sum_L16 hX hr hZ (fun y1 y2 h locs ls hF hl => t_X9_sum_J46 hX hr hZ y1 y2 h locs ls hF (lv_sub hl [0, 1, 2] rfl)) hrec x.1 x.2.1 x.2.2 h locs ls hF hl) FU_ (x1, (500000 : Int32), (0 : Int32)) h locs ls hF (lv_sub hl [2, 3, 1, 0] rfl)
  · replace h := k_t cd h
    clear cd
    refine lv_bipush (v := -2) hx hb dX9_sum_7 (by decide) ?_
    cases h
    exact k_iretR hX hr hF dX9_sum_9
def wlX9_drop : List Cond := .code yX9_drop cX9_drop 3 (some .int) :: WL_
theorem hd_X9_drop : yX9_drop.cls = RX9 ∧ yX9_drop.cls ≠ "java/lang/invoke/MethodHandle" ∧ yX9_drop.cls ≠ "java/lang/invoke/VarHandle" ∧ (parseMethodDescriptor yX9_drop.desc).map (fun d => d.parameters.length) = some 1 := by decide +kernel
theorem dX9_drop_0 : decode cX9_drop 0 = .ok (.iload_n 1, 1) := by decide +kernel
theorem dX9_drop_1 : decode cX9_drop 1 = .ok (.invokestatic 348, 3) := by decide +kernel
theorem dX9_drop_4 : decode cX9_drop 4 = .ok (.ifCond .ne 6, 3) := by decide +kernel
theorem dX9_drop_7 : decode cX9_drop 7 = .ok (.bipush (-2), 2) := by decide +kernel
theorem dX9_drop_9 : decode cX9_drop 9 = .ok (.ireturn, 1) := by decide +kernel
theorem dX9_drop_10 : decode cX9_drop 10 = .ok (.aload_n 0, 1) := by decide +kernel
theorem dX9_drop_11 : decode cX9_drop 11 = .ok (.getfield 44, 3) := by decide +kernel
theorem dX9_drop_14 : decode cX9_drop 14 = .ok (.iload_n 1, 1) := by decide +kernel
theorem dX9_drop_15 : decode cX9_drop 15 = .ok (.iaload, 1) := by decide +kernel
theorem dX9_drop_16 : decode cX9_drop 16 = .ok (.istore_n 2, 1) := by decide +kernel
theorem dX9_drop_17 : decode cX9_drop 17 = .ok (.aload_n 0, 1) := by decide +kernel
theorem dX9_drop_18 : decode cX9_drop 18 = .ok (.getfield 44, 3) := by decide +kernel
theorem dX9_drop_21 : decode cX9_drop 21 = .ok (.iload_n 1, 1) := by decide +kernel
theorem dX9_drop_22 : decode cX9_drop 22 = .ok (.iconst (-1), 1) := by decide +kernel
theorem dX9_drop_23 : decode cX9_drop 23 = .ok (.iastore, 1) := by decide +kernel
theorem dX9_drop_24 : decode cX9_drop 24 = .ok (.iload_n 2, 1) := by decide +kernel
theorem dX9_drop_25 : decode cX9_drop 25 = .ok (.ifCond .ge 8, 3) := by decide +kernel
theorem dX9_drop_28 : decode cX9_drop 28 = .ok (.bipush (-11), 2) := by decide +kernel
theorem dX9_drop_30 : decode cX9_drop 30 = .ok (.goto 4, 3) := by decide +kernel
theorem dX9_drop_33 : decode cX9_drop 33 = .ok (.iload_n 2, 1) := by decide +kernel
theorem dX9_drop_34 : decode cX9_drop 34 = .ok (.ireturn, 1) := by decide +kernel
set_option maxHeartbeats 4000000 in
set_option maxRecDepth 100000 in
theorem c_X9_drop {l : Launch} {D : va_G} {aC : Nat → ClassId} {a_o : Nat → Nat} (s_o : Ob_T) (x1 : Int32) {out : Int32 × Ob_T} (h : f_X9_drop s_o x1 = some out) : M_W l yX9_drop wlX9_drop 2 45 D aC [.ref (a_o 0), .int x1] (wd_X9 aC a_o s_o) (some (.int out.1)) (wd_X9 aC a_o out.2) := by
  refine k_entW (cc := cX9_drop) (ret := (some .int)) (maxL := 3) (own := RX9) (by decide) rfl rfl rfl ?_
  intro p e s m below meth c A ls hX hr hZ hl
  have hl : lv_has ls 3 [(0, .ref (a_o 0)), (1, .int x1)] := hl
  generalize ([.ref (a_o 0), .int x1] : List Value).toArray = args at hX ⊢
  obtain ⟨hx, hb, hml, hown, hts, hK, hA, hlk⟩ := id hX
  unfold f_X9_drop at h
  generalize s.heap = H at hZ ⊢
  generalize ([] : List Loc) = locs at hZ ⊢
  refine lv_iload_n hx hb dX9_drop_0 rfl (lv_at hl 1 rfl) ?_
  obtain ⟨u1, hu, h⟩ := k_bd h
  refine k_sR (As := [.int x1]) (rest := []) (wc := []) (v := some (.int u1)) (st1 := [.int u1]) hX hl.1 hZ (c_X9_isRow  x1 hu) (gs_ wm_268 wm_270 wm_11 wm_269) rfl hd_X9_isRow ⟨rfl, rfl⟩ [] rfl rfl rfl rfl rfl dX9_drop_1 rfl ⟨rfl, rfl⟩ (fun locs hZ => ?_)
  clear hu
  refine lv_if_ne (tgt := 10) hx hb dX9_drop_4 (by decide) (fun cd => ?_) (fun cd => ?_)
  · replace h := k_f cd h
    clear cd
    refine lv_aload_n hx hb dX9_drop_10 rfl (lv_at hl 0 rfl) ?_
    refine k_get hX hZ.1 0 9 rfl rfl iw_X9 16 rfl (wm_120) (v := .ref (a_o 12)) rfl dX9_drop_11 ?_
    refine lv_iload_n hx hb dX9_drop_14 rfl (lv_at hl 1 rfl) ?_
    refine k_iald hX hZ.1 12 rfl h dX9_drop_15 (fun v2 h => ?_)
    refine lv_istore_n (lv' := [(2, .int v2), (0, .ref (a_o 0)), (1, .int x1)]) hx hb dX9_drop_16 rfl hl (by decide) rfl (fun ls hl => ?_)
    refine lv_aload_n hx hb dX9_drop_17 rfl (lv_at hl 1 rfl) ?_
    refine k_get hX hZ.1 0 9 rfl rfl iw_X9 16 rfl (wm_120) (v := .ref (a_o 12)) rfl dX9_drop_18 ?_
    refine lv_iload_n hx hb dX9_drop_21 rfl (lv_at hl 2 rfl) ?_
    refine lv_iconst (v := -1) hx hb dX9_drop_22 (by decide) ?_
    refine k_iast (wf := (fun o => wd_X9 aC a_o o)) (o := s_o) hX hZ 12 16 rfl (fun _ => rfl) h dX9_drop_23 (fun o3 H locs hZ h => ?_)
    refine lv_iload_n hx hb dX9_drop_24 rfl (lv_at hl 0 rfl) ?_
    refine lv_if_ge (tgt := 33) hx hb dX9_drop_25 (by decide) (fun cd => ?_) (fun cd => ?_)
    · replace h := k_t cd h
      clear cd
      refine lv_iload_n hx hb dX9_drop_33 rfl (lv_at hl 0 rfl) ?_
      cases h
      exact k_iretW hX hr hZ dX9_drop_34
    · replace h := k_f cd h
      clear cd
      refine lv_bipush (v := -11) hx hb dX9_drop_28 (by decide) ?_
      refine lv_goto (tgt := 34) hx hb dX9_drop_30 (by decide) ?_
      cases h
      exact k_iretW hX hr hZ dX9_drop_34
  · replace h := k_t cd h
    clear cd
    refine lv_bipush (v := -2) hx hb dX9_drop_7 (by decide) ?_
    cases h
    exact k_iretW hX hr hZ dX9_drop_9
def wlX9_allPlaces : List Cond := .code yX9_allPlaces cX9_allPlaces 3 (some .int) :: WL_
theorem hd_X9_allPlaces : yX9_allPlaces.cls = RX9 ∧ yX9_allPlaces.cls ≠ "java/lang/invoke/MethodHandle" ∧ yX9_allPlaces.cls ≠ "java/lang/invoke/VarHandle" ∧ (parseMethodDescriptor yX9_allPlaces.desc).map (fun d => d.parameters.length) = some 0 := by decide +kernel
theorem dX9_allPlaces_0 : decode cX9_allPlaces 0 = .ok (.iconst 0, 1) := by decide +kernel
theorem dX9_allPlaces_1 : decode cX9_allPlaces 1 = .ok (.istore_n 1, 1) := by decide +kernel
theorem dX9_allPlaces_2 : decode cX9_allPlaces 2 = .ok (.iconst 0, 1) := by decide +kernel
theorem dX9_allPlaces_3 : decode cX9_allPlaces 3 = .ok (.istore_n 2, 1) := by decide +kernel
theorem dX9_allPlaces_4 : decode cX9_allPlaces 4 = .ok (.iload_n 2, 1) := by decide +kernel
theorem dX9_allPlaces_5 : decode cX9_allPlaces 5 = .ok (.iconst 3, 1) := by decide +kernel
theorem dX9_allPlaces_6 : decode cX9_allPlaces 6 = .ok (.if_icmp .ge 31, 3) := by decide +kernel
theorem dX9_allPlaces_9 : decode cX9_allPlaces 9 = .ok (.iload_n 1, 1) := by decide +kernel
theorem dX9_allPlaces_10 : decode cX9_allPlaces 10 = .ok (.aload_n 0, 1) := by decide +kernel
theorem dX9_allPlaces_11 : decode cX9_allPlaces 11 = .ok (.getfield 44, 3) := by decide +kernel
theorem dX9_allPlaces_14 : decode cX9_allPlaces 14 = .ok (.iload_n 2, 1) := by decide +kernel
theorem dX9_allPlaces_15 : decode cX9_allPlaces 15 = .ok (.iaload, 1) := by decide +kernel
theorem dX9_allPlaces_16 : decode cX9_allPlaces 16 = .ok (.ifCond .ge 7, 3) := by decide +kernel
theorem dX9_allPlaces_19 : decode cX9_allPlaces 19 = .ok (.iconst 0, 1) := by decide +kernel
theorem dX9_allPlaces_20 : decode cX9_allPlaces 20 = .ok (.goto 9, 3) := by decide +kernel
theorem dX9_allPlaces_23 : decode cX9_allPlaces 23 = .ok (.aload_n 0, 1) := by decide +kernel
theorem dX9_allPlaces_24 : decode cX9_allPlaces 24 = .ok (.getfield 44, 3) := by decide +kernel
theorem dX9_allPlaces_27 : decode cX9_allPlaces 27 = .ok (.iload_n 2, 1) := by decide +kernel
theorem dX9_allPlaces_28 : decode cX9_allPlaces 28 = .ok (.iaload, 1) := by decide +kernel
theorem dX9_allPlaces_29 : decode cX9_allPlaces 29 = .ok (.iadd, 1) := by decide +kernel
theorem dX9_allPlaces_30 : decode cX9_allPlaces 30 = .ok (.istore_n 1, 1) := by decide +kernel
theorem dX9_allPlaces_31 : decode cX9_allPlaces 31 = .ok (.iinc 2 1, 3) := by decide +kernel
theorem dX9_allPlaces_34 : decode cX9_allPlaces 34 = .ok (.goto (-30), 3) := by decide +kernel
theorem dX9_allPlaces_37 : decode cX9_allPlaces 37 = .ok (.iload_n 1, 1) := by decide +kernel
theorem dX9_allPlaces_38 : decode cX9_allPlaces 38 = .ok (.ireturn, 1) := by decide +kernel
set_option maxHeartbeats 4000000 in
set_option maxRecDepth 100000 in
theorem t_X9_allPlaces_L4 {p : Program} {l : Launch} {e : Env} {s : State} {m : MethodId} {args : Array Value} {below : List Frame} {meth : Method} {c : Code} {D : va_G} {aC : Nat → ClassId} {A : Nat → Prop} {a_o : Nat → Nat} {out : Int32} {s_o : Ob_T} {rec4 : (Int32 × Int32) → Option Int32} (hX : K_X p s m args meth c cX9_allPlaces 3 WL_ RX9 D aC A) (hr : meth.sig.returnType = (some .int)) (hZ : va_P D vwCl (wd_X9 aC a_o s_o) s.heap ∧ va_D (fun _ => True) (wd_X9 aC a_o s_o)) (hrec4 : ∀ x : Int32 × Int32, rec4 x = some out → ∀ (locs : List Loc) (ls : Array Slot), (∀ q ∈ locs, False) → lv_has ls 3 [(0, .ref (a_o 0)), (1, .int x.1), (2, .int x.2)] → W p l e (R_m 0 0) s m args below meth c s.heap locs 0 0 (MQ below (Q_R (some (.int out))) args s 0 0 (fun _ => False)) (F0 m 4 ls [])) (x1 : Int32) (x2 : Int32) (h : f_X9_allPlaces_L4 rec4 x1 x2 s_o = some out) (locs : List Loc) (ls : Array Slot) (hF : ∀ q ∈ locs, False) (hl : lv_has ls 3 [(0, .ref (a_o 0)), (1, .int x1), (2, .int x2)]) : W p l e (R_m 0 0) s m args below meth c s.heap locs 0 0 (MQ below (Q_R (some (.int out))) args s 0 0 (fun _ => False)) (F0 m 4 ls []) := by
  obtain ⟨hx, hb, hml, hown, hts, hK, hA, hlk⟩ := id hX
  unfold f_X9_allPlaces_L4 at h
  refine lv_iload_n hx hb dX9_allPlaces_4 rfl (lv_at hl 2 rfl) ?_
  refine lv_iconst (v := 3) hx hb dX9_allPlaces_5 (by decide) ?_
  refine lv_icmp_ge (tgt := 37) hx hb dX9_allPlaces_6 (by decide) (fun cd => ?_) (fun cd => ?_)
  · replace h := k_t cd h
    clear cd
    refine lv_iload_n hx hb dX9_allPlaces_37 rfl (lv_at hl 1 rfl) ?_
    cases h
    exact k_iretR hX hr hF dX9_allPlaces_38
  · replace h := k_f cd h
    clear cd
    refine lv_iload_n hx hb dX9_allPlaces_9 rfl (lv_at hl 1 rfl) ?_
    refine lv_aload_n hx hb dX9_allPlaces_10 rfl (lv_at hl 0 rfl) ?_
    refine k_get hX hZ.1 0 9 rfl rfl iw_X9 16 rfl (wm_120) (v := .ref (a_o 12)) rfl dX9_allPlaces_11 ?_
    refine lv_iload_n hx hb dX9_allPlaces_14 rfl (lv_at hl 2 rfl) ?_
    refine k_iald hX hZ.1 12 rfl h dX9_allPlaces_15 (fun v1 h => ?_)
    refine lv_if_ge (tgt := 23) hx hb dX9_allPlaces_16 (by decide) (fun cd => ?_) (fun cd => ?_)
    · replace h := k_t cd h
      clear cd
      refine lv_aload_n hx hb dX9_allPlaces_23 rfl (lv_at hl 0 rfl) ?_
      refine k_get hX hZ.1 0 9 rfl rfl iw_X9 16 rfl (wm_120) (v := .ref (a_o 12)) rfl dX9_allPlaces_24 ?_
      refine lv_iload_n hx hb dX9_allPlaces_27 rfl (lv_at hl 2 rfl) ?_
      refine k_iald hX hZ.1 12 rfl h dX9_allPlaces_28 (fun v2 h => ?_)
      refine lv_iadd hx hb dX9_allPlaces_29 ?_
      refine lv_istore_n (lv' := [(1, .int (x1 + v2)), (0, .ref (a_o 0)), (2, .int x2)]) hx hb dX9_allPlaces_30 rfl hl (by decide) rfl (fun ls hl => ?_)
      refine lv_iinc (v := (x2 + (1 : Int32))) (lv' := [(2, .int (x2 + (1 : Int32))), (1, .int (x1 + v2)), (0, .ref (a_o 0))]) hx hb dX9_allPlaces_31 hl (k := 2) rfl rfl (by decide) rfl (fun ls hl => ?_)
      refine lv_goto (tgt := 4) hx hb dX9_allPlaces_34 (by decide) ?_
      exact hrec4 ((x1 + v2), (x2 + (1 : Int32))) h locs ls hF (lv_sub hl [2, 1, 0] rfl)
    · replace h := k_f cd h
      clear cd
      refine lv_iconst (v := 0) hx hb dX9_allPlaces_19 (by decide) ?_
      refine lv_goto (tgt := 29) hx hb dX9_allPlaces_20 (by decide) ?_
      refine lv_iadd hx hb dX9_allPlaces_29 ?_
      refine lv_istore_n (lv' := [(1, .int (x1 + (0 : Int32))), (0, .ref (a_o 0)), (2, .int x2)]) hx hb dX9_allPlaces_30 rfl hl (by decide) rfl (fun ls hl => ?_)
      refine lv_iinc (v := (x2 + (1 : Int32))) (lv' := [(2, .int (x2 + (1 : Int32))), (1, .int (x1 + (0 : Int32))), (0, .ref (a_o 0))]) hx hb dX9_allPlaces_31 hl (k := 2) rfl rfl (by decide) rfl (fun ls hl => ?_)
      refine lv_goto (tgt := 4) hx hb dX9_allPlaces_34 (by decide) ?_
      exact hrec4 ((x1 + (0 : Int32)), (x2 + (1 : Int32))) h locs ls hF (lv_sub hl [2, 1, 0] rfl)
set_option maxHeartbeats 4000000 in
set_option maxRecDepth 100000 in
theorem c_X9_allPlaces {l : Launch} {D : va_G} {aC : Nat → ClassId} {a_o : Nat → Nat} (s_o : Ob_T) {out : Int32} (h : f_X9_allPlaces s_o = some out) : M_R l yX9_allPlaces wlX9_allPlaces 0 0 D aC [.ref (a_o 0)] (wd_X9 aC a_o s_o) (some (.int out)) := by
  refine k_entR (cc := cX9_allPlaces) (ret := (some .int)) (maxL := 3) (own := RX9) (by decide) rfl rfl rfl ?_
  intro p e s m below meth c A ls hX hr hZ hl
  have hl : lv_has ls 3 [(0, .ref (a_o 0))] := hl
  generalize ([.ref (a_o 0)] : List Value).toArray = args at hX ⊢
  obtain ⟨hx, hb, hml, hown, hts, hK, hA, hlk⟩ := id hX
  unfold f_X9_allPlaces at h
  have hF : ∀ q ∈ ([] : List Loc), False := fun _ h => nomatch h
  generalize ([] : List Loc) = locs at hF ⊢
  refine lv_iconst (v := 0) hx hb dX9_allPlaces_0 (by decide) ?_
  refine lv_istore_n (lv' := [(1, .int (0 : Int32)), (0, .ref (a_o 0))]) hx hb dX9_allPlaces_1 rfl hl (by decide) rfl (fun ls hl => ?_)
  refine lv_iconst (v := 0) hx hb dX9_allPlaces_2 (by decide) ?_
  refine lv_istore_n (lv' := [(2, .int (0 : Int32)), (1, .int (0 : Int32)), (0, .ref (a_o 0))]) hx hb dX9_allPlaces_3 rfl hl (by decide) rfl (fun ls hl => ?_)
  exact Lp_ok (body := (fun (rec : (Int32 × Int32) → Option Int32) x => f_X9_allPlaces_L4 rec x.1 x.2 s_o)) (out := out) (fun x => ∀ (locs : List Loc) (ls : Array Slot), (∀ q ∈ locs, False) → lv_has ls 3 [(0, .ref (a_o 0)), (1, .int x.1), (2, .int x.2)] → W p l e (R_m 0 0) s m args below meth c s.heap locs 0 0 (MQ below (Q_R (some (.int out))) args s 0 0 (fun _ => False)) (F0 m 4 ls [])) (fun rec hrec x h locs ls hF hl => t_X9_allPlaces_L4 hX hr hZ hrec x.1 x.2 h locs ls hF hl) FU_ ((0 : Int32), (0 : Int32)) h locs ls hF (lv_sub hl [2, 1, 0] rfl)
