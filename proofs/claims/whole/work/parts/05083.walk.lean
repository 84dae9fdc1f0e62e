def wlX5_settleWith : List Cond := .code yX5_settleWith cX5_settleWith 3 none :: WL_
theorem hd_X5_settleWith : yX5_settleWith.cls = RX5 ∧ yX5_settleWith.cls ≠ "java/lang/invoke/MethodHandle" ∧ yX5_settleWith.cls ≠ "java/lang/invoke/VarHandle" ∧ (parseMethodDescriptor yX5_settleWith.desc).map (fun d => d.parameters.length) = some 1 := by decide +kernel
theorem dX5_settleWith_0 : decode cX5_settleWith 0 = .ok (.aload_n 0, 1) := by decide +kernel
theorem dX5_settleWith_1 : decode cX5_settleWith 1 = .ok (.invokevirtual 67, 3) := by decide +kernel
theorem dX5_settleWith_4 : decode cX5_settleWith 4 = .ok (.aload_n 0, 1) := by decide +kernel
theorem dX5_settleWith_5 : decode cX5_settleWith 5 = .ok (.getfield 25, 3) := by decide +kernel
theorem dX5_settleWith_8 : decode cX5_settleWith 8 = .ok (.iconst 0, 1) := by decide +kernel
theorem dX5_settleWith_9 : decode cX5_settleWith 9 = .ok (.aload_n 0, 1) := by decide +kernel
theorem dX5_settleWith_10 : decode cX5_settleWith 10 = .ok (.getfield 22, 3) := by decide +kernel
theorem dX5_settleWith_13 : decode cX5_settleWith 13 = .ok (.iconst 0, 1) := by decide +kernel
theorem dX5_settleWith_14 : decode cX5_settleWith 14 = .ok (.bipush 14, 2) := by decide +kernel
theorem dX5_settleWith_16 : decode cX5_settleWith 16 = .ok (.invokestatic 85, 3) := by decide +kernel
theorem dX5_settleWith_19 : decode cX5_settleWith 19 = .ok (.iconst 0, 1) := by decide +kernel
theorem dX5_settleWith_20 : decode cX5_settleWith 20 = .ok (.istore_n 2, 1) := by decide +kernel
theorem dX5_settleWith_21 : decode cX5_settleWith 21 = .ok (.iload_n 2, 1) := by decide +kernel
theorem dX5_settleWith_22 : decode cX5_settleWith 22 = .ok (.iconst 4, 1) := by decide +kernel
theorem dX5_settleWith_23 : decode cX5_settleWith 23 = .ok (.if_icmp .ge 25, 3) := by decide +kernel
theorem dX5_settleWith_26 : decode cX5_settleWith 26 = .ok (.aload_n 1, 1) := by decide +kernel
theorem dX5_settleWith_27 : decode cX5_settleWith 27 = .ok (.iload_n 2, 1) := by decide +kernel
theorem dX5_settleWith_28 : decode cX5_settleWith 28 = .ok (.iaload, 1) := by decide +kernel
theorem dX5_settleWith_29 : decode cX5_settleWith 29 = .ok (.iconst (-1), 1) := by decide +kernel
theorem dX5_settleWith_30 : decode cX5_settleWith 30 = .ok (.if_icmp .eq 12, 3) := by decide +kernel
theorem dX5_settleWith_33 : decode cX5_settleWith 33 = .ok (.aload_n 0, 1) := by decide +kernel
theorem dX5_settleWith_34 : decode cX5_settleWith 34 = .ok (.getfield 22, 3) := by decide +kernel
theorem dX5_settleWith_37 : decode cX5_settleWith 37 = .ok (.iload_n 2, 1) := by decide +kernel
theorem dX5_settleWith_38 : decode cX5_settleWith 38 = .ok (.aload_n 1, 1) := by decide +kernel
theorem dX5_settleWith_39 : decode cX5_settleWith 39 = .ok (.iload_n 2, 1) := by decide +kernel
theorem dX5_settleWith_40 : decode cX5_settleWith 40 = .ok (.iaload, 1) := by decide +kernel
theorem dX5_settleWith_41 : decode cX5_settleWith 41 = .ok (.iastore, 1) := by decide +kernel
theorem dX5_settleWith_42 : decode cX5_settleWith 42 = .ok (.iinc 2 1, 3) := by decide +kernel
theorem dX5_settleWith_45 : decode cX5_settleWith 45 = .ok (.goto (-24), 3) := by decide +kernel
theorem dX5_settleWith_48 : decode cX5_settleWith 48 = .ok (.aload_n 0, 1) := by decide +kernel
theorem dX5_settleWith_49 : decode cX5_settleWith 49 = .ok (.invokevirtual 39, 3) := by decide +kernel
theorem dX5_settleWith_52 : decode cX5_settleWith 52 = .ok (.return_, 1) := by decide +kernel
set_option maxHeartbeats 4000000 in
set_option maxRecDepth 100000 in
theorem t_X5_settleWith_L21 {p : Program} {l : Launch} {e : Env} {s : State} {m : MethodId} {args : Array Value} {below : List Frame} {meth : Method} {c : Code} {D : va_G} {aC : Nat → ClassId} {A : Nat → Prop} {a_v a_d a_n : Nat → Nat} {q1 z1 : Nat} {f1 : Nat → Int32} {out : Ob_T × Ob_T} {s_n : Ob_T} {k48 : Ob_T → Ob_T → Option (Ob_T × Ob_T)} {rec21 : (Int32 × Ob_T × Ob_T) → Option (Ob_T × Ob_T)} (hX : K_X p s m args meth c cX5_settleWith 3 WL_ RX5 D aC A) (hr : meth.sig.returnType = none) (hk48 : ∀ (t_v : Ob_T) (t_d : Ob_T), k48 t_v t_d = some out → ∀ (H : Heap) (locs : List Loc) (ls : Array Slot), K_S D A s (wd_X5 aC a_v (a_n 0) (a_d 0) t_v ++ (wd_X4 aC a_d t_d ++ (wd_X1 aC a_n s_n ++ [(q1, .inl (aC 0, z1, .inl f1))]))) H locs → lv_has ls 3 [(0, .ref (a_v 0))] → W p l e (R_m 3 100) s m args below meth c H locs 0 0 (MQ below (Q_W (none) D A (wd_X5 aC a_v (a_n 0) (a_d 0) out.1 ++ (wd_X4 aC a_d out.2 ++ (wd_X1 aC a_n s_n ++ [(q1, .inl (aC 0, z1, .inl f1))])))) args s 0 0 A) (F0 m 48 ls [])) (hrec21 : ∀ x : Int32 × Ob_T × Ob_T, rec21 x = some out → ∀ (H : Heap) (locs : List Loc) (ls : Array Slot), K_S D A s (wd_X5 aC a_v (a_n 0) (a_d 0) x.2.1 ++ (wd_X4 aC a_d x.2.2 ++ (wd_X1 aC a_n s_n ++ [(q1, .inl (aC 0, z1, .inl f1))]))) H locs → lv_has ls 3 [(0, .ref (a_v 0)), (1, .ref q1), (2, .int x.1)] → W p l e (R_m 3 100) s m args below meth c H locs 0 0 (MQ below (Q_W (none) D A (wd_X5 aC a_v (a_n 0) (a_d 0) out.1 ++ (wd_X4 aC a_d out.2 ++ (wd_X1 aC a_n s_n ++ [(q1, .inl (aC 0, z1, .inl f1))])))) args s 0 0 A) (F0 m 21 ls [])) (x2 : Int32) (s_v : Ob_T) (s_d : Ob_T) (h : f_X5_settleWith_L21 k48 rec21 x2 s_v s_d s_n f1 z1 = some out) (H : Heap) (locs : List Loc) (ls : Array Slot) (hZ : K_S D A s (wd_X5 aC a_v (a_n 0) (a_d 0) s_v ++ (wd_X4 aC a_d s_d ++ (wd_X1 aC a_n s_n ++ [(q1, .inl (aC 0, z1, .inl f1))]))) H locs) (hl : lv_has ls 3 [(0, .ref (a_v 0)), (1, .ref q1), (2, .int x2)]) : W p l e (R_m 3 100) s m args below meth c H locs 0 0 (MQ below (Q_W (none) D A (wd_X5 aC a_v (a_n 0) (a_d 0) out.1 ++ (wd_X4 aC a_d out.2 ++ (wd_X1 aC a_n s_n ++ [(q1, .inl (aC 0, z1, .inl f1))])))) args s 0 0 A) (F0 m 21 ls []) := by
  obtain ⟨hx, hb, hml, hown, hts, hK, hA, hlk⟩ := id hX
  unfold f_X5_settleWith_L21 at h
  refine lv_iload_n hx hb dX5_settleWith_21 rfl (lv_at hl 2 rfl) ?_
  refine lv_iconst (v := 4) hx hb dX5_settleWith_22 (by decide) ?_
  refine lv_icmp_ge (tgt := 48) hx hb dX5_settleWith_23 (by decide) (fun cd => ?_) (fun cd => ?_)
  · replace h := k_t cd h
    clear cd
    exact hk48 s_v s_d h H locs ls hZ (lv_sub hl [0] rfl)
  · replace h := k_f cd h
    clear cd
    refine lv_aload_n hx hb dX5_settleWith_26 rfl (lv_at hl 1 rfl) ?_
    refine lv_iload_n hx hb dX5_settleWith_27 rfl (lv_at hl 2 rfl) ?_
    refine k_iald hX hZ.1 15 rfl h dX5_settleWith_28 (fun v4 h => ?_)
    refine lv_iconst (v := -1) hx hb dX5_settleWith_29 (by decide) ?_
    refine lv_icmp_eq (tgt := 42) hx hb dX5_settleWith_30 (by decide) (fun cd => ?_) (fun cd => ?_)
    · replace h := k_t cd h
      clear cd
      refine lv_iinc (v := (x2 + (1 : Int32))) (lv' := [(2, .int (x2 + (1 : Int32))), (0, .ref (a_v 0)), (1, .ref q1)]) hx hb dX5_settleWith_42 hl (k := 2) rfl rfl (by decide) rfl (fun ls hl => ?_)
      refine lv_goto (tgt := 21) hx hb dX5_settleWith_45 (by decide) ?_
      exact hrec21 ((x2 + (1 : Int32)), s_v, s_d) h H locs ls hZ (lv_sub hl [1, 2, 0] rfl)
    · replace h := k_f cd h
      clear cd
      refine lv_aload_n hx hb dX5_settleWith_33 rfl (lv_at hl 0 rfl) ?_
      refine k_get hX hZ.1 0 5 rfl rfl iw_X5 3 rfl (wm_430) (v := .ref (a_v 2)) rfl dX5_settleWith_34 ?_
      refine lv_iload_n hx hb dX5_settleWith_37 rfl (lv_at hl 2 rfl) ?_
      refine lv_aload_n hx hb dX5_settleWith_38 rfl (lv_at hl 1 rfl) ?_
      refine lv_iload_n hx hb dX5_settleWith_39 rfl (lv_at hl 2 rfl) ?_
      refine k_iald hX hZ.1 15 rfl h dX5_settleWith_40 (fun v5 h => ?_)
      refine k_iast (wf := (fun o => wd_X5 aC a_v (a_n 0) (a_d 0) o ++ (wd_X4 aC a_d s_d ++ (wd_X1 aC a_n s_n ++ [(q1, .inl (aC 0, z1, .inl f1))])))) (o := s_v) hX hZ 2 3 rfl (fun _ => rfl) h dX5_settleWith_41 (fun o6 H locs hZ h => ?_)
      refine lv_iinc (v := (x2 + (1 : Int32))) (lv' := [(2, .int (x2 + (1 : Int32))), (0, .ref (a_v 0)), (1, .ref q1)]) hx hb dX5_settleWith_42 hl (k := 2) rfl rfl (by decide) rfl (fun ls hl => ?_)
      refine lv_goto (tgt := 21) hx hb dX5_settleWith_45 (by decide) ?_
      exact hrec21 ((x2 + (1 : Int32)), o6, s_d) h H locs ls hZ (lv_sub hl [1, 2, 0] rfl)
set_option maxHeartbeats 4000000 in
set_option maxRecDepth 100000 in
theorem t_X5_settleWith_J48 {p : Program} {l : Launch} {e : Env} {s : State} {m : MethodId} {args : Array Value} {below : List Frame} {meth : Method} {c : Code} {D : va_G} {aC : Nat → ClassId} {A : Nat → Prop} {a_v a_d a_n : Nat → Nat} {q1 z1 : Nat} {f1 : Nat → Int32} {out : Ob_T × Ob_T} {s_n : Ob_T} (hX : K_X p s m args meth c cX5_settleWith 3 WL_ RX5 D aC A) (hr : meth.sig.returnType = none) (s_v : Ob_T) (s_d : Ob_T) (h : f_X5_settleWith_J48 s_v s_d s_n f1 z1 = some out) (H : Heap) (locs : List Loc) (ls : Array Slot) (hZ : K_S D A s (wd_X5 aC a_v (a_n 0) (a_d 0) s_v ++ (wd_X4 aC a_d s_d ++ (wd_X1 aC a_n s_n ++ [(q1, .inl (aC 0, z1, .inl f1))]))) H locs) (hl : lv_has ls 3 [(0, .ref (a_v 0))]) : W p l e (R_m 3 100) s m args below meth c H locs 0 0 (MQ below (Q_W (none) D A (wd_X5 aC a_v (a_n 0) (a_d 0) out.1 ++ (wd_X4 aC a_d out.2 ++ (wd_X1 aC a_n s_n ++ [(q1, .inl (aC 0, z1, .inl f1))])))) args s 0 0 A) (F0 m 48 ls []) := by
  obtain ⟨hx, hb, hml, hown, hts, hK, hA, hlk⟩ := id hX
  unfold f_X5_settleWith_J48 at h
  refine lv_aload_n hx hb dX5_settleWith_48 rfl (lv_at hl 0 rfl) ?_
  obtain ⟨u7, hu, h⟩ := k_bd h
  refine k_vW (As := []) (rest := []) (wc := wd_X5 aC a_v (a_n 0) (a_d 0) s_v ++ (wd_X4 aC a_d s_d ++ wd_X1 aC a_n s_n)) (v := none) (st1 := []) (w' := wd_X5 aC a_v (a_n 0) (a_d 0) u7.1 ++ (wd_X4 aC a_d u7.2 ++ (wd_X1 aC a_n s_n ++ [(q1, .inl (aC 0, z1, .inl f1))]))) hX hl.1 hZ (c_X5_settle (a_v := a_v) (a_d := a_d) (a_n := a_n) s_v s_d s_n hu) (gv_ wm_543 wm_545 wm_546 wm_432 wm_544) rfl hd_X5_settle ⟨rfl, rfl⟩ 5 0 rfl rfl [0, 1, 2, 3, 4, 5, 6, 7, 8, 9, 10, 11, 12, 13, 14] rfl rfl rfl rfl rfl dX5_settleWith_49 rfl ⟨rfl, rfl⟩ rfl rfl rfl (fun H locs hZ => ?_)
  clear hu
  cases h
  exact k_vretW hX hr hZ dX5_settleWith_52
set_option maxHeartbeats 4000000 in
set_option maxRecDepth 100000 in
theorem c_X5_settleWith {l : Launch} {D : va_G} {aC : Nat → ClassId} {a_v : Nat → Nat} {a_d : Nat → Nat} {a_n : Nat → Nat} (s_v : Ob_T) (s_d : Ob_T) (s_n : Ob_T) {q1 z1 : Nat} {f1 : Nat → Int32} {out : Ob_T × Ob_T} (h : f_X5_settleWith s_v s_d s_n f1 z1 = some out) : M_W l yX5_settleWith wlX5_settleWith 3 100 D aC [.ref (a_v 0), .ref q1] (wd_X5 aC a_v (a_n 0) (a_d 0) s_v ++ (wd_X4 aC a_d s_d ++ (wd_X1 aC a_n s_n ++ [(q1, .inl (aC 0, z1, .inl f1))]))) (none) (wd_X5 aC a_v (a_n 0) (a_d 0) out.1 ++ (wd_X4 aC a_d out.2 ++ (wd_X1 aC a_n s_n ++ [(q1, .inl (aC 0, z1, .inl f1))]))) := by
  refine k_entW (cc := cX5_settleWith) (ret := none) (maxL := 3) (own := RX5) (by decide) rfl rfl rfl ?_
  intro p e s m below meth c A ls hX hr hZ hl
  have hl : lv_has ls 3 [(0, .ref (a_v 0)), (1, .ref q1)] := hl
  generalize ([.ref (a_v 0), .ref q1] : List Value).toArray = args at hX ⊢
  obtain ⟨hx, hb, hml, hown, hts, hK, hA, hlk⟩ := id hX
  unfold f_X5_settleWith at h
  generalize s.heap = H at hZ ⊢
  generalize ([] : List Loc) = locs at hZ ⊢
  refine lv_aload_n hx hb dX5_settleWith_0 rfl (lv_at hl 0 rfl) ?_
  obtain ⟨u1, hu, h⟩ := k_bd h
  refine k_vW (As := []) (rest := []) (wc := wd_X5 aC a_v (a_n 0) (a_d 0) s_v) (v := none) (st1 := []) (w' := wd_X5 aC a_v (a_n 0) (a_d 0) u1 ++ (wd_X4 aC a_d s_d ++ (wd_X1 aC a_n s_n ++ [(q1, .inl (aC 0, z1, .inl f1))]))) hX hl.1 hZ (c_X5_clearFail (a_v := a_v) (a_n := a_n) (a_d := a_d) s_v hu) (gv_ wm_490 wm_492 wm_493 wm_432 wm_491) rfl hd_X5_clearFail ⟨rfl, rfl⟩ 5 0 rfl rfl [0, 1, 2, 3, 4] rfl rfl rfl rfl rfl dX5_settleWith_1 rfl ⟨rfl, rfl⟩ rfl rfl rfl (fun H locs hZ => ?_)
  clear hu
  refine lv_aload_n hx hb dX5_settleWith_4 rfl (lv_at hl 0 rfl) ?_
  refine k_get hX hZ.1 0 5 rfl rfl iw_X5 4 rfl (wm_488) (v := .ref (a_v 3)) rfl dX5_settleWith_5 ?_
  refine lv_iconst (v := 0) hx hb dX5_settleWith_8 (by decide) ?_
  refine lv_aload_n hx hb dX5_settleWith_9 rfl (lv_at hl 0 rfl) ?_
  refine k_get hX hZ.1 0 5 rfl rfl iw_X5 3 rfl (wm_430) (v := .ref (a_v 2)) rfl dX5_settleWith_10 ?_
  refine lv_iconst (v := 0) hx hb dX5_settleWith_13 (by decide) ?_
  refine lv_bipush (v := 14) hx hb dX5_settleWith_14 (by decide) ?_
  refine k_copy (wf := (fun o => wd_X5 aC a_v (a_n 0) (a_d 0) o ++ (wd_X4 aC a_d s_d ++ (wd_X1 aC a_n s_n ++ [(q1, .inl (aC 0, z1, .inl f1))])))) (o := u1) hX hl.1 hZ 3 2 3 rfl rfl (fun _ => rfl) (hts _ wm_489) (hts _ wm_308) (hts _ wm_309) (hts _ wm_310) rfl rfl h dX5_settleWith_16 (fun o3 H locs hZ h => ?_)
  refine lv_iconst (v := 0) hx hb dX5_settleWith_19 (by decide) ?_
  refine lv_istore_n (lv' := [(2, .int (0 : Int32)), (0, .ref (a_v 0)), (1, .ref q1)]) hx hb dX5_settleWith_20 rfl hl (by decide) rfl (fun ls hl => ?_)
  exact Lp_ok (body := (fun (rec : (Int32 × Ob_T × Ob_T) → Option (Ob_T × Ob_T)) x => f_X5_settleWith_L21 (fun t_v t_d => f_X5_settleWith_J48 t_v t_d s_n f1 z1) rec x.1 x.2.1 x.2.2 s_n f1 z1)) (out := out) (fun x => ∀ (H : Heap) (locs : List Loc) (ls : Array Slot), K_S D A s (wd_X5 aC a_v (a_n 0) (a_d 0) x.2.1 ++ (wd_X4 aC a_d x.2.2 ++ (wd_X1 aC a_n s_n ++ [(q1, .inl (aC 0, z1, .inl f1))]))) H locs → lv_has ls 3 [(0, .ref (a_v 0)), (1, .ref q1), (2, .int x.1)] → W p l e (R_m 3 100) s m args below meth c H locs 0 0 (MQ below (Q_W (none) D A (wd_X5 aC a_v (a_n 0) (a_d 0) out.1 ++ (wd_X4 aC a_d out.2 ++ (wd_X1 aC a_n s_n ++ [(q1, .inl (aC 0, z1, .inl f1))])))) args s 0 0 A) (F0 m 21 ls [])) (fun rec hrec x h H locs ls hZ hl => t_X5_settleWith_L21 hX hr (fun t_v t_d h H locs ls hZ hl => t_X5_settleWith_J48 hX hr t_v t_d h H locs ls hZ (lv_sub hl [0] rfl)) hrec x.1 x.2.1 x.2.2 h H locs ls hZ hl) FU_ ((0 : Int32), o3, s_d) h H locs ls hZ (lv_sub hl [1, 2, 0] rfl)
def wlX5_lettersInEquations : List Cond := .code yX5_lettersInEquations cX5_lettersInEquations 3 (some .int) :: WL_
theorem hd_X5_lettersInEquations : yX5_lettersInEquations.cls = RX5 ∧ yX5_lettersInEquations.cls ≠ "java/lang/invoke/MethodHandle" ∧ yX5_lettersInEquations.cls ≠ "java/lang/invoke/VarHandle" ∧ (parseMethodDescriptor yX5_lettersInEquations.desc).map (fun d => d.parameters.length) = some 0 := by decide +kernel
theorem dX5_lettersInEquations_0 : decode cX5_lettersInEquations 0 = .ok (.iconst 0, 1) := by decide +kernel
theorem dX5_lettersInEquations_1 : decode cX5_lettersInEquations 1 = .ok (.istore_n 1, 1) := by decide +kernel
theorem dX5_lettersInEquations_2 : decode cX5_lettersInEquations 2 = .ok (.iconst 0, 1) := by decide +kernel
theorem dX5_lettersInEquations_3 : decode cX5_lettersInEquations 3 = .ok (.istore_n 2, 1) := by decide +kernel
theorem dX5_lettersInEquations_4 : decode cX5_lettersInEquations 4 = .ok (.iload_n 2, 1) := by decide +kernel
theorem dX5_lettersInEquations_5 : decode cX5_lettersInEquations 5 = .ok (.aload_n 0, 1) := by decide +kernel
theorem dX5_lettersInEquations_6 : decode cX5_lettersInEquations 6 = .ok (.getfield 31, 3) := by decide +kernel
theorem dX5_lettersInEquations_9 : decode cX5_lettersInEquations 9 = .ok (.invokevirtual 46, 3) := by decide +kernel
theorem dX5_lettersInEquations_12 : decode cX5_lettersInEquations 12 = .ok (.if_icmp .ge 27, 3) := by decide +kernel
theorem dX5_lettersInEquations_15 : decode cX5_lettersInEquations 15 = .ok (.aload_n 0, 1) := by decide +kernel
theorem dX5_lettersInEquations_16 : decode cX5_lettersInEquations 16 = .ok (.iload_n 2, 1) := by decide +kernel
theorem dX5_lettersInEquations_17 : decode cX5_lettersInEquations 17 = .ok (.invokevirtual 91, 3) := by decide +kernel
theorem dX5_lettersInEquations_20 : decode cX5_lettersInEquations 20 = .ok (.ifCond .eq 13, 3) := by decide +kernel
theorem dX5_lettersInEquations_23 : decode cX5_lettersInEquations 23 = .ok (.iload_n 1, 1) := by decide +kernel
theorem dX5_lettersInEquations_24 : decode cX5_lettersInEquations 24 = .ok (.aload_n 0, 1) := by decide +kernel
theorem dX5_lettersInEquations_25 : decode cX5_lettersInEquations 25 = .ok (.getfield 12, 3) := by decide +kernel
theorem dX5_lettersInEquations_28 : decode cX5_lettersInEquations 28 = .ok (.invokevirtual 94, 3) := by decide +kernel
theorem dX5_lettersInEquations_31 : decode cX5_lettersInEquations 31 = .ok (.ior, 1) := by decide +kernel
theorem dX5_lettersInEquations_32 : decode cX5_lettersInEquations 32 = .ok (.istore_n 1, 1) := by decide +kernel
theorem dX5_lettersInEquations_33 : decode cX5_lettersInEquations 33 = .ok (.iinc 2 1, 3) := by decide +kernel
theorem dX5_lettersInEquations_36 : decode cX5_lettersInEquations 36 = .ok (.goto (-32), 3) := by decide +kernel
theorem dX5_lettersInEquations_39 : decode cX5_lettersInEquations 39 = .ok (.iload_n 1, 1) := by decide +kernel
theorem dX5_lettersInEquations_40 : decode cX5_lettersInEquations 40 = .ok (.ireturn, 1) := by decide +kernel
set_option maxHeartbeats 4000000 in
set_option maxRecDepth 100000 in
theorem t_X5_lettersInEquations_L4 {p : Program} {l : Launch} {e : Env} {s : State} {m : MethodId} {args : Array Value} {below : List Frame} {meth : Method} {c : Code} {D : va_G} {aC : Nat → ClassId} {A : Nat → Prop} {a_v a_d a_n : Nat → Nat} {out : Int32 × Ob_T} {s_v : Ob_T} {s_n : Ob_T} {rec4 : (Int32 × Int32 × Ob_T) → Option (Int32 × Ob_T)} (hX : K_X p s m args meth c cX5_lettersInEquations 3 WL_ RX5 D aC A) (hr : meth.sig.returnType = (some .int)) (hrec4 : ∀ x : Int32 × Int32 × Ob_T, rec4 x = some out → ∀ (H : Heap) (locs : List Loc) (ls : Array Slot), K_S D A s (wd_X5 aC a_v (a_n 0) (a_d 0) s_v ++ (wd_X4 aC a_d x.2.2 ++ wd_X1 aC a_n s_n)) H locs → lv_has ls 3 [(0, .ref (a_v 0)), (1, .int x.1), (2, .int x.2.1)] → W p l e (R_m 2 49) s m args below meth c H locs 0 0 (MQ below (Q_W (some (.int out.1)) D A (wd_X5 aC a_v (a_n 0) (a_d 0) s_v ++ (wd_X4 aC a_d out.2 ++ wd_X1 aC a_n s_n))) args s 0 0 A) (F0 m 4 ls [])) (x1 : Int32) (x2 : Int32) (s_d : Ob_T) (h : f_X5_lettersInEquations_L4 rec4 x1 x2 s_d s_v s_n = some out) (H : Heap) (locs : List Loc) (ls : Array Slot) (hZ : K_S D A s (wd_X5 aC a_v (a_n 0) (a_d 0) s_v ++ (wd_X4 aC a_d s_d ++ wd_X1 aC a_n s_n)) H locs) (hl : lv_has ls 3 [(0, .ref (a_v 0)), (1, .int x1), (2, .int x2)]) : W p l e (R_m 2 49) s m args below meth c H locs 0 0 (MQ below (Q_W (some (.int out.1)) D A (wd_X5 aC a_v (a_n 0) (a_d 0) s_v ++ (wd_X4 aC a_d out.2 ++ wd_X1 aC a_n s_n))) args s 0 0 A) (F0 m 4 ls []) := by
  obtain ⟨hx, hb, hml, hown, hts, hK, hA, hlk⟩ := id hX
  unfold f_X5_lettersInEquations_L4 at h
  refine lv_iload_n hx hb dX5_lettersInEquations_4 rfl (lv_at hl 2 rfl) ?_
  refine lv_aload_n hx hb dX5_lettersInEquations_5 rfl (lv_at hl 0 rfl) ?_
  refine k_get hX hZ.1 0 5 rfl rfl iw_X5 0 rfl (wm_448) (v := .ref (a_n 0)) rfl dX5_lettersInEquations_6 ?_
  obtain ⟨u1, hu, h⟩ := k_bd h
  refine k_vR (As := []) (rest := [.int x2]) (wc := wd_X1 aC a_n s_n) (v := some (.int u1)) (st1 := [.int u1, .int x2]) hX hl.1 hZ (c_X1_size (a_n := a_n) s_n hu) (gv_ wm_484 wm_486 wm_487 wm_321 wm_485) rfl hd_X1_size ⟨rfl, rfl⟩ 1 0 rfl rfl [8, 9, 10, 11, 12, 13, 14] rfl rfl rfl rfl rfl dX5_lettersInEquations_9 rfl ⟨rfl, rfl⟩ (fun locs hZ => ?_)
  clear hu
  refine lv_icmp_ge (tgt := 39) hx hb dX5_lettersInEquations_12 (by decide) (fun cd => ?_) (fun cd => ?_)
  · replace h := k_t cd h
    clear cd
    refine lv_iload_n hx hb dX5_lettersInEquations_39 rfl (lv_at hl 1 rfl) ?_
    cases h
    exact k_iretW hX hr hZ dX5_lettersInEquations_40
  · replace h := k_f cd h
    clear cd
    refine lv_aload_n hx hb dX5_lettersInEquations_15 rfl (lv_at hl 0 rfl) ?_
    refine lv_iload_n hx hb dX5_lettersInEquations_16 rfl (lv_at hl 2 rfl) ?_
    obtain ⟨u2, hu, h⟩ := k_bd h
    refine k_vWs (As := [.int x2]) (rest := []) (v := some (.int u2.1)) (st1 := [.int u2.1]) hX hl.1 hZ (c_X5_gatherSides (a_v := a_v) (a_d := a_d) (a_n := a_n) s_v s_d s_n x2 hu) (gv_ wm_539 wm_541 wm_542 wm_432 wm_540) rfl hd_X5_gatherSides ⟨rfl, rfl⟩ 5 0 rfl rfl rfl rfl rfl dX5_lettersInEquations_17 rfl ⟨rfl, rfl⟩ rfl (fun H locs hZ => ?_)
    clear hu
    refine lv_if_eq (tgt := 33) hx hb dX5_lettersInEquations_20 (by decide) (fun cd => ?_) (fun cd => ?_)
    · replace h := k_t cd h
      clear cd
      refine lv_iinc (v := (x2 + (1 : Int32))) (lv' := [(2, .int (x2 + (1 : Int32))), (0, .ref (a_v 0)), (1, .int x1)]) hx hb dX5_lettersInEquations_33 hl (k := 2) rfl rfl (by decide) rfl (fun ls hl => ?_)
      refine lv_goto (tgt := 4) hx hb dX5_lettersInEquations_36 (by decide) ?_
      exact hrec4 (x1, (x2 + (1 : Int32)), u2.2) h H locs ls hZ (lv_sub hl [1, 2, 0] rfl)
    · replace h := k_f cd h
      clear cd
      refine lv_iload_n hx hb dX5_lettersInEquations_23 rfl (lv_at hl 1 rfl) ?_
      refine lv_aload_n hx hb dX5_lettersInEquations_24 rfl (lv_at hl 0 rfl) ?_
      refine k_get hX hZ.1 0 5 rfl rfl iw_X5 1 rfl (wm_494) (v := .ref (a_d 0)) rfl dX5_lettersInEquations_25 ?_
      obtain ⟨u3, hu, h⟩ := k_bd h
      refine k_vR (As := []) (rest := [.int x1]) (wc := wd_X4 aC a_d u2.2) (v := some (.int u3)) (st1 := [.int u3, .int x1]) hX hl.1 hZ (c_X4_letterBits (a_d := a_d) u2.2 hu) (gv_ wm_552 wm_554 wm_555 wm_496 wm_553) rfl hd_X4_letterBits ⟨rfl, rfl⟩ 4 0 rfl rfl [5, 6, 7] rfl rfl rfl rfl rfl dX5_lettersInEquations_28 rfl ⟨rfl, rfl⟩ (fun locs hZ => ?_)
      clear hu
      refine lv_ior hx hb dX5_lettersInEquations_31 ?_
      refine lv_istore_n (lv' := [(1, .int (x1 ||| u3)), (0, .ref (a_v 0)), (2, .int x2)]) hx hb dX5_lettersInEquations_32 rfl hl (by decide) rfl (fun ls hl => ?_)
      refine lv_iinc (v := (x2 + (1 : Int32))) (lv' := [(2, .int (x2 + (1 : Int32))), (1, .int (x1 ||| u3)), (0, .ref (a_v 0))]) hx hb dX5_lettersInEquations_33 hl (k := 2) rfl rfl (by decide) rfl (fun ls hl => ?_)
      refine lv_goto (tgt := 4) hx hb dX5_lettersInEquations_36 (by decide) ?_
      exact hrec4 ((x1 ||| u3), (x2 + (1 : Int32)), u2.2) h H locs ls hZ (lv_sub hl [2, 1, 0] rfl)
set_option maxHeartbeats 4000000 in
set_option maxRecDepth 100000 in
theorem c_X5_lettersInEquations {l : Launch} {D : va_G} {aC : Nat → ClassId} {a_v : Nat → Nat} {a_d : Nat → Nat} {a_n : Nat → Nat} (s_v : Ob_T) (s_d : Ob_T) (s_n : Ob_T) {out : Int32 × Ob_T} (h : f_X5_lettersInEquations s_v s_d s_n = some out) : M_W l yX5_lettersInEquations wlX5_lettersInEquations 2 49 D aC [.ref (a_v 0)] (wd_X5 aC a_v (a_n 0) (a_d 0) s_v ++ (wd_X4 aC a_d s_d ++ wd_X1 aC a_n s_n)) (some (.int out.1)) (wd_X5 aC a_v (a_n 0) (a_d 0) s_v ++ (wd_X4 aC a_d out.2 ++ wd_X1 aC a_n s_n)) := by
  refine k_entW (cc := cX5_lettersInEquations) (ret := (some .int)) (maxL := 3) (own := RX5) (by decide) rfl rfl rfl ?_
  intro p e s m below meth c A ls hX hr hZ hl
  have hl : lv_has ls 3 [(0, .ref (a_v 0))] := hl
  generalize ([.ref (a_v 0)] : List Value).toArray = args at hX ⊢
  obtain ⟨hx, hb, hml, hown, hts, hK, hA, hlk⟩ := id hX
  unfold f_X5_lettersInEquations at h
  generalize s.heap = H at hZ ⊢
  generalize ([] : List Loc) = locs at hZ ⊢
  refine lv_iconst (v := 0) hx hb dX5_lettersInEquations_0 (by decide) ?_
  refine lv_istore_n (lv' := [(1, .int (0 : Int32)), (0, .ref (a_v 0))]) hx hb dX5_lettersInEquations_1 rfl hl (by decide) rfl (fun ls hl => ?_)
  refine lv_iconst (v := 0) hx hb dX5_lettersInEquations_2 (by decide) ?_
  refine lv_istore_n (lv' := [(2, .int (0 : Int32)), (1, .int (0 : Int32)), (0, .ref (a_v 0))]) hx hb dX5_lettersInEquations_3 rfl hl (by decide) rfl (fun ls hl => ?_)
  exact Lp_ok (body := (fun (rec : (Int32 × Int32 × Ob_T) → Option (Int32 × Ob_T)) x => f_X5_lettersInEquations_L4 rec x.1 x.2.1 x.2.2 s_v s_n)) (out := out) (fun x => ∀ (H : Heap) (locs : List Loc) (ls : Array Slot), K_S D A s (wd_X5 aC a_v (a_n 0) (a_d 0) s_v ++ (wd_X4 aC a_d x.2.2 ++ wd_X1 aC a_n s_n)) H locs → lv_has ls 3 [(0, .ref (a_v 0)), (1, .int x.1), (2, .int x.2.1)] → W p l e (R_m 2 49) s m args below meth c H locs 0 0 (MQ below (Q_W (some (.int out.1)) D A (wd_X5 aC a_v (a_n 0) (a_d 0) s_v ++ (wd_X4 aC a_d out.2 ++ wd_X1 aC a_n s_n))) args s 0 0 A) (F0 m 4 ls [])) (fun rec hrec x h H locs ls hZ hl => t_X5_lettersInEquations_L4 hX hr hrec x.1 x.2.1 x.2.2 h H locs ls hZ hl) FU_ ((0 : Int32), (0 : Int32), s_d) h H locs ls hZ (lv_sub hl [2, 1, 0] rfl)
