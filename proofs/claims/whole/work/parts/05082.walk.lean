def wlX5_solve : List Cond := .code yX5_solve cX5_solve 2 none :: WL_
theorem hd_X5_solve : yX5_solve.cls = RX5 ∧ yX5_solve.cls ≠ "java/lang/invoke/MethodHandle" ∧ yX5_solve.cls ≠ "java/lang/invoke/VarHandle" ∧ (parseMethodDescriptor yX5_solve.desc).map (fun d => d.parameters.length) = some 1 := by decide +kernel
theorem dX5_solve_0 : decode cX5_solve 0 = .ok (.aload_n 0, 1) := by decide +kernel
theorem dX5_solve_1 : decode cX5_solve 1 = .ok (.aload_n 1, 1) := by decide +kernel
theorem dX5_solve_2 : decode cX5_solve 2 = .ok (.invokevirtual 35, 3) := by decide +kernel
theorem dX5_solve_5 : decode cX5_solve 5 = .ok (.aload_n 0, 1) := by decide +kernel
theorem dX5_solve_6 : decode cX5_solve 6 = .ok (.invokevirtual 39, 3) := by decide +kernel
theorem dX5_solve_9 : decode cX5_solve 9 = .ok (.return_, 1) := by decide +kernel
set_option maxHeartbeats 4000000 in
set_option maxRecDepth 100000 in
theorem c_X5_solve {l : Launch} {D : va_G} {aC : Nat → ClassId} {a_v : Nat → Nat} {a_d : Nat → Nat} {a_n : Nat → Nat} (s_v : Ob_T) (s_d : Ob_T) (s_n : Ob_T) {q1 z1 : Nat} {f1 : Nat → Int32} {out : Ob_T × Ob_T} (h : f_X5_solve s_v s_d s_n f1 z1 = some out) : M_W l yX5_solve wlX5_solve 4 123 D aC [.ref (a_v 0), .ref q1] (wd_X5 aC a_v (a_n 0) (a_d 0) s_v ++ (wd_X4 aC a_d s_d ++ (wd_X1 aC a_n s_n ++ [(q1, .inl (aC 0, z1, .inl f1))]))) (none) (wd_X5 aC a_v (a_n 0) (a_d 0) out.1 ++ (wd_X4 aC a_d out.2 ++ (wd_X1 aC a_n s_n ++ [(q1, .inl (aC 0, z1, .inl f1))]))) := by
  refine k_entW (cc := cX5_solve) (ret := none) (maxL := 2) (own := RX5) (by decide) rfl rfl rfl ?_
  intro p e s m below meth c A ls hX hr hZ hl
  have hl : lv_has ls 2 [(0, .ref (a_v 0)), (1, .ref q1)] := hl
  generalize ([.ref (a_v 0), .ref q1] : List Value).toArray = args at hX ⊢
  obtain ⟨hx, hb, hml, hown, hts, hK, hA, hlk⟩ := id hX
  unfold f_X5_solve at h
  generalize s.heap = H at hZ ⊢
  generalize ([] : List Loc) = locs at hZ ⊢
  refine lv_aload_n hx hb dX5_solve_0 rfl (lv_at hl 0 rfl) ?_
  refine lv_aload_n hx hb dX5_solve_1 rfl (lv_at hl 1 rfl) ?_
  obtain ⟨u1, hu, h⟩ := k_bd h
  refine k_vW (As := [.ref q1]) (rest := []) (wc := wd_X5 aC a_v (a_n 0) (a_d 0) s_v ++ (wd_X1 aC a_n s_n ++ [(q1, .inl (aC 0, z1, .inl (f1)))])) (v := none) (st1 := []) (w' := wd_X5 aC a_v (a_n 0) (a_d 0) u1 ++ (wd_X4 aC a_d s_d ++ (wd_X1 aC a_n s_n ++ [(q1, .inl (aC 0, z1, .inl f1))]))) hX hl.1 hZ (c_X5_meetAll (a_v := a_v) (a_n := a_n) (a_d := a_d) (q1 := q1) (f1 := f1) (z1 := z1) s_v s_n hu) (gv_ wm_547 wm_549 wm_550 wm_432 wm_548) rfl hd_X5_meetAll ⟨rfl, rfl⟩ 5 0 rfl rfl [0, 1, 2, 3, 4, 8, 9, 10, 11, 12, 13, 14, 15] rfl rfl rfl rfl rfl dX5_solve_2 rfl ⟨rfl, rfl⟩ rfl rfl rfl (fun H locs hZ => ?_)
  clear hu
  refine lv_aload_n hx hb dX5_solve_5 rfl (lv_at hl 0 rfl) ?_
  obtain ⟨u2, hu, h⟩ := k_bd h
  refine k_vW (As := []) (rest := []) (wc := wd_X5 aC a_v (a_n 0) (a_d 0) u1 ++ (wd_X4 aC a_d s_d ++ wd_X1 aC a_n s_n)) (v := none) (st1 := []) (w' := wd_X5 aC a_v (a_n 0) (a_d 0) u2.1 ++ (wd_X4 aC a_d u2.2 ++ (wd_X1 aC a_n s_n ++ [(q1, .inl (aC 0, z1, .inl f1))]))) hX hl.1 hZ (c_X5_settle (a_v := a_v) (a_d := a_d) (a_n := a_n) u1 s_d s_n hu) (gv_ wm_543 wm_545 wm_546 wm_432 wm_544) rfl hd_X5_settle ⟨rfl, rfl⟩ 5 0 rfl rfl [0, 1, 2, 3, 4, 5, 6, 7, 8, 9, 10, 11, 12, 13, 14] rfl rfl rfl rfl rfl dX5_solve_6 rfl ⟨rfl, rfl⟩ rfl rfl rfl (fun H locs hZ => ?_)
  clear hu
  cases h
  exact k_vretW hX hr hZ dX5_solve_9
def wlX5_hasTooGreat : List Cond := .code yX5_hasTooGreat cX5_hasTooGreat 1 (some .boolean) :: WL_
theorem hd_X5_hasTooGreat : yX5_hasTooGreat.cls = RX5 ∧ yX5_hasTooGreat.cls ≠ "java/lang/invoke/MethodHandle" ∧ yX5_hasTooGreat.cls ≠ "java/lang/invoke/VarHandle" ∧ (parseMethodDescriptor yX5_hasTooGreat.desc).map (fun d => d.parameters.length) = some 0 := by decide +kernel
theorem dX5_hasTooGreat_0 : decode cX5_hasTooGreat 0 = .ok (.aload_n 0, 1) := by decide +kernel
theorem dX5_hasTooGreat_1 : decode cX5_hasTooGreat 1 = .ok (.getfield 42, 3) := by decide +kernel
theorem dX5_hasTooGreat_4 : decode cX5_hasTooGreat 4 = .ok (.ireturn, 1) := by decide +kernel
set_option maxHeartbeats 4000000 in
set_option maxRecDepth 100000 in
theorem c_X5_hasTooGreat {l : Launch} {D : va_G} {aC : Nat → ClassId} {a_v : Nat → Nat} {a_n : Nat → Nat} {a_d : Nat → Nat} (s_v : Ob_T) {out : Int32} (h : f_X5_hasTooGreat s_v = some out) : M_R l yX5_hasTooGreat wlX5_hasTooGreat 0 0 D aC [.ref (a_v 0)] (wd_X5 aC a_v (a_n 0) (a_d 0) s_v) (some (.int out)) := by
  refine k_entR (cc := cX5_hasTooGreat) (ret := (some .boolean)) (maxL := 1) (own := RX5) (by decide) rfl rfl rfl ?_
  intro p e s m below meth c A ls hX hr hZ hl
  have hl : lv_has ls 1 [(0, .ref (a_v 0))] := hl
  generalize ([.ref (a_v 0)] : List Value).toArray = args at hX ⊢
  obtain ⟨hx, hb, hml, hown, hts, hK, hA, hlk⟩ := id hX
  unfold f_X5_hasTooGreat at h
  have hF : ∀ q ∈ ([] : List Loc), False := fun _ h => nomatch h
  generalize ([] : List Loc) = locs at hF ⊢
  refine lv_aload_n hx hb dX5_hasTooGreat_0 rfl (lv_at hl 0 rfl) ?_
  refine k_get hX hZ.1 0 5 rfl rfl iw_X5 6 rfl (wm_428) (v := .int (o_F s_v 6)) rfl dX5_hasTooGreat_1 ?_
  obtain ⟨b1, hb0, h⟩ := k_bd h
  obtain ⟨hb1, hb2, hb3⟩ := k_zb hb0
  clear hb0
  cases h
  exact k_zretR hX hr hb2 hF dX5_hasTooGreat_4
def wlX5_failPart : List Cond := .code yX5_failPart cX5_failPart 2 (some .int) :: WL_
theorem hd_X5_failPart : yX5_failPart.cls = RX5 ∧ yX5_failPart.cls ≠ "java/lang/invoke/MethodHandle" ∧ yX5_failPart.cls ≠ "java/lang/invoke/VarHandle" ∧ (parseMethodDescriptor yX5_failPart.desc).map (fun d => d.parameters.length) = some 1 := by decide +kernel
theorem dX5_failPart_0 : decode cX5_failPart 0 = .ok (.aload_n 0, 1) := by decide +kernel
theorem dX5_failPart_1 : decode cX5_failPart 1 = .ok (.getfield 28, 3) := by decide +kernel
theorem dX5_failPart_4 : decode cX5_failPart 4 = .ok (.iload_n 1, 1) := by decide +kernel
theorem dX5_failPart_5 : decode cX5_failPart 5 = .ok (.iaload, 1) := by decide +kernel
theorem dX5_failPart_6 : decode cX5_failPart 6 = .ok (.ireturn, 1) := by decide +kernel
set_option maxHeartbeats 4000000 in
set_option maxRecDepth 100000 in
theorem c_X5_failPart {l : Launch} {D : va_G} {aC : Nat → ClassId} {a_v : Nat → Nat} {a_n : Nat → Nat} {a_d : Nat → Nat} (s_v : Ob_T) (x1 : Int32) {out : Int32} (h : f_X5_failPart s_v x1 = some out) : M_R l yX5_failPart wlX5_failPart 0 0 D aC [.ref (a_v 0), .int x1] (wd_X5 aC a_v (a_n 0) (a_d 0) s_v) (some (.int out)) := by
  refine k_entR (cc := cX5_failPart) (ret := (some .int)) (maxL := 2) (own := RX5) (by decide) rfl rfl rfl ?_
  intro p e s m below meth c A ls hX hr hZ hl
  have hl : lv_has ls 2 [(0, .ref (a_v 0)), (1, .int x1)] := hl
  generalize ([.ref (a_v 0), .int x1] : List Value).toArray = args at hX ⊢
  obtain ⟨hx, hb, hml, hown, hts, hK, hA, hlk⟩ := id hX
  unfold f_X5_failPart at h
  have hF : ∀ q ∈ ([] : List Loc), False := fun _ h => nomatch h
  generalize ([] : List Loc) = locs at hF ⊢
  refine lv_aload_n hx hb dX5_failPart_0 rfl (lv_at hl 0 rfl) ?_
  refine k_get hX hZ.1 0 5 rfl rfl iw_X5 5 rfl (wm_427) (v := .ref (a_v 4)) rfl dX5_failPart_1 ?_
  refine lv_iload_n hx hb dX5_failPart_4 rfl (lv_at hl 1 rfl) ?_
  refine k_iald hX hZ.1 4 rfl h dX5_failPart_5 (fun v1 h => ?_)
  cases h
  exact k_iretR hX hr hF dX5_failPart_6
def wlX5_openLetters : List Cond := .code yX5_openLetters cX5_openLetters 5 (some .int) :: WL_
theorem hd_X5_openLetters : yX5_openLetters.cls = RX5 ∧ yX5_openLetters.cls ≠ "java/lang/invoke/MethodHandle" ∧ yX5_openLetters.cls ≠ "java/lang/invoke/VarHandle" ∧ (parseMethodDescriptor yX5_openLetters.desc).map (fun d => d.parameters.length) = some 0 := by decide +kernel
theorem dX5_openLetters_0 : decode cX5_openLetters 0 = .ok (.iconst 0, 1) := by decide +kernel
theorem dX5_openLetters_1 : decode cX5_openLetters 1 = .ok (.istore_n 1, 1) := by decide +kernel
theorem dX5_openLetters_2 : decode cX5_openLetters 2 = .ok (.iconst 0, 1) := by decide +kernel
theorem dX5_openLetters_3 : decode cX5_openLetters 3 = .ok (.istore_n 2, 1) := by decide +kernel
theorem dX5_openLetters_4 : decode cX5_openLetters 4 = .ok (.iload_n 2, 1) := by decide +kernel
theorem dX5_openLetters_5 : decode cX5_openLetters 5 = .ok (.aload_n 0, 1) := by decide +kernel
theorem dX5_openLetters_6 : decode cX5_openLetters 6 = .ok (.getfield 31, 3) := by decide +kernel
theorem dX5_openLetters_9 : decode cX5_openLetters 9 = .ok (.invokevirtual 46, 3) := by decide +kernel
theorem dX5_openLetters_12 : decode cX5_openLetters 12 = .ok (.if_icmp .ge 74, 3) := by decide +kernel
theorem dX5_openLetters_15 : decode cX5_openLetters 15 = .ok (.iconst 0, 1) := by decide +kernel
theorem dX5_openLetters_16 : decode cX5_openLetters 16 = .ok (.istore_n 3, 1) := by decide +kernel
theorem dX5_openLetters_17 : decode cX5_openLetters 17 = .ok (.aload_n 0, 1) := by decide +kernel
theorem dX5_openLetters_18 : decode cX5_openLetters 18 = .ok (.getfield 31, 3) := by decide +kernel
theorem dX5_openLetters_21 : decode cX5_openLetters 21 = .ok (.iload_n 2, 1) := by decide +kernel
theorem dX5_openLetters_22 : decode cX5_openLetters 22 = .ok (.invokevirtual 52, 3) := by decide +kernel
theorem dX5_openLetters_25 : decode cX5_openLetters 25 = .ok (.ifCond .eq 55, 3) := by decide +kernel
theorem dX5_openLetters_28 : decode cX5_openLetters 28 = .ok (.iload_n 3, 1) := by decide +kernel
theorem dX5_openLetters_29 : decode cX5_openLetters 29 = .ok (.aload_n 0, 1) := by decide +kernel
theorem dX5_openLetters_30 : decode cX5_openLetters 30 = .ok (.getfield 31, 3) := by decide +kernel
theorem dX5_openLetters_33 : decode cX5_openLetters 33 = .ok (.iload_n 2, 1) := by decide +kernel
theorem dX5_openLetters_34 : decode cX5_openLetters 34 = .ok (.invokevirtual 56, 3) := by decide +kernel
theorem dX5_openLetters_37 : decode cX5_openLetters 37 = .ok (.if_icmp .ge 43, 3) := by decide +kernel
theorem dX5_openLetters_40 : decode cX5_openLetters 40 = .ok (.aload_n 0, 1) := by decide +kernel
theorem dX5_openLetters_41 : decode cX5_openLetters 41 = .ok (.aload_n 0, 1) := by decide +kernel
theorem dX5_openLetters_42 : decode cX5_openLetters 42 = .ok (.getfield 31, 3) := by decide +kernel
theorem dX5_openLetters_45 : decode cX5_openLetters 45 = .ok (.iload_n 2, 1) := by decide +kernel
theorem dX5_openLetters_46 : decode cX5_openLetters 46 = .ok (.iload_n 3, 1) := by decide +kernel
theorem dX5_openLetters_47 : decode cX5_openLetters 47 = .ok (.invokevirtual 60, 3) := by decide +kernel
theorem dX5_openLetters_50 : decode cX5_openLetters 50 = .ok (.invokevirtual 64, 3) := by decide +kernel
theorem dX5_openLetters_53 : decode cX5_openLetters 53 = .ok (.istore 4, 2) := by decide +kernel
theorem dX5_openLetters_55 : decode cX5_openLetters 55 = .ok (.iload 4, 2) := by decide +kernel
theorem dX5_openLetters_57 : decode cX5_openLetters 57 = .ok (.sipush 20000, 3) := by decide +kernel
theorem dX5_openLetters_60 : decode cX5_openLetters 60 = .ok (.if_icmp .lt 14, 3) := by decide +kernel
theorem dX5_openLetters_63 : decode cX5_openLetters 63 = .ok (.iload_n 1, 1) := by decide +kernel
theorem dX5_openLetters_64 : decode cX5_openLetters 64 = .ok (.iconst 1, 1) := by decide +kernel
theorem dX5_openLetters_65 : decode cX5_openLetters 65 = .ok (.iload 4, 2) := by decide +kernel
theorem dX5_openLetters_67 : decode cX5_openLetters 67 = .ok (.sipush 20000, 3) := by decide +kernel
theorem dX5_openLetters_70 : decode cX5_openLetters 70 = .ok (.isub, 1) := by decide +kernel
theorem dX5_openLetters_71 : decode cX5_openLetters 71 = .ok (.ishl, 1) := by decide +kernel
theorem dX5_openLetters_72 : decode cX5_openLetters 72 = .ok (.ior, 1) := by decide +kernel
theorem dX5_openLetters_73 : decode cX5_openLetters 73 = .ok (.istore_n 1, 1) := by decide +kernel
theorem dX5_openLetters_74 : decode cX5_openLetters 74 = .ok (.iinc 3 1, 3) := by decide +kernel
theorem dX5_openLetters_77 : decode cX5_openLetters 77 = .ok (.goto (-60), 3) := by decide +kernel
theorem dX5_openLetters_80 : decode cX5_openLetters 80 = .ok (.iinc 2 1, 3) := by decide +kernel
theorem dX5_openLetters_83 : decode cX5_openLetters 83 = .ok (.goto (-79), 3) := by decide +kernel
theorem dX5_openLetters_86 : decode cX5_openLetters 86 = .ok (.iload_n 1, 1) := by decide +kernel
theorem dX5_openLetters_87 : decode cX5_openLetters 87 = .ok (.ireturn, 1) := by decide +kernel
set_option maxHeartbeats 4000000 in
set_option maxRecDepth 100000 in
theorem t_X5_openLetters_L17 {p : Program} {l : Launch} {e : Env} {s : State} {m : MethodId} {args : Array Value} {below : List Frame} {meth : Method} {c : Code} {D : va_G} {aC : Nat → ClassId} {A : Nat → Prop} {a_v a_n a_d : Nat → Nat} {out : Int32} {s_v : Ob_T} {s_n : Ob_T} {rec4 : (Int32 × Int32) → Option Int32} {rec17 : (Int32 × Int32 × Int32) → Option Int32} (hX : K_X p s m args meth c cX5_openLetters 5 WL_ RX5 D aC A) (hr : meth.sig.returnType = (some .int)) (hZ : va_P D vwCl (wd_X5 aC a_v (a_n 0) (a_d 0) s_v ++ wd_X1 aC a_n s_n) s.heap ∧ va_D (fun _ => True) (wd_X5 aC a_v (a_n 0) (a_d 0) s_v ++ wd_X1 aC a_n s_n)) (hrec4 : ∀ x : Int32 × Int32, rec4 x = some out → ∀ (locs : List Loc) (ls : Array Slot), (∀ q ∈ locs, False) → lv_has ls 5 [(0, .ref (a_v 0)), (1, .int x.1), (2, .int x.2)] → W p l e (R_m 1 22) s m args below meth c s.heap locs 0 0 (MQ below (Q_R (some (.int out))) args s 0 0 (fun _ => False)) (F0 m 4 ls [])) (hrec17 : ∀ x : Int32 × Int32 × Int32, rec17 x = some out → ∀ (locs : List Loc) (ls : Array Slot), (∀ q ∈ locs, False) → lv_has ls 5 [(0, .ref (a_v 0)), (1, .int x.1), (2, .int x.2.1), (3, .int x.2.2)] → W p l e (R_m 1 22) s m args below meth c s.heap locs 0 0 (MQ below (Q_R (some (.int out))) args s 0 0 (fun _ => False)) (F0 m 17 ls [])) (x1 : Int32) (x2 : Int32) (x3 : Int32) (h : f_X5_openLetters_L17 rec4 rec17 x1 x2 x3 s_v s_n = some out) (locs : List Loc) (ls : Array Slot) (hF : ∀ q ∈ locs, False) (hl : lv_has ls 5 [(0, .ref (a_v 0)), (1, .int x1), (2, .int x2), (3, .int x3)]) : W p l e (R_m 1 22) s m args below meth c s.heap locs 0 0 (MQ below (Q_R (some (.int out))) args s 0 0 (fun _ => False)) (F0 m 17 ls []) := by
  obtain ⟨hx, hb, hml, hown, hts, hK, hA, hlk⟩ := id hX
  unfold f_X5_openLetters_L17 at h
  refine lv_aload_n hx hb dX5_openLetters_17 rfl (lv_at hl 0 rfl) ?_
  refine k_get hX hZ.1 0 5 rfl rfl iw_X5 0 rfl (wm_448) (v := .ref (a_n 0)) rfl dX5_openLetters_18 ?_
  refine lv_iload_n hx hb dX5_openLetters_21 rfl (lv_at hl 2 rfl) ?_
  obtain ⟨u2, hu, h⟩ := k_bd h
  refine k_vRR (As := [.int x2]) (rest := []) (wc := wd_X1 aC a_n s_n) (v := some (.int u2)) (st1 := [.int u2]) hX hl.1 hZ hF (c_X1_isTold (a_n := a_n) s_n x2 hu) (gv_ wm_551 wm_331 wm_332 wm_321 wm_330) rfl hd_X1_isTold ⟨rfl, rfl⟩ 1 0 rfl rfl [5, 6, 7, 8, 9, 10, 11] rfl rfl rfl rfl rfl dX5_openLetters_22 rfl ⟨rfl, rfl⟩ (fun locs hF => ?_)
  clear hu
  refine lv_if_eq (tgt := 80) hx hb dX5_openLetters_25 (by decide) (fun cd => ?_) (fun cd => ?_)
  · replace h := k_t cd h
    clear cd
    refine lv_iinc (v := (x2 + (1 : Int32))) (lv' := [(2, .int (x2 + (1 : Int32))), (0, .ref (a_v 0)), (1, .int x1), (3, .int x3)]) hx hb dX5_openLetters_80 hl (k := 2) rfl rfl (by decide) rfl (fun ls hl => ?_)
    refine lv_goto (tgt := 4) hx hb dX5_openLetters_83 (by decide) ?_
    exact hrec4 (x1, (x2 + (1 : Int32))) h locs ls hF (lv_sub hl [1, 2, 0] rfl)
  · replace h := k_f cd h
    clear cd
    refine lv_iload_n hx hb dX5_openLetters_28 rfl (lv_at hl 3 rfl) ?_
    refine lv_aload_n hx hb dX5_openLetters_29 rfl (lv_at hl 0 rfl) ?_
    refine k_get hX hZ.1 0 5 rfl rfl iw_X5 0 rfl (wm_448) (v := .ref (a_n 0)) rfl dX5_openLetters_30 ?_
    refine lv_iload_n hx hb dX5_openLetters_33 rfl (lv_at hl 2 rfl) ?_
    obtain ⟨u3, hu, h⟩ := k_bd h
    refine k_vRR (As := [.int x2]) (rest := [.int x3]) (wc := wd_X1 aC a_n s_n) (v := some (.int u3)) (st1 := [.int u3, .int x3]) hX hl.1 hZ hF (c_X1_axesOf (a_n := a_n) s_n x2 hu) (gv_ wm_500 wm_502 wm_503 wm_321 wm_501) rfl hd_X1_axesOf ⟨rfl, rfl⟩ 1 0 rfl rfl [5, 6, 7, 8, 9, 10, 11] rfl rfl rfl rfl rfl dX5_openLetters_34 rfl ⟨rfl, rfl⟩ (fun locs hF => ?_)
    clear hu
    refine lv_icmp_ge (tgt := 80) hx hb dX5_openLetters_37 (by decide) (fun cd => ?_) (fun cd => ?_)
    · replace h := k_t cd h
      clear cd
      refine lv_iinc (v := (x2 + (1 : Int32))) (lv' := [(2, .int (x2 + (1 : Int32))), (0, .ref (a_v 0)), (1, .int x1), (3, .int x3)]) hx hb dX5_openLetters_80 hl (k := 2) rfl rfl (by decide) rfl (fun ls hl => ?_)
      refine lv_goto (tgt := 4) hx hb dX5_openLetters_83 (by decide) ?_
      exact hrec4 (x1, (x2 + (1 : Int32))) h locs ls hF (lv_sub hl [1, 2, 0] rfl)
    · replace h := k_f cd h
      clear cd
      refine lv_aload_n hx hb dX5_openLetters_40 rfl (lv_at hl 0 rfl) ?_
      refine lv_aload_n hx hb dX5_openLetters_41 rfl (lv_at hl 0 rfl) ?_
      refine k_get hX hZ.1 0 5 rfl rfl iw_X5 0 rfl (wm_448) (v := .ref (a_n 0)) rfl dX5_openLetters_42 ?_
      refine lv_iload_n hx hb dX5_openLetters_45 rfl (lv_at hl 2 rfl) ?_
      refine lv_iload_n hx hb dX5_openLetters_46 rfl (lv_at hl 3 rfl) ?_
      obtain ⟨u4, hu, h⟩ := k_bd h
      refine k_vRR (As := [.int x2, .int x3]) (rest := [.ref (a_v 0)]) (wc := wd_X1 aC a_n s_n) (v := some (.int u4)) (st1 := [.int u4, .ref (a_v 0)]) hX hl.1 hZ hF (c_X1_at (a_n := a_n) s_n x2 x3 hu) (gv_ wm_453 wm_327 wm_328 wm_321 wm_326) rfl hd_X1_at ⟨rfl, rfl⟩ 1 0 rfl rfl [5, 6, 7, 8, 9, 10, 11] rfl rfl rfl rfl rfl dX5_openLetters_47 rfl ⟨rfl, rfl⟩ (fun locs hF => ?_)
      clear hu
      obtain ⟨u5, hu, h⟩ := k_bd h
      refine k_vRR (As := [.int u4]) (rest := []) (wc := wd_X5 aC a_v (a_n 0) (a_d 0) s_v) (v := some (.int u5)) (st1 := [.int u5]) hX hl.1 hZ hF (c_X5_valueOf (a_v := a_v) (a_n := a_n) (a_d := a_d) s_v u4 hu) (gv_ wm_444 wm_446 wm_447 wm_432 wm_445) rfl hd_X5_valueOf ⟨rfl, rfl⟩ 5 0 rfl rfl [0, 1, 2, 3, 4] rfl rfl rfl rfl rfl dX5_openLetters_50 rfl ⟨rfl, rfl⟩ (fun locs hF => ?_)
      clear hu
      refine lv_istore (lv' := [(4, .int u5), (0, .ref (a_v 0)), (1, .int x1), (2, .int x2), (3, .int x3)]) hx hb dX5_openLetters_53 hl (by decide) rfl (fun ls hl => ?_)
      refine lv_iload hx hb dX5_openLetters_55 (lv_at hl 0 rfl) ?_
      refine lv_sipush (v := 20000) hx hb dX5_openLetters_57 (by decide) ?_
      refine lv_icmp_lt (tgt := 74) hx hb dX5_openLetters_60 (by decide) (fun cd => ?_) (fun cd => ?_)
      · replace h := k_t cd h
        clear cd
        refine lv_iinc (v := (x3 + (1 : Int32))) (lv' := [(3, .int (x3 + (1 : Int32))), (4, .int u5), (0, .ref (a_v 0)), (1, .int x1), (2, .int x2)]) hx hb dX5_openLetters_74 hl (k := 4) rfl rfl (by decide) rfl (fun ls hl => ?_)
        refine lv_goto (tgt := 17) hx hb dX5_openLetters_77 (by decide) ?_
        exact hrec17 (x1, x2, (x3 + (1 : Int32))) h locs ls hF (lv_sub hl [2, 3, 4, 0] rfl)
      · replace h := k_f cd h
        clear cd
        refine lv_iload_n hx hb dX5_openLetters_63 rfl (lv_at hl 2 rfl) ?_
        refine lv_iconst (v := 1) hx hb dX5_openLetters_64 (by decide) ?_
        refine lv_iload hx hb dX5_openLetters_65 (lv_at hl 0 rfl) ?_
        refine lv_sipush (v := 20000) hx hb dX5_openLetters_67 (by decide) ?_
        refine lv_isub hx hb dX5_openLetters_70 ?_
        refine lv_ishl hx hb dX5_openLetters_71 ?_
        refine lv_ior hx hb dX5_openLetters_72 ?_
        refine lv_topi (fun e6 he => ?_)
        replace h := k_lt he h
        clear he
        refine lv_istore_n (lv' := [(1, .int e6), (4, .int u5), (0, .ref (a_v 0)), (2, .int x2), (3, .int x3)]) hx hb dX5_openLetters_73 rfl hl (by decide) rfl (fun ls hl => ?_)
        refine lv_iinc (v := (x3 + (1 : Int32))) (lv' := [(3, .int (x3 + (1 : Int32))), (1, .int e6), (4, .int u5), (0, .ref (a_v 0)), (2, .int x2)]) hx hb dX5_openLetters_74 hl (k := 4) rfl rfl (by decide) rfl (fun ls hl => ?_)
        refine lv_goto (tgt := 17) hx hb dX5_openLetters_77 (by decide) ?_
        exact hrec17 (e6, x2, (x3 + (1 : Int32))) h locs ls hF (lv_sub hl [3, 1, 4, 0] rfl)
set_option maxHeartbeats 4000000 in
set_option maxRecDepth 100000 in
theorem t_X5_openLetters_L4 {p : Program} {l : Launch} {e : Env} {s : State} {m : MethodId} {args : Array Value} {below : List Frame} {meth : Method} {c : Code} {D : va_G} {aC : Nat → ClassId} {A : Nat → Prop} {a_v a_n a_d : Nat → Nat} {out : Int32} {s_v : Ob_T} {s_n : Ob_T} {rec4 : (Int32 × Int32) → Option Int32} (hX : K_X p s m args meth c cX5_openLetters 5 WL_ RX5 D aC A) (hr : meth.sig.returnType = (some .int)) (hZ : va_P D vwCl (wd_X5 aC a_v (a_n 0) (a_d 0) s_v ++ wd_X1 aC a_n s_n) s.heap ∧ va_D (fun _ => True) (wd_X5 aC a_v (a_n 0) (a_d 0) s_v ++ wd_X1 aC a_n s_n)) (hrec4 : ∀ x : Int32 × Int32, rec4 x = some out → ∀ (locs : List Loc) (ls : Array Slot), (∀ q ∈ locs, False) → lv_has ls 5 [(0, .ref (a_v 0)), (1, .int x.1), (2, .int x.2)] → W p l e (R_m 1 22) s m args below meth c s.heap locs 0 0 (MQ below (Q_R (some (.int out))) args s 0 0 (fun _ => False)) (F0 m 4 ls [])) (x1 : Int32) (x2 : Int32) (h : f_X5_openLetters_L4 rec4 x1 x2 s_v s_n = some out) (locs : List Loc) (ls : Array Slot) (hF : ∀ q ∈ locs, False) (hl : lv_has ls 5 [(0, .ref (a_v 0)), (1, .int x1), (2, .int x2)]) : W p l e (R_m 1 22) s m args below meth c s.heap locs 0 0 (MQ below (Q_R (some (.int out))) args s 0 0 (fun _ => False)) (F0 m 4 ls []) := by
  obtain ⟨hx, hb, hml, hown, hts, hK, hA, hlk⟩ := id hX
  unfold f_X5_openLetters_L4 at h
  refine lv_iload_n hx hb dX5_openLetters_4 rfl (lv_at hl 2 rfl) ?_
  refine lv_aload_n hx hb dX5_openLetters_5 rfl (lv_at hl 0 rfl) ?_
  refine k_get hX hZ.1 0 5 rfl rfl iw_X5 0 rfl (wm_448) (v := .ref (a_n 0)) rfl dX5_openLetters_6 ?_
  obtain ⟨u1, hu, h⟩ := k_bd h
  refine k_vRR (As := []) (rest := [.int x2]) (wc := wd_X1 aC a_n s_n) (v := some (.int u1)) (st1 := [.int u1, .int x2]) hX hl.1 hZ hF (c_X1_size (a_n := a_n) s_n hu) (gv_ wm_484 wm_486 wm_487 wm_321 wm_485) rfl hd_X1_size ⟨rfl, rfl⟩ 1 0 rfl rfl [5, 6, 7, 8, 9, 10, 11] rfl rfl rfl rfl rfl dX5_openLetters_9 rfl ⟨rfl, rfl⟩ (fun locs hF => ?_)
  clear hu
  refine lv_icmp_ge (tgt := 86) hx hb dX5_openLetters_12 (by decide) (fun cd => ?_) (fun cd => ?_)
  · replace h := k_t cd h
    clear cd
    refine lv_iload_n hx hb dX5_openLetters_86 rfl (lv_at hl 1 rfl) ?_
    cases h
    exact k_iretR hX hr hF dX5_openLetters_87
  · replace h := k_f cd h
    clear cd
    refine lv_iconst (v := 0) hx hb dX5_openLetters_15 (by decide) ?_
    refine lv_istore_n (lv' := [(3, .int (0 : Int32)), (0, .ref (a_v 0)), (1, .int x1), (2, .int x2)]) hx hb dX5_openLetters_16 rfl hl (by decide) rfl (fun ls hl => ?_)
    exact Lp_ok (body := (fun (rec : (Int32 × Int32 × Int32) → Option Int32) x => f_X5_openLetters_L17 rec4 rec x.1 x.2.1 x.2.2 s_v s_n)) (out := out) (fun x => ∀ (locs : List Loc) (ls : Array Slot), (∀ q ∈ locs, False) → lv_has ls 5 [(0, .ref (a_v 0)), (1, .int x.1), (2, .int x.2.1), (3, .int x.2.2)] → W p l e (R_m 1 22) s m args below meth c s.heap locs 0 0 (MQ below (Q_R (some (.int out))) args s 0 0 (fun _ => False)) (F0 m 17 ls [])) (fun rec hrec x h locs ls hF hl => t_X5_openLetters_L17 hX hr hZ hrec4 hrec x.1 x.2.1 x.2.2 h locs ls hF hl) FU_ (x1, x2, (0 : Int32)) h locs ls hF (lv_sub hl [1, 2, 3, 0] rfl)
set_option maxHeartbeats 4000000 in
set_option maxRecDepth 100000 in
theorem c_X5_openLetters {l : Launch} {D : va_G} {aC : Nat → ClassId} {a_v : Nat → Nat} {a_n : Nat → Nat} {a_d : Nat → Nat} (s_v : Ob_T) (s_n : Ob_T) {out : Int32} (h : f_X5_openLetters s_v s_n = some out) : M_R l yX5_openLetters wlX5_openLetters 1 22 D aC [.ref (a_v 0)] (wd_X5 aC a_v (a_n 0) (a_d 0) s_v ++ wd_X1 aC a_n s_n) (some (.int out)) := by
  refine k_entR (cc := cX5_openLetters) (ret := (some .int)) (maxL := 5) (own := RX5) (by decide) rfl rfl rfl ?_
  intro p e s m below meth c A ls hX hr hZ hl
  have hl : lv_has ls 5 [(0, .ref (a_v 0))] := hl
  generalize ([.ref (a_v 0)] : List Value).toArray = args at hX ⊢
  obtain ⟨hx, hb, hml, hown, hts, hK, hA, hlk⟩ := id hX
  unfold f_X5_openLetters at h
  have hF : ∀ q ∈ ([] : List Loc), False := fun _ h => nomatch h
  generalize ([] : List Loc) = locs at hF ⊢
  refine lv_iconst (v := 0) hx hb dX5_openLetters_0 (by decide) ?_
  refine lv_istore_n (lv' := [(1, .int (0 : Int32)), (0, .ref (a_v 0))]) hx hb dX5_openLetters_1 rfl hl (by decide) rfl (fun ls hl => ?_)
  refine lv_iconst (v := 0) hx hb dX5_openLetters_2 (by decide) ?_
  refine lv_istore_n (lv' := [(2, .int (0 : Int32)), (1, .int (0 : Int32)), (0, .ref (a_v 0))]) hx hb dX5_openLetters_3 rfl hl (by decide) rfl (fun ls hl => ?_)
  exact Lp_ok (body := (fun (rec : (Int32 × Int32) → Option Int32) x => f_X5_openLetters_L4 rec x.1 x.2 s_v s_n)) (out := out) (fun x => ∀ (locs : List Loc) (ls : Array Slot), (∀ q ∈ locs, False) → lv_has ls 5 [(0, .ref (a_v 0)), (1, .int x.1), (2, .int x.2)] → W p l e (R_m 1 22) s m args below meth c s.heap locs 0 0 (MQ below (Q_R (some (.int out))) args s 0 0 (fun _ => False)) (F0 m 4 ls [])) (fun rec hrec x h locs ls hF hl => t_X5_openLetters_L4 hX hr hZ hrec x.1 x.2 h locs ls hF hl) FU_ ((0 : Int32), (0 : Int32)) h locs ls hF (lv_sub hl [2, 1, 0] rfl)
