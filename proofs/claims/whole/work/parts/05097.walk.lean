def wlX8_ways : List Cond := .code yX8_ways cX8_ways 1 (some .int) :: WL_
theorem hd_X8_ways : yX8_ways.cls = RX8 ∧ yX8_ways.cls ≠ "java/lang/invoke/MethodHandle" ∧ yX8_ways.cls ≠ "java/lang/invoke/VarHandle" ∧ (parseMethodDescriptor yX8_ways.desc).map (fun d => d.parameters.length) = some 0 := by decide +kernel
theorem dX8_ways_0 : decode cX8_ways 0 = .ok (.aload_n 0, 1) := by decide +kernel
theorem dX8_ways_1 : decode cX8_ways 1 = .ok (.invokevirtual 173, 3) := by decide +kernel
theorem dX8_ways_4 : decode cX8_ways 4 = .ok (.aload_n 0, 1) := by decide +kernel
theorem dX8_ways_5 : decode cX8_ways 5 = .ok (.getfield 50, 3) := by decide +kernel
theorem dX8_ways_8 : decode cX8_ways 8 = .ok (.invokevirtual 176, 3) := by decide +kernel
theorem dX8_ways_11 : decode cX8_ways 11 = .ok (.ireturn, 1) := by decide +kernel
set_option maxHeartbeats 4000000 in
set_option maxRecDepth 100000 in
theorem c_X8_ways {l : Launch} {D : va_G} {aC : Nat → ClassId} {a_x : Nat → Nat} {a_n : Nat → Nat} {a_v : Nat → Nat} {a_d : Nat → Nat} {a_g : Nat → Nat} {a_w : Nat → Nat} {a_v3 : Nat → Nat} {a_d3 : Nat → Nat} {a_t : Nat → Nat} {a_n2 : Nat → Nat} {a_v2 : Nat → Nat} {a_q : Nat → Nat} {a_r : Nat → Nat} (s_x : Ob_T) (s_n : Ob_T) (s_v : Ob_T) (s_d : Ob_T) (s_g : Ob_T) (s_w : Ob_T) (s_v3 : Ob_T) (s_d3 : Ob_T) {out : Int32 × Ob_T × Ob_T × Ob_T × Ob_T × Ob_T × Ob_T} (h : f_X8_ways s_x s_n s_v s_d s_g s_w s_v3 s_d3 = some out) : M_W l yX8_ways wlX8_ways 13 353 D aC [.ref (a_x 0)] (wd_X8 aC a_x (a_t 0) (a_n 0) (a_n2 0) (a_v 0) (a_v2 0) (a_g 0) (a_w 0) (a_q 0) (a_r 0) s_x ++ (wd_X1 aC a_n s_n ++ (wd_X5 aC a_v (a_n 0) (a_d 0) s_v ++ (wd_X4 aC a_d s_d ++ (wd_X0 aC a_g s_g ++ (wd_X7 aC a_w (a_v3 0) s_w ++ (wd_X5 aC a_v3 (a_n 0) (a_d3 0) s_v3 ++ wd_X4 aC a_d3 s_d3))))))) (some (.int out.1)) (wd_X8 aC a_x (a_t 0) (a_n 0) (a_n2 0) (a_v 0) (a_v2 0) (a_g 0) (a_w 0) (a_q 0) (a_r 0) out.2.1 ++ (wd_X1 aC a_n s_n ++ (wd_X5 aC a_v (a_n 0) (a_d 0) out.2.2.1 ++ (wd_X4 aC a_d out.2.2.2.1 ++ (wd_X0 aC a_g s_g ++ (wd_X7 aC a_w (a_v3 0) out.2.2.2.2.1 ++ (wd_X5 aC a_v3 (a_n 0) (a_d3 0) out.2.2.2.2.2.1 ++ wd_X4 aC a_d3 out.2.2.2.2.2.2))))))) := by
  refine k_entW (cc := cX8_ways) (ret := (some .int)) (maxL := 1) (own := RX8) (by decide) rfl rfl rfl ?_
  intro p e s m below meth c A ls hX hr hZ hl
  have hl : lv_has ls 1 [(0, .ref (a_x 0))] := hl
  generalize ([.ref (a_x 0)] : List Value).toArray = args at hX ⊢
  obtain ⟨hx, hb, hml, hown, hts, hK, hA, hlk⟩ := id hX
  unfold f_X8_ways at h
  generalize s.heap = H at hZ ⊢
  generalize ([] : List Loc) = locs at hZ ⊢
  refine lv_aload_n hx hb dX8_ways_0 rfl (lv_at hl 0 rfl) ?_
  obtain ⟨u1, hu, h⟩ := k_bd h
  refine k_vWs (As := []) (rest := []) (v := none) (st1 := []) hX hl.1 hZ (c_X8_countNow (a_x := a_x) (a_n := a_n) (a_v := a_v) (a_d := a_d) (a_g := a_g) (a_w := a_w) (a_v3 := a_v3) (a_d3 := a_d3) (a_t := a_t) (a_n2 := a_n2) (a_v2 := a_v2) (a_q := a_q) (a_r := a_r) s_x s_n s_v s_d s_g s_w s_v3 s_d3 hu) (gv_ wm_739 wm_741 wm_742 wm_672 wm_740) rfl hd_X8_countNow ⟨rfl, rfl⟩ 8 0 rfl rfl rfl rfl rfl dX8_ways_1 rfl ⟨rfl, rfl⟩ rfl (fun H locs hZ => ?_)
  clear hu
  refine lv_aload_n hx hb dX8_ways_4 rfl (lv_at hl 0 rfl) ?_
  refine k_get hX hZ.1 0 8 rfl rfl iw_X8 6 rfl (wm_728) (v := .ref (a_w 0)) rfl dX8_ways_5 ?_
  obtain ⟨u2, hu, h⟩ := k_bd h
  refine k_vR3 (As := []) (rest := []) (wc := wd_X7 aC a_w (a_v3 0) u1.2.2.2.1) (v := some (.int u2)) (st1 := [.int u2]) hX hl.1 hZ (c_X7_howMany (a_w := a_w) (a_v := a_v3) u1.2.2.2.1 hu) (gv_ wm_735 wm_737 wm_738 wm_600 wm_736) rfl hd_X7_howMany ⟨rfl, rfl⟩ 7 0 rfl rfl [22, 23, 24] rfl rfl rfl dX8_ways_8 rfl ⟨rfl, rfl⟩ rfl [(a_w 0, .inr (7, [.ref (a_v3 0), .ref (a_w 1), .ref (a_w 2), .int (o_F u1.2.2.2.1 3), .int (o_F u1.2.2.2.1 4), .int (o_F u1.2.2.2.1 5)])), (a_w 1, .inl (aC 0, 4, .inl (o_A u1.2.2.2.1 1))), (a_w 2, .inl (aC 0, 4, .inl (o_A u1.2.2.2.1 2)))] rfl (And.intro rfl (And.intro rfl (And.intro rfl True.intro))) (fun locs hZ => ?_)
  clear hu
  cases h
  exact k_iretW hX hr hZ dX8_ways_11
def wlX8_way : List Cond := .code yX8_way cX8_way 2 (some .int) :: WL_
theorem hd_X8_way : yX8_way.cls = RX8 ∧ yX8_way.cls ≠ "java/lang/invoke/MethodHandle" ∧ yX8_way.cls ≠ "java/lang/invoke/VarHandle" ∧ (parseMethodDescriptor yX8_way.desc).map (fun d => d.parameters.length) = some 1 := by decide +kernel
theorem dX8_way_0 : decode cX8_way 0 = .ok (.iload_n 1, 1) := by decide +kernel
theorem dX8_way_1 : decode cX8_way 1 = .ok (.invokestatic 135, 3) := by decide +kernel
theorem dX8_way_4 : decode cX8_way 4 = .ok (.ifCond .ne 6, 3) := by decide +kernel
theorem dX8_way_7 : decode cX8_way 7 = .ok (.bipush (-2), 2) := by decide +kernel
theorem dX8_way_9 : decode cX8_way 9 = .ok (.ireturn, 1) := by decide +kernel
theorem dX8_way_10 : decode cX8_way 10 = .ok (.aload_n 0, 1) := by decide +kernel
theorem dX8_way_11 : decode cX8_way 11 = .ok (.invokevirtual 173, 3) := by decide +kernel
theorem dX8_way_14 : decode cX8_way 14 = .ok (.aload_n 0, 1) := by decide +kernel
theorem dX8_way_15 : decode cX8_way 15 = .ok (.getfield 50, 3) := by decide +kernel
theorem dX8_way_18 : decode cX8_way 18 = .ok (.iload_n 1, 1) := by decide +kernel
theorem dX8_way_19 : decode cX8_way 19 = .ok (.invokevirtual 177, 3) := by decide +kernel
theorem dX8_way_22 : decode cX8_way 22 = .ok (.ifCond .ne 6, 3) := by decide +kernel
theorem dX8_way_25 : decode cX8_way 25 = .ok (.bipush (-4), 2) := by decide +kernel
theorem dX8_way_27 : decode cX8_way 27 = .ok (.ireturn, 1) := by decide +kernel
theorem dX8_way_28 : decode cX8_way 28 = .ok (.aload_n 0, 1) := by decide +kernel
theorem dX8_way_29 : decode cX8_way 29 = .ok (.getfield 50, 3) := by decide +kernel
theorem dX8_way_32 : decode cX8_way 32 = .ok (.iload_n 1, 1) := by decide +kernel
theorem dX8_way_33 : decode cX8_way 33 = .ok (.invokevirtual 180, 3) := by decide +kernel
theorem dX8_way_36 : decode cX8_way 36 = .ok (.ireturn, 1) := by decide +kernel
set_option maxHeartbeats 4000000 in
set_option maxRecDepth 100000 in
theorem c_X8_way {l : Launch} {D : va_G} {aC : Nat → ClassId} {a_x : Nat → Nat} {a_n : Nat → Nat} {a_v : Nat → Nat} {a_d : Nat → Nat} {a_g : Nat → Nat} {a_w : Nat → Nat} {a_v3 : Nat → Nat} {a_d3 : Nat → Nat} {a_t : Nat → Nat} {a_n2 : Nat → Nat} {a_v2 : Nat → Nat} {a_q : Nat → Nat} {a_r : Nat → Nat} (s_x : Ob_T) (s_n : Ob_T) (s_v : Ob_T) (s_d : Ob_T) (s_g : Ob_T) (s_w : Ob_T) (s_v3 : Ob_T) (s_d3 : Ob_T) (x1 : Int32) {out : Int32 × Ob_T × Ob_T × Ob_T × Ob_T × Ob_T × Ob_T} (h : f_X8_way s_x s_n s_v s_d s_g s_w s_v3 s_d3 x1 = some out) : M_W l yX8_way wlX8_way 13 353 D aC [.ref (a_x 0), .int x1] (wd_X8 aC a_x (a_t 0) (a_n 0) (a_n2 0) (a_v 0) (a_v2 0) (a_g 0) (a_w 0) (a_q 0) (a_r 0) s_x ++ (wd_X1 aC a_n s_n ++ (wd_X5 aC a_v (a_n 0) (a_d 0) s_v ++ (wd_X4 aC a_d s_d ++ (wd_X0 aC a_g s_g ++ (wd_X7 aC a_w (a_v3 0) s_w ++ (wd_X5 aC a_v3 (a_n 0) (a_d3 0) s_v3 ++ wd_X4 aC a_d3 s_d3))))))) (some (.int out.1)) (wd_X8 aC a_x (a_t 0) (a_n 0) (a_n2 0) (a_v 0) (a_v2 0) (a_g 0) (a_w 0) (a_q 0) (a_r 0) out.2.1 ++ (wd_X1 aC a_n s_n ++ (wd_X5 aC a_v (a_n 0) (a_d 0) out.2.2.1 ++ (wd_X4 aC a_d out.2.2.2.1 ++ (wd_X0 aC a_g s_g ++ (wd_X7 aC a_w (a_v3 0) out.2.2.2.2.1 ++ (wd_X5 aC a_v3 (a_n 0) (a_d3 0) out.2.2.2.2.2.1 ++ wd_X4 aC a_d3 out.2.2.2.2.2.2))))))) := by
  refine k_entW (cc := cX8_way) (ret := (some .int)) (maxL := 2) (own := RX8) (by decide) rfl rfl rfl ?_
  intro p e s m below meth c A ls hX hr hZ hl
  have hl : lv_has ls 2 [(0, .ref (a_x 0)), (1, .int x1)] := hl
  generalize ([.ref (a_x 0), .int x1] : List Value).toArray = args at hX ⊢
  obtain ⟨hx, hb, hml, hown, hts, hK, hA, hlk⟩ := id hX
  unfold f_X8_way at h
  generalize s.heap = H at hZ ⊢
  generalize ([] : List Loc) = locs at hZ ⊢
  refine lv_iload_n hx hb dX8_way_0 rfl (lv_at hl 1 rfl) ?_
  obtain ⟨u1, hu, h⟩ := k_bd h
  refine k_sR (As := [.int x1]) (rest := []) (wc := []) (v := some (.int u1)) (st1 := [.int u1]) hX hl.1 hZ (c_X8_isPlain  x1 hu) (gs_ wm_693 wm_695 wm_672 wm_694) rfl hd_X8_isPlain ⟨rfl, rfl⟩ [] rfl rfl rfl rfl rfl dX8_way_1 rfl ⟨rfl, rfl⟩ (fun locs hZ => ?_)
  clear hu
  refine lv_if_ne (tgt := 10) hx hb dX8_way_4 (by decide) (fun cd => ?_) (fun cd => ?_)
  · replace h := k_f cd h
    clear cd
    refine lv_aload_n hx hb dX8_way_10 rfl (lv_at hl 0 rfl) ?_
    obtain ⟨u2, hu, h⟩ := k_bd h
    refine k_vWs (As := []) (rest := []) (v := none) (st1 := []) hX hl.1 hZ (c_X8_countNow (a_x := a_x) (a_n := a_n) (a_v := a_v) (a_d := a_d) (a_g := a_g) (a_w := a_w) (a_v3 := a_v3) (a_d3 := a_d3) (a_t := a_t) (a_n2 := a_n2) (a_v2 := a_v2) (a_q := a_q) (a_r := a_r) s_x s_n s_v s_d s_g s_w s_v3 s_d3 hu) (gv_ wm_739 wm_741 wm_742 wm_672 wm_740) rfl hd_X8_countNow ⟨rfl, rfl⟩ 8 0 rfl rfl rfl rfl rfl dX8_way_11 rfl ⟨rfl, rfl⟩ rfl (fun H locs hZ => ?_)
    clear hu
    refine lv_aload_n hx hb dX8_way_14 rfl (lv_at hl 0 rfl) ?_
    refine k_get hX hZ.1 0 8 rfl rfl iw_X8 6 rfl (wm_728) (v := .ref (a_w 0)) rfl dX8_way_15 ?_
    refine lv_iload_n hx hb dX8_way_18 rfl (lv_at hl 1 rfl) ?_
    obtain ⟨u3, hu, h⟩ := k_bd h
    refine k_vR3 (As := [.int x1]) (rest := []) (wc := wd_X7 aC a_w (a_v3 0) u2.2.2.2.1) (v := some (.int u3)) (st1 := [.int u3]) hX hl.1 hZ (c_X7_isOpen (a_w := a_w) (a_v := a_v3) u2.2.2.2.1 x1 hu) (gv_ wm_747 wm_602 wm_603 wm_600 wm_601) rfl hd_X7_isOpen ⟨rfl, rfl⟩ 7 0 rfl rfl [22, 23, 24] rfl rfl rfl dX8_way_19 rfl ⟨rfl, rfl⟩ rfl [(a_w 0, .inr (7, [.ref (a_v3 0), .ref (a_w 1), .ref (a_w 2), .int (o_F u2.2.2.2.1 3), .int (o_F u2.2.2.2.1 4), .int (o_F u2.2.2.2.1 5)])), (a_w 1, .inl (aC 0, 4, .inl (o_A u2.2.2.2.1 1))), (a_w 2, .inl (aC 0, 4, .inl (o_A u2.2.2.2.1 2)))] rfl (And.intro rfl (And.intro rfl (And.intro rfl True.intro))) (fun locs hZ => ?_)
    clear hu
    refine lv_if_ne (tgt := 28) hx hb dX8_way_22 (by decide) (fun cd => ?_) (fun cd => ?_)
    · replace h := k_f cd h
      clear cd
      refine lv_aload_n hx hb dX8_way_28 rfl (lv_at hl 0 rfl) ?_
      refine k_get hX hZ.1 0 8 rfl rfl iw_X8 6 rfl (wm_728) (v := .ref (a_w 0)) rfl dX8_way_29 ?_
      refine lv_iload_n hx hb dX8_way_32 rfl (lv_at hl 1 rfl) ?_
      obtain ⟨u4, hu, h⟩ := k_bd h
      refine k_vR3 (As := [.int x1]) (rest := []) (wc := wd_X7 aC a_w (a_v3 0) u2.2.2.2.1) (v := some (.int u4)) (st1 := [.int u4]) hX hl.1 hZ (c_X7_firstOf (a_w := a_w) (a_v := a_v3) u2.2.2.2.1 x1 hu) (gv_ wm_743 wm_745 wm_746 wm_600 wm_744) rfl hd_X7_firstOf ⟨rfl, rfl⟩ 7 0 rfl rfl [22, 23, 24] rfl rfl rfl dX8_way_33 rfl ⟨rfl, rfl⟩ rfl [(a_w 0, .inr (7, [.ref (a_v3 0), .ref (a_w 1), .ref (a_w 2), .int (o_F u2.2.2.2.1 3), .int (o_F u2.2.2.2.1 4), .int (o_F u2.2.2.2.1 5)])), (a_w 1, .inl (aC 0, 4, .inl (o_A u2.2.2.2.1 1))), (a_w 2, .inl (aC 0, 4, .inl (o_A u2.2.2.2.1 2)))] rfl (And.intro rfl (And.intro rfl (And.intro rfl True.intro))) (fun locs hZ => ?_)
      clear hu
      cases h
      exact k_iretW hX hr hZ dX8_way_36
    · replace h := k_t cd h
      clear cd
      refine lv_bipush (v := -4) hx hb dX8_way_25 (by decide) ?_
      cases h
      exact k_iretW hX hr hZ dX8_way_27
  · replace h := k_t cd h
    clear cd
    refine lv_bipush (v := -2) hx hb dX8_way_7 (by decide) ?_
    cases h
    exact k_iretW hX hr hZ dX8_way_9
def wlX8_commonDivisor : List Cond := .code yX8_commonDivisor cX8_commonDivisor 6 (some .int) :: WL_
theorem hd_X8_commonDivisor : yX8_commonDivisor.cls ≠ "java/lang/invoke/MethodHandle" ∧ yX8_commonDivisor.cls ≠ "java/lang/invoke/VarHandle" ∧ (parseMethodDescriptor yX8_commonDivisor.desc).map (fun d => d.parameters.length) = some 2 := by decide +kernel
theorem dX8_commonDivisor_0 : decode cX8_commonDivisor 0 = .ok (.iload_n 0, 1) := by decide +kernel
theorem dX8_commonDivisor_1 : decode cX8_commonDivisor 1 = .ok (.istore_n 2, 1) := by decide +kernel
theorem dX8_commonDivisor_2 : decode cX8_commonDivisor 2 = .ok (.iload_n 1, 1) := by decide +kernel
theorem dX8_commonDivisor_3 : decode cX8_commonDivisor 3 = .ok (.istore_n 3, 1) := by decide +kernel
theorem dX8_commonDivisor_4 : decode cX8_commonDivisor 4 = .ok (.iconst 0, 1) := by decide +kernel
theorem dX8_commonDivisor_5 : decode cX8_commonDivisor 5 = .ok (.istore 4, 2) := by decide +kernel
theorem dX8_commonDivisor_7 : decode cX8_commonDivisor 7 = .ok (.iload 4, 2) := by decide +kernel
theorem dX8_commonDivisor_9 : decode cX8_commonDivisor 9 = .ok (.bipush 100, 2) := by decide +kernel
theorem dX8_commonDivisor_11 : decode cX8_commonDivisor 11 = .ok (.if_icmp .ge 23, 3) := by decide +kernel
theorem dX8_commonDivisor_14 : decode cX8_commonDivisor 14 = .ok (.iload_n 3, 1) := by decide +kernel
theorem dX8_commonDivisor_15 : decode cX8_commonDivisor 15 = .ok (.ifCond .eq 19, 3) := by decide +kernel
theorem dX8_commonDivisor_18 : decode cX8_commonDivisor 18 = .ok (.iload_n 2, 1) := by decide +kernel
theorem dX8_commonDivisor_19 : decode cX8_commonDivisor 19 = .ok (.iload_n 3, 1) := by decide +kernel
theorem dX8_commonDivisor_20 : decode cX8_commonDivisor 20 = .ok (.irem, 1) := by decide +kernel
theorem dX8_commonDivisor_21 : decode cX8_commonDivisor 21 = .ok (.istore 5, 2) := by decide +kernel
theorem dX8_commonDivisor_23 : decode cX8_commonDivisor 23 = .ok (.iload_n 3, 1) := by decide +kernel
theorem dX8_commonDivisor_24 : decode cX8_commonDivisor 24 = .ok (.istore_n 2, 1) := by decide +kernel
theorem dX8_commonDivisor_25 : decode cX8_commonDivisor 25 = .ok (.iload 5, 2) := by decide +kernel
theorem dX8_commonDivisor_27 : decode cX8_commonDivisor 27 = .ok (.istore_n 3, 1) := by decide +kernel
theorem dX8_commonDivisor_28 : decode cX8_commonDivisor 28 = .ok (.iinc 4 1, 3) := by decide +kernel
theorem dX8_commonDivisor_31 : decode cX8_commonDivisor 31 = .ok (.goto (-24), 3) := by decide +kernel
theorem dX8_commonDivisor_34 : decode cX8_commonDivisor 34 = .ok (.iload_n 2, 1) := by decide +kernel
theorem dX8_commonDivisor_35 : decode cX8_commonDivisor 35 = .ok (.ireturn, 1) := by decide +kernel
set_option maxHeartbeats 4000000 in
set_option maxRecDepth 100000 in
theorem t_X8_commonDivisor_L7 {p : Program} {l : Launch} {e : Env} {s : State} {m : MethodId} {args : Array Value} {below : List Frame} {meth : Method} {c : Code} {D : va_G} {aC : Nat → ClassId} {A : Nat → Prop} {out : Int32} {rec7 : (Int32 × Int32 × Int32) → Option Int32} (hX : K_X p s m args meth c cX8_commonDivisor 6 WL_ RX8 D aC A) (hr : meth.sig.returnType = (some .int)) (hZ : va_P D vwCl (([] : va_W)) s.heap ∧ va_D (fun _ => True) (([] : va_W))) (hrec7 : ∀ x : Int32 × Int32 × Int32, rec7 x = some out → ∀ (locs : List Loc) (ls : Array Slot), (∀ q ∈ locs, False) → lv_has ls 6 [(2, .int x.1), (3, .int x.2.1), (4, .int x.2.2)] → W p l e (R_m 0 0) s m args below meth c s.heap locs 0 0 (MQ below (Q_R (some (.int out))) args s 0 0 (fun _ => False)) (F0 m 7 ls [])) (x2 : Int32) (x3 : Int32) (x4 : Int32) (h : f_X8_commonDivisor_L7 rec7 x2 x3 x4 = some out) (locs : List Loc) (ls : Array Slot) (hF : ∀ q ∈ locs, False) (hl : lv_has ls 6 [(2, .int x2), (3, .int x3), (4, .int x4)]) : W p l e (R_m 0 0) s m args below meth c s.heap locs 0 0 (MQ below (Q_R (some (.int out))) args s 0 0 (fun _ => False)) (F0 m 7 ls []) := by
  obtain ⟨hx, hb, hml, hown, hts, hK, hA, hlk⟩ := id hX
  unfold f_X8_commonDivisor_L7 at h
  refine lv_iload hx hb dX8_commonDivisor_7 (lv_at hl 2 rfl) ?_
  refine lv_bipush (v := 100) hx hb dX8_commonDivisor_9 (by decide) ?_
  refine lv_icmp_ge (tgt := 34) hx hb dX8_commonDivisor_11 (by decide) (fun cd => ?_) (fun cd => ?_)
  · replace h := k_t cd h
    clear cd
    refine lv_iload_n hx hb dX8_commonDivisor_34 rfl (lv_at hl 0 rfl) ?_
    cases h
    exact k_iretR hX hr hF dX8_commonDivisor_35
  · replace h := k_f cd h
    clear cd
    refine lv_iload_n hx hb dX8_commonDivisor_14 rfl (lv_at hl 1 rfl) ?_
    refine lv_if_eq (tgt := 34) hx hb dX8_commonDivisor_15 (by decide) (fun cd => ?_) (fun cd => ?_)
    · replace h := k_t cd h
      clear cd
      refine lv_iload_n hx hb dX8_commonDivisor_34 rfl (lv_at hl 0 rfl) ?_
      cases h
      exact k_iretR hX hr hF dX8_commonDivisor_35
    · replace h := k_f cd h
      clear cd
      refine lv_iload_n hx hb dX8_commonDivisor_18 rfl (lv_at hl 0 rfl) ?_
      refine lv_iload_n hx hb dX8_commonDivisor_19 rfl (lv_at hl 1 rfl) ?_
      by_cases hd0 : x3 = 0
      · replace h := k_t hd0 h
        cases h
      · replace h := k_f hd0 h
        refine lv_irem hx hb dX8_commonDivisor_20 hd0 ?_
        refine lv_istore (lv' := [(5, .int (x2 - x2 / x3 * x3)), (2, .int x2), (3, .int x3), (4, .int x4)]) hx hb dX8_commonDivisor_21 hl (by decide) rfl (fun ls hl => ?_)
        refine lv_iload_n hx hb dX8_commonDivisor_23 rfl (lv_at hl 2 rfl) ?_
        refine lv_istore_n (lv' := [(2, .int x3), (5, .int (x2 - x2 / x3 * x3)), (3, .int x3), (4, .int x4)]) hx hb dX8_commonDivisor_24 rfl hl (by decide) rfl (fun ls hl => ?_)
        refine lv_iload hx hb dX8_commonDivisor_25 (lv_at hl 1 rfl) ?_
        refine lv_istore_n (lv' := [(3, .int (x2 - x2 / x3 * x3)), (2, .int x3), (5, .int (x2 - x2 / x3 * x3)), (4, .int x4)]) hx hb dX8_commonDivisor_27 rfl hl (by decide) rfl (fun ls hl => ?_)
        refine lv_iinc (v := (x4 + (1 : Int32))) (lv' := [(4, .int (x4 + (1 : Int32))), (3, .int (x2 - x2 / x3 * x3)), (2, .int x3), (5, .int (x2 - x2 / x3 * x3))]) hx hb dX8_commonDivisor_28 hl (k := 3) rfl rfl (by decide) rfl (fun ls hl => ?_)
        refine lv_goto (tgt := 7) hx hb dX8_commonDivisor_31 (by decide) ?_
        exact hrec7 (x3, (x2 - x2 / x3 * x3), (x4 + (1 : Int32))) h locs ls hF (lv_sub hl [2, 1, 0] rfl)
set_option maxHeartbeats 4000000 in
set_option maxRecDepth 100000 in
theorem c_X8_commonDivisor {l : Launch} {D : va_G} {aC : Nat → ClassId} (x0 : Int32) (x1 : Int32) {out : Int32} (h : f_X8_commonDivisor x0 x1 = some out) : M_R l yX8_commonDivisor wlX8_commonDivisor 0 0 D aC [.int x0, .int x1] (([] : va_W)) (some (.int out)) := by
  refine k_entR (cc := cX8_commonDivisor) (ret := (some .int)) (maxL := 6) (own := RX8) (by decide) rfl rfl rfl ?_
  intro p e s m below meth c A ls hX hr hZ hl
  have hl : lv_has ls 6 [(0, .int x0), (1, .int x1)] := hl
  generalize ([.int x0, .int x1] : List Value).toArray = args at hX ⊢
  obtain ⟨hx, hb, hml, hown, hts, hK, hA, hlk⟩ := id hX
  unfold f_X8_commonDivisor at h
  have hF : ∀ q ∈ ([] : List Loc), False := fun _ h => nomatch h
  generalize ([] : List Loc) = locs at hF ⊢
  refine lv_iload_n hx hb dX8_commonDivisor_0 rfl (lv_at hl 0 rfl) ?_
  refine lv_istore_n (lv' := [(2, .int x0), (0, .int x0), (1, .int x1)]) hx hb dX8_commonDivisor_1 rfl hl (by decide) rfl (fun ls hl => ?_)
  refine lv_iload_n hx hb dX8_commonDivisor_2 rfl (lv_at hl 2 rfl) ?_
  refine lv_istore_n (lv' := [(3, .int x1), (2, .int x0), (0, .int x0), (1, .int x1)]) hx hb dX8_commonDivisor_3 rfl hl (by decide) rfl (fun ls hl => ?_)
  refine lv_iconst (v := 0) hx hb dX8_commonDivisor_4 (by decide) ?_
  refine lv_istore (lv' := [(4, .int (0 : Int32)), (3, .int x1), (2, .int x0), (0, .int x0), (1, .int x1)]) hx hb dX8_commonDivisor_5 hl (by decide) rfl (fun ls hl => ?_)
  exact Lp_ok (body := (fun (rec : (Int32 × Int32 × Int32) → Option Int32) x => f_X8_commonDivisor_L7 rec x.1 x.2.1 x.2.2)) (out := out) (fun x => ∀ (locs : List Loc) (ls : Array Slot), (∀ q ∈ locs, False) → lv_has ls 6 [(2, .int x.1), (3, .int x.2.1), (4, .int x.2.2)] → W p l e (R_m 0 0) s m args below meth c s.heap locs 0 0 (MQ below (Q_R (some (.int out))) args s 0 0 (fun _ => False)) (F0 m 7 ls [])) (fun rec hrec x h locs ls hF hl => t_X8_commonDivisor_L7 hX hr hZ hrec x.1 x.2.1 x.2.2 h locs ls hF hl) FU_ (x0, x1, (0 : Int32)) h locs ls hF (lv_sub hl [2, 1, 0] rfl)
