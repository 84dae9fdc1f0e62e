def wlX9_ways : List Cond := .code yX9_ways cX9_ways 2 (some .int) :: WL_
theorem hd_X9_ways : yX9_ways.cls = RX9 ∧ yX9_ways.cls ≠ "java/lang/invoke/MethodHandle" ∧ yX9_ways.cls ≠ "java/lang/invoke/VarHandle" ∧ (parseMethodDescriptor yX9_ways.desc).map (fun d => d.parameters.length) = some 0 := by decide +kernel
theorem dX9_ways_0 : decode cX9_ways 0 = .ok (.aload_n 0, 1) := by decide +kernel
theorem dX9_ways_1 : decode cX9_ways 1 = .ok (.invokevirtual 325, 3) := by decide +kernel
theorem dX9_ways_4 : decode cX9_ways 4 = .ok (.istore_n 1, 1) := by decide +kernel
theorem dX9_ways_5 : decode cX9_ways 5 = .ok (.aload_n 0, 1) := by decide +kernel
theorem dX9_ways_6 : decode cX9_ways 6 = .ok (.getfield 217, 3) := by decide +kernel
theorem dX9_ways_9 : decode cX9_ways 9 = .ok (.ifCond .eq 7, 3) := by decide +kernel
theorem dX9_ways_12 : decode cX9_ways 12 = .ok (.iconst 0, 1) := by decide +kernel
theorem dX9_ways_13 : decode cX9_ways 13 = .ok (.goto 8, 3) := by decide +kernel
theorem dX9_ways_16 : decode cX9_ways 16 = .ok (.aload_n 0, 1) := by decide +kernel
theorem dX9_ways_17 : decode cX9_ways 17 = .ok (.iload_n 1, 1) := by decide +kernel
theorem dX9_ways_18 : decode cX9_ways 18 = .ok (.invokevirtual 328, 3) := by decide +kernel
theorem dX9_ways_21 : decode cX9_ways 21 = .ok (.ireturn, 1) := by decide +kernel
set_option maxHeartbeats 4000000 in
set_option maxRecDepth 100000 in
theorem c_X9_ways {l : Launch} {D : va_G} {aC : Nat → ClassId} {a_o : Nat → Nat} (s_o : Ob_T) {out : Int32 × Ob_T} (h : f_X9_ways s_o = some out) : M_W l yX9_ways wlX9_ways 7 169 D aC [.ref (a_o 0)] (wd_X9 aC a_o s_o) (some (.int out.1)) (wd_X9 aC a_o out.2) := by
  refine k_entW (cc := cX9_ways) (ret := (some .int)) (maxL := 2) (own := RX9) (by decide) rfl rfl rfl ?_
  intro p e s m below meth c A ls hX hr hZ hl
  have hl : lv_has ls 2 [(0, .ref (a_o 0))] := hl
  generalize ([.ref (a_o 0)] : List Value).toArray = args at hX ⊢
  obtain ⟨hx, hb, hml, hown, hts, hK, hA, hlk⟩ := id hX
  unfold f_X9_ways at h
  generalize s.heap = H at hZ ⊢
  generalize ([] : List Loc) = locs at hZ ⊢
  refine lv_aload_n hx hb dX9_ways_0 rfl (lv_at hl 0 rfl) ?_
  obtain ⟨u1, hu, h⟩ := k_bd h
  refine k_vWs (As := []) (rest := []) (v := some (.int u1.1)) (st1 := [.int u1.1]) hX hl.1 hZ (c_X9_open (a_o := a_o) s_o hu) (gv_ wm_243 wm_245 wm_246 wm_11 wm_244) rfl hd_X9_open ⟨rfl, rfl⟩ 9 0 rfl rfl rfl rfl rfl dX9_ways_1 rfl ⟨rfl, rfl⟩ rfl (fun H locs hZ => ?_)
  clear hu
  refine lv_istore_n (lv' := [(1, .int u1.1), (0, .ref (a_o 0))]) hx hb dX9_ways_4 rfl hl (by decide) rfl (fun ls hl => ?_)
  refine lv_aload_n hx hb dX9_ways_5 rfl (lv_at hl 1 rfl) ?_
  refine k_get hX hZ.1 0 9 rfl rfl iw_X9 35 rfl (wm_126) (v := .int (o_F u1.2 35)) rfl dX9_ways_6 ?_
  refine lv_if_eq (tgt := 16) hx hb dX9_ways_9 (by decide) (fun cd => ?_) (fun cd => ?_)
  · replace h := k_t cd h
    clear cd
    refine lv_aload_n hx hb dX9_ways_16 rfl (lv_at hl 1 rfl) ?_
    refine lv_iload_n hx hb dX9_ways_17 rfl (lv_at hl 0 rfl) ?_
    obtain ⟨u2, hu, h⟩ := k_bd h
    refine k_vWs (As := [.int u1.1]) (rest := []) (v := some (.int u2.1)) (st1 := [.int u2.1]) hX hl.1 hZ (c_X9_findWays (a_o := a_o) u1.2 u1.1 hu) (gv_ wm_239 wm_241 wm_242 wm_11 wm_240) rfl hd_X9_findWays ⟨rfl, rfl⟩ 9 0 rfl rfl rfl rfl rfl dX9_ways_18 rfl ⟨rfl, rfl⟩ rfl (fun H locs hZ => ?_)
    clear hu
    cases h
    exact k_iretW hX hr hZ dX9_ways_21
  · replace h := k_f cd h
    clear cd
    refine lv_iconst (v := 0) hx hb dX9_ways_12 (by decide) ?_
    refine lv_goto (tgt := 21) hx hb dX9_ways_13 (by decide) ?_
    cases h
    exact k_iretW hX hr hZ dX9_ways_21
def wlX9_way : List Cond := .code yX9_way cX9_way 3 (some .int) :: WL_
theorem hd_X9_way : yX9_way.cls = RX9 ∧ yX9_way.cls ≠ "java/lang/invoke/MethodHandle" ∧ yX9_way.cls ≠ "java/lang/invoke/VarHandle" ∧ (parseMethodDescriptor yX9_way.desc).map (fun d => d.parameters.length) = some 1 := by decide +kernel
theorem dX9_way_0 : decode cX9_way 0 = .ok (.iload_n 1, 1) := by decide +kernel
theorem dX9_way_1 : decode cX9_way 1 = .ok (.invokestatic 306, 3) := by decide +kernel
theorem dX9_way_4 : decode cX9_way 4 = .ok (.ifCond .ne 6, 3) := by decide +kernel
theorem dX9_way_7 : decode cX9_way 7 = .ok (.bipush (-2), 2) := by decide +kernel
theorem dX9_way_9 : decode cX9_way 9 = .ok (.ireturn, 1) := by decide +kernel
theorem dX9_way_10 : decode cX9_way 10 = .ok (.aload_n 0, 1) := by decide +kernel
theorem dX9_way_11 : decode cX9_way 11 = .ok (.invokevirtual 325, 3) := by decide +kernel
theorem dX9_way_14 : decode cX9_way 14 = .ok (.istore_n 2, 1) := by decide +kernel
theorem dX9_way_15 : decode cX9_way 15 = .ok (.iload_n 2, 1) := by decide +kernel
theorem dX9_way_16 : decode cX9_way 16 = .ok (.iload_n 1, 1) := by decide +kernel
theorem dX9_way_17 : decode cX9_way 17 = .ok (.invokestatic 322, 3) := by decide +kernel
theorem dX9_way_20 : decode cX9_way 20 = .ok (.ifCond .ne 6, 3) := by decide +kernel
theorem dX9_way_23 : decode cX9_way 23 = .ok (.bipush (-4), 2) := by decide +kernel
theorem dX9_way_25 : decode cX9_way 25 = .ok (.ireturn, 1) := by decide +kernel
theorem dX9_way_26 : decode cX9_way 26 = .ok (.aload_n 0, 1) := by decide +kernel
theorem dX9_way_27 : decode cX9_way 27 = .ok (.getfield 217, 3) := by decide +kernel
theorem dX9_way_30 : decode cX9_way 30 = .ok (.ifCond .ne 11, 3) := by decide +kernel
theorem dX9_way_33 : decode cX9_way 33 = .ok (.aload_n 0, 1) := by decide +kernel
theorem dX9_way_34 : decode cX9_way 34 = .ok (.iload_n 2, 1) := by decide +kernel
theorem dX9_way_35 : decode cX9_way 35 = .ok (.invokevirtual 328, 3) := by decide +kernel
theorem dX9_way_38 : decode cX9_way 38 = .ok (.ifCond .ne 7, 3) := by decide +kernel
theorem dX9_way_41 : decode cX9_way 41 = .ok (.iconst (-1), 1) := by decide +kernel
theorem dX9_way_42 : decode cX9_way 42 = .ok (.goto 9, 3) := by decide +kernel
theorem dX9_way_45 : decode cX9_way 45 = .ok (.aload_n 0, 1) := by decide +kernel
theorem dX9_way_46 : decode cX9_way 46 = .ok (.getfield 92, 3) := by decide +kernel
theorem dX9_way_49 : decode cX9_way 49 = .ok (.iload_n 1, 1) := by decide +kernel
theorem dX9_way_50 : decode cX9_way 50 = .ok (.iaload, 1) := by decide +kernel
theorem dX9_way_51 : decode cX9_way 51 = .ok (.ireturn, 1) := by decide +kernel
set_option maxHeartbeats 4000000 in
set_option maxRecDepth 100000 in
theorem c_X9_way {l : Launch} {D : va_G} {aC : Nat → ClassId} {a_o : Nat → Nat} (s_o : Ob_T) (x1 : Int32) {out : Int32 × Ob_T} (h : f_X9_way s_o x1 = some out) : M_W l yX9_way wlX9_way 7 169 D aC [.ref (a_o 0), .int x1] (wd_X9 aC a_o s_o) (some (.int out.1)) (wd_X9 aC a_o out.2) := by
  refine k_entW (cc := cX9_way) (ret := (some .int)) (maxL := 3) (own := RX9) (by decide) rfl rfl rfl ?_
  intro p e s m below meth c A ls hX hr hZ hl
  have hl : lv_has ls 3 [(0, .ref (a_o 0)), (1, .int x1)] := hl
  generalize ([.ref (a_o 0), .int x1] : List Value).toArray = args at hX ⊢
  obtain ⟨hx, hb, hml, hown, hts, hK, hA, hlk⟩ := id hX
  unfold f_X9_way at h
  generalize s.heap = H at hZ ⊢
  generalize ([] : List Loc) = locs at hZ ⊢
  refine lv_iload_n hx hb dX9_way_0 rfl (lv_at hl 1 rfl) ?_
  obtain ⟨u1, hu, h⟩ := k_bd h
  refine k_sR (As := [.int x1]) (rest := []) (wc := []) (v := some (.int u1)) (st1 := [.int u1]) hX hl.1 hZ (c_X9_isTold  x1 hu) (gs_ wm_226 wm_228 wm_11 wm_227) rfl hd_X9_isTold ⟨rfl, rfl⟩ [] rfl rfl rfl rfl rfl dX9_way_1 rfl ⟨rfl, rfl⟩ (fun locs hZ => ?_)
  clear hu
  refine lv_if_ne (tgt := 10) hx hb dX9_way_4 (by decide) (fun cd => ?_) (fun cd => ?_)
  · replace h := k_f cd h
    clear cd
    refine lv_aload_n hx hb dX9_way_10 rfl (lv_at hl 0 rfl) ?_
    obtain ⟨u2, hu, h⟩ := k_bd h
    refine k_vWs (As := []) (rest := []) (v := some (.int u2.1)) (st1 := [.int u2.1]) hX hl.1 hZ (c_X9_open (a_o := a_o) s_o hu) (gv_ wm_243 wm_245 wm_246 wm_11 wm_244) rfl hd_X9_open ⟨rfl, rfl⟩ 9 0 rfl rfl rfl rfl rfl dX9_way_11 rfl ⟨rfl, rfl⟩ rfl (fun H locs hZ => ?_)
    clear hu
    refine lv_istore_n (lv' := [(2, .int u2.1), (0, .ref (a_o 0)), (1, .int x1)]) hx hb dX9_way_14 rfl hl (by decide) rfl (fun ls hl => ?_)
    refine lv_iload_n hx hb dX9_way_15 rfl (lv_at hl 0 rfl) ?_
    refine lv_iload_n hx hb dX9_way_16 rfl (lv_at hl 2 rfl) ?_
    obtain ⟨u3, hu, h⟩ := k_bd h
    refine k_sR (As := [.int u2.1, .int x1]) (rest := []) (wc := []) (v := some (.int u3)) (st1 := [.int u3]) hX hl.1 hZ (c_X9_has  u2.1 x1 hu) (gs_ wm_231 wm_233 wm_11 wm_232) rfl hd_X9_has ⟨rfl, rfl⟩ [] rfl rfl rfl rfl rfl dX9_way_17 rfl ⟨rfl, rfl⟩ (fun locs hZ => ?_)
    clear hu
    refine lv_if_ne (tgt := 26) hx hb dX9_way_20 (by decide) (fun cd => ?_) (fun cd => ?_)
    · replace h := k_f cd h
      clear cd
      refine lv_aload_n hx hb dX9_way_26 rfl (lv_at hl 1 rfl) ?_
      refine k_get hX hZ.1 0 9 rfl rfl iw_X9 35 rfl (wm_126) (v := .int (o_F u2.2 35)) rfl dX9_way_27 ?_
      refine lv_if_ne (tgt := 41) hx hb dX9_way_30 (by decide) (fun cd => ?_) (fun cd => ?_)
      · replace h := k_f cd h
        clear cd
        refine lv_iconst (v := -1) hx hb dX9_way_41 (by decide) ?_
        refine lv_goto (tgt := 51) hx hb dX9_way_42 (by decide) ?_
        cases h
        exact k_iretW hX hr hZ dX9_way_51
      · replace h := k_t cd h
        clear cd
        refine lv_aload_n hx hb dX9_way_33 rfl (lv_at hl 1 rfl) ?_
        refine lv_iload_n hx hb dX9_way_34 rfl (lv_at hl 0 rfl) ?_
        obtain ⟨u4, hu, h⟩ := k_bd h
        refine k_vWs (As := [.int u2.1]) (rest := []) (v := some (.int u4.1)) (st1 := [.int u4.1]) hX hl.1 hZ (c_X9_findWays (a_o := a_o) u2.2 u2.1 hu) (gv_ wm_239 wm_241 wm_242 wm_11 wm_240) rfl hd_X9_findWays ⟨rfl, rfl⟩ 9 0 rfl rfl rfl rfl rfl dX9_way_35 rfl ⟨rfl, rfl⟩ rfl (fun H locs hZ => ?_)
        clear hu
        refine lv_if_ne (tgt := 45) hx hb dX9_way_38 (by decide) (fun cd => ?_) (fun cd => ?_)
        · replace h := k_f cd h
          clear cd
          refine lv_aload_n hx hb dX9_way_45 rfl (lv_at hl 1 rfl) ?_
          refine k_get hX hZ.1 0 9 rfl rfl iw_X9 43 rfl (wm_238) (v := .ref (a_o 28)) rfl dX9_way_46 ?_
          refine lv_iload_n hx hb dX9_way_49 rfl (lv_at hl 2 rfl) ?_
          refine k_iald hX hZ.1 28 rfl h dX9_way_50 (fun v5 h => ?_)
          cases h
          exact k_iretW hX hr hZ dX9_way_51
        · replace h := k_t cd h
          clear cd
          refine lv_iconst (v := -1) hx hb dX9_way_41 (by decide) ?_
          refine lv_goto (tgt := 51) hx hb dX9_way_42 (by decide) ?_
          cases h
          exact k_iretW hX hr hZ dX9_way_51
    · replace h := k_t cd h
      clear cd
      refine lv_bipush (v := -4) hx hb dX9_way_23 (by decide) ?_
      cases h
      exact k_iretW hX hr hZ dX9_way_25
  · replace h := k_t cd h
    clear cd
    refine lv_bipush (v := -2) hx hb dX9_way_7 (by decide) ?_
    cases h
    exact k_iretW hX hr hZ dX9_way_9
