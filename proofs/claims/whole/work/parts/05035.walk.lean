def wlX9_give : List Cond := .code yX9_give cX9_give 3 (some .int) :: WL_
theorem hd_X9_give : yX9_give.cls = RX9 ∧ yX9_give.cls ≠ "java/lang/invoke/MethodHandle" ∧ yX9_give.cls ≠ "java/lang/invoke/VarHandle" ∧ (parseMethodDescriptor yX9_give.desc).map (fun d => d.parameters.length) = some 2 := by decide +kernel
theorem dX9_give_0 : decode cX9_give 0 = .ok (.iload_n 1, 1) := by decide +kernel
theorem dX9_give_1 : decode cX9_give 1 = .ok (.invokestatic 306, 3) := by decide +kernel
theorem dX9_give_4 : decode cX9_give 4 = .ok (.ifCond .ne 6, 3) := by decide +kernel
theorem dX9_give_7 : decode cX9_give 7 = .ok (.bipush (-2), 2) := by decide +kernel
theorem dX9_give_9 : decode cX9_give 9 = .ok (.ireturn, 1) := by decide +kernel
theorem dX9_give_10 : decode cX9_give 10 = .ok (.iload_n 2, 1) := by decide +kernel
theorem dX9_give_11 : decode cX9_give 11 = .ok (.i2l, 1) := by decide +kernel
theorem dX9_give_12 : decode cX9_give 12 = .ok (.lconst 0, 1) := by decide +kernel
theorem dX9_give_13 : decode cX9_give 13 = .ok (.ldc2_w 309, 3) := by decide +kernel
theorem dX9_give_16 : decode cX9_give 16 = .ok (.invokestatic 97, 3) := by decide +kernel
theorem dX9_give_19 : decode cX9_give 19 = .ok (.ifCond .ne 6, 3) := by decide +kernel
theorem dX9_give_22 : decode cX9_give 22 = .ok (.bipush (-3), 2) := by decide +kernel
theorem dX9_give_24 : decode cX9_give 24 = .ok (.ireturn, 1) := by decide +kernel
theorem dX9_give_25 : decode cX9_give 25 = .ok (.aload_n 0, 1) := by decide +kernel
theorem dX9_give_26 : decode cX9_give 26 = .ok (.getfield 16, 3) := by decide +kernel
theorem dX9_give_29 : decode cX9_give 29 = .ok (.iload_n 1, 1) := by decide +kernel
theorem dX9_give_30 : decode cX9_give 30 = .ok (.iaload, 1) := by decide +kernel
theorem dX9_give_31 : decode cX9_give 31 = .ok (.iload_n 2, 1) := by decide +kernel
theorem dX9_give_32 : decode cX9_give 32 = .ok (.if_icmp .ne 6, 3) := by decide +kernel
theorem dX9_give_35 : decode cX9_give 35 = .ok (.bipush (-4), 2) := by decide +kernel
theorem dX9_give_37 : decode cX9_give 37 = .ok (.ireturn, 1) := by decide +kernel
theorem dX9_give_38 : decode cX9_give 38 = .ok (.aload_n 0, 1) := by decide +kernel
theorem dX9_give_39 : decode cX9_give 39 = .ok (.iload_n 1, 1) := by decide +kernel
theorem dX9_give_40 : decode cX9_give 40 = .ok (.iload_n 2, 1) := by decide +kernel
theorem dX9_give_41 : decode cX9_give 41 = .ok (.invokevirtual 311, 3) := by decide +kernel
theorem dX9_give_44 : decode cX9_give 44 = .ok (.aload_n 0, 1) := by decide +kernel
theorem dX9_give_45 : decode cX9_give 45 = .ok (.invokevirtual 314, 3) := by decide +kernel
theorem dX9_give_48 : decode cX9_give 48 = .ok (.ireturn, 1) := by decide +kernel
set_option maxHeartbeats 4000000 in
set_option maxRecDepth 100000 in
theorem c_X9_give {l : Launch} {D : va_G} {aC : Nat → ClassId} {a_o : Nat → Nat} (s_o : Ob_T) (x1 : Int32) (x2 : Int32) {out : Int32 × Ob_T} (h : f_X9_give s_o x1 x2 = some out) : M_W l yX9_give wlX9_give 2 45 D aC [.ref (a_o 0), .int x1, .int x2] (wd_X9 aC a_o s_o) (some (.int out.1)) (wd_X9 aC a_o out.2) := by
  refine k_entW (cc := cX9_give) (ret := (some .int)) (maxL := 3) (own := RX9) (by decide) rfl rfl rfl ?_
  intro p e s m below meth c A ls hX hr hZ hl
  have hl : lv_has ls 3 [(0, .ref (a_o 0)), (1, .int x1), (2, .int x2)] := hl
  generalize ([.ref (a_o 0), .int x1, .int x2] : List Value).toArray = args at hX ⊢
  obtain ⟨hx, hb, hml, hown, hts, hK, hA, hlk⟩ := id hX
  unfold f_X9_give at h
  generalize s.heap = H at hZ ⊢
  generalize ([] : List Loc) = locs at hZ ⊢
  refine lv_iload_n hx hb dX9_give_0 rfl (lv_at hl 1 rfl) ?_
  obtain ⟨u1, hu, h⟩ := k_bd h
  refine k_sR (As := [.int x1]) (rest := []) (wc := []) (v := some (.int u1)) (st1 := [.int u1]) hX hl.1 hZ (c_X9_isTold  x1 hu) (gs_ wm_226 wm_228 wm_11 wm_227) rfl hd_X9_isTold ⟨rfl, rfl⟩ [] rfl rfl rfl rfl rfl dX9_give_1 rfl ⟨rfl, rfl⟩ (fun locs hZ => ?_)
  clear hu
  refine lv_if_ne (tgt := 10) hx hb dX9_give_4 (by decide) (fun cd => ?_) (fun cd => ?_)
  · replace h := k_f cd h
    clear cd
    refine lv_iload_n hx hb dX9_give_10 rfl (lv_at hl 2 rfl) ?_
    refine lv_i2l (v := x2.toInt64) hx hb dX9_give_11 rfl ?_
    refine lv_lconst (v := 0) hx hb dX9_give_12 (by decide) ?_
    refine lv_ldc2 (v := 9) hx hb hown (hts _ wm_217) dX9_give_13 ?_
    obtain ⟨u2, hu, h⟩ := k_bd h
    refine k_sR (As := [.long x2.toInt64, .long (0 : Int64), .long (9 : Int64)]) (rest := []) (wc := []) (v := some (.int u2)) (st1 := [.int u2]) hX hl.1 hZ (c_X9_in  x2.toInt64 (0 : Int64) (9 : Int64) hu) (gs_ wm_10 wm_13 wm_11 wm_12) rfl hd_X9_in ⟨rfl, rfl⟩ [] rfl rfl rfl rfl rfl dX9_give_16 rfl ⟨rfl, rfl⟩ (fun locs hZ => ?_)
    clear hu
    refine lv_if_ne (tgt := 25) hx hb dX9_give_19 (by decide) (fun cd => ?_) (fun cd => ?_)
    · replace h := k_f cd h
      clear cd
      refine lv_aload_n hx hb dX9_give_25 rfl (lv_at hl 0 rfl) ?_
      refine k_get hX hZ.1 0 9 rfl rfl iw_X9 4 rfl (wm_118) (v := .ref (a_o 3)) rfl dX9_give_26 ?_
      refine lv_iload_n hx hb dX9_give_29 rfl (lv_at hl 1 rfl) ?_
      refine k_iald hX hZ.1 3 rfl h dX9_give_30 (fun v3 h => ?_)
      refine lv_iload_n hx hb dX9_give_31 rfl (lv_at hl 2 rfl) ?_
      refine lv_icmp_ne (tgt := 38) hx hb dX9_give_32 (by decide) (fun cd => ?_) (fun cd => ?_)
      · replace h := k_f cd h
        clear cd
        refine lv_aload_n hx hb dX9_give_38 rfl (lv_at hl 0 rfl) ?_
        refine lv_iload_n hx hb dX9_give_39 rfl (lv_at hl 1 rfl) ?_
        refine lv_iload_n hx hb dX9_give_40 rfl (lv_at hl 2 rfl) ?_
        obtain ⟨u4, hu, h⟩ := k_bd h
        refine k_vWs (As := [.int x1, .int x2]) (rest := []) (v := none) (st1 := []) hX hl.1 hZ (c_X9_become (a_o := a_o) s_o x1 x2 hu) (gv_ wm_222 wm_224 wm_225 wm_11 wm_223) rfl hd_X9_become ⟨rfl, rfl⟩ 9 0 rfl rfl rfl rfl rfl dX9_give_41 rfl ⟨rfl, rfl⟩ rfl (fun H locs hZ => ?_)
        clear hu
        refine lv_aload_n hx hb dX9_give_44 rfl (lv_at hl 0 rfl) ?_
        obtain ⟨u5, hu, h⟩ := k_bd h
        refine k_vRs (As := []) (rest := []) (v := some (.int u5)) (st1 := [.int u5]) hX hl.1 hZ (c_X9_givenMany (a_o := a_o) u4 hu) (gv_ wm_218 wm_220 wm_221 wm_11 wm_219) rfl hd_X9_givenMany ⟨rfl, rfl⟩ 9 0 rfl rfl rfl rfl rfl dX9_give_45 rfl ⟨rfl, rfl⟩ (fun locs hZ => ?_)
        clear hu
        cases h
        exact k_iretW hX hr hZ dX9_give_48
      · replace h := k_t cd h
        clear cd
        refine lv_bipush (v := -4) hx hb dX9_give_35 (by decide) ?_
        cases h
        exact k_iretW hX hr hZ dX9_give_37
    · replace h := k_t cd h
      clear cd
      refine lv_bipush (v := -3) hx hb dX9_give_22 (by decide) ?_
      cases h
      exact k_iretW hX hr hZ dX9_give_24
  · replace h := k_t cd h
    clear cd
    refine lv_bipush (v := -2) hx hb dX9_give_7 (by decide) ?_
    cases h
    exact k_iretW hX hr hZ dX9_give_9
def wlX9_free : List Cond := .code yX9_free cX9_free 2 (some .int) :: WL_
theorem hd_X9_free : yX9_free.cls = RX9 ∧ yX9_free.cls ≠ "java/lang/invoke/MethodHandle" ∧ yX9_free.cls ≠ "java/lang/invoke/VarHandle" ∧ (parseMethodDescriptor yX9_free.desc).map (fun d => d.parameters.length) = some 1 := by decide +kernel
theorem dX9_free_0 : decode cX9_free 0 = .ok (.iload_n 1, 1) := by decide +kernel
theorem dX9_free_1 : decode cX9_free 1 = .ok (.invokestatic 306, 3) := by decide +kernel
theorem dX9_free_4 : decode cX9_free 4 = .ok (.ifCond .ne 6, 3) := by decide +kernel
theorem dX9_free_7 : decode cX9_free 7 = .ok (.bipush (-2), 2) := by decide +kernel
theorem dX9_free_9 : decode cX9_free 9 = .ok (.ireturn, 1) := by decide +kernel
theorem dX9_free_10 : decode cX9_free 10 = .ok (.aload_n 0, 1) := by decide +kernel
theorem dX9_free_11 : decode cX9_free 11 = .ok (.getfield 16, 3) := by decide +kernel
theorem dX9_free_14 : decode cX9_free 14 = .ok (.iload_n 1, 1) := by decide +kernel
theorem dX9_free_15 : decode cX9_free 15 = .ok (.iaload, 1) := by decide +kernel
theorem dX9_free_16 : decode cX9_free 16 = .ok (.ifCond .ge 6, 3) := by decide +kernel
theorem dX9_free_19 : decode cX9_free 19 = .ok (.bipush (-4), 2) := by decide +kernel
theorem dX9_free_21 : decode cX9_free 21 = .ok (.ireturn, 1) := by decide +kernel
theorem dX9_free_22 : decode cX9_free 22 = .ok (.aload_n 0, 1) := by decide +kernel
theorem dX9_free_23 : decode cX9_free 23 = .ok (.iload_n 1, 1) := by decide +kernel
theorem dX9_free_24 : decode cX9_free 24 = .ok (.iconst (-1), 1) := by decide +kernel
theorem dX9_free_25 : decode cX9_free 25 = .ok (.invokevirtual 311, 3) := by decide +kernel
theorem dX9_free_28 : decode cX9_free 28 = .ok (.aload_n 0, 1) := by decide +kernel
theorem dX9_free_29 : decode cX9_free 29 = .ok (.invokevirtual 314, 3) := by decide +kernel
theorem dX9_free_32 : decode cX9_free 32 = .ok (.ireturn, 1) := by decide +kernel
set_option maxHeartbeats 4000000 in
set_option maxRecDepth 100000 in
theorem c_X9_free {l : Launch} {D : va_G} {aC : Nat → ClassId} {a_o : Nat → Nat} (s_o : Ob_T) (x1 : Int32) {out : Int32 × Ob_T} (h : f_X9_free s_o x1 = some out) : M_W l yX9_free wlX9_free 2 45 D aC [.ref (a_o 0), .int x1] (wd_X9 aC a_o s_o) (some (.int out.1)) (wd_X9 aC a_o out.2) := by
  refine k_entW (cc := cX9_free) (ret := (some .int)) (maxL := 2) (own := RX9) (by decide) rfl rfl rfl ?_
  intro p e s m below meth c A ls hX hr hZ hl
  have hl : lv_has ls 2 [(0, .ref (a_o 0)), (1, .int x1)] := hl
  generalize ([.ref (a_o 0), .int x1] : List Value).toArray = args at hX ⊢
  obtain ⟨hx, hb, hml, hown, hts, hK, hA, hlk⟩ := id hX
  unfold f_X9_free at h
  generalize s.heap = H at hZ ⊢
  generalize ([] : List Loc) = locs at hZ ⊢
  refine lv_iload_n hx hb dX9_free_0 rfl (lv_at hl 1 rfl) ?_
  obtain ⟨u1, hu, h⟩ := k_bd h
  refine k_sR (As := [.int x1]) (rest := []) (wc := []) (v := some (.int u1)) (st1 := [.int u1]) hX hl.1 hZ (c_X9_isTold  x1 hu) (gs_ wm_226 wm_228 wm_11 wm_227) rfl hd_X9_isTold ⟨rfl, rfl⟩ [] rfl rfl rfl rfl rfl dX9_free_1 rfl ⟨rfl, rfl⟩ (fun locs hZ => ?_)
  clear hu
  refine lv_if_ne (tgt := 10) hx hb dX9_free_4 (by decide) (fun cd => ?_) (fun cd => ?_)
  · replace h := k_f cd h
    clear cd
    refine lv_aload_n hx hb dX9_free_10 rfl (lv_at hl 0 rfl) ?_
    refine k_get hX hZ.1 0 9 rfl rfl iw_X9 4 rfl (wm_118) (v := .ref (a_o 3)) rfl dX9_free_11 ?_
    refine lv_iload_n hx hb dX9_free_14 rfl (lv_at hl 1 rfl) ?_
    refine k_iald hX hZ.1 3 rfl h dX9_free_15 (fun v2 h => ?_)
    refine lv_if_ge (tgt := 22) hx hb dX9_free_16 (by decide) (fun cd => ?_) (fun cd => ?_)
    · replace h := k_t cd h
      clear cd
      refine lv_aload_n hx hb dX9_free_22 rfl (lv_at hl 0 rfl) ?_
      refine lv_iload_n hx hb dX9_free_23 rfl (lv_at hl 1 rfl) ?_
      refine lv_iconst (v := -1) hx hb dX9_free_24 (by decide) ?_
      obtain ⟨u3, hu, h⟩ := k_bd h
      refine k_vWs (As := [.int x1, .int (-1 : Int32)]) (rest := []) (v := none) (st1 := []) hX hl.1 hZ (c_X9_become (a_o := a_o) s_o x1 (-1 : Int32) hu) (gv_ wm_222 wm_224 wm_225 wm_11 wm_223) rfl hd_X9_become ⟨rfl, rfl⟩ 9 0 rfl rfl rfl rfl rfl dX9_free_25 rfl ⟨rfl, rfl⟩ rfl (fun H locs hZ => ?_)
      clear hu
      refine lv_aload_n hx hb dX9_free_28 rfl (lv_at hl 0 rfl) ?_
      obtain ⟨u4, hu, h⟩ := k_bd h
      refine k_vRs (As := []) (rest := []) (v := some (.int u4)) (st1 := [.int u4]) hX hl.1 hZ (c_X9_givenMany (a_o := a_o) u3 hu) (gv_ wm_218 wm_220 wm_221 wm_11 wm_219) rfl hd_X9_givenMany ⟨rfl, rfl⟩ 9 0 rfl rfl rfl rfl rfl dX9_free_29 rfl ⟨rfl, rfl⟩ (fun locs hZ => ?_)
      clear hu
      cases h
      exact k_iretW hX hr hZ dX9_free_32
    · replace h := k_f cd h
      clear cd
      refine lv_bipush (v := -4) hx hb dX9_free_19 (by decide) ?_
      cases h
      exact k_iretW hX hr hZ dX9_free_21
  · replace h := k_t cd h
    clear cd
    refine lv_bipush (v := -2) hx hb dX9_free_7 (by decide) ?_
    cases h
    exact k_iretW hX hr hZ dX9_free_9
def wlX9_undo : List Cond := .code yX9_undo cX9_undo 2 (some .int) :: WL_
theorem hd_X9_undo : yX9_undo.cls = RX9 ∧ yX9_undo.cls ≠ "java/lang/invoke/MethodHandle" ∧ yX9_undo.cls ≠ "java/lang/invoke/VarHandle" ∧ (parseMethodDescriptor yX9_undo.desc).map (fun d => d.parameters.length) = some 0 := by decide +kernel
theorem dX9_undo_0 : decode cX9_undo 0 = .ok (.aload_n 0, 1) := by decide +kernel
theorem dX9_undo_1 : decode cX9_undo 1 = .ok (.getfield 182, 3) := by decide +kernel
theorem dX9_undo_4 : decode cX9_undo 4 = .ok (.ifCond .ne 6, 3) := by decide +kernel
theorem dX9_undo_7 : decode cX9_undo 7 = .ok (.bipush (-4), 2) := by decide +kernel
theorem dX9_undo_9 : decode cX9_undo 9 = .ok (.ireturn, 1) := by decide +kernel
theorem dX9_undo_10 : decode cX9_undo 10 = .ok (.aload_n 0, 1) := by decide +kernel
theorem dX9_undo_11 : decode cX9_undo 11 = .ok (.dup, 1) := by decide +kernel
theorem dX9_undo_12 : decode cX9_undo 12 = .ok (.getfield 182, 3) := by decide +kernel
theorem dX9_undo_15 : decode cX9_undo 15 = .ok (.iconst 1, 1) := by decide +kernel
theorem dX9_undo_16 : decode cX9_undo 16 = .ok (.isub, 1) := by decide +kernel
theorem dX9_undo_17 : decode cX9_undo 17 = .ok (.putfield 182, 3) := by decide +kernel
theorem dX9_undo_20 : decode cX9_undo 20 = .ok (.iconst 0, 1) := by decide +kernel
theorem dX9_undo_21 : decode cX9_undo 21 = .ok (.istore_n 1, 1) := by decide +kernel
theorem dX9_undo_22 : decode cX9_undo 22 = .ok (.iload_n 1, 1) := by decide +kernel
theorem dX9_undo_23 : decode cX9_undo 23 = .ok (.iconst 4, 1) := by decide +kernel
theorem dX9_undo_24 : decode cX9_undo 24 = .ok (.if_icmp .ge 28, 3) := by decide +kernel
theorem dX9_undo_27 : decode cX9_undo 27 = .ok (.aload_n 0, 1) := by decide +kernel
theorem dX9_undo_28 : decode cX9_undo 28 = .ok (.getfield 16, 3) := by decide +kernel
theorem dX9_undo_31 : decode cX9_undo 31 = .ok (.iload_n 1, 1) := by decide +kernel
theorem dX9_undo_32 : decode cX9_undo 32 = .ok (.aload_n 0, 1) := by decide +kernel
theorem dX9_undo_33 : decode cX9_undo 33 = .ok (.getfield 19, 3) := by decide +kernel
theorem dX9_undo_36 : decode cX9_undo 36 = .ok (.iconst 4, 1) := by decide +kernel
theorem dX9_undo_37 : decode cX9_undo 37 = .ok (.aload_n 0, 1) := by decide +kernel
theorem dX9_undo_38 : decode cX9_undo 38 = .ok (.getfield 182, 3) := by decide +kernel
theorem dX9_undo_41 : decode cX9_undo 41 = .ok (.imul, 1) := by decide +kernel
theorem dX9_undo_42 : decode cX9_undo 42 = .ok (.iload_n 1, 1) := by decide +kernel
theorem dX9_undo_43 : decode cX9_undo 43 = .ok (.iadd, 1) := by decide +kernel
theorem dX9_undo_44 : decode cX9_undo 44 = .ok (.iaload, 1) := by decide +kernel
theorem dX9_undo_45 : decode cX9_undo 45 = .ok (.iastore, 1) := by decide +kernel
theorem dX9_undo_46 : decode cX9_undo 46 = .ok (.iinc 1 1, 3) := by decide +kernel
theorem dX9_undo_49 : decode cX9_undo 49 = .ok (.goto (-27), 3) := by decide +kernel
theorem dX9_undo_52 : decode cX9_undo 52 = .ok (.aload_n 0, 1) := by decide +kernel
theorem dX9_undo_53 : decode cX9_undo 53 = .ok (.getfield 182, 3) := by decide +kernel
theorem dX9_undo_56 : decode cX9_undo 56 = .ok (.ireturn, 1) := by decide +kernel
set_option maxHeartbeats 4000000 in
set_option maxRecDepth 100000 in
theorem t_X9_undo_L22 {p : Program} {l : Launch} {e : Env} {s : State} {m : MethodId} {args : Array Value} {below : List Frame} {meth : Method} {c : Code} {D : va_G} {aC : Nat → ClassId} {A : Nat → Prop} {a_o : Nat → Nat} {out : Int32 × Ob_T} {rec22 : (Int32 × Ob_T) → Option (Int32 × Ob_T)} (hX : K_X p s m args meth c cX9_undo 2 WL_ RX9 D aC A) (hr : meth.sig.returnType = (some .int)) (hrec22 : ∀ x : Int32 × Ob_T, rec22 x = some out → ∀ (H : Heap) (locs : List Loc) (ls : Array Slot), K_S D A s (wd_X9 aC a_o x.2) H locs → lv_has ls 2 [(0, .ref (a_o 0)), (1, .int x.1)] → W p l e (R_m 0 0) s m args below meth c H locs 0 0 (MQ below (Q_W (some (.int out.1)) D A (wd_X9 aC a_o out.2)) args s 0 0 A) (F0 m 22 ls [])) (x1 : Int32) (s_o : Ob_T) (h : f_X9_undo_L22 rec22 x1 s_o = some out) (H : Heap) (locs : List Loc) (ls : Array Slot) (hZ : K_S D A s (wd_X9 aC a_o s_o) H locs) (hl : lv_has ls 2 [(0, .ref (a_o 0)), (1, .int x1)]) : W p l e (R_m 0 0) s m args below meth c H locs 0 0 (MQ below (Q_W (some (.int out.1)) D A (wd_X9 aC a_o out.2)) args s 0 0 A) (F0 m 22 ls []) := by
  obtain ⟨hx, hb, hml, hown, hts, hK, hA, hlk⟩ := id hX
  unfold f_X9_undo_L22 at h
  refine lv_iload_n hx hb dX9_undo_22 rfl (lv_at hl 1 rfl) ?_
  refine lv_iconst (v := 4) hx hb dX9_undo_23 (by decide) ?_
  refine lv_icmp_ge (tgt := 52) hx hb dX9_undo_24 (by decide) (fun cd => ?_) (fun cd => ?_)
  · replace h := k_t cd h
    clear cd
    refine lv_aload_n hx hb dX9_undo_52 rfl (lv_at hl 0 rfl) ?_
    refine k_get hX hZ.1 0 9 rfl rfl iw_X9 6 rfl (wm_122) (v := .int (o_F s_o 6)) rfl dX9_undo_53 ?_
    cases h
    exact k_iretW hX hr hZ dX9_undo_56
  · replace h := k_f cd h
    clear cd
    refine lv_aload_n hx hb dX9_undo_27 rfl (lv_at hl 0 rfl) ?_
    refine k_get hX hZ.1 0 9 rfl rfl iw_X9 4 rfl (wm_118) (v := .ref (a_o 3)) rfl dX9_undo_28 ?_
    refine lv_iload_n hx hb dX9_undo_31 rfl (lv_at hl 1 rfl) ?_
    refine lv_aload_n hx hb dX9_undo_32 rfl (lv_at hl 0 rfl) ?_
    refine k_get hX hZ.1 0 9 rfl rfl iw_X9 5 rfl (wm_216) (v := .ref (a_o 4)) rfl dX9_undo_33 ?_
    refine lv_iconst (v := 4) hx hb dX9_undo_36 (by decide) ?_
    refine lv_aload_n hx hb dX9_undo_37 rfl (lv_at hl 0 rfl) ?_
    refine k_get hX hZ.1 0 9 rfl rfl iw_X9 6 rfl (wm_122) (v := .int (o_F s_o 6)) rfl dX9_undo_38 ?_
    refine lv_imul hx hb dX9_undo_41 ?_
    refine lv_iload_n hx hb dX9_undo_42 rfl (lv_at hl 1 rfl) ?_
    refine lv_iadd hx hb dX9_undo_43 ?_
    refine k_iald hX hZ.1 4 rfl h dX9_undo_44 (fun v2 h => ?_)
    refine k_iast (wf := (fun o => wd_X9 aC a_o o)) (o := s_o) hX hZ 3 4 rfl (fun _ => rfl) h dX9_undo_45 (fun o3 H locs hZ h => ?_)
    refine lv_iinc (v := (x1 + (1 : Int32))) (lv' := [(1, .int (x1 + (1 : Int32))), (0, .ref (a_o 0))]) hx hb dX9_undo_46 hl (k := 1) rfl rfl (by decide) rfl (fun ls hl => ?_)
    refine lv_goto (tgt := 22) hx hb dX9_undo_49 (by decide) ?_
    exact hrec22 ((x1 + (1 : Int32)), o3) h H locs ls hZ (lv_sub hl [1, 0] rfl)
set_option maxHeartbeats 4000000 in
set_option maxRecDepth 100000 in
theorem c_X9_undo {l : Launch} {D : va_G} {aC : Nat → ClassId} {a_o : Nat → Nat} (s_o : Ob_T) {out : Int32 × Ob_T} (h : f_X9_undo s_o = some out) : M_W l yX9_undo wlX9_undo 0 0 D aC [.ref (a_o 0)] (wd_X9 aC a_o s_o) (some (.int out.1)) (wd_X9 aC a_o out.2) := by
  refine k_entW (cc := cX9_undo) (ret := (some .int)) (maxL := 2) (own := RX9) (by decide) rfl rfl rfl ?_
  intro p e s m below meth c A ls hX hr hZ hl
  have hl : lv_has ls 2 [(0, .ref (a_o 0))] := hl
  generalize ([.ref (a_o 0)] : List Value).toArray = args at hX ⊢
  obtain ⟨hx, hb, hml, hown, hts, hK, hA, hlk⟩ := id hX
  unfold f_X9_undo at h
  generalize s.heap = H at hZ ⊢
  generalize ([] : List Loc) = locs at hZ ⊢
  refine lv_aload_n hx hb dX9_undo_0 rfl (lv_at hl 0 rfl) ?_
  refine k_get hX hZ.1 0 9 rfl rfl iw_X9 6 rfl (wm_122) (v := .int (o_F s_o 6)) rfl dX9_undo_1 ?_
  refine lv_if_ne (tgt := 10) hx hb dX9_undo_4 (by decide) (fun cd => ?_) (fun cd => ?_)
  · replace h := k_f cd h
    clear cd
    refine lv_aload_n hx hb dX9_undo_10 rfl (lv_at hl 0 rfl) ?_
    refine lv_dup hx hb dX9_undo_11 rfl ?_
    refine k_get hX hZ.1 0 9 rfl rfl iw_X9 6 rfl (wm_122) (v := .int (o_F s_o 6)) rfl dX9_undo_12 ?_
    refine lv_iconst (v := 1) hx hb dX9_undo_15 (by decide) ?_
    refine lv_isub hx hb dX9_undo_16 ?_
    refine k_put (wf := (fun o => wd_X9 aC a_o o)) (o := s_o) hX hZ 0 9 rfl rfl iw_X9 tyX9 tyX9_ok nmX9 6 rfl (wm_122) rfl rfl rfl rfl rfl h dX9_undo_17 (fun o1 H locs hZ h => ?_)
    refine lv_iconst (v := 0) hx hb dX9_undo_20 (by decide) ?_
    refine lv_istore_n (lv' := [(1, .int (0 : Int32)), (0, .ref (a_o 0))]) hx hb dX9_undo_21 rfl hl (by decide) rfl (fun ls hl => ?_)
    exact Lp_ok (body := (fun (rec : (Int32 × Ob_T) → Option (Int32 × Ob_T)) x => f_X9_undo_L22 rec x.1 x.2)) (out := out) (fun x => ∀ (H : Heap) (locs : List Loc) (ls : Array Slot), K_S D A s (wd_X9 aC a_o x.2) H locs → lv_has ls 2 [(0, .ref (a_o 0)), (1, .int x.1)] → W p l e (R_m 0 0) s m args below meth c H locs 0 0 (MQ below (Q_W (some (.int out.1)) D A (wd_X9 aC a_o out.2)) args s 0 0 A) (F0 m 22 ls [])) (fun rec hrec x h H locs ls hZ hl => t_X9_undo_L22 hX hr hrec x.1 x.2 h H locs ls hZ hl) FU_ ((0 : Int32), o1) h H locs ls hZ (lv_sub hl [1, 0] rfl)
  · replace h := k_t cd h
    clear cd
    refine lv_bipush (v := -4) hx hb dX9_undo_7 (by decide) ?_
    cases h
    exact k_iretW hX hr hZ dX9_undo_9
