def wlX9_letter : List Cond := .code yX9_letter cX9_letter 4 (some .int) :: WL_
theorem hd_X9_letter : yX9_letter.cls = RX9 ∧ yX9_letter.cls ≠ "java/lang/invoke/MethodHandle" ∧ yX9_letter.cls ≠ "java/lang/invoke/VarHandle" ∧ (parseMethodDescriptor yX9_letter.desc).map (fun d => d.parameters.length) = some 1 := by decide +kernel
theorem dX9_letter_0 : decode cX9_letter 0 = .ok (.iload_n 1, 1) := by decide +kernel
theorem dX9_letter_1 : decode cX9_letter 1 = .ok (.iconst 4, 1) := by decide +kernel
theorem dX9_letter_2 : decode cX9_letter 2 = .ok (.isub, 1) := by decide +kernel
theorem dX9_letter_3 : decode cX9_letter 3 = .ok (.istore_n 2, 1) := by decide +kernel
theorem dX9_letter_4 : decode cX9_letter 4 = .ok (.aload_n 0, 1) := by decide +kernel
theorem dX9_letter_5 : decode cX9_letter 5 = .ok (.iload_n 2, 1) := by decide +kernel
theorem dX9_letter_6 : decode cX9_letter 6 = .ok (.invokevirtual 296, 3) := by decide +kernel
theorem dX9_letter_9 : decode cX9_letter 9 = .ok (.ifCond .eq 37, 3) := by decide +kernel
theorem dX9_letter_12 : decode cX9_letter 12 = .ok (.aload_n 0, 1) := by decide +kernel
theorem dX9_letter_13 : decode cX9_letter 13 = .ok (.getfield 7, 3) := by decide +kernel
theorem dX9_letter_16 : decode cX9_letter 16 = .ok (.bipush 15, 2) := by decide +kernel
theorem dX9_letter_18 : decode cX9_letter 18 = .ok (.iload_n 2, 1) := by decide +kernel
theorem dX9_letter_19 : decode cX9_letter 19 = .ok (.imul, 1) := by decide +kernel
theorem dX9_letter_20 : decode cX9_letter 20 = .ok (.iconst 0, 1) := by decide +kernel
theorem dX9_letter_21 : decode cX9_letter 21 = .ok (.iadd, 1) := by decide +kernel
theorem dX9_letter_22 : decode cX9_letter 22 = .ok (.iaload, 1) := by decide +kernel
theorem dX9_letter_23 : decode cX9_letter 23 = .ok (.iconst 2, 1) := by decide +kernel
theorem dX9_letter_24 : decode cX9_letter 24 = .ok (.if_icmp .eq 18, 3) := by decide +kernel
theorem dX9_letter_27 : decode cX9_letter 27 = .ok (.aload_n 0, 1) := by decide +kernel
theorem dX9_letter_28 : decode cX9_letter 28 = .ok (.getfield 7, 3) := by decide +kernel
theorem dX9_letter_31 : decode cX9_letter 31 = .ok (.bipush 15, 2) := by decide +kernel
theorem dX9_letter_33 : decode cX9_letter 33 = .ok (.iload_n 2, 1) := by decide +kernel
theorem dX9_letter_34 : decode cX9_letter 34 = .ok (.imul, 1) := by decide +kernel
theorem dX9_letter_35 : decode cX9_letter 35 = .ok (.iconst 0, 1) := by decide +kernel
theorem dX9_letter_36 : decode cX9_letter 36 = .ok (.iadd, 1) := by decide +kernel
theorem dX9_letter_37 : decode cX9_letter 37 = .ok (.iaload, 1) := by decide +kernel
theorem dX9_letter_38 : decode cX9_letter 38 = .ok (.iconst 5, 1) := by decide +kernel
theorem dX9_letter_39 : decode cX9_letter 39 = .ok (.if_icmp .ne 7, 3) := by decide +kernel
theorem dX9_letter_42 : decode cX9_letter 42 = .ok (.iconst 1, 1) := by decide +kernel
theorem dX9_letter_43 : decode cX9_letter 43 = .ok (.goto 4, 3) := by decide +kernel
theorem dX9_letter_46 : decode cX9_letter 46 = .ok (.iconst 0, 1) := by decide +kernel
theorem dX9_letter_47 : decode cX9_letter 47 = .ok (.istore_n 3, 1) := by decide +kernel
theorem dX9_letter_48 : decode cX9_letter 48 = .ok (.iload_n 1, 1) := by decide +kernel
theorem dX9_letter_49 : decode cX9_letter 49 = .ok (.invokestatic 306, 3) := by decide +kernel
theorem dX9_letter_52 : decode cX9_letter 52 = .ok (.ifCond .ne 10, 3) := by decide +kernel
theorem dX9_letter_55 : decode cX9_letter 55 = .ok (.iload_n 3, 1) := by decide +kernel
theorem dX9_letter_56 : decode cX9_letter 56 = .ok (.ifCond .ne 6, 3) := by decide +kernel
theorem dX9_letter_59 : decode cX9_letter 59 = .ok (.bipush (-2), 2) := by decide +kernel
theorem dX9_letter_61 : decode cX9_letter 61 = .ok (.ireturn, 1) := by decide +kernel
theorem dX9_letter_62 : decode cX9_letter 62 = .ok (.aload_n 0, 1) := by decide +kernel
theorem dX9_letter_63 : decode cX9_letter 63 = .ok (.invokevirtual 301, 3) := by decide +kernel
theorem dX9_letter_66 : decode cX9_letter 66 = .ok (.aload_n 0, 1) := by decide +kernel
theorem dX9_letter_67 : decode cX9_letter 67 = .ok (.sipush 20000, 3) := by decide +kernel
theorem dX9_letter_70 : decode cX9_letter 70 = .ok (.iload_n 1, 1) := by decide +kernel
theorem dX9_letter_71 : decode cX9_letter 71 = .ok (.iadd, 1) := by decide +kernel
theorem dX9_letter_72 : decode cX9_letter 72 = .ok (.invokevirtual 221, 3) := by decide +kernel
theorem dX9_letter_75 : decode cX9_letter 75 = .ok (.ireturn, 1) := by decide +kernel
set_option maxHeartbeats 4000000 in
set_option maxRecDepth 100000 in
theorem t_X9_letter_J62 {p : Program} {l : Launch} {e : Env} {s : State} {m : MethodId} {args : Array Value} {below : List Frame} {meth : Method} {c : Code} {D : va_G} {aC : Nat → ClassId} {A : Nat → Prop} {a_o : Nat → Nat} {out : Int32 × Ob_T} (hX : K_X p s m args meth c cX9_letter 4 WL_ RX9 D aC A) (hr : meth.sig.returnType = (some .int)) (x1 : Int32) (s_o : Ob_T) (h : f_X9_letter_J62 x1 s_o = some out) (H : Heap) (locs : List Loc) (ls : Array Slot) (hZ : K_S D A s (wd_X9 aC a_o s_o) H locs) (hl : lv_has ls 4 [(0, .ref (a_o 0)), (1, .int x1)]) : W p l e (R_m 6 146) s m args below meth c H locs 0 0 (MQ below (Q_W (some (.int out.1)) D A (wd_X9 aC a_o out.2)) args s 0 0 A) (F0 m 62 ls []) := by
  obtain ⟨hx, hb, hml, hown, hts, hK, hA, hlk⟩ := id hX
  unfold f_X9_letter_J62 at h
  refine lv_aload_n hx hb dX9_letter_62 rfl (lv_at hl 0 rfl) ?_
  obtain ⟨u3, hu, h⟩ := k_bd h
  refine k_vWs (As := []) (rest := []) (v := none) (st1 := []) hX hl.1 hZ (c_X9_solveNow (a_o := a_o) s_o hu) (gv_ wm_211 wm_213 wm_214 wm_11 wm_212) rfl hd_X9_solveNow ⟨rfl, rfl⟩ 9 0 rfl rfl rfl rfl rfl dX9_letter_63 rfl ⟨rfl, rfl⟩ rfl (fun H locs hZ => ?_)
  clear hu
  refine lv_aload_n hx hb dX9_letter_66 rfl (lv_at hl 0 rfl) ?_
  refine lv_sipush (v := 20000) hx hb dX9_letter_67 (by decide) ?_
  refine lv_iload_n hx hb dX9_letter_70 rfl (lv_at hl 1 rfl) ?_
  refine lv_iadd hx hb dX9_letter_71 ?_
  obtain ⟨u4, hu, h⟩ := k_bd h
  refine k_vRs (As := [.int ((20000 : Int32) + x1)]) (rest := []) (v := some (.int u4)) (st1 := [.int u4]) hX hl.1 hZ (c_X9_solved (a_o := a_o) u3 ((20000 : Int32) + x1) hu) (gv_ wm_135 wm_137 wm_138 wm_11 wm_136) rfl hd_X9_solved ⟨rfl, rfl⟩ 9 0 rfl rfl rfl rfl rfl dX9_letter_72 rfl ⟨rfl, rfl⟩ (fun locs hZ => ?_)
  clear hu
  cases h
  exact k_iretW hX hr hZ dX9_letter_75
set_option maxHeartbeats 4000000 in
set_option maxRecDepth 100000 in
theorem t_X9_letter_J47 {p : Program} {l : Launch} {e : Env} {s : State} {m : MethodId} {args : Array Value} {below : List Frame} {meth : Method} {c : Code} {D : va_G} {aC : Nat → ClassId} {A : Nat → Prop} {a_o : Nat → Nat} {out : Int32 × Ob_T} (hX : K_X p s m args meth c cX9_letter 4 WL_ RX9 D aC A) (hr : meth.sig.returnType = (some .int)) (x1 : Int32) (k0 : Int32) (s_o : Ob_T) (h : f_X9_letter_J47 x1 k0 s_o = some out) (H : Heap) (locs : List Loc) (ls : Array Slot) (hZ : K_S D A s (wd_X9 aC a_o s_o) H locs) (hl : lv_has ls 4 [(0, .ref (a_o 0)), (1, .int x1)]) : W p l e (R_m 6 146) s m args below meth c H locs 0 0 (MQ below (Q_W (some (.int out.1)) D A (wd_X9 aC a_o out.2)) args s 0 0 A) (F0 m 47 ls [.int k0]) := by
  obtain ⟨hx, hb, hml, hown, hts, hK, hA, hlk⟩ := id hX
  unfold f_X9_letter_J47 at h
  refine lv_istore_n (lv' := [(3, .int k0), (0, .ref (a_o 0)), (1, .int x1)]) hx hb dX9_letter_47 rfl hl (by decide) rfl (fun ls hl => ?_)
  refine lv_iload_n hx hb dX9_letter_48 rfl (lv_at hl 2 rfl) ?_
  obtain ⟨u2, hu, h⟩ := k_bd h
  refine k_sR (As := [.int x1]) (rest := []) (wc := []) (v := some (.int u2)) (st1 := [.int u2]) hX hl.1 hZ (c_X9_isTold  x1 hu) (gs_ wm_226 wm_228 wm_11 wm_227) rfl hd_X9_isTold ⟨rfl, rfl⟩ [] rfl rfl rfl rfl rfl dX9_letter_49 rfl ⟨rfl, rfl⟩ (fun locs hZ => ?_)
  clear hu
  refine lv_if_ne (tgt := 62) hx hb dX9_letter_52 (by decide) (fun cd => ?_) (fun cd => ?_)
  · replace h := k_f cd h
    clear cd
    exact t_X9_letter_J62 hX hr x1 s_o h H locs ls hZ (lv_sub hl [1, 2] rfl)
  · replace h := k_t cd h
    clear cd
    refine lv_iload_n hx hb dX9_letter_55 rfl (lv_at hl 0 rfl) ?_
    refine lv_if_ne (tgt := 62) hx hb dX9_letter_56 (by decide) (fun cd => ?_) (fun cd => ?_)
    · replace h := k_f cd h
      clear cd
      exact t_X9_letter_J62 hX hr x1 s_o h H locs ls hZ (lv_sub hl [1, 2] rfl)
    · replace h := k_t cd h
      clear cd
      refine lv_bipush (v := -2) hx hb dX9_letter_59 (by decide) ?_
      cases h
      exact k_iretW hX hr hZ dX9_letter_61
set_option maxHeartbeats 4000000 in
set_option maxRecDepth 100000 in
theorem t_X9_letter_J46 {p : Program} {l : Launch} {e : Env} {s : State} {m : MethodId} {args : Array Value} {below : List Frame} {meth : Method} {c : Code} {D : va_G} {aC : Nat → ClassId} {A : Nat → Prop} {a_o : Nat → Nat} {out : Int32 × Ob_T} (hX : K_X p s m args meth c cX9_letter 4 WL_ RX9 D aC A) (hr : meth.sig.returnType = (some .int)) (x1 : Int32) (s_o : Ob_T) (h : f_X9_letter_J46 x1 s_o = some out) (H : Heap) (locs : List Loc) (ls : Array Slot) (hZ : K_S D A s (wd_X9 aC a_o s_o) H locs) (hl : lv_has ls 4 [(0, .ref (a_o 0)), (1, .int x1)]) : W p l e (R_m 6 146) s m args below meth c H locs 0 0 (MQ below (Q_W (some (.int out.1)) D A (wd_X9 aC a_o out.2)) args s 0 0 A) (F0 m 46 ls []) := by
  obtain ⟨hx, hb, hml, hown, hts, hK, hA, hlk⟩ := id hX
  unfold f_X9_letter_J46 at h
  refine lv_iconst (v := 0) hx hb dX9_letter_46 (by decide) ?_
  exact t_X9_letter_J47 hX hr x1 (0 : Int32) s_o h H locs ls hZ (lv_sub hl [0, 1] rfl)
set_option maxHeartbeats 4000000 in
set_option maxRecDepth 100000 in
theorem t_X9_letter_J42 {p : Program} {l : Launch} {e : Env} {s : State} {m : MethodId} {args : Array Value} {below : List Frame} {meth : Method} {c : Code} {D : va_G} {aC : Nat → ClassId} {A : Nat → Prop} {a_o : Nat → Nat} {out : Int32 × Ob_T} (hX : K_X p s m args meth c cX9_letter 4 WL_ RX9 D aC A) (hr : meth.sig.returnType = (some .int)) (x1 : Int32) (s_o : Ob_T) (h : f_X9_letter_J42 x1 s_o = some out) (H : Heap) (locs : List Loc) (ls : Array Slot) (hZ : K_S D A s (wd_X9 aC a_o s_o) H locs) (hl : lv_has ls 4 [(0, .ref (a_o 0)), (1, .int x1)]) : W p l e (R_m 6 146) s m args below meth c H locs 0 0 (MQ below (Q_W (some (.int out.1)) D A (wd_X9 aC a_o out.2)) args s 0 0 A) (F0 m 42 ls []) := by
  obtain ⟨hx, hb, hml, hown, hts, hK, hA, hlk⟩ := id hX
  unfold f_X9_letter_J42 at h
  refine lv_iconst (v := 1) hx hb dX9_letter_42 (by decide) ?_
  refine lv_goto (tgt := 47) hx hb dX9_letter_43 (by decide) ?_
  exact t_X9_letter_J47 hX hr x1 (1 : Int32) s_o h H locs ls hZ (lv_sub hl [0, 1] rfl)
set_option maxHeartbeats 4000000 in
set_option maxRecDepth 100000 in
theorem c_X9_letter {l : Launch} {D : va_G} {aC : Nat → ClassId} {a_o : Nat → Nat} (s_o : Ob_T) (x1 : Int32) {out : Int32 × Ob_T} (h : f_X9_letter s_o x1 = some out) : M_W l yX9_letter wlX9_letter 6 146 D aC [.ref (a_o 0), .int x1] (wd_X9 aC a_o s_o) (some (.int out.1)) (wd_X9 aC a_o out.2) := by
  refine k_entW (cc := cX9_letter) (ret := (some .int)) (maxL := 4) (own := RX9) (by decide) rfl rfl rfl ?_
  intro p e s m below meth c A ls hX hr hZ hl
  have hl : lv_has ls 4 [(0, .ref (a_o 0)), (1, .int x1)] := hl
  generalize ([.ref (a_o 0), .int x1] : List Value).toArray = args at hX ⊢
  obtain ⟨hx, hb, hml, hown, hts, hK, hA, hlk⟩ := id hX
  unfold f_X9_letter at h
  generalize s.heap = H at hZ ⊢
  generalize ([] : List Loc) = locs at hZ ⊢
  refine lv_iload_n hx hb dX9_letter_0 rfl (lv_at hl 1 rfl) ?_
  refine lv_iconst (v := 4) hx hb dX9_letter_1 (by decide) ?_
  refine lv_isub hx hb dX9_letter_2 ?_
  refine lv_istore_n (lv' := [(2, .int (x1 - (4 : Int32))), (0, .ref (a_o 0)), (1, .int x1)]) hx hb dX9_letter_3 rfl hl (by decide) rfl (fun ls hl => ?_)
  refine lv_aload_n hx hb dX9_letter_4 rfl (lv_at hl 1 rfl) ?_
  refine lv_iload_n hx hb dX9_letter_5 rfl (lv_at hl 0 rfl) ?_
  obtain ⟨u1, hu, h⟩ := k_bd h
  refine k_vRs (As := [.int (x1 - (4 : Int32))]) (rest := []) (v := some (.int u1)) (st1 := [.int u1]) hX hl.1 hZ (c_X9_isNode (a_o := a_o) s_o (x1 - (4 : Int32)) hu) (gv_ wm_207 wm_209 wm_210 wm_11 wm_208) rfl hd_X9_isNode ⟨rfl, rfl⟩ 9 0 rfl rfl rfl rfl rfl dX9_letter_6 rfl ⟨rfl, rfl⟩ (fun locs hZ => ?_)
  clear hu
  refine lv_if_eq (tgt := 46) hx hb dX9_letter_9 (by decide) (fun cd => ?_) (fun cd => ?_)
  · replace h := k_t cd h
    clear cd
    exact t_X9_letter_J46 hX hr x1 s_o h H locs ls hZ (lv_sub hl [1, 2] rfl)
  · replace h := k_f cd h
    clear cd
    refine lv_aload_n hx hb dX9_letter_12 rfl (lv_at hl 1 rfl) ?_
    refine k_get hX hZ.1 0 9 rfl rfl iw_X9 0 rfl (wm_107) (v := .ref (a_o 1)) rfl dX9_letter_13 ?_
    refine lv_bipush (v := 15) hx hb dX9_letter_16 (by decide) ?_
    refine lv_iload_n hx hb dX9_letter_18 rfl (lv_at hl 0 rfl) ?_
    refine lv_imul hx hb dX9_letter_19 ?_
    refine lv_iconst (v := 0) hx hb dX9_letter_20 (by decide) ?_
    refine lv_iadd hx hb dX9_letter_21 ?_
    refine k_iald hX hZ.1 1 rfl h dX9_letter_22 (fun v5 h => ?_)
    refine lv_iconst (v := 2) hx hb dX9_letter_23 (by decide) ?_
    refine lv_icmp_eq (tgt := 42) hx hb dX9_letter_24 (by decide) (fun cd => ?_) (fun cd => ?_)
    · replace h := k_t cd h
      clear cd
      exact t_X9_letter_J42 hX hr x1 s_o h H locs ls hZ (lv_sub hl [1, 2] rfl)
    · replace h := k_f cd h
      clear cd
      refine lv_aload_n hx hb dX9_letter_27 rfl (lv_at hl 1 rfl) ?_
      refine k_get hX hZ.1 0 9 rfl rfl iw_X9 0 rfl (wm_107) (v := .ref (a_o 1)) rfl dX9_letter_28 ?_
      refine lv_bipush (v := 15) hx hb dX9_letter_31 (by decide) ?_
      refine lv_iload_n hx hb dX9_letter_33 rfl (lv_at hl 0 rfl) ?_
      refine lv_imul hx hb dX9_letter_34 ?_
      refine lv_iconst (v := 0) hx hb dX9_letter_35 (by decide) ?_
      refine lv_iadd hx hb dX9_letter_36 ?_
      refine k_iald hX hZ.1 1 rfl h dX9_letter_37 (fun v6 h => ?_)
      refine lv_iconst (v := 5) hx hb dX9_letter_38 (by decide) ?_
      refine lv_icmp_ne (tgt := 46) hx hb dX9_letter_39 (by decide) (fun cd => ?_) (fun cd => ?_)
      · replace h := k_f cd h
        clear cd
        exact t_X9_letter_J46 hX hr x1 s_o h H locs ls hZ (lv_sub hl [1, 2] rfl)
      · replace h := k_t cd h
        clear cd
        exact t_X9_letter_J42 hX hr x1 s_o h H locs ls hZ (lv_sub hl [1, 2] rfl)
def wlX9_fails : List Cond := .code yX9_fails cX9_fails 2 (some .int) :: WL_
theorem hd_X9_fails : yX9_fails.cls = RX9 ∧ yX9_fails.cls ≠ "java/lang/invoke/MethodHandle" ∧ yX9_fails.cls ≠ "java/lang/invoke/VarHandle" ∧ (parseMethodDescriptor yX9_fails.desc).map (fun d => d.parameters.length) = some 1 := by decide +kernel
theorem dX9_fails_0 : decode cX9_fails 0 = .ok (.iload_n 1, 1) := by decide +kernel
theorem dX9_fails_1 : decode cX9_fails 1 = .ok (.i2l, 1) := by decide +kernel
theorem dX9_fails_2 : decode cX9_fails 2 = .ok (.lconst 0, 1) := by decide +kernel
theorem dX9_fails_3 : decode cX9_fails 3 = .ok (.ldc2_w 317, 3) := by decide +kernel
theorem dX9_fails_6 : decode cX9_fails 6 = .ok (.invokestatic 97, 3) := by decide +kernel
theorem dX9_fails_9 : decode cX9_fails 9 = .ok (.ifCond .ne 6, 3) := by decide +kernel
theorem dX9_fails_12 : decode cX9_fails 12 = .ok (.bipush (-3), 2) := by decide +kernel
theorem dX9_fails_14 : decode cX9_fails 14 = .ok (.ireturn, 1) := by decide +kernel
theorem dX9_fails_15 : decode cX9_fails 15 = .ok (.aload_n 0, 1) := by decide +kernel
theorem dX9_fails_16 : decode cX9_fails 16 = .ok (.invokevirtual 301, 3) := by decide +kernel
theorem dX9_fails_19 : decode cX9_fails 19 = .ok (.aload_n 0, 1) := by decide +kernel
theorem dX9_fails_20 : decode cX9_fails 20 = .ok (.getfield 217, 3) := by decide +kernel
theorem dX9_fails_23 : decode cX9_fails 23 = .ok (.ifCond .eq 12, 3) := by decide +kernel
theorem dX9_fails_26 : decode cX9_fails 26 = .ok (.aload_n 0, 1) := by decide +kernel
theorem dX9_fails_27 : decode cX9_fails 27 = .ok (.getfield 83, 3) := by decide +kernel
theorem dX9_fails_30 : decode cX9_fails 30 = .ok (.iload_n 1, 1) := by decide +kernel
theorem dX9_fails_31 : decode cX9_fails 31 = .ok (.iaload, 1) := by decide +kernel
theorem dX9_fails_32 : decode cX9_fails 32 = .ok (.goto 4, 3) := by decide +kernel
theorem dX9_fails_35 : decode cX9_fails 35 = .ok (.iconst (-1), 1) := by decide +kernel
theorem dX9_fails_36 : decode cX9_fails 36 = .ok (.ireturn, 1) := by decide +kernel
set_option maxHeartbeats 4000000 in
set_option maxRecDepth 100000 in
theorem c_X9_fails {l : Launch} {D : va_G} {aC : Nat → ClassId} {a_o : Nat → Nat} (s_o : Ob_T) (x1 : Int32) {out : Int32 × Ob_T} (h : f_X9_fails s_o x1 = some out) : M_W l yX9_fails wlX9_fails 6 146 D aC [.ref (a_o 0), .int x1] (wd_X9 aC a_o s_o) (some (.int out.1)) (wd_X9 aC a_o out.2) := by
  refine k_entW (cc := cX9_fails) (ret := (some .int)) (maxL := 2) (own := RX9) (by decide) rfl rfl rfl ?_
  intro p e s m below meth c A ls hX hr hZ hl
  have hl : lv_has ls 2 [(0, .ref (a_o 0)), (1, .int x1)] := hl
  generalize ([.ref (a_o 0), .int x1] : List Value).toArray = args at hX ⊢
  obtain ⟨hx, hb, hml, hown, hts, hK, hA, hlk⟩ := id hX
  unfold f_X9_fails at h
  generalize s.heap = H at hZ ⊢
  generalize ([] : List Loc) = locs at hZ ⊢
  refine lv_iload_n hx hb dX9_fails_0 rfl (lv_at hl 1 rfl) ?_
  refine lv_i2l (v := x1.toInt64) hx hb dX9_fails_1 rfl ?_
  refine lv_lconst (v := 0) hx hb dX9_fails_2 (by decide) ?_
  refine lv_ldc2 (v := 4) hx hb hown (hts _ wm_230) dX9_fails_3 ?_
  obtain ⟨u1, hu, h⟩ := k_bd h
  refine k_sR (As := [.long x1.toInt64, .long (0 : Int64), .long (4 : Int64)]) (rest := []) (wc := []) (v := some (.int u1)) (st1 := [.int u1]) hX hl.1 hZ (c_X9_in  x1.toInt64 (0 : Int64) (4 : Int64) hu) (gs_ wm_10 wm_13 wm_11 wm_12) rfl hd_X9_in ⟨rfl, rfl⟩ [] rfl rfl rfl rfl rfl dX9_fails_6 rfl ⟨rfl, rfl⟩ (fun locs hZ => ?_)
  clear hu
  refine lv_if_ne (tgt := 15) hx hb dX9_fails_9 (by decide) (fun cd => ?_) (fun cd => ?_)
  · replace h := k_f cd h
    clear cd
    refine lv_aload_n hx hb dX9_fails_15 rfl (lv_at hl 0 rfl) ?_
    obtain ⟨u2, hu, h⟩ := k_bd h
    refine k_vWs (As := []) (rest := []) (v := none) (st1 := []) hX hl.1 hZ (c_X9_solveNow (a_o := a_o) s_o hu) (gv_ wm_211 wm_213 wm_214 wm_11 wm_212) rfl hd_X9_solveNow ⟨rfl, rfl⟩ 9 0 rfl rfl rfl rfl rfl dX9_fails_16 rfl ⟨rfl, rfl⟩ rfl (fun H locs hZ => ?_)
    clear hu
    refine lv_aload_n hx hb dX9_fails_19 rfl (lv_at hl 0 rfl) ?_
    refine k_get hX hZ.1 0 9 rfl rfl iw_X9 35 rfl (wm_126) (v := .int (o_F u2 35)) rfl dX9_fails_20 ?_
    refine lv_if_eq (tgt := 35) hx hb dX9_fails_23 (by decide) (fun cd => ?_) (fun cd => ?_)
    · replace h := k_t cd h
      clear cd
      refine lv_iconst (v := -1) hx hb dX9_fails_35 (by decide) ?_
      cases h
      exact k_iretW hX hr hZ dX9_fails_36
    · replace h := k_f cd h
      clear cd
      refine lv_aload_n hx hb dX9_fails_26 rfl (lv_at hl 0 rfl) ?_
      refine k_get hX hZ.1 0 9 rfl rfl iw_X9 34 rfl (wm_125) (v := .ref (a_o 25)) rfl dX9_fails_27 ?_
      refine lv_iload_n hx hb dX9_fails_30 rfl (lv_at hl 1 rfl) ?_
      refine k_iald hX hZ.1 25 rfl h dX9_fails_31 (fun v3 h => ?_)
      refine lv_goto (tgt := 36) hx hb dX9_fails_32 (by decide) ?_
      cases h
      exact k_iretW hX hr hZ dX9_fails_36
  · replace h := k_t cd h
    clear cd
    refine lv_bipush (v := -3) hx hb dX9_fails_12 (by decide) ?_
    cases h
    exact k_iretW hX hr hZ dX9_fails_14
