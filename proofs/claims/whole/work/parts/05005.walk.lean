def wlX9_readsNumber : List Cond := .code yX9_readsNumber cX9_readsNumber 5 (some .boolean) :: WL_
theorem hd_X9_readsNumber : yX9_readsNumber.cls = RX9 ∧ yX9_readsNumber.cls ≠ "java/lang/invoke/MethodHandle" ∧ yX9_readsNumber.cls ≠ "java/lang/invoke/VarHandle" ∧ (parseMethodDescriptor yX9_readsNumber.desc).map (fun d => d.parameters.length) = some 2 := by decide +kernel
theorem dX9_readsNumber_0 : decode cX9_readsNumber 0 = .ok (.aload_n 0, 1) := by decide +kernel
theorem dX9_readsNumber_1 : decode cX9_readsNumber 1 = .ok (.getfield 116, 3) := by decide +kernel
theorem dX9_readsNumber_4 : decode cX9_readsNumber 4 = .ok (.aload_n 0, 1) := by decide +kernel
theorem dX9_readsNumber_5 : decode cX9_readsNumber 5 = .ok (.getfield 101, 3) := by decide +kernel
theorem dX9_readsNumber_8 : decode cX9_readsNumber 8 = .ok (.if_icmp .eq 31, 3) := by decide +kernel
theorem dX9_readsNumber_11 : decode cX9_readsNumber 11 = .ok (.aload_n 0, 1) := by decide +kernel
theorem dX9_readsNumber_12 : decode cX9_readsNumber 12 = .ok (.getfield 29, 3) := by decide +kernel
theorem dX9_readsNumber_15 : decode cX9_readsNumber 15 = .ok (.aload_n 0, 1) := by decide +kernel
theorem dX9_readsNumber_16 : decode cX9_readsNumber 16 = .ok (.getfield 116, 3) := by decide +kernel
theorem dX9_readsNumber_19 : decode cX9_readsNumber 19 = .ok (.iaload, 1) := by decide +kernel
theorem dX9_readsNumber_20 : decode cX9_readsNumber 20 = .ok (.invokestatic 123, 3) := by decide +kernel
theorem dX9_readsNumber_23 : decode cX9_readsNumber 23 = .ok (.ifCond .eq 16, 3) := by decide +kernel
theorem dX9_readsNumber_26 : decode cX9_readsNumber 26 = .ok (.aload_n 0, 1) := by decide +kernel
theorem dX9_readsNumber_27 : decode cX9_readsNumber 27 = .ok (.getfield 113, 3) := by decide +kernel
theorem dX9_readsNumber_30 : decode cX9_readsNumber 30 = .ok (.aload_n 0, 1) := by decide +kernel
theorem dX9_readsNumber_31 : decode cX9_readsNumber 31 = .ok (.getfield 116, 3) := by decide +kernel
theorem dX9_readsNumber_34 : decode cX9_readsNumber 34 = .ok (.isub, 1) := by decide +kernel
theorem dX9_readsNumber_35 : decode cX9_readsNumber 35 = .ok (.iconst 2, 1) := by decide +kernel
theorem dX9_readsNumber_36 : decode cX9_readsNumber 36 = .ok (.if_icmp .le 5, 3) := by decide +kernel
theorem dX9_readsNumber_39 : decode cX9_readsNumber 39 = .ok (.iconst 0, 1) := by decide +kernel
theorem dX9_readsNumber_40 : decode cX9_readsNumber 40 = .ok (.ireturn, 1) := by decide +kernel
theorem dX9_readsNumber_41 : decode cX9_readsNumber 41 = .ok (.aload_n 0, 1) := by decide +kernel
theorem dX9_readsNumber_42 : decode cX9_readsNumber 42 = .ok (.getfield 29, 3) := by decide +kernel
theorem dX9_readsNumber_45 : decode cX9_readsNumber 45 = .ok (.aload_n 0, 1) := by decide +kernel
theorem dX9_readsNumber_46 : decode cX9_readsNumber 46 = .ok (.getfield 116, 3) := by decide +kernel
theorem dX9_readsNumber_49 : decode cX9_readsNumber 49 = .ok (.iaload, 1) := by decide +kernel
theorem dX9_readsNumber_50 : decode cX9_readsNumber 50 = .ok (.bipush 48, 2) := by decide +kernel
theorem dX9_readsNumber_52 : decode cX9_readsNumber 52 = .ok (.isub, 1) := by decide +kernel
theorem dX9_readsNumber_53 : decode cX9_readsNumber 53 = .ok (.istore_n 3, 1) := by decide +kernel
theorem dX9_readsNumber_54 : decode cX9_readsNumber 54 = .ok (.aload_n 0, 1) := by decide +kernel
theorem dX9_readsNumber_55 : decode cX9_readsNumber 55 = .ok (.getfield 113, 3) := by decide +kernel
theorem dX9_readsNumber_58 : decode cX9_readsNumber 58 = .ok (.aload_n 0, 1) := by decide +kernel
theorem dX9_readsNumber_59 : decode cX9_readsNumber 59 = .ok (.getfield 116, 3) := by decide +kernel
theorem dX9_readsNumber_62 : decode cX9_readsNumber 62 = .ok (.isub, 1) := by decide +kernel
theorem dX9_readsNumber_63 : decode cX9_readsNumber 63 = .ok (.iconst 2, 1) := by decide +kernel
theorem dX9_readsNumber_64 : decode cX9_readsNumber 64 = .ok (.if_icmp .ne 25, 3) := by decide +kernel
theorem dX9_readsNumber_67 : decode cX9_readsNumber 67 = .ok (.bipush 10, 2) := by decide +kernel
theorem dX9_readsNumber_69 : decode cX9_readsNumber 69 = .ok (.iload_n 3, 1) := by decide +kernel
theorem dX9_readsNumber_70 : decode cX9_readsNumber 70 = .ok (.imul, 1) := by decide +kernel
theorem dX9_readsNumber_71 : decode cX9_readsNumber 71 = .ok (.aload_n 0, 1) := by decide +kernel
theorem dX9_readsNumber_72 : decode cX9_readsNumber 72 = .ok (.getfield 29, 3) := by decide +kernel
theorem dX9_readsNumber_75 : decode cX9_readsNumber 75 = .ok (.aload_n 0, 1) := by decide +kernel
theorem dX9_readsNumber_76 : decode cX9_readsNumber 76 = .ok (.getfield 116, 3) := by decide +kernel
theorem dX9_readsNumber_79 : decode cX9_readsNumber 79 = .ok (.iconst 1, 1) := by decide +kernel
theorem dX9_readsNumber_80 : decode cX9_readsNumber 80 = .ok (.iadd, 1) := by decide +kernel
theorem dX9_readsNumber_81 : decode cX9_readsNumber 81 = .ok (.iaload, 1) := by decide +kernel
theorem dX9_readsNumber_82 : decode cX9_readsNumber 82 = .ok (.iadd, 1) := by decide +kernel
theorem dX9_readsNumber_83 : decode cX9_readsNumber 83 = .ok (.bipush 48, 2) := by decide +kernel
theorem dX9_readsNumber_85 : decode cX9_readsNumber 85 = .ok (.isub, 1) := by decide +kernel
theorem dX9_readsNumber_86 : decode cX9_readsNumber 86 = .ok (.goto 4, 3) := by decide +kernel
theorem dX9_readsNumber_89 : decode cX9_readsNumber 89 = .ok (.iload_n 3, 1) := by decide +kernel
theorem dX9_readsNumber_90 : decode cX9_readsNumber 90 = .ok (.istore_n 3, 1) := by decide +kernel
theorem dX9_readsNumber_91 : decode cX9_readsNumber 91 = .ok (.iload_n 3, 1) := by decide +kernel
theorem dX9_readsNumber_92 : decode cX9_readsNumber 92 = .ok (.i2l, 1) := by decide +kernel
theorem dX9_readsNumber_93 : decode cX9_readsNumber 93 = .ok (.iload_n 1, 1) := by decide +kernel
theorem dX9_readsNumber_94 : decode cX9_readsNumber 94 = .ok (.i2l, 1) := by decide +kernel
theorem dX9_readsNumber_95 : decode cX9_readsNumber 95 = .ok (.iload_n 2, 1) := by decide +kernel
theorem dX9_readsNumber_96 : decode cX9_readsNumber 96 = .ok (.i2l, 1) := by decide +kernel
theorem dX9_readsNumber_97 : decode cX9_readsNumber 97 = .ok (.invokestatic 97, 3) := by decide +kernel
theorem dX9_readsNumber_100 : decode cX9_readsNumber 100 = .ok (.istore 4, 2) := by decide +kernel
theorem dX9_readsNumber_102 : decode cX9_readsNumber 102 = .ok (.iload 4, 2) := by decide +kernel
theorem dX9_readsNumber_104 : decode cX9_readsNumber 104 = .ok (.ifCond .eq 12, 3) := by decide +kernel
theorem dX9_readsNumber_107 : decode cX9_readsNumber 107 = .ok (.aload_n 0, 1) := by decide +kernel
theorem dX9_readsNumber_108 : decode cX9_readsNumber 108 = .ok (.iload_n 3, 1) := by decide +kernel
theorem dX9_readsNumber_109 : decode cX9_readsNumber 109 = .ok (.putfield 126, 3) := by decide +kernel
theorem dX9_readsNumber_112 : decode cX9_readsNumber 112 = .ok (.aload_n 0, 1) := by decide +kernel
theorem dX9_readsNumber_113 : decode cX9_readsNumber 113 = .ok (.invokevirtual 129, 3) := by decide +kernel
theorem dX9_readsNumber_116 : decode cX9_readsNumber 116 = .ok (.iload 4, 2) := by decide +kernel
theorem dX9_readsNumber_118 : decode cX9_readsNumber 118 = .ok (.ireturn, 1) := by decide +kernel
set_option maxHeartbeats 4000000 in
set_option maxRecDepth 100000 in
theorem t_X9_readsNumber_J90 {p : Program} {l : Launch} {e : Env} {s : State} {m : MethodId} {args : Array Value} {below : List Frame} {meth : Method} {c : Code} {D : va_G} {aC : Nat → ClassId} {A : Nat → Prop} {a_o : Nat → Nat} {out : Int32 × Ob_T} (hX : K_X p s m args meth c cX9_readsNumber 5 WL_ RX9 D aC A) (hr : meth.sig.returnType = (some .boolean)) (x1 : Int32) (x2 : Int32) (k0 : Int32) (s_o : Ob_T) (h : f_X9_readsNumber_J90 x1 x2 k0 s_o = some out) (H : Heap) (locs : List Loc) (ls : Array Slot) (hZ : K_S D A s (wd_X9 aC a_o s_o) H locs) (hl : lv_has ls 5 [(0, .ref (a_o 0)), (1, .int x1), (2, .int x2)]) : W p l e (R_m 3 65) s m args below meth c H locs 0 0 (MQ below (Q_W (some (.int out.1)) D A (wd_X9 aC a_o out.2)) args s 0 0 A) (F0 m 90 ls [.int k0]) := by
  obtain ⟨hx, hb, hml, hown, hts, hK, hA, hlk⟩ := id hX
  unfold f_X9_readsNumber_J90 at h
  refine lv_istore_n (lv' := [(3, .int k0), (0, .ref (a_o 0)), (1, .int x1), (2, .int x2)]) hx hb dX9_readsNumber_90 rfl hl (by decide) rfl (fun ls hl => ?_)
  refine lv_iload_n hx hb dX9_readsNumber_91 rfl (lv_at hl 0 rfl) ?_
  refine lv_i2l (v := k0.toInt64) hx hb dX9_readsNumber_92 rfl ?_
  refine lv_iload_n hx hb dX9_readsNumber_93 rfl (lv_at hl 2 rfl) ?_
  refine lv_i2l (v := x1.toInt64) hx hb dX9_readsNumber_94 rfl ?_
  refine lv_iload_n hx hb dX9_readsNumber_95 rfl (lv_at hl 3 rfl) ?_
  refine lv_i2l (v := x2.toInt64) hx hb dX9_readsNumber_96 rfl ?_
  obtain ⟨u4, hu, h⟩ := k_bd h
  refine k_sR (As := [.long k0.toInt64, .long x1.toInt64, .long x2.toInt64]) (rest := []) (wc := []) (v := some (.int u4)) (st1 := [.int u4]) hX hl.1 hZ (c_X9_in  k0.toInt64 x1.toInt64 x2.toInt64 hu) (gs_ wm_10 wm_13 wm_11 wm_12) rfl hd_X9_in ⟨rfl, rfl⟩ [] rfl rfl rfl rfl rfl dX9_readsNumber_97 rfl ⟨rfl, rfl⟩ (fun locs hZ => ?_)
  clear hu
  refine lv_istore (lv' := [(4, .int u4), (3, .int k0), (0, .ref (a_o 0)), (1, .int x1), (2, .int x2)]) hx hb dX9_readsNumber_100 hl (by decide) rfl (fun ls hl => ?_)
  refine lv_iload hx hb dX9_readsNumber_102 (lv_at hl 0 rfl) ?_
  refine lv_if_eq (tgt := 116) hx hb dX9_readsNumber_104 (by decide) (fun cd => ?_) (fun cd => ?_)
  · replace h := k_t cd h
    clear cd
    refine lv_iload hx hb dX9_readsNumber_116 (lv_at hl 0 rfl) ?_
    obtain ⟨b5, hb0, h⟩ := k_bd h
    obtain ⟨hb1, hb2, hb3⟩ := k_zb hb0
    clear hb0
    cases h
    exact k_zretW hX hr hb2 hZ dX9_readsNumber_118
  · replace h := k_f cd h
    clear cd
    refine lv_aload_n hx hb dX9_readsNumber_107 rfl (lv_at hl 2 rfl) ?_
    refine lv_iload_n hx hb dX9_readsNumber_108 rfl (lv_at hl 1 rfl) ?_
    refine k_put (wf := (fun o => wd_X9 aC a_o o)) (o := s_o) hX hZ 0 9 rfl rfl iw_X9 tyX9 tyX9_ok nmX9 21 rfl (wm_30) rfl rfl rfl rfl rfl h dX9_readsNumber_109 (fun o6 H locs hZ h => ?_)
    refine lv_aload_n hx hb dX9_readsNumber_112 rfl (lv_at hl 2 rfl) ?_
    obtain ⟨u7, hu, h⟩ := k_bd h
    refine k_vWs (As := []) (rest := []) (v := none) (st1 := []) hX hl.1 hZ (c_X9_nextToken (a_o := a_o) o6 hu) (gv_ wm_26 wm_28 wm_29 wm_11 wm_27) rfl hd_X9_nextToken ⟨rfl, rfl⟩ 9 0 rfl rfl rfl rfl rfl dX9_readsNumber_113 rfl ⟨rfl, rfl⟩ rfl (fun H locs hZ => ?_)
    clear hu
    refine lv_iload hx hb dX9_readsNumber_116 (lv_at hl 0 rfl) ?_
    obtain ⟨b8, hb0, h⟩ := k_bd h
    obtain ⟨hb1, hb2, hb3⟩ := k_zb hb0
    clear hb0
    cases h
    exact k_zretW hX hr hb2 hZ dX9_readsNumber_118
set_option maxHeartbeats 4000000 in
set_option maxRecDepth 100000 in
theorem c_X9_readsNumber {l : Launch} {D : va_G} {aC : Nat → ClassId} {a_o : Nat → Nat} (s_o : Ob_T) (x1 : Int32) (x2 : Int32) {out : Int32 × Ob_T} (h : f_X9_readsNumber s_o x1 x2 = some out) : M_W l yX9_readsNumber wlX9_readsNumber 3 65 D aC [.ref (a_o 0), .int x1, .int x2] (wd_X9 aC a_o s_o) (some (.int out.1)) (wd_X9 aC a_o out.2) := by
  refine k_entW (cc := cX9_readsNumber) (ret := (some .boolean)) (maxL := 5) (own := RX9) (by decide) rfl rfl rfl ?_
  intro p e s m below meth c A ls hX hr hZ hl
  have hl : lv_has ls 5 [(0, .ref (a_o 0)), (1, .int x1), (2, .int x2)] := hl
  generalize ([.ref (a_o 0), .int x1, .int x2] : List Value).toArray = args at hX ⊢
  obtain ⟨hx, hb, hml, hown, hts, hK, hA, hlk⟩ := id hX
  unfold f_X9_readsNumber at h
  generalize s.heap = H at hZ ⊢
  generalize ([] : List Loc) = locs at hZ ⊢
  refine lv_aload_n hx hb dX9_readsNumber_0 rfl (lv_at hl 0 rfl) ?_
  refine k_get hX hZ.1 0 9 rfl rfl iw_X9 18 rfl (wm_19) (v := .int (o_F s_o 18)) rfl dX9_readsNumber_1 ?_
  refine lv_aload_n hx hb dX9_readsNumber_4 rfl (lv_at hl 0 rfl) ?_
  refine k_get hX hZ.1 0 9 rfl rfl iw_X9 10 rfl (wm_8) (v := .int (o_F s_o 10)) rfl dX9_readsNumber_5 ?_
  refine lv_icmp_eq (tgt := 39) hx hb dX9_readsNumber_8 (by decide) (fun cd => ?_) (fun cd => ?_)
  · replace h := k_t cd h
    clear cd
    refine lv_iconst (v := 0) hx hb dX9_readsNumber_39 (by decide) ?_
    cases h
    exact k_zretW (v := (0 : Int32)) hX hr rfl hZ dX9_readsNumber_40
  · replace h := k_f cd h
    clear cd
    refine lv_aload_n hx hb dX9_readsNumber_11 rfl (lv_at hl 0 rfl) ?_
    refine k_get hX hZ.1 0 9 rfl rfl iw_X9 9 rfl (wm_9) (v := .ref (a_o 7)) rfl dX9_readsNumber_12 ?_
    refine lv_aload_n hx hb dX9_readsNumber_15 rfl (lv_at hl 0 rfl) ?_
    refine k_get hX hZ.1 0 9 rfl rfl iw_X9 18 rfl (wm_19) (v := .int (o_F s_o 18)) rfl dX9_readsNumber_16 ?_
    refine k_iald hX hZ.1 7 rfl h dX9_readsNumber_19 (fun v1 h => ?_)
    obtain ⟨u2, hu, h⟩ := k_bd h
    refine k_sR (As := [.int v1]) (rest := []) (wc := []) (v := some (.int u2)) (st1 := [.int u2]) hX hl.1 hZ (c_X9_isDigit  v1 hu) (gs_ wm_20 wm_22 wm_11 wm_21) rfl hd_X9_isDigit ⟨rfl, rfl⟩ [] rfl rfl rfl rfl rfl dX9_readsNumber_20 rfl ⟨rfl, rfl⟩ (fun locs hZ => ?_)
    clear hu
    refine lv_if_eq (tgt := 39) hx hb dX9_readsNumber_23 (by decide) (fun cd => ?_) (fun cd => ?_)
    · replace h := k_t cd h
      clear cd
      refine lv_iconst (v := 0) hx hb dX9_readsNumber_39 (by decide) ?_
      cases h
      exact k_zretW (v := (0 : Int32)) hX hr rfl hZ dX9_readsNumber_40
    · replace h := k_f cd h
      clear cd
      refine lv_aload_n hx hb dX9_readsNumber_26 rfl (lv_at hl 0 rfl) ?_
      refine k_get hX hZ.1 0 9 rfl rfl iw_X9 19 rfl (wm_18) (v := .int (o_F s_o 19)) rfl dX9_readsNumber_27 ?_
      refine lv_aload_n hx hb dX9_readsNumber_30 rfl (lv_at hl 0 rfl) ?_
      refine k_get hX hZ.1 0 9 rfl rfl iw_X9 18 rfl (wm_19) (v := .int (o_F s_o 18)) rfl dX9_readsNumber_31 ?_
      refine lv_isub hx hb dX9_readsNumber_34 ?_
      refine lv_iconst (v := 2) hx hb dX9_readsNumber_35 (by decide) ?_
      refine lv_icmp_le (tgt := 41) hx hb dX9_readsNumber_36 (by decide) (fun cd => ?_) (fun cd => ?_)
      · replace h := k_t cd h
        clear cd
        refine lv_aload_n hx hb dX9_readsNumber_41 rfl (lv_at hl 0 rfl) ?_
        refine k_get hX hZ.1 0 9 rfl rfl iw_X9 9 rfl (wm_9) (v := .ref (a_o 7)) rfl dX9_readsNumber_42 ?_
        refine lv_aload_n hx hb dX9_readsNumber_45 rfl (lv_at hl 0 rfl) ?_
        refine k_get hX hZ.1 0 9 rfl rfl iw_X9 18 rfl (wm_19) (v := .int (o_F s_o 18)) rfl dX9_readsNumber_46 ?_
        refine k_iald hX hZ.1 7 rfl h dX9_readsNumber_49 (fun v3 h => ?_)
        refine lv_bipush (v := 48) hx hb dX9_readsNumber_50 (by decide) ?_
        refine lv_isub hx hb dX9_readsNumber_52 ?_
        refine lv_istore_n (lv' := [(3, .int (v3 - (48 : Int32))), (0, .ref (a_o 0)), (1, .int x1), (2, .int x2)]) hx hb dX9_readsNumber_53 rfl hl (by decide) rfl (fun ls hl => ?_)
        refine lv_aload_n hx hb dX9_readsNumber_54 rfl (lv_at hl 1 rfl) ?_
        refine k_get hX hZ.1 0 9 rfl rfl iw_X9 19 rfl (wm_18) (v := .int (o_F s_o 19)) rfl dX9_readsNumber_55 ?_
        refine lv_aload_n hx hb dX9_readsNumber_58 rfl (lv_at hl 1 rfl) ?_
        refine k_get hX hZ.1 0 9 rfl rfl iw_X9 18 rfl (wm_19) (v := .int (o_F s_o 18)) rfl dX9_readsNumber_59 ?_
        refine lv_isub hx hb dX9_readsNumber_62 ?_
        refine lv_iconst (v := 2) hx hb dX9_readsNumber_63 (by decide) ?_
        refine lv_icmp_ne (tgt := 89) hx hb dX9_readsNumber_64 (by decide) (fun cd => ?_) (fun cd => ?_)
        · replace h := k_f cd h
          clear cd
          refine lv_iload_n hx hb dX9_readsNumber_89 rfl (lv_at hl 0 rfl) ?_
          exact t_X9_readsNumber_J90 hX hr x1 x2 (v3 - (48 : Int32)) s_o h H locs ls hZ (lv_sub hl [1, 2, 3] rfl)
        · replace h := k_t cd h
          clear cd
          refine lv_bipush (v := 10) hx hb dX9_readsNumber_67 (by decide) ?_
          refine lv_iload_n hx hb dX9_readsNumber_69 rfl (lv_at hl 0 rfl) ?_
          refine lv_imul hx hb dX9_readsNumber_70 ?_
          refine lv_aload_n hx hb dX9_readsNumber_71 rfl (lv_at hl 1 rfl) ?_
          refine k_get hX hZ.1 0 9 rfl rfl iw_X9 9 rfl (wm_9) (v := .ref (a_o 7)) rfl dX9_readsNumber_72 ?_
          refine lv_aload_n hx hb dX9_readsNumber_75 rfl (lv_at hl 1 rfl) ?_
          refine k_get hX hZ.1 0 9 rfl rfl iw_X9 18 rfl (wm_19) (v := .int (o_F s_o 18)) rfl dX9_readsNumber_76 ?_
          refine lv_iconst (v := 1) hx hb dX9_readsNumber_79 (by decide) ?_
          refine lv_iadd hx hb dX9_readsNumber_80 ?_
          refine k_iald hX hZ.1 7 rfl h dX9_readsNumber_81 (fun v9 h => ?_)
          refine lv_iadd hx hb dX9_readsNumber_82 ?_
          refine lv_bipush (v := 48) hx hb dX9_readsNumber_83 (by decide) ?_
          refine lv_isub hx hb dX9_readsNumber_85 ?_
          refine lv_goto (tgt := 90) hx hb dX9_readsNumber_86 (by decide) ?_
          exact t_X9_readsNumber_J90 hX hr x1 x2 ((((10 : Int32) * (v3 - (48 : Int32))) + v9) - (48 : Int32)) s_o h H locs ls hZ (lv_sub hl [1, 2, 3] rfl)
      · replace h := k_f cd h
        clear cd
        refine lv_iconst (v := 0) hx hb dX9_readsNumber_39 (by decide) ?_
        cases h
        exact k_zretW (v := (0 : Int32)) hX hr rfl hZ dX9_readsNumber_40
def wlX9_isEnd : List Cond := .code yX9_isEnd cX9_isEnd 1 (some .boolean) :: WL_
theorem hd_X9_isEnd : yX9_isEnd.cls = RX9 ∧ yX9_isEnd.cls ≠ "java/lang/invoke/MethodHandle" ∧ yX9_isEnd.cls ≠ "java/lang/invoke/VarHandle" ∧ (parseMethodDescriptor yX9_isEnd.desc).map (fun d => d.parameters.length) = some 0 := by decide +kernel
theorem dX9_isEnd_0 : decode cX9_isEnd 0 = .ok (.aload_n 0, 1) := by decide +kernel
theorem dX9_isEnd_1 : decode cX9_isEnd 1 = .ok (.getfield 116, 3) := by decide +kernel
theorem dX9_isEnd_4 : decode cX9_isEnd 4 = .ok (.aload_n 0, 1) := by decide +kernel
theorem dX9_isEnd_5 : decode cX9_isEnd 5 = .ok (.getfield 101, 3) := by decide +kernel
theorem dX9_isEnd_8 : decode cX9_isEnd 8 = .ok (.if_icmp .eq 17, 3) := by decide +kernel
theorem dX9_isEnd_11 : decode cX9_isEnd 11 = .ok (.aload_n 0, 1) := by decide +kernel
theorem dX9_isEnd_12 : decode cX9_isEnd 12 = .ok (.getfield 29, 3) := by decide +kernel
theorem dX9_isEnd_15 : decode cX9_isEnd 15 = .ok (.aload_n 0, 1) := by decide +kernel
theorem dX9_isEnd_16 : decode cX9_isEnd 16 = .ok (.getfield 116, 3) := by decide +kernel
theorem dX9_isEnd_19 : decode cX9_isEnd 19 = .ok (.iaload, 1) := by decide +kernel
theorem dX9_isEnd_20 : decode cX9_isEnd 20 = .ok (.bipush 59, 2) := by decide +kernel
theorem dX9_isEnd_22 : decode cX9_isEnd 22 = .ok (.if_icmp .ne 7, 3) := by decide +kernel
theorem dX9_isEnd_25 : decode cX9_isEnd 25 = .ok (.iconst 1, 1) := by decide +kernel
theorem dX9_isEnd_26 : decode cX9_isEnd 26 = .ok (.goto 4, 3) := by decide +kernel
theorem dX9_isEnd_29 : decode cX9_isEnd 29 = .ok (.iconst 0, 1) := by decide +kernel
theorem dX9_isEnd_30 : decode cX9_isEnd 30 = .ok (.ireturn, 1) := by decide +kernel
set_option maxHeartbeats 4000000 in
set_option maxRecDepth 100000 in
theorem c_X9_isEnd {l : Launch} {D : va_G} {aC : Nat → ClassId} {a_o : Nat → Nat} (s_o : Ob_T) {out : Int32} (h : f_X9_isEnd s_o = some out) : M_R l yX9_isEnd wlX9_isEnd 0 0 D aC [.ref (a_o 0)] (wd_X9 aC a_o s_o) (some (.int out)) := by
  refine k_entR (cc := cX9_isEnd) (ret := (some .boolean)) (maxL := 1) (own := RX9) (by decide) rfl rfl rfl ?_
  intro p e s m below meth c A ls hX hr hZ hl
  have hl : lv_has ls 1 [(0, .ref (a_o 0))] := hl
  generalize ([.ref (a_o 0)] : List Value).toArray = args at hX ⊢
  obtain ⟨hx, hb, hml, hown, hts, hK, hA, hlk⟩ := id hX
  unfold f_X9_isEnd at h
  have hF : ∀ q ∈ ([] : List Loc), False := fun _ h => nomatch h
  generalize ([] : List Loc) = locs at hF ⊢
  refine lv_aload_n hx hb dX9_isEnd_0 rfl (lv_at hl 0 rfl) ?_
  refine k_get hX hZ.1 0 9 rfl rfl iw_X9 18 rfl (wm_19) (v := .int (o_F s_o 18)) rfl dX9_isEnd_1 ?_
  refine lv_aload_n hx hb dX9_isEnd_4 rfl (lv_at hl 0 rfl) ?_
  refine k_get hX hZ.1 0 9 rfl rfl iw_X9 10 rfl (wm_8) (v := .int (o_F s_o 10)) rfl dX9_isEnd_5 ?_
  refine lv_icmp_eq (tgt := 25) hx hb dX9_isEnd_8 (by decide) (fun cd => ?_) (fun cd => ?_)
  · replace h := k_t cd h
    clear cd
    refine lv_iconst (v := 1) hx hb dX9_isEnd_25 (by decide) ?_
    refine lv_goto (tgt := 30) hx hb dX9_isEnd_26 (by decide) ?_
    cases h
    exact k_zretR (v := (1 : Int32)) hX hr rfl hF dX9_isEnd_30
  · replace h := k_f cd h
    clear cd
    refine lv_aload_n hx hb dX9_isEnd_11 rfl (lv_at hl 0 rfl) ?_
    refine k_get hX hZ.1 0 9 rfl rfl iw_X9 9 rfl (wm_9) (v := .ref (a_o 7)) rfl dX9_isEnd_12 ?_
    refine lv_aload_n hx hb dX9_isEnd_15 rfl (lv_at hl 0 rfl) ?_
    refine k_get hX hZ.1 0 9 rfl rfl iw_X9 18 rfl (wm_19) (v := .int (o_F s_o 18)) rfl dX9_isEnd_16 ?_
    refine k_iald hX hZ.1 7 rfl h dX9_isEnd_19 (fun v1 h => ?_)
    refine lv_bipush (v := 59) hx hb dX9_isEnd_20 (by decide) ?_
    refine lv_icmp_ne (tgt := 29) hx hb dX9_isEnd_22 (by decide) (fun cd => ?_) (fun cd => ?_)
    · replace h := k_f cd h
      clear cd
      refine lv_iconst (v := 0) hx hb dX9_isEnd_29 (by decide) ?_
      cases h
      exact k_zretR (v := (0 : Int32)) hX hr rfl hF dX9_isEnd_30
    · replace h := k_t cd h
      clear cd
      refine lv_iconst (v := 1) hx hb dX9_isEnd_25 (by decide) ?_
      refine lv_goto (tgt := 30) hx hb dX9_isEnd_26 (by decide) ?_
      cases h
      exact k_zretR (v := (1 : Int32)) hX hr rfl hF dX9_isEnd_30
