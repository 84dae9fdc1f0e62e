def wlX6_readArguments : List Cond := .code yX6_readArguments cX6_readArguments 3 (some .boolean) :: WL_
theorem hd_X6_readArguments : yX6_readArguments.cls = RX6 ∧ yX6_readArguments.cls ≠ "java/lang/invoke/MethodHandle" ∧ yX6_readArguments.cls ≠ "java/lang/invoke/VarHandle" ∧ (parseMethodDescriptor yX6_readArguments.desc).map (fun d => d.parameters.length) = some 2 := by decide +kernel
theorem dX6_readArguments_0 : decode cX6_readArguments 0 = .ok (.aload_n 0, 1) := by decide +kernel
theorem dX6_readArguments_1 : decode cX6_readArguments 1 = .ok (.iconst (-1), 1) := by decide +kernel
theorem dX6_readArguments_2 : decode cX6_readArguments 2 = .ok (.putfield 58, 3) := by decide +kernel
theorem dX6_readArguments_5 : decode cX6_readArguments 5 = .ok (.aload_n 0, 1) := by decide +kernel
theorem dX6_readArguments_6 : decode cX6_readArguments 6 = .ok (.iconst (-1), 1) := by decide +kernel
theorem dX6_readArguments_7 : decode cX6_readArguments 7 = .ok (.putfield 61, 3) := by decide +kernel
theorem dX6_readArguments_10 : decode cX6_readArguments 10 = .ok (.aload_n 0, 1) := by decide +kernel
theorem dX6_readArguments_11 : decode cX6_readArguments 11 = .ok (.bipush (-11), 2) := by decide +kernel
theorem dX6_readArguments_13 : decode cX6_readArguments 13 = .ok (.putfield 64, 3) := by decide +kernel
theorem dX6_readArguments_16 : decode cX6_readArguments 16 = .ok (.iload_n 1, 1) := by decide +kernel
theorem dX6_readArguments_17 : decode cX6_readArguments 17 = .ok (.ifCond .ne 5, 3) := by decide +kernel
theorem dX6_readArguments_20 : decode cX6_readArguments 20 = .ok (.iconst 1, 1) := by decide +kernel
theorem dX6_readArguments_21 : decode cX6_readArguments 21 = .ok (.ireturn, 1) := by decide +kernel
theorem dX6_readArguments_22 : decode cX6_readArguments 22 = .ok (.aload_n 0, 1) := by decide +kernel
theorem dX6_readArguments_23 : decode cX6_readArguments 23 = .ok (.iconst 0, 1) := by decide +kernel
theorem dX6_readArguments_24 : decode cX6_readArguments 24 = .ok (.iload_n 2, 1) := by decide +kernel
theorem dX6_readArguments_25 : decode cX6_readArguments 25 = .ok (.iconst 1, 1) := by decide +kernel
theorem dX6_readArguments_26 : decode cX6_readArguments 26 = .ok (.isub, 1) := by decide +kernel
theorem dX6_readArguments_27 : decode cX6_readArguments 27 = .ok (.invokevirtual 79, 3) := by decide +kernel
theorem dX6_readArguments_30 : decode cX6_readArguments 30 = .ok (.ifCond .ne 5, 3) := by decide +kernel
theorem dX6_readArguments_33 : decode cX6_readArguments 33 = .ok (.iconst 0, 1) := by decide +kernel
theorem dX6_readArguments_34 : decode cX6_readArguments 34 = .ok (.ireturn, 1) := by decide +kernel
theorem dX6_readArguments_35 : decode cX6_readArguments 35 = .ok (.aload_n 0, 1) := by decide +kernel
theorem dX6_readArguments_36 : decode cX6_readArguments 36 = .ok (.aload_n 0, 1) := by decide +kernel
theorem dX6_readArguments_37 : decode cX6_readArguments 37 = .ok (.invokevirtual 82, 3) := by decide +kernel
theorem dX6_readArguments_40 : decode cX6_readArguments 40 = .ok (.putfield 58, 3) := by decide +kernel
theorem dX6_readArguments_43 : decode cX6_readArguments 43 = .ok (.aload_n 0, 1) := by decide +kernel
theorem dX6_readArguments_44 : decode cX6_readArguments 44 = .ok (.invokevirtual 25, 3) := by decide +kernel
theorem dX6_readArguments_47 : decode cX6_readArguments 47 = .ok (.iload_n 1, 1) := by decide +kernel
theorem dX6_readArguments_48 : decode cX6_readArguments 48 = .ok (.iconst 1, 1) := by decide +kernel
theorem dX6_readArguments_49 : decode cX6_readArguments 49 = .ok (.if_icmp .eq 8, 3) := by decide +kernel
theorem dX6_readArguments_52 : decode cX6_readArguments 52 = .ok (.iload_n 1, 1) := by decide +kernel
theorem dX6_readArguments_53 : decode cX6_readArguments 53 = .ok (.iconst 2, 1) := by decide +kernel
theorem dX6_readArguments_54 : decode cX6_readArguments 54 = .ok (.if_icmp .ne 28, 3) := by decide +kernel
theorem dX6_readArguments_57 : decode cX6_readArguments 57 = .ok (.aload_n 0, 1) := by decide +kernel
theorem dX6_readArguments_58 : decode cX6_readArguments 58 = .ok (.iconst 0, 1) := by decide +kernel
theorem dX6_readArguments_59 : decode cX6_readArguments 59 = .ok (.iload_n 2, 1) := by decide +kernel
theorem dX6_readArguments_60 : decode cX6_readArguments 60 = .ok (.iconst 1, 1) := by decide +kernel
theorem dX6_readArguments_61 : decode cX6_readArguments 61 = .ok (.isub, 1) := by decide +kernel
theorem dX6_readArguments_62 : decode cX6_readArguments 62 = .ok (.invokevirtual 79, 3) := by decide +kernel
theorem dX6_readArguments_65 : decode cX6_readArguments 65 = .ok (.ifCond .ne 5, 3) := by decide +kernel
theorem dX6_readArguments_68 : decode cX6_readArguments 68 = .ok (.iconst 0, 1) := by decide +kernel
theorem dX6_readArguments_69 : decode cX6_readArguments 69 = .ok (.ireturn, 1) := by decide +kernel
theorem dX6_readArguments_70 : decode cX6_readArguments 70 = .ok (.aload_n 0, 1) := by decide +kernel
theorem dX6_readArguments_71 : decode cX6_readArguments 71 = .ok (.aload_n 0, 1) := by decide +kernel
theorem dX6_readArguments_72 : decode cX6_readArguments 72 = .ok (.invokevirtual 82, 3) := by decide +kernel
theorem dX6_readArguments_75 : decode cX6_readArguments 75 = .ok (.putfield 61, 3) := by decide +kernel
theorem dX6_readArguments_78 : decode cX6_readArguments 78 = .ok (.aload_n 0, 1) := by decide +kernel
theorem dX6_readArguments_79 : decode cX6_readArguments 79 = .ok (.invokevirtual 25, 3) := by decide +kernel
theorem dX6_readArguments_82 : decode cX6_readArguments 82 = .ok (.iload_n 1, 1) := by decide +kernel
theorem dX6_readArguments_83 : decode cX6_readArguments 83 = .ok (.bipush 6, 2) := by decide +kernel
theorem dX6_readArguments_85 : decode cX6_readArguments 85 = .ok (.if_icmp .eq 10, 3) := by decide +kernel
theorem dX6_readArguments_88 : decode cX6_readArguments 88 = .ok (.aload_n 0, 1) := by decide +kernel
theorem dX6_readArguments_89 : decode cX6_readArguments 89 = .ok (.invokevirtual 85, 3) := by decide +kernel
theorem dX6_readArguments_92 : decode cX6_readArguments 92 = .ok (.ifCond .eq 7, 3) := by decide +kernel
theorem dX6_readArguments_95 : decode cX6_readArguments 95 = .ok (.iconst 1, 1) := by decide +kernel
theorem dX6_readArguments_96 : decode cX6_readArguments 96 = .ok (.goto 4, 3) := by decide +kernel
theorem dX6_readArguments_99 : decode cX6_readArguments 99 = .ok (.iconst 0, 1) := by decide +kernel
theorem dX6_readArguments_100 : decode cX6_readArguments 100 = .ok (.ireturn, 1) := by decide +kernel
set_option maxHeartbeats 4000000 in
set_option maxRecDepth 100000 in
theorem t_X6_readArguments_J82 {p : Program} {l : Launch} {e : Env} {s : State} {m : MethodId} {args : Array Value} {below : List Frame} {meth : Method} {c : Code} {D : va_G} {aC : Nat → ClassId} {A : Nat → Prop} {a_t : Nat → Nat} {out : Int32 × Ob_T} (hX : K_X p s m args meth c cX6_readArguments 3 WL_ RX6 D aC A) (hr : meth.sig.returnType = (some .boolean)) (x1 : Int32) (s_t : Ob_T) (h : f_X6_readArguments_J82 x1 s_t = some out) (H : Heap) (locs : List Loc) (ls : Array Slot) (hZ : K_S D A s (wd_X6 aC a_t s_t) H locs) (hl : lv_has ls 3 [(0, .ref (a_t 0)), (1, .int x1)]) : W p l e (R_m 3 66) s m args below meth c H locs 0 0 (MQ below (Q_W (some (.int out.1)) D A (wd_X6 aC a_t out.2)) args s 0 0 A) (F0 m 82 ls []) := by
  obtain ⟨hx, hb, hml, hown, hts, hK, hA, hlk⟩ := id hX
  unfold f_X6_readArguments_J82 at h
  refine lv_iload_n hx hb dX6_readArguments_82 rfl (lv_at hl 1 rfl) ?_
  refine lv_bipush (v := 6) hx hb dX6_readArguments_83 (by decide) ?_
  refine lv_icmp_eq (tgt := 95) hx hb dX6_readArguments_85 (by decide) (fun cd => ?_) (fun cd => ?_)
  · replace h := k_t cd h
    clear cd
    refine lv_iconst (v := 1) hx hb dX6_readArguments_95 (by decide) ?_
    refine lv_goto (tgt := 100) hx hb dX6_readArguments_96 (by decide) ?_
    cases h
    exact k_zretW (v := (1 : Int32)) hX hr rfl hZ dX6_readArguments_100
  · replace h := k_f cd h
    clear cd
    refine lv_aload_n hx hb dX6_readArguments_88 rfl (lv_at hl 0 rfl) ?_
    obtain ⟨u12, hu, h⟩ := k_bd h
    refine k_vWs (As := []) (rest := []) (v := some (.int u12.1)) (st1 := [.int u12.1]) hX hl.1 hZ (c_X6_readRank (a_t := a_t) s_t hu) (gv_ wm_583 wm_585 wm_586 wm_563 wm_584) rfl hd_X6_readRank ⟨rfl, rfl⟩ 6 0 rfl rfl rfl rfl rfl dX6_readArguments_89 rfl ⟨rfl, rfl⟩ rfl (fun H locs hZ => ?_)
    clear hu
    refine lv_if_eq (tgt := 99) hx hb dX6_readArguments_92 (by decide) (fun cd => ?_) (fun cd => ?_)
    · replace h := k_t cd h
      clear cd
      refine lv_iconst (v := 0) hx hb dX6_readArguments_99 (by decide) ?_
      cases h
      exact k_zretW (v := (0 : Int32)) hX hr rfl hZ dX6_readArguments_100
    · replace h := k_f cd h
      clear cd
      refine lv_iconst (v := 1) hx hb dX6_readArguments_95 (by decide) ?_
      refine lv_goto (tgt := 100) hx hb dX6_readArguments_96 (by decide) ?_
      cases h
      exact k_zretW (v := (1 : Int32)) hX hr rfl hZ dX6_readArguments_100
set_option maxHeartbeats 4000000 in
set_option maxRecDepth 100000 in
theorem t_X6_readArguments_J57 {p : Program} {l : Launch} {e : Env} {s : State} {m : MethodId} {args : Array Value} {below : List Frame} {meth : Method} {c : Code} {D : va_G} {aC : Nat → ClassId} {A : Nat → Prop} {a_t : Nat → Nat} {out : Int32 × Ob_T} (hX : K_X p s m args meth c cX6_readArguments 3 WL_ RX6 D aC A) (hr : meth.sig.returnType = (some .boolean)) (x1 : Int32) (x2 : Int32) (s_t : Ob_T) (h : f_X6_readArguments_J57 x1 x2 s_t = some out) (H : Heap) (locs : List Loc) (ls : Array Slot) (hZ : K_S D A s (wd_X6 aC a_t s_t) H locs) (hl : lv_has ls 3 [(0, .ref (a_t 0)), (1, .int x1), (2, .int x2)]) : W p l e (R_m 3 66) s m args below meth c H locs 0 0 (MQ below (Q_W (some (.int out.1)) D A (wd_X6 aC a_t out.2)) args s 0 0 A) (F0 m 57 ls []) := by
  obtain ⟨hx, hb, hml, hown, hts, hK, hA, hlk⟩ := id hX
  unfold f_X6_readArguments_J57 at h
  refine lv_aload_n hx hb dX6_readArguments_57 rfl (lv_at hl 0 rfl) ?_
  refine lv_iconst (v := 0) hx hb dX6_readArguments_58 (by decide) ?_
  refine lv_iload_n hx hb dX6_readArguments_59 rfl (lv_at hl 2 rfl) ?_
  refine lv_iconst (v := 1) hx hb dX6_readArguments_60 (by decide) ?_
  refine lv_isub hx hb dX6_readArguments_61 ?_
  obtain ⟨u8, hu, h⟩ := k_bd h
  refine k_vRs (As := [.int (0 : Int32), .int (x2 - (1 : Int32))]) (rest := []) (v := some (.int u8)) (st1 := [.int u8]) hX hl.1 hZ (c_X6_isNumber (a_t := a_t) s_t (0 : Int32) (x2 - (1 : Int32)) hu) (gv_ wm_575 wm_577 wm_578 wm_563 wm_576) rfl hd_X6_isNumber ⟨rfl, rfl⟩ 6 0 rfl rfl rfl rfl rfl dX6_readArguments_62 rfl ⟨rfl, rfl⟩ (fun locs hZ => ?_)
  clear hu
  refine lv_if_ne (tgt := 70) hx hb dX6_readArguments_65 (by decide) (fun cd => ?_) (fun cd => ?_)
  · replace h := k_f cd h
    clear cd
    refine lv_aload_n hx hb dX6_readArguments_70 rfl (lv_at hl 0 rfl) ?_
    refine lv_aload_n hx hb dX6_readArguments_71 rfl (lv_at hl 0 rfl) ?_
    obtain ⟨u9, hu, h⟩ := k_bd h
    refine k_vRs (As := []) (rest := [.ref (a_t 0)]) (v := some (.int u9)) (st1 := [.int u9, .ref (a_t 0)]) hX hl.1 hZ (c_X6_numberHere (a_t := a_t) s_t hu) (gv_ wm_562 wm_565 wm_566 wm_563 wm_564) rfl hd_X6_numberHere ⟨rfl, rfl⟩ 6 0 rfl rfl rfl rfl rfl dX6_readArguments_72 rfl ⟨rfl, rfl⟩ (fun locs hZ => ?_)
    clear hu
    refine k_put (wf := (fun o => wd_X6 aC a_t o)) (o := s_t) hX hZ 0 6 rfl rfl iw_X6 tyX6 tyX6_ok nmX6 7 rfl (wm_587) rfl rfl rfl rfl rfl h dX6_readArguments_75 (fun o10 H locs hZ h => ?_)
    refine lv_aload_n hx hb dX6_readArguments_78 rfl (lv_at hl 0 rfl) ?_
    obtain ⟨u11, hu, h⟩ := k_bd h
    refine k_vWs (As := []) (rest := []) (v := none) (st1 := []) hX hl.1 hZ (c_X6_step (a_t := a_t) o10 hu) (gv_ wm_570 wm_572 wm_573 wm_563 wm_571) rfl hd_X6_step ⟨rfl, rfl⟩ 6 0 rfl rfl rfl rfl rfl dX6_readArguments_79 rfl ⟨rfl, rfl⟩ rfl (fun H locs hZ => ?_)
    clear hu
    exact t_X6_readArguments_J82 hX hr x1 u11 h H locs ls hZ (lv_sub hl [0, 1] rfl)
  · replace h := k_t cd h
    clear cd
    refine lv_iconst (v := 0) hx hb dX6_readArguments_68 (by decide) ?_
    cases h
    exact k_zretW (v := (0 : Int32)) hX hr rfl hZ dX6_readArguments_69
set_option maxHeartbeats 4000000 in
set_option maxRecDepth 100000 in
theorem c_X6_readArguments {l : Launch} {D : va_G} {aC : Nat → ClassId} {a_t : Nat → Nat} (s_t : Ob_T) (x1 : Int32) (x2 : Int32) {out : Int32 × Ob_T} (h : f_X6_readArguments s_t x1 x2 = some out) : M_W l yX6_readArguments wlX6_readArguments 3 66 D aC [.ref (a_t 0), .int x1, .int x2] (wd_X6 aC a_t s_t) (some (.int out.1)) (wd_X6 aC a_t out.2) := by
  refine k_entW (cc := cX6_readArguments) (ret := (some .boolean)) (maxL := 3) (own := RX6) (by decide) rfl rfl rfl ?_
  intro p e s m below meth c A ls hX hr hZ hl
  have hl : lv_has ls 3 [(0, .ref (a_t 0)), (1, .int x1), (2, .int x2)] := hl
  generalize ([.ref (a_t 0), .int x1, .int x2] : List Value).toArray = args at hX ⊢
  obtain ⟨hx, hb, hml, hown, hts, hK, hA, hlk⟩ := id hX
  unfold f_X6_readArguments at h
  generalize s.heap = H at hZ ⊢
  generalize ([] : List Loc) = locs at hZ ⊢
  refine lv_aload_n hx hb dX6_readArguments_0 rfl (lv_at hl 0 rfl) ?_
  refine lv_iconst (v := -1) hx hb dX6_readArguments_1 (by decide) ?_
  refine k_put (wf := (fun o => wd_X6 aC a_t o)) (o := s_t) hX hZ 0 6 rfl rfl iw_X6 tyX6 tyX6_ok nmX6 6 rfl (wm_588) rfl rfl rfl rfl rfl h dX6_readArguments_2 (fun o1 H locs hZ h => ?_)
  refine lv_aload_n hx hb dX6_readArguments_5 rfl (lv_at hl 0 rfl) ?_
  refine lv_iconst (v := -1) hx hb dX6_readArguments_6 (by decide) ?_
  refine k_put (wf := (fun o => wd_X6 aC a_t o)) (o := o1) hX hZ 0 6 rfl rfl iw_X6 tyX6 tyX6_ok nmX6 7 rfl (wm_587) rfl rfl rfl rfl rfl h dX6_readArguments_7 (fun o2 H locs hZ h => ?_)
  refine lv_aload_n hx hb dX6_readArguments_10 rfl (lv_at hl 0 rfl) ?_
  refine lv_bipush (v := -11) hx hb dX6_readArguments_11 (by decide) ?_
  refine k_put (wf := (fun o => wd_X6 aC a_t o)) (o := o2) hX hZ 0 6 rfl rfl iw_X6 tyX6 tyX6_ok nmX6 8 rfl (wm_574) rfl rfl rfl rfl rfl h dX6_readArguments_13 (fun o3 H locs hZ h => ?_)
  refine lv_iload_n hx hb dX6_readArguments_16 rfl (lv_at hl 1 rfl) ?_
  refine lv_if_ne (tgt := 22) hx hb dX6_readArguments_17 (by decide) (fun cd => ?_) (fun cd => ?_)
  · replace h := k_f cd h
    clear cd
    refine lv_aload_n hx hb dX6_readArguments_22 rfl (lv_at hl 0 rfl) ?_
    refine lv_iconst (v := 0) hx hb dX6_readArguments_23 (by decide) ?_
    refine lv_iload_n hx hb dX6_readArguments_24 rfl (lv_at hl 2 rfl) ?_
    refine lv_iconst (v := 1) hx hb dX6_readArguments_25 (by decide) ?_
    refine lv_isub hx hb dX6_readArguments_26 ?_
    obtain ⟨u4, hu, h⟩ := k_bd h
    refine k_vRs (As := [.int (0 : Int32), .int (x2 - (1 : Int32))]) (rest := []) (v := some (.int u4)) (st1 := [.int u4]) hX hl.1 hZ (c_X6_isNumber (a_t := a_t) o3 (0 : Int32) (x2 - (1 : Int32)) hu) (gv_ wm_575 wm_577 wm_578 wm_563 wm_576) rfl hd_X6_isNumber ⟨rfl, rfl⟩ 6 0 rfl rfl rfl rfl rfl dX6_readArguments_27 rfl ⟨rfl, rfl⟩ (fun locs hZ => ?_)
    clear hu
    refine lv_if_ne (tgt := 35) hx hb dX6_readArguments_30 (by decide) (fun cd => ?_) (fun cd => ?_)
    · replace h := k_f cd h
      clear cd
      refine lv_aload_n hx hb dX6_readArguments_35 rfl (lv_at hl 0 rfl) ?_
      refine lv_aload_n hx hb dX6_readArguments_36 rfl (lv_at hl 0 rfl) ?_
      obtain ⟨u5, hu, h⟩ := k_bd h
      refine k_vRs (As := []) (rest := [.ref (a_t 0)]) (v := some (.int u5)) (st1 := [.int u5, .ref (a_t 0)]) hX hl.1 hZ (c_X6_numberHere (a_t := a_t) o3 hu) (gv_ wm_562 wm_565 wm_566 wm_563 wm_564) rfl hd_X6_numberHere ⟨rfl, rfl⟩ 6 0 rfl rfl rfl rfl rfl dX6_readArguments_37 rfl ⟨rfl, rfl⟩ (fun locs hZ => ?_)
      clear hu
      refine k_put (wf := (fun o => wd_X6 aC a_t o)) (o := o3) hX hZ 0 6 rfl rfl iw_X6 tyX6 tyX6_ok nmX6 6 rfl (wm_588) rfl rfl rfl rfl rfl h dX6_readArguments_40 (fun o6 H locs hZ h => ?_)
      refine lv_aload_n hx hb dX6_readArguments_43 rfl (lv_at hl 0 rfl) ?_
      obtain ⟨u7, hu, h⟩ := k_bd h
      refine k_vWs (As := []) (rest := []) (v := none) (st1 := []) hX hl.1 hZ (c_X6_step (a_t := a_t) o6 hu) (gv_ wm_570 wm_572 wm_573 wm_563 wm_571) rfl hd_X6_step ⟨rfl, rfl⟩ 6 0 rfl rfl rfl rfl rfl dX6_readArguments_44 rfl ⟨rfl, rfl⟩ rfl (fun H locs hZ => ?_)
      clear hu
      refine lv_iload_n hx hb dX6_readArguments_47 rfl (lv_at hl 1 rfl) ?_
      refine lv_iconst (v := 1) hx hb dX6_readArguments_48 (by decide) ?_
      refine lv_icmp_eq (tgt := 57) hx hb dX6_readArguments_49 (by decide) (fun cd => ?_) (fun cd => ?_)
      · replace h := k_t cd h
        clear cd
        exact t_X6_readArguments_J57 hX hr x1 x2 u7 h H locs ls hZ (lv_sub hl [0, 1, 2] rfl)
      · replace h := k_f cd h
        clear cd
        refine lv_iload_n hx hb dX6_readArguments_52 rfl (lv_at hl 1 rfl) ?_
        refine lv_iconst (v := 2) hx hb dX6_readArguments_53 (by decide) ?_
        refine lv_icmp_ne (tgt := 82) hx hb dX6_readArguments_54 (by decide) (fun cd => ?_) (fun cd => ?_)
        · replace h := k_f cd h
          clear cd
          exact t_X6_readArguments_J82 hX hr x1 u7 h H locs ls hZ (lv_sub hl [0, 1] rfl)
        · replace h := k_t cd h
          clear cd
          exact t_X6_readArguments_J57 hX hr x1 x2 u7 h H locs ls hZ (lv_sub hl [0, 1, 2] rfl)
    · replace h := k_t cd h
      clear cd
      refine lv_iconst (v := 0) hx hb dX6_readArguments_33 (by decide) ?_
      cases h
      exact k_zretW (v := (0 : Int32)) hX hr rfl hZ dX6_readArguments_34
  · replace h := k_t cd h
    clear cd
    refine lv_iconst (v := 1) hx hb dX6_readArguments_20 (by decide) ?_
    cases h
    exact k_zretW (v := (1 : Int32)) hX hr rfl hZ dX6_readArguments_21
