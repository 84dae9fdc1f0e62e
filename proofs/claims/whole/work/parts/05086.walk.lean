def wlX6_isSign : List Cond := .code yX6_isSign cX6_isSign 2 (some .boolean) :: WL_
theorem hd_X6_isSign : yX6_isSign.cls = RX6 ∧ yX6_isSign.cls ≠ "java/lang/invoke/MethodHandle" ∧ yX6_isSign.cls ≠ "java/lang/invoke/VarHandle" ∧ (parseMethodDescriptor yX6_isSign.desc).map (fun d => d.parameters.length) = some 1 := by decide +kernel
theorem dX6_isSign_0 : decode cX6_isSign 0 = .ok (.aload_n 0, 1) := by decide +kernel
theorem dX6_isSign_1 : decode cX6_isSign 1 = .ok (.getfield 32, 3) := by decide +kernel
theorem dX6_isSign_4 : decode cX6_isSign 4 = .ok (.iconst 3, 1) := by decide +kernel
theorem dX6_isSign_5 : decode cX6_isSign 5 = .ok (.if_icmp .ne 20, 3) := by decide +kernel
theorem dX6_isSign_8 : decode cX6_isSign 8 = .ok (.aload_n 0, 1) := by decide +kernel
theorem dX6_isSign_9 : decode cX6_isSign 9 = .ok (.getfield 9, 3) := by decide +kernel
theorem dX6_isSign_12 : decode cX6_isSign 12 = .ok (.aload_n 0, 1) := by decide +kernel
theorem dX6_isSign_13 : decode cX6_isSign 13 = .ok (.getfield 39, 3) := by decide +kernel
theorem dX6_isSign_16 : decode cX6_isSign 16 = .ok (.caload, 1) := by decide +kernel
theorem dX6_isSign_17 : decode cX6_isSign 17 = .ok (.iload_n 1, 1) := by decide +kernel
theorem dX6_isSign_18 : decode cX6_isSign 18 = .ok (.if_icmp .ne 7, 3) := by decide +kernel
theorem dX6_isSign_21 : decode cX6_isSign 21 = .ok (.iconst 1, 1) := by decide +kernel
theorem dX6_isSign_22 : decode cX6_isSign 22 = .ok (.goto 4, 3) := by decide +kernel
theorem dX6_isSign_25 : decode cX6_isSign 25 = .ok (.iconst 0, 1) := by decide +kernel
theorem dX6_isSign_26 : decode cX6_isSign 26 = .ok (.ireturn, 1) := by decide +kernel
set_option maxHeartbeats 4000000 in
set_option maxRecDepth 100000 in
theorem c_X6_isSign {l : Launch} {D : va_G} {aC : Nat → ClassId} {a_t : Nat → Nat} (s_t : Ob_T) (x1 : Int32) {out : Int32} (h : f_X6_isSign s_t x1 = some out) : M_R l yX6_isSign wlX6_isSign 0 0 D aC [.ref (a_t 0), .int x1] (wd_X6 aC a_t s_t) (some (.int out)) := by
  refine k_entR (cc := cX6_isSign) (ret := (some .boolean)) (maxL := 2) (own := RX6) (by decide) rfl rfl rfl ?_
  intro p e s m below meth c A ls hX hr hZ hl
  have hl : lv_has ls 2 [(0, .ref (a_t 0)), (1, .int x1)] := hl
  generalize ([.ref (a_t 0), .int x1] : List Value).toArray = args at hX ⊢
  obtain ⟨hx, hb, hml, hown, hts, hK, hA, hlk⟩ := id hX
  unfold f_X6_isSign at h
  have hF : ∀ q ∈ ([] : List Loc), False := fun _ h => nomatch h
  generalize ([] : List Loc) = locs at hF ⊢
  refine lv_aload_n hx hb dX6_isSign_0 rfl (lv_at hl 0 rfl) ?_
  refine k_get hX hZ.1 0 6 rfl rfl iw_X6 3 rfl (wm_561) (v := .int (o_F s_t 3)) rfl dX6_isSign_1 ?_
  refine lv_iconst (v := 3) hx hb dX6_isSign_4 (by decide) ?_
  refine lv_icmp_ne (tgt := 25) hx hb dX6_isSign_5 (by decide) (fun cd => ?_) (fun cd => ?_)
  · replace h := k_f cd h
    clear cd
    refine lv_iconst (v := 0) hx hb dX6_isSign_25 (by decide) ?_
    cases h
    exact k_zretR (v := (0 : Int32)) hX hr rfl hF dX6_isSign_26
  · replace h := k_t cd h
    clear cd
    refine lv_aload_n hx hb dX6_isSign_8 rfl (lv_at hl 0 rfl) ?_
    refine k_get hX hZ.1 0 6 rfl rfl iw_X6 0 rfl (wm_557) (v := .ref (a_t 1)) rfl dX6_isSign_9 ?_
    refine lv_aload_n hx hb dX6_isSign_12 rfl (lv_at hl 0 rfl) ?_
    refine k_get hX hZ.1 0 6 rfl rfl iw_X6 4 rfl (wm_559) (v := .int (o_F s_t 4)) rfl dX6_isSign_13 ?_
    refine k_cald hX hZ.1 1 rfl h dX6_isSign_16 (fun v1 h => ?_)
    refine lv_iload_n hx hb dX6_isSign_17 rfl (lv_at hl 1 rfl) ?_
    refine lv_icmp_ne (tgt := 25) hx hb dX6_isSign_18 (by decide) (fun cd => ?_) (fun cd => ?_)
    · replace h := k_f cd h
      clear cd
      refine lv_iconst (v := 0) hx hb dX6_isSign_25 (by decide) ?_
      cases h
      exact k_zretR (v := (0 : Int32)) hX hr rfl hF dX6_isSign_26
    · replace h := k_t cd h
      clear cd
      refine lv_iconst (v := 1) hx hb dX6_isSign_21 (by decide) ?_
      refine lv_goto (tgt := 26) hx hb dX6_isSign_22 (by decide) ?_
      cases h
      exact k_zretR (v := (1 : Int32)) hX hr rfl hF dX6_isSign_26
def wlX6_readRank : List Cond := .code yX6_readRank cX6_readRank 2 (some .boolean) :: WL_
theorem hd_X6_readRank : yX6_readRank.cls = RX6 ∧ yX6_readRank.cls ≠ "java/lang/invoke/MethodHandle" ∧ yX6_readRank.cls ≠ "java/lang/invoke/VarHandle" ∧ (parseMethodDescriptor yX6_readRank.desc).map (fun d => d.parameters.length) = some 0 := by decide +kernel
theorem dX6_readRank_0 : decode cX6_readRank 0 = .ok (.aload_n 0, 1) := by decide +kernel
theorem dX6_readRank_1 : decode cX6_readRank 1 = .ok (.bipush 45, 2) := by decide +kernel
theorem dX6_readRank_3 : decode cX6_readRank 3 = .ok (.invokevirtual 35, 3) := by decide +kernel
theorem dX6_readRank_6 : decode cX6_readRank 6 = .ok (.istore_n 1, 1) := by decide +kernel
theorem dX6_readRank_7 : decode cX6_readRank 7 = .ok (.iload_n 1, 1) := by decide +kernel
theorem dX6_readRank_8 : decode cX6_readRank 8 = .ok (.ifCond .eq 7, 3) := by decide +kernel
theorem dX6_readRank_11 : decode cX6_readRank 11 = .ok (.aload_n 0, 1) := by decide +kernel
theorem dX6_readRank_12 : decode cX6_readRank 12 = .ok (.invokevirtual 25, 3) := by decide +kernel
theorem dX6_readRank_15 : decode cX6_readRank 15 = .ok (.aload_n 0, 1) := by decide +kernel
theorem dX6_readRank_16 : decode cX6_readRank 16 = .ok (.iload_n 1, 1) := by decide +kernel
theorem dX6_readRank_17 : decode cX6_readRank 17 = .ok (.ifCond .eq 7, 3) := by decide +kernel
theorem dX6_readRank_20 : decode cX6_readRank 20 = .ok (.iconst 1, 1) := by decide +kernel
theorem dX6_readRank_21 : decode cX6_readRank 21 = .ok (.goto 4, 3) := by decide +kernel
theorem dX6_readRank_24 : decode cX6_readRank 24 = .ok (.iconst 0, 1) := by decide +kernel
theorem dX6_readRank_25 : decode cX6_readRank 25 = .ok (.iconst 3, 1) := by decide +kernel
theorem dX6_readRank_26 : decode cX6_readRank 26 = .ok (.invokevirtual 79, 3) := by decide +kernel
theorem dX6_readRank_29 : decode cX6_readRank 29 = .ok (.ifCond .ne 5, 3) := by decide +kernel
theorem dX6_readRank_32 : decode cX6_readRank 32 = .ok (.iconst 0, 1) := by decide +kernel
theorem dX6_readRank_33 : decode cX6_readRank 33 = .ok (.ireturn, 1) := by decide +kernel
theorem dX6_readRank_34 : decode cX6_readRank 34 = .ok (.aload_n 0, 1) := by decide +kernel
theorem dX6_readRank_35 : decode cX6_readRank 35 = .ok (.iload_n 1, 1) := by decide +kernel
theorem dX6_readRank_36 : decode cX6_readRank 36 = .ok (.ifCond .eq 11, 3) := by decide +kernel
theorem dX6_readRank_39 : decode cX6_readRank 39 = .ok (.aload_n 0, 1) := by decide +kernel
theorem dX6_readRank_40 : decode cX6_readRank 40 = .ok (.invokevirtual 82, 3) := by decide +kernel
theorem dX6_readRank_43 : decode cX6_readRank 43 = .ok (.ineg, 1) := by decide +kernel
theorem dX6_readRank_44 : decode cX6_readRank 44 = .ok (.goto 7, 3) := by decide +kernel
theorem dX6_readRank_47 : decode cX6_readRank 47 = .ok (.aload_n 0, 1) := by decide +kernel
theorem dX6_readRank_48 : decode cX6_readRank 48 = .ok (.invokevirtual 82, 3) := by decide +kernel
theorem dX6_readRank_51 : decode cX6_readRank 51 = .ok (.putfield 64, 3) := by decide +kernel
theorem dX6_readRank_54 : decode cX6_readRank 54 = .ok (.aload_n 0, 1) := by decide +kernel
theorem dX6_readRank_55 : decode cX6_readRank 55 = .ok (.invokevirtual 25, 3) := by decide +kernel
theorem dX6_readRank_58 : decode cX6_readRank 58 = .ok (.iconst 1, 1) := by decide +kernel
theorem dX6_readRank_59 : decode cX6_readRank 59 = .ok (.ireturn, 1) := by decide +kernel
set_option maxHeartbeats 4000000 in
set_option maxRecDepth 100000 in
theorem t_X6_readRank_J51 {p : Program} {l : Launch} {e : Env} {s : State} {m : MethodId} {args : Array Value} {below : List Frame} {meth : Method} {c : Code} {D : va_G} {aC : Nat → ClassId} {A : Nat → Prop} {a_t : Nat → Nat} {out : Int32 × Ob_T} (hX : K_X p s m args meth c cX6_readRank 2 WL_ RX6 D aC A) (hr : meth.sig.returnType = (some .boolean)) (k1 : Int32) (s_t : Ob_T) (h : f_X6_readRank_J51 k1 s_t = some out) (H : Heap) (locs : List Loc) (ls : Array Slot) (hZ : K_S D A s (wd_X6 aC a_t s_t) H locs) (hl : lv_has ls 2 [(0, .ref (a_t 0))]) : W p l e (R_m 2 45) s m args below meth c H locs 0 0 (MQ below (Q_W (some (.int out.1)) D A (wd_X6 aC a_t out.2)) args s 0 0 A) (F0 m 51 ls [.int k1, .ref (a_t 0)]) := by
  obtain ⟨hx, hb, hml, hown, hts, hK, hA, hlk⟩ := id hX
  unfold f_X6_readRank_J51 at h
  refine k_put (wf := (fun o => wd_X6 aC a_t o)) (o := s_t) hX hZ 0 6 rfl rfl iw_X6 tyX6 tyX6_ok nmX6 8 rfl (wm_574) rfl rfl rfl rfl rfl h dX6_readRank_51 (fun o4 H locs hZ h => ?_)
  refine lv_aload_n hx hb dX6_readRank_54 rfl (lv_at hl 0 rfl) ?_
  obtain ⟨u5, hu, h⟩ := k_bd h
  refine k_vWs (As := []) (rest := []) (v := none) (st1 := []) hX hl.1 hZ (c_X6_step (a_t := a_t) o4 hu) (gv_ wm_570 wm_572 wm_573 wm_563 wm_571) rfl hd_X6_step ⟨rfl, rfl⟩ 6 0 rfl rfl rfl rfl rfl dX6_readRank_55 rfl ⟨rfl, rfl⟩ rfl (fun H locs hZ => ?_)
  clear hu
  refine lv_iconst (v := 1) hx hb dX6_readRank_58 (by decide) ?_
  cases h
  exact k_zretW (v := (1 : Int32)) hX hr rfl hZ dX6_readRank_59
set_option maxHeartbeats 4000000 in
set_option maxRecDepth 100000 in
theorem t_X6_readRank_J25 {p : Program} {l : Launch} {e : Env} {s : State} {m : MethodId} {args : Array Value} {below : List Frame} {meth : Method} {c : Code} {D : va_G} {aC : Nat → ClassId} {A : Nat → Prop} {a_t : Nat → Nat} {out : Int32 × Ob_T} (hX : K_X p s m args meth c cX6_readRank 2 WL_ RX6 D aC A) (hr : meth.sig.returnType = (some .boolean)) (x1 : Int32) (k1 : Int32) (s_t : Ob_T) (h : f_X6_readRank_J25 x1 k1 s_t = some out) (H : Heap) (locs : List Loc) (ls : Array Slot) (hZ : K_S D A s (wd_X6 aC a_t s_t) H locs) (hl : lv_has ls 2 [(0, .ref (a_t 0)), (1, .int x1)]) : W p l e (R_m 2 45) s m args below meth c H locs 0 0 (MQ below (Q_W (some (.int out.1)) D A (wd_X6 aC a_t out.2)) args s 0 0 A) (F0 m 25 ls [.int k1, .ref (a_t 0)]) := by
  obtain ⟨hx, hb, hml, hown, hts, hK, hA, hlk⟩ := id hX
  unfold f_X6_readRank_J25 at h
  refine lv_iconst (v := 3) hx hb dX6_readRank_25 (by decide) ?_
  obtain ⟨u2, hu, h⟩ := k_bd h
  refine k_vRs (As := [.int k1, .int (3 : Int32)]) (rest := []) (v := some (.int u2)) (st1 := [.int u2]) hX hl.1 hZ (c_X6_isNumber (a_t := a_t) s_t k1 (3 : Int32) hu) (gv_ wm_575 wm_577 wm_578 wm_563 wm_576) rfl hd_X6_isNumber ⟨rfl, rfl⟩ 6 0 rfl rfl rfl rfl rfl dX6_readRank_26 rfl ⟨rfl, rfl⟩ (fun locs hZ => ?_)
  clear hu
  refine lv_if_ne (tgt := 34) hx hb dX6_readRank_29 (by decide) (fun cd => ?_) (fun cd => ?_)
  · replace h := k_f cd h
    clear cd
    refine lv_aload_n hx hb dX6_readRank_34 rfl (lv_at hl 0 rfl) ?_
    refine lv_iload_n hx hb dX6_readRank_35 rfl (lv_at hl 1 rfl) ?_
    refine lv_if_eq (tgt := 47) hx hb dX6_readRank_36 (by decide) (fun cd => ?_) (fun cd => ?_)
    · replace h := k_t cd h
      clear cd
      refine lv_aload_n hx hb dX6_readRank_47 rfl (lv_at hl 0 rfl) ?_
      obtain ⟨u3, hu, h⟩ := k_bd h
      refine k_vRs (As := []) (rest := [.ref (a_t 0)]) (v := some (.int u3)) (st1 := [.int u3, .ref (a_t 0)]) hX hl.1 hZ (c_X6_numberHere (a_t := a_t) s_t hu) (gv_ wm_562 wm_565 wm_566 wm_563 wm_564) rfl hd_X6_numberHere ⟨rfl, rfl⟩ 6 0 rfl rfl rfl rfl rfl dX6_readRank_48 rfl ⟨rfl, rfl⟩ (fun locs hZ => ?_)
      clear hu
      exact t_X6_readRank_J51 hX hr u3 s_t h H locs ls hZ (lv_sub hl [0] rfl)
    · replace h := k_f cd h
      clear cd
      refine lv_aload_n hx hb dX6_readRank_39 rfl (lv_at hl 0 rfl) ?_
      obtain ⟨u6, hu, h⟩ := k_bd h
      refine k_vRs (As := []) (rest := [.ref (a_t 0)]) (v := some (.int u6)) (st1 := [.int u6, .ref (a_t 0)]) hX hl.1 hZ (c_X6_numberHere (a_t := a_t) s_t hu) (gv_ wm_562 wm_565 wm_566 wm_563 wm_564) rfl hd_X6_numberHere ⟨rfl, rfl⟩ 6 0 rfl rfl rfl rfl rfl dX6_readRank_40 rfl ⟨rfl, rfl⟩ (fun locs hZ => ?_)
      clear hu
      refine lv_ineg hx hb dX6_readRank_43 ?_
      refine lv_goto (tgt := 51) hx hb dX6_readRank_44 (by decide) ?_
      exact t_X6_readRank_J51 hX hr (-u6) s_t h H locs ls hZ (lv_sub hl [0] rfl)
  · replace h := k_t cd h
    clear cd
    refine lv_iconst (v := 0) hx hb dX6_readRank_32 (by decide) ?_
    cases h
    exact k_zretW (v := (0 : Int32)) hX hr rfl hZ dX6_readRank_33
set_option maxHeartbeats 4000000 in
set_option maxRecDepth 100000 in
theorem t_X6_readRank_J15 {p : Program} {l : Launch} {e : Env} {s : State} {m : MethodId} {args : Array Value} {below : List Frame} {meth : Method} {c : Code} {D : va_G} {aC : Nat → ClassId} {A : Nat → Prop} {a_t : Nat → Nat} {out : Int32 × Ob_T} (hX : K_X p s m args meth c cX6_readRank 2 WL_ RX6 D aC A) (hr : meth.sig.returnType = (some .boolean)) (x1 : Int32) (s_t : Ob_T) (h : f_X6_readRank_J15 x1 s_t = some out) (H : Heap) (locs : List Loc) (ls : Array Slot) (hZ : K_S D A s (wd_X6 aC a_t s_t) H locs) (hl : lv_has ls 2 [(0, .ref (a_t 0)), (1, .int x1)]) : W p l e (R_m 2 45) s m args below meth c H locs 0 0 (MQ below (Q_W (some (.int out.1)) D A (wd_X6 aC a_t out.2)) args s 0 0 A) (F0 m 15 ls []) := by
  obtain ⟨hx, hb, hml, hown, hts, hK, hA, hlk⟩ := id hX
  unfold f_X6_readRank_J15 at h
  refine lv_aload_n hx hb dX6_readRank_15 rfl (lv_at hl 0 rfl) ?_
  refine lv_iload_n hx hb dX6_readRank_16 rfl (lv_at hl 1 rfl) ?_
  refine lv_if_eq (tgt := 24) hx hb dX6_readRank_17 (by decide) (fun cd => ?_) (fun cd => ?_)
  · replace h := k_t cd h
    clear cd
    refine lv_iconst (v := 0) hx hb dX6_readRank_24 (by decide) ?_
    exact t_X6_readRank_J25 hX hr x1 (0 : Int32) s_t h H locs ls hZ (lv_sub hl [0, 1] rfl)
  · replace h := k_f cd h
    clear cd
    refine lv_iconst (v := 1) hx hb dX6_readRank_20 (by decide) ?_
    refine lv_goto (tgt := 25) hx hb dX6_readRank_21 (by decide) ?_
    exact t_X6_readRank_J25 hX hr x1 (1 : Int32) s_t h H locs ls hZ (lv_sub hl [0, 1] rfl)
set_option maxHeartbeats 4000000 in
set_option maxRecDepth 100000 in
theorem c_X6_readRank {l : Launch} {D : va_G} {aC : Nat → ClassId} {a_t : Nat → Nat} (s_t : Ob_T) {out : Int32 × Ob_T} (h : f_X6_readRank s_t = some out) : M_W l yX6_readRank wlX6_readRank 2 45 D aC [.ref (a_t 0)] (wd_X6 aC a_t s_t) (some (.int out.1)) (wd_X6 aC a_t out.2) := by
  refine k_entW (cc := cX6_readRank) (ret := (some .boolean)) (maxL := 2) (own := RX6) (by decide) rfl rfl rfl ?_
  intro p e s m below meth c A ls hX hr hZ hl
  have hl : lv_has ls 2 [(0, .ref (a_t 0))] := hl
  generalize ([.ref (a_t 0)] : List Value).toArray = args at hX ⊢
  obtain ⟨hx, hb, hml, hown, hts, hK, hA, hlk⟩ := id hX
  unfold f_X6_readRank at h
  generalize s.heap = H at hZ ⊢
  generalize ([] : List Loc) = locs at hZ ⊢
  refine lv_aload_n hx hb dX6_readRank_0 rfl (lv_at hl 0 rfl) ?_
  refine lv_bipush (v := 45) hx hb dX6_readRank_1 (by decide) ?_
  obtain ⟨u1, hu, h⟩ := k_bd h
  refine k_vRs (As := [.int (45 : Int32)]) (rest := []) (v := some (.int u1)) (st1 := [.int u1]) hX hl.1 hZ (c_X6_isSign (a_t := a_t) s_t (45 : Int32) hu) (gv_ wm_579 wm_581 wm_582 wm_563 wm_580) rfl hd_X6_isSign ⟨rfl, rfl⟩ 6 0 rfl rfl rfl rfl rfl dX6_readRank_3 rfl ⟨rfl, rfl⟩ (fun locs hZ => ?_)
  clear hu
  refine lv_istore_n (lv' := [(1, .int u1), (0, .ref (a_t 0))]) hx hb dX6_readRank_6 rfl hl (by decide) rfl (fun ls hl => ?_)
  refine lv_iload_n hx hb dX6_readRank_7 rfl (lv_at hl 0 rfl) ?_
  refine lv_if_eq (tgt := 15) hx hb dX6_readRank_8 (by decide) (fun cd => ?_) (fun cd => ?_)
  · replace h := k_t cd h
    clear cd
    exact t_X6_readRank_J15 hX hr u1 s_t h H locs ls hZ (lv_sub hl [1, 0] rfl)
  · replace h := k_f cd h
    clear cd
    refine lv_aload_n hx hb dX6_readRank_11 rfl (lv_at hl 1 rfl) ?_
    obtain ⟨u7, hu, h⟩ := k_bd h
    refine k_vWs (As := []) (rest := []) (v := none) (st1 := []) hX hl.1 hZ (c_X6_step (a_t := a_t) s_t hu) (gv_ wm_570 wm_572 wm_573 wm_563 wm_571) rfl hd_X6_step ⟨rfl, rfl⟩ 6 0 rfl rfl rfl rfl rfl dX6_readRank_12 rfl ⟨rfl, rfl⟩ rfl (fun H locs hZ => ?_)
    clear hu
    exact t_X6_readRank_J15 hX hr u1 u7 h H locs ls hZ (lv_sub hl [1, 0] rfl)
