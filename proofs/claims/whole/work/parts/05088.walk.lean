def wlX6_isPlainLetter : List Cond := .code yX6_isPlainLetter cX6_isPlainLetter 1 (some .boolean) :: WL_
theorem hd_X6_isPlainLetter : yX6_isPlainLetter.cls = RX6 ∧ yX6_isPlainLetter.cls ≠ "java/lang/invoke/MethodHandle" ∧ yX6_isPlainLetter.cls ≠ "java/lang/invoke/VarHandle" ∧ (parseMethodDescriptor yX6_isPlainLetter.desc).map (fun d => d.parameters.length) = some 0 := by decide +kernel
theorem dX6_isPlainLetter_0 : decode cX6_isPlainLetter 0 = .ok (.aload_n 0, 1) := by decide +kernel
theorem dX6_isPlainLetter_1 : decode cX6_isPlainLetter 1 = .ok (.getfield 32, 3) := by decide +kernel
theorem dX6_isPlainLetter_4 : decode cX6_isPlainLetter 4 = .ok (.iconst 1, 1) := by decide +kernel
theorem dX6_isPlainLetter_5 : decode cX6_isPlainLetter 5 = .ok (.if_icmp .ne 48, 3) := by decide +kernel
theorem dX6_isPlainLetter_8 : decode cX6_isPlainLetter 8 = .ok (.aload_n 0, 1) := by decide +kernel
theorem dX6_isPlainLetter_9 : decode cX6_isPlainLetter 9 = .ok (.getfield 22, 3) := by decide +kernel
theorem dX6_isPlainLetter_12 : decode cX6_isPlainLetter 12 = .ok (.aload_n 0, 1) := by decide +kernel
theorem dX6_isPlainLetter_13 : decode cX6_isPlainLetter 13 = .ok (.getfield 39, 3) := by decide +kernel
theorem dX6_isPlainLetter_16 : decode cX6_isPlainLetter 16 = .ok (.isub, 1) := by decide +kernel
theorem dX6_isPlainLetter_17 : decode cX6_isPlainLetter 17 = .ok (.iconst 1, 1) := by decide +kernel
theorem dX6_isPlainLetter_18 : decode cX6_isPlainLetter 18 = .ok (.if_icmp .ne 35, 3) := by decide +kernel
theorem dX6_isPlainLetter_21 : decode cX6_isPlainLetter 21 = .ok (.aload_n 0, 1) := by decide +kernel
theorem dX6_isPlainLetter_22 : decode cX6_isPlainLetter 22 = .ok (.getfield 9, 3) := by decide +kernel
theorem dX6_isPlainLetter_25 : decode cX6_isPlainLetter 25 = .ok (.aload_n 0, 1) := by decide +kernel
theorem dX6_isPlainLetter_26 : decode cX6_isPlainLetter 26 = .ok (.getfield 39, 3) := by decide +kernel
theorem dX6_isPlainLetter_29 : decode cX6_isPlainLetter 29 = .ok (.caload, 1) := by decide +kernel
theorem dX6_isPlainLetter_30 : decode cX6_isPlainLetter 30 = .ok (.bipush 117, 2) := by decide +kernel
theorem dX6_isPlainLetter_32 : decode cX6_isPlainLetter 32 = .ok (.if_icmp .lt 21, 3) := by decide +kernel
theorem dX6_isPlainLetter_35 : decode cX6_isPlainLetter 35 = .ok (.aload_n 0, 1) := by decide +kernel
theorem dX6_isPlainLetter_36 : decode cX6_isPlainLetter 36 = .ok (.getfield 9, 3) := by decide +kernel
theorem dX6_isPlainLetter_39 : decode cX6_isPlainLetter 39 = .ok (.aload_n 0, 1) := by decide +kernel
theorem dX6_isPlainLetter_40 : decode cX6_isPlainLetter 40 = .ok (.getfield 39, 3) := by decide +kernel
theorem dX6_isPlainLetter_43 : decode cX6_isPlainLetter 43 = .ok (.caload, 1) := by decide +kernel
theorem dX6_isPlainLetter_44 : decode cX6_isPlainLetter 44 = .ok (.bipush 120, 2) := by decide +kernel
theorem dX6_isPlainLetter_46 : decode cX6_isPlainLetter 46 = .ok (.if_icmp .gt 7, 3) := by decide +kernel
theorem dX6_isPlainLetter_49 : decode cX6_isPlainLetter 49 = .ok (.iconst 1, 1) := by decide +kernel
theorem dX6_isPlainLetter_50 : decode cX6_isPlainLetter 50 = .ok (.goto 4, 3) := by decide +kernel
theorem dX6_isPlainLetter_53 : decode cX6_isPlainLetter 53 = .ok (.iconst 0, 1) := by decide +kernel
theorem dX6_isPlainLetter_54 : decode cX6_isPlainLetter 54 = .ok (.ireturn, 1) := by decide +kernel
set_option maxHeartbeats 4000000 in
set_option maxRecDepth 100000 in
theorem c_X6_isPlainLetter {l : Launch} {D : va_G} {aC : Nat → ClassId} {a_t : Nat → Nat} (s_t : Ob_T) {out : Int32} (h : f_X6_isPlainLetter s_t = some out) : M_R l yX6_isPlainLetter wlX6_isPlainLetter 0 0 D aC [.ref (a_t 0)] (wd_X6 aC a_t s_t) (some (.int out)) := by
  refine k_entR (cc := cX6_isPlainLetter) (ret := (some .boolean)) (maxL := 1) (own := RX6) (by decide) rfl rfl rfl ?_
  intro p e s m below meth c A ls hX hr hZ hl
  have hl : lv_has ls 1 [(0, .ref (a_t 0))] := hl
  generalize ([.ref (a_t 0)] : List Value).toArray = args at hX ⊢
  obtain ⟨hx, hb, hml, hown, hts, hK, hA, hlk⟩ := id hX
  unfold f_X6_isPlainLetter at h
  have hF : ∀ q ∈ ([] : List Loc), False := fun _ h => nomatch h
  generalize ([] : List Loc) = locs at hF ⊢
  refine lv_aload_n hx hb dX6_isPlainLetter_0 rfl (lv_at hl 0 rfl) ?_
  refine k_get hX hZ.1 0 6 rfl rfl iw_X6 3 rfl (wm_561) (v := .int (o_F s_t 3)) rfl dX6_isPlainLetter_1 ?_
  refine lv_iconst (v := 1) hx hb dX6_isPlainLetter_4 (by decide) ?_
  refine lv_icmp_ne (tgt := 53) hx hb dX6_isPlainLetter_5 (by decide) (fun cd => ?_) (fun cd => ?_)
  · replace h := k_f cd h
    clear cd
    refine lv_iconst (v := 0) hx hb dX6_isPlainLetter_53 (by decide) ?_
    cases h
    exact k_zretR (v := (0 : Int32)) hX hr rfl hF dX6_isPlainLetter_54
  · replace h := k_t cd h
    clear cd
    refine lv_aload_n hx hb dX6_isPlainLetter_8 rfl (lv_at hl 0 rfl) ?_
    refine k_get hX hZ.1 0 6 rfl rfl iw_X6 5 rfl (wm_560) (v := .int (o_F s_t 5)) rfl dX6_isPlainLetter_9 ?_
    refine lv_aload_n hx hb dX6_isPlainLetter_12 rfl (lv_at hl 0 rfl) ?_
    refine k_get hX hZ.1 0 6 rfl rfl iw_X6 4 rfl (wm_559) (v := .int (o_F s_t 4)) rfl dX6_isPlainLetter_13 ?_
    refine lv_isub hx hb dX6_isPlainLetter_16 ?_
    refine lv_iconst (v := 1) hx hb dX6_isPlainLetter_17 (by decide) ?_
    refine lv_icmp_ne (tgt := 53) hx hb dX6_isPlainLetter_18 (by decide) (fun cd => ?_) (fun cd => ?_)
    · replace h := k_f cd h
      clear cd
      refine lv_iconst (v := 0) hx hb dX6_isPlainLetter_53 (by decide) ?_
      cases h
      exact k_zretR (v := (0 : Int32)) hX hr rfl hF dX6_isPlainLetter_54
    · replace h := k_t cd h
      clear cd
      refine lv_aload_n hx hb dX6_isPlainLetter_21 rfl (lv_at hl 0 rfl) ?_
      refine k_get hX hZ.1 0 6 rfl rfl iw_X6 0 rfl (wm_557) (v := .ref (a_t 1)) rfl dX6_isPlainLetter_22 ?_
      refine lv_aload_n hx hb dX6_isPlainLetter_25 rfl (lv_at hl 0 rfl) ?_
      refine k_get hX hZ.1 0 6 rfl rfl iw_X6 4 rfl (wm_559) (v := .int (o_F s_t 4)) rfl dX6_isPlainLetter_26 ?_
      refine k_cald hX hZ.1 1 rfl h dX6_isPlainLetter_29 (fun v1 h => ?_)
      refine lv_bipush (v := 117) hx hb dX6_isPlainLetter_30 (by decide) ?_
      refine lv_icmp_lt (tgt := 53) hx hb dX6_isPlainLetter_32 (by decide) (fun cd => ?_) (fun cd => ?_)
      · replace h := k_t cd h
        clear cd
        refine lv_iconst (v := 0) hx hb dX6_isPlainLetter_53 (by decide) ?_
        cases h
        exact k_zretR (v := (0 : Int32)) hX hr rfl hF dX6_isPlainLetter_54
      · replace h := k_f cd h
        clear cd
        refine lv_aload_n hx hb dX6_isPlainLetter_35 rfl (lv_at hl 0 rfl) ?_
        refine k_get hX hZ.1 0 6 rfl rfl iw_X6 0 rfl (wm_557) (v := .ref (a_t 1)) rfl dX6_isPlainLetter_36 ?_
        refine lv_aload_n hx hb dX6_isPlainLetter_39 rfl (lv_at hl 0 rfl) ?_
        refine k_get hX hZ.1 0 6 rfl rfl iw_X6 4 rfl (wm_559) (v := .int (o_F s_t 4)) rfl dX6_isPlainLetter_40 ?_
        refine k_cald hX hZ.1 1 rfl h dX6_isPlainLetter_43 (fun v2 h => ?_)
        refine lv_bipush (v := 120) hx hb dX6_isPlainLetter_44 (by decide) ?_
        refine lv_icmp_gt (tgt := 53) hx hb dX6_isPlainLetter_46 (by decide) (fun cd => ?_) (fun cd => ?_)
        · replace h := k_t cd h
          clear cd
          refine lv_iconst (v := 0) hx hb dX6_isPlainLetter_53 (by decide) ?_
          cases h
          exact k_zretR (v := (0 : Int32)) hX hr rfl hF dX6_isPlainLetter_54
        · replace h := k_f cd h
          clear cd
          refine lv_iconst (v := 1) hx hb dX6_isPlainLetter_49 (by decide) ?_
          refine lv_goto (tgt := 54) hx hb dX6_isPlainLetter_50 (by decide) ?_
          cases h
          exact k_zretR (v := (1 : Int32)) hX hr rfl hF dX6_isPlainLetter_54
def wlX6_readExtents : List Cond := .code yX6_readExtents cX6_readExtents 3 none :: WL_
theorem hd_X6_readExtents : yX6_readExtents.cls = RX6 ∧ yX6_readExtents.cls ≠ "java/lang/invoke/MethodHandle" ∧ yX6_readExtents.cls ≠ "java/lang/invoke/VarHandle" ∧ (parseMethodDescriptor yX6_readExtents.desc).map (fun d => d.parameters.length) = some 1 := by decide +kernel
theorem dX6_readExtents_0 : decode cX6_readExtents 0 = .ok (.iconst 0, 1) := by decide +kernel
theorem dX6_readExtents_1 : decode cX6_readExtents 1 = .ok (.istore_n 2, 1) := by decide +kernel
theorem dX6_readExtents_2 : decode cX6_readExtents 2 = .ok (.iload_n 2, 1) := by decide +kernel
theorem dX6_readExtents_3 : decode cX6_readExtents 3 = .ok (.iconst 3, 1) := by decide +kernel
theorem dX6_readExtents_4 : decode cX6_readExtents 4 = .ok (.if_icmp .ge 65, 3) := by decide +kernel
theorem dX6_readExtents_7 : decode cX6_readExtents 7 = .ok (.aload_n 0, 1) := by decide +kernel
theorem dX6_readExtents_8 : decode cX6_readExtents 8 = .ok (.iconst 0, 1) := by decide +kernel
theorem dX6_readExtents_9 : decode cX6_readExtents 9 = .ok (.bipush 9, 2) := by decide +kernel
theorem dX6_readExtents_11 : decode cX6_readExtents 11 = .ok (.invokevirtual 79, 3) := by decide +kernel
theorem dX6_readExtents_14 : decode cX6_readExtents 14 = .ok (.ifCond .eq 14, 3) := by decide +kernel
theorem dX6_readExtents_17 : decode cX6_readExtents 17 = .ok (.aload_n 1, 1) := by decide +kernel
theorem dX6_readExtents_18 : decode cX6_readExtents 18 = .ok (.aload_n 0, 1) := by decide +kernel
theorem dX6_readExtents_19 : decode cX6_readExtents 19 = .ok (.invokevirtual 82, 3) := by decide +kernel
theorem dX6_readExtents_22 : decode cX6_readExtents 22 = .ok (.invokevirtual 89, 3) := by decide +kernel
theorem dX6_readExtents_25 : decode cX6_readExtents 25 = .ok (.goto 34, 3) := by decide +kernel
theorem dX6_readExtents_28 : decode cX6_readExtents 28 = .ok (.aload_n 0, 1) := by decide +kernel
theorem dX6_readExtents_29 : decode cX6_readExtents 29 = .ok (.invokevirtual 93, 3) := by decide +kernel
theorem dX6_readExtents_32 : decode cX6_readExtents 32 = .ok (.ifCond .eq 26, 3) := by decide +kernel
theorem dX6_readExtents_35 : decode cX6_readExtents 35 = .ok (.aload_n 1, 1) := by decide +kernel
theorem dX6_readExtents_36 : decode cX6_readExtents 36 = .ok (.sipush 20000, 3) := by decide +kernel
theorem dX6_readExtents_39 : decode cX6_readExtents 39 = .ok (.aload_n 0, 1) := by decide +kernel
theorem dX6_readExtents_40 : decode cX6_readExtents 40 = .ok (.getfield 9, 3) := by decide +kernel
theorem dX6_readExtents_43 : decode cX6_readExtents 43 = .ok (.aload_n 0, 1) := by decide +kernel
theorem dX6_readExtents_44 : decode cX6_readExtents 44 = .ok (.getfield 39, 3) := by decide +kernel
theorem dX6_readExtents_47 : decode cX6_readExtents 47 = .ok (.caload, 1) := by decide +kernel
theorem dX6_readExtents_48 : decode cX6_readExtents 48 = .ok (.iadd, 1) := by decide +kernel
theorem dX6_readExtents_49 : decode cX6_readExtents 49 = .ok (.bipush 117, 2) := by decide +kernel
theorem dX6_readExtents_51 : decode cX6_readExtents 51 = .ok (.isub, 1) := by decide +kernel
theorem dX6_readExtents_52 : decode cX6_readExtents 52 = .ok (.invokevirtual 89, 3) := by decide +kernel
theorem dX6_readExtents_55 : decode cX6_readExtents 55 = .ok (.goto 4, 3) := by decide +kernel
theorem dX6_readExtents_58 : decode cX6_readExtents 58 = .ok (.return_, 1) := by decide +kernel
theorem dX6_readExtents_59 : decode cX6_readExtents 59 = .ok (.aload_n 0, 1) := by decide +kernel
theorem dX6_readExtents_60 : decode cX6_readExtents 60 = .ok (.invokevirtual 25, 3) := by decide +kernel
theorem dX6_readExtents_63 : decode cX6_readExtents 63 = .ok (.iinc 2 1, 3) := by decide +kernel
theorem dX6_readExtents_66 : decode cX6_readExtents 66 = .ok (.goto (-64), 3) := by decide +kernel
theorem dX6_readExtents_69 : decode cX6_readExtents 69 = .ok (.return_, 1) := by decide +kernel
set_option maxHeartbeats 4000000 in
set_option maxRecDepth 100000 in
theorem t_X6_readExtents_J59 {p : Program} {l : Launch} {e : Env} {s : State} {m : MethodId} {args : Array Value} {below : List Frame} {meth : Method} {c : Code} {D : va_G} {aC : Nat → ClassId} {A : Nat → Prop} {a_t a_n : Nat → Nat} {out : Ob_T × Ob_T} {rec2 : (Int32 × Ob_T × Ob_T) → Option (Ob_T × Ob_T)} (hX : K_X p s m args meth c cX6_readExtents 3 WL_ RX6 D aC A) (hr : meth.sig.returnType = none) (hrec2 : ∀ x : Int32 × Ob_T × Ob_T, rec2 x = some out → ∀ (H : Heap) (locs : List Loc) (ls : Array Slot), K_S D A s (wd_X6 aC a_t x.2.1 ++ wd_X1 aC a_n x.2.2) H locs → lv_has ls 3 [(0, .ref (a_t 0)), (1, .ref (a_n 0)), (2, .int x.1)] → W p l e (R_m 2 45) s m args below meth c H locs 0 0 (MQ below (Q_W (none) D A (wd_X6 aC a_t out.1 ++ wd_X1 aC a_n out.2)) args s 0 0 A) (F0 m 2 ls [])) (x2 : Int32) (s_t : Ob_T) (s_n : Ob_T) (h : f_X6_readExtents_J59 rec2 x2 s_t s_n = some out) (H : Heap) (locs : List Loc) (ls : Array Slot) (hZ : K_S D A s (wd_X6 aC a_t s_t ++ wd_X1 aC a_n s_n) H locs) (hl : lv_has ls 3 [(0, .ref (a_t 0)), (1, .ref (a_n 0)), (2, .int x2)]) : W p l e (R_m 2 45) s m args below meth c H locs 0 0 (MQ below (Q_W (none) D A (wd_X6 aC a_t out.1 ++ wd_X1 aC a_n out.2)) args s 0 0 A) (F0 m 59 ls []) := by
  obtain ⟨hx, hb, hml, hown, hts, hK, hA, hlk⟩ := id hX
  unfold f_X6_readExtents_J59 at h
  refine lv_aload_n hx hb dX6_readExtents_59 rfl (lv_at hl 0 rfl) ?_
  obtain ⟨u5, hu, h⟩ := k_bd h
  refine k_vW (As := []) (rest := []) (wc := wd_X6 aC a_t s_t) (v := none) (st1 := []) (w' := wd_X6 aC a_t u5 ++ wd_X1 aC a_n s_n) hX hl.1 hZ (c_X6_step (a_t := a_t) s_t hu) (gv_ wm_570 wm_572 wm_573 wm_563 wm_571) rfl hd_X6_step ⟨rfl, rfl⟩ 6 0 rfl rfl [0, 1] rfl rfl rfl rfl rfl dX6_readExtents_60 rfl ⟨rfl, rfl⟩ rfl rfl rfl (fun H locs hZ => ?_)
  clear hu
  refine lv_iinc (v := (x2 + (1 : Int32))) (lv' := [(2, .int (x2 + (1 : Int32))), (0, .ref (a_t 0)), (1, .ref (a_n 0))]) hx hb dX6_readExtents_63 hl (k := 2) rfl rfl (by decide) rfl (fun ls hl => ?_)
  refine lv_goto (tgt := 2) hx hb dX6_readExtents_66 (by decide) ?_
  exact hrec2 ((x2 + (1 : Int32)), u5, s_n) h H locs ls hZ (lv_sub hl [1, 2, 0] rfl)
set_option maxHeartbeats 4000000 in
set_option maxRecDepth 100000 in
theorem t_X6_readExtents_L2 {p : Program} {l : Launch} {e : Env} {s : State} {m : MethodId} {args : Array Value} {below : List Frame} {meth : Method} {c : Code} {D : va_G} {aC : Nat → ClassId} {A : Nat → Prop} {a_t a_n : Nat → Nat} {out : Ob_T × Ob_T} {rec2 : (Int32 × Ob_T × Ob_T) → Option (Ob_T × Ob_T)} (hX : K_X p s m args meth c cX6_readExtents 3 WL_ RX6 D aC A) (hr : meth.sig.returnType = none) (hrec2 : ∀ x : Int32 × Ob_T × Ob_T, rec2 x = some out → ∀ (H : Heap) (locs : List Loc) (ls : Array Slot), K_S D A s (wd_X6 aC a_t x.2.1 ++ wd_X1 aC a_n x.2.2) H locs → lv_has ls 3 [(0, .ref (a_t 0)), (1, .ref (a_n 0)), (2, .int x.1)] → W p l e (R_m 2 45) s m args below meth c H locs 0 0 (MQ below (Q_W (none) D A (wd_X6 aC a_t out.1 ++ wd_X1 aC a_n out.2)) args s 0 0 A) (F0 m 2 ls [])) (x2 : Int32) (s_t : Ob_T) (s_n : Ob_T) (h : f_X6_readExtents_L2 rec2 x2 s_t s_n = some out) (H : Heap) (locs : List Loc) (ls : Array Slot) (hZ : K_S D A s (wd_X6 aC a_t s_t ++ wd_X1 aC a_n s_n) H locs) (hl : lv_has ls 3 [(0, .ref (a_t 0)), (1, .ref (a_n 0)), (2, .int x2)]) : W p l e (R_m 2 45) s m args below meth c H locs 0 0 (MQ below (Q_W (none) D A (wd_X6 aC a_t out.1 ++ wd_X1 aC a_n out.2)) args s 0 0 A) (F0 m 2 ls []) := by
  obtain ⟨hx, hb, hml, hown, hts, hK, hA, hlk⟩ := id hX
  unfold f_X6_readExtents_L2 at h
  refine lv_iload_n hx hb dX6_readExtents_2 rfl (lv_at hl 2 rfl) ?_
  refine lv_iconst (v := 3) hx hb dX6_readExtents_3 (by decide) ?_
  refine lv_icmp_ge (tgt := 69) hx hb dX6_readExtents_4 (by decide) (fun cd => ?_) (fun cd => ?_)
  · replace h := k_t cd h
    clear cd
    cases h
    exact k_vretW hX hr hZ dX6_readExtents_69
  · replace h := k_f cd h
    clear cd
    refine lv_aload_n hx hb dX6_readExtents_7 rfl (lv_at hl 0 rfl) ?_
    refine lv_iconst (v := 0) hx hb dX6_readExtents_8 (by decide) ?_
    refine lv_bipush (v := 9) hx hb dX6_readExtents_9 (by decide) ?_
    obtain ⟨u1, hu, h⟩ := k_bd h
    refine k_vR (As := [.int (0 : Int32), .int (9 : Int32)]) (rest := []) (wc := wd_X6 aC a_t s_t) (v := some (.int u1)) (st1 := [.int u1]) hX hl.1 hZ (c_X6_isNumber (a_t := a_t) s_t (0 : Int32) (9 : Int32) hu) (gv_ wm_575 wm_577 wm_578 wm_563 wm_576) rfl hd_X6_isNumber ⟨rfl, rfl⟩ 6 0 rfl rfl [0, 1] rfl rfl rfl rfl rfl dX6_readExtents_11 rfl ⟨rfl, rfl⟩ (fun locs hZ => ?_)
    clear hu
    refine lv_if_eq (tgt := 28) hx hb dX6_readExtents_14 (by decide) (fun cd => ?_) (fun cd => ?_)
    · replace h := k_t cd h
      clear cd
      refine lv_aload_n hx hb dX6_readExtents_28 rfl (lv_at hl 0 rfl) ?_
      obtain ⟨u2, hu, h⟩ := k_bd h
      refine k_vR (As := []) (rest := []) (wc := wd_X6 aC a_t s_t) (v := some (.int u2)) (st1 := [.int u2]) hX hl.1 hZ (c_X6_isPlainLetter (a_t := a_t) s_t hu) (gv_ wm_593 wm_595 wm_596 wm_563 wm_594) rfl hd_X6_isPlainLetter ⟨rfl, rfl⟩ 6 0 rfl rfl [0, 1] rfl rfl rfl rfl rfl dX6_readExtents_29 rfl ⟨rfl, rfl⟩ (fun locs hZ => ?_)
      clear hu
      refine lv_if_eq (tgt := 58) hx hb dX6_readExtents_32 (by decide) (fun cd => ?_) (fun cd => ?_)
      · replace h := k_t cd h
        clear cd
        cases h
        exact k_vretW hX hr hZ dX6_readExtents_58
      · replace h := k_f cd h
        clear cd
        refine lv_aload_n hx hb dX6_readExtents_35 rfl (lv_at hl 1 rfl) ?_
        refine lv_sipush (v := 20000) hx hb dX6_readExtents_36 (by decide) ?_
        refine lv_aload_n hx hb dX6_readExtents_39 rfl (lv_at hl 0 rfl) ?_
        refine k_get hX hZ.1 0 6 rfl rfl iw_X6 0 rfl (wm_557) (v := .ref (a_t 1)) rfl dX6_readExtents_40 ?_
        refine lv_aload_n hx hb dX6_readExtents_43 rfl (lv_at hl 0 rfl) ?_
        refine k_get hX hZ.1 0 6 rfl rfl iw_X6 4 rfl (wm_559) (v := .int (o_F s_t 4)) rfl dX6_readExtents_44 ?_
        refine k_cald hX hZ.1 1 rfl h dX6_readExtents_47 (fun v3 h => ?_)
        refine lv_iadd hx hb dX6_readExtents_48 ?_
        refine lv_bipush (v := 117) hx hb dX6_readExtents_49 (by decide) ?_
        refine lv_isub hx hb dX6_readExtents_51 ?_
        obtain ⟨u4, hu, h⟩ := k_bd h
        refine k_vW (As := [.int (((20000 : Int32) + v3) - (117 : Int32))]) (rest := []) (wc := wd_X1 aC a_n s_n) (v := none) (st1 := []) (w' := wd_X6 aC a_t s_t ++ wd_X1 aC a_n u4) hX hl.1 hZ (c_X1_tell (a_n := a_n) s_n (((20000 : Int32) + v3) - (117 : Int32)) hu) (gv_ wm_589 wm_591 wm_592 wm_321 wm_590) rfl hd_X1_tell ⟨rfl, rfl⟩ 1 0 rfl rfl [2, 3, 4, 5, 6, 7, 8] rfl rfl rfl rfl rfl dX6_readExtents_52 rfl ⟨rfl, rfl⟩ rfl rfl rfl (fun H locs hZ => ?_)
        clear hu
        refine lv_goto (tgt := 59) hx hb dX6_readExtents_55 (by decide) ?_
        exact t_X6_readExtents_J59 hX hr hrec2 x2 s_t u4 h H locs ls hZ (lv_sub hl [0, 1, 2] rfl)
    · replace h := k_f cd h
      clear cd
      refine lv_aload_n hx hb dX6_readExtents_17 rfl (lv_at hl 1 rfl) ?_
      refine lv_aload_n hx hb dX6_readExtents_18 rfl (lv_at hl 0 rfl) ?_
      obtain ⟨u6, hu, h⟩ := k_bd h
      refine k_vR (As := []) (rest := [.ref (a_n 0)]) (wc := wd_X6 aC a_t s_t) (v := some (.int u6)) (st1 := [.int u6, .ref (a_n 0)]) hX hl.1 hZ (c_X6_numberHere (a_t := a_t) s_t hu) (gv_ wm_562 wm_565 wm_566 wm_563 wm_564) rfl hd_X6_numberHere ⟨rfl, rfl⟩ 6 0 rfl rfl [0, 1] rfl rfl rfl rfl rfl dX6_readExtents_19 rfl ⟨rfl, rfl⟩ (fun locs hZ => ?_)
      clear hu
      obtain ⟨u7, hu, h⟩ := k_bd h
      refine k_vW (As := [.int u6]) (rest := []) (wc := wd_X1 aC a_n s_n) (v := none) (st1 := []) (w' := wd_X6 aC a_t s_t ++ wd_X1 aC a_n u7) hX hl.1 hZ (c_X1_tell (a_n := a_n) s_n u6 hu) (gv_ wm_589 wm_591 wm_592 wm_321 wm_590) rfl hd_X1_tell ⟨rfl, rfl⟩ 1 0 rfl rfl [2, 3, 4, 5, 6, 7, 8] rfl rfl rfl rfl rfl dX6_readExtents_22 rfl ⟨rfl, rfl⟩ rfl rfl rfl (fun H locs hZ => ?_)
      clear hu
      refine lv_goto (tgt := 59) hx hb dX6_readExtents_25 (by decide) ?_
      exact t_X6_readExtents_J59 hX hr hrec2 x2 s_t u7 h H locs ls hZ (lv_sub hl [0, 1, 2] rfl)
set_option maxHeartbeats 4000000 in
set_option maxRecDepth 100000 in
theorem c_X6_readExtents {l : Launch} {D : va_G} {aC : Nat → ClassId} {a_t : Nat → Nat} {a_n : Nat → Nat} (s_t : Ob_T) (s_n : Ob_T) {out : Ob_T × Ob_T} (h : f_X6_readExtents s_t s_n = some out) : M_W l yX6_readExtents wlX6_readExtents 2 45 D aC [.ref (a_t 0), .ref (a_n 0)] (wd_X6 aC a_t s_t ++ wd_X1 aC a_n s_n) (none) (wd_X6 aC a_t out.1 ++ wd_X1 aC a_n out.2) := by
  refine k_entW (cc := cX6_readExtents) (ret := none) (maxL := 3) (own := RX6) (by decide) rfl rfl rfl ?_
  intro p e s m below meth c A ls hX hr hZ hl
  have hl : lv_has ls 3 [(0, .ref (a_t 0)), (1, .ref (a_n 0))] := hl
  generalize ([.ref (a_t 0), .ref (a_n 0)] : List Value).toArray = args at hX ⊢
  obtain ⟨hx, hb, hml, hown, hts, hK, hA, hlk⟩ := id hX
  unfold f_X6_readExtents at h
  generalize s.heap = H at hZ ⊢
  generalize ([] : List Loc) = locs at hZ ⊢
  refine lv_iconst (v := 0) hx hb dX6_readExtents_0 (by decide) ?_
  refine lv_istore_n (lv' := [(2, .int (0 : Int32)), (0, .ref (a_t 0)), (1, .ref (a_n 0))]) hx hb dX6_readExtents_1 rfl hl (by decide) rfl (fun ls hl => ?_)
  exact Lp_ok (body := (fun (rec : (Int32 × Ob_T × Ob_T) → Option (Ob_T × Ob_T)) x => f_X6_readExtents_L2 rec x.1 x.2.1 x.2.2)) (out := out) (fun x => ∀ (H : Heap) (locs : List Loc) (ls : Array Slot), K_S D A s (wd_X6 aC a_t x.2.1 ++ wd_X1 aC a_n x.2.2) H locs → lv_has ls 3 [(0, .ref (a_t 0)), (1, .ref (a_n 0)), (2, .int x.1)] → W p l e (R_m 2 45) s m args below meth c H locs 0 0 (MQ below (Q_W (none) D A (wd_X6 aC a_t out.1 ++ wd_X1 aC a_n out.2)) args s 0 0 A) (F0 m 2 ls [])) (fun rec hrec x h H locs ls hZ hl => t_X6_readExtents_L2 hX hr hrec x.1 x.2.1 x.2.2 h H locs ls hZ hl) FU_ ((0 : Int32), s_t, s_n) h H locs ls hZ (lv_sub hl [1, 2, 0] rfl)
def wlX7_howMany : List Cond := .code yX7_howMany cX7_howMany 1 (some .int) :: WL_
theorem hd_X7_howMany : yX7_howMany.cls = RX7 ∧ yX7_howMany.cls ≠ "java/lang/invoke/MethodHandle" ∧ yX7_howMany.cls ≠ "java/lang/invoke/VarHandle" ∧ (parseMethodDescriptor yX7_howMany.desc).map (fun d => d.parameters.length) = some 0 := by decide +kernel
theorem dX7_howMany_0 : decode cX7_howMany 0 = .ok (.aload_n 0, 1) := by decide +kernel
theorem dX7_howMany_1 : decode cX7_howMany 1 = .ok (.getfield 22, 3) := by decide +kernel
theorem dX7_howMany_4 : decode cX7_howMany 4 = .ok (.ireturn, 1) := by decide +kernel
set_option maxHeartbeats 4000000 in
set_option maxRecDepth 100000 in
theorem c_X7_howMany {l : Launch} {D : va_G} {aC : Nat → ClassId} {a_w : Nat → Nat} {a_v : Nat → Nat} (s_w : Ob_T) {out : Int32} (h : f_X7_howMany s_w = some out) : M_R l yX7_howMany wlX7_howMany 0 0 D aC [.ref (a_w 0)] (wd_X7 aC a_w (a_v 0) s_w) (some (.int out)) := by
  refine k_entR (cc := cX7_howMany) (ret := (some .int)) (maxL := 1) (own := RX7) (by decide) rfl rfl rfl ?_
  intro p e s m below meth c A ls hX hr hZ hl
  have hl : lv_has ls 1 [(0, .ref (a_w 0))] := hl
  generalize ([.ref (a_w 0)] : List Value).toArray = args at hX ⊢
  obtain ⟨hx, hb, hml, hown, hts, hK, hA, hlk⟩ := id hX
  unfold f_X7_howMany at h
  have hF : ∀ q ∈ ([] : List Loc), False := fun _ h => nomatch h
  generalize ([] : List Loc) = locs at hF ⊢
  refine lv_aload_n hx hb dX7_howMany_0 rfl (lv_at hl 0 rfl) ?_
  refine k_get hX hZ.1 0 7 rfl rfl iw_X7 5 rfl (wm_597) (v := .int (o_F s_w 5)) rfl dX7_howMany_1 ?_
  cases h
  exact k_iretR hX hr hF dX7_howMany_4
