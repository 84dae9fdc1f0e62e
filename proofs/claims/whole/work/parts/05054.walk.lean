def wlX9_givenOnes : List Cond := .code yX9_givenOnes cX9_givenOnes 3 (some .int) :: WL_
theorem hd_X9_givenOnes : yX9_givenOnes.cls = RX9 ∧ yX9_givenOnes.cls ≠ "java/lang/invoke/MethodHandle" ∧ yX9_givenOnes.cls ≠ "java/lang/invoke/VarHandle" ∧ (parseMethodDescriptor yX9_givenOnes.desc).map (fun d => d.parameters.length) = some 0 := by decide +kernel
theorem dX9_givenOnes_0 : decode cX9_givenOnes 0 = .ok (.iconst 0, 1) := by decide +kernel
theorem dX9_givenOnes_1 : decode cX9_givenOnes 1 = .ok (.istore_n 1, 1) := by decide +kernel
theorem dX9_givenOnes_2 : decode cX9_givenOnes 2 = .ok (.iconst 0, 1) := by decide +kernel
theorem dX9_givenOnes_3 : decode cX9_givenOnes 3 = .ok (.istore_n 2, 1) := by decide +kernel
theorem dX9_givenOnes_4 : decode cX9_givenOnes 4 = .ok (.iload_n 2, 1) := by decide +kernel
theorem dX9_givenOnes_5 : decode cX9_givenOnes 5 = .ok (.iconst 4, 1) := by decide +kernel
theorem dX9_givenOnes_6 : decode cX9_givenOnes 6 = .ok (.if_icmp .ge 28, 3) := by decide +kernel
theorem dX9_givenOnes_9 : decode cX9_givenOnes 9 = .ok (.iload_n 1, 1) := by decide +kernel
theorem dX9_givenOnes_10 : decode cX9_givenOnes 10 = .ok (.aload_n 0, 1) := by decide +kernel
theorem dX9_givenOnes_11 : decode cX9_givenOnes 11 = .ok (.getfield 16, 3) := by decide +kernel
theorem dX9_givenOnes_14 : decode cX9_givenOnes 14 = .ok (.iload_n 2, 1) := by decide +kernel
theorem dX9_givenOnes_15 : decode cX9_givenOnes 15 = .ok (.iaload, 1) := by decide +kernel
theorem dX9_givenOnes_16 : decode cX9_givenOnes 16 = .ok (.ifCond .ge 7, 3) := by decide +kernel
theorem dX9_givenOnes_19 : decode cX9_givenOnes 19 = .ok (.iconst 0, 1) := by decide +kernel
theorem dX9_givenOnes_20 : decode cX9_givenOnes 20 = .ok (.goto 6, 3) := by decide +kernel
theorem dX9_givenOnes_23 : decode cX9_givenOnes 23 = .ok (.iconst 1, 1) := by decide +kernel
theorem dX9_givenOnes_24 : decode cX9_givenOnes 24 = .ok (.iload_n 2, 1) := by decide +kernel
theorem dX9_givenOnes_25 : decode cX9_givenOnes 25 = .ok (.ishl, 1) := by decide +kernel
theorem dX9_givenOnes_26 : decode cX9_givenOnes 26 = .ok (.ior, 1) := by decide +kernel
theorem dX9_givenOnes_27 : decode cX9_givenOnes 27 = .ok (.istore_n 1, 1) := by decide +kernel
theorem dX9_givenOnes_28 : decode cX9_givenOnes 28 = .ok (.iinc 2 1, 3) := by decide +kernel
theorem dX9_givenOnes_31 : decode cX9_givenOnes 31 = .ok (.goto (-27), 3) := by decide +kernel
theorem dX9_givenOnes_34 : decode cX9_givenOnes 34 = .ok (.iload_n 1, 1) := by decide +kernel
theorem dX9_givenOnes_35 : decode cX9_givenOnes 35 = .ok (.ireturn, 1) := by decide +kernel
set_option maxHeartbeats 4000000 in
set_option maxRecDepth 100000 in
theorem t_X9_givenOnes_L4 {p : Program} {l : Launch} {e : Env} {s : State} {m : MethodId} {args : Array Value} {below : List Frame} {meth : Method} {c : Code} {D : va_G} {aC : Nat → ClassId} {A : Nat → Prop} {a_o : Nat → Nat} {out : Int32} {s_o : Ob_T} {rec4 : (Int32 × Int32) → Option Int32} (hX : K_X p s m args meth c cX9_givenOnes 3 WL_ RX9 D aC A) (hr : meth.sig.returnType = (some .int)) (hZ : va_P D vwCl (wd_X9 aC a_o s_o) s.heap ∧ va_D (fun _ => True) (wd_X9 aC a_o s_o)) (hrec4 : ∀ x : Int32 × Int32, rec4 x = some out → ∀ (locs : List Loc) (ls : Array Slot), (∀ q ∈ locs, False) → lv_has ls 3 [(0, .ref (a_o 0)), (1, .int x.1), (2, .int x.2)] → W p l e (R_m 0 0) s m args below meth c s.heap locs 0 0 (MQ below (Q_R (some (.int out))) args s 0 0 (fun _ => False)) (F0 m 4 ls [])) (x1 : Int32) (x2 : Int32) (h : f_X9_givenOnes_L4 rec4 x1 x2 s_o = some out) (locs : List Loc) (ls : Array Slot) (hF : ∀ q ∈ locs, False) (hl : lv_has ls 3 [(0, .ref (a_o 0)), (1, .int x1), (2, .int x2)]) : W p l e (R_m 0 0) s m args below meth c s.heap locs 0 0 (MQ below (Q_R (some (.int out))) args s 0 0 (fun _ => False)) (F0 m 4 ls []) := by
  obtain ⟨hx, hb, hml, hown, hts, hK, hA, hlk⟩ := id hX
  unfold f_X9_givenOnes_L4 at h
  refine lv_iload_n hx hb dX9_givenOnes_4 rfl (lv_at hl 2 rfl) ?_
  refine lv_iconst (v := 4) hx hb dX9_givenOnes_5 (by decide) ?_
  refine lv_icmp_ge (tgt := 34) hx hb dX9_givenOnes_6 (by decide) (fun cd => ?_) (fun cd => ?_)
  · replace h := k_t cd h
    clear cd
    refine lv_iload_n hx hb dX9_givenOnes_34 rfl (lv_at hl 1 rfl) ?_
    cases h
    exact k_iretR hX hr hF dX9_givenOnes_35
  · replace h := k_f cd h
    clear cd
    refine lv_iload_n hx hb dX9_givenOnes_9 rfl (lv_at hl 1 rfl) ?_
    refine lv_aload_n hx hb dX9_givenOnes_10 rfl (lv_at hl 0 rfl) ?_
    refine k_get hX hZ.1 0 9 rfl rfl iw_X9 4 rfl (wm_118) (v := .ref (a_o 3)) rfl dX9_givenOnes_11 ?_
    refine lv_iload_n hx hb dX9_givenOnes_14 rfl (lv_at hl 2 rfl) ?_
    refine k_iald hX hZ.1 3 rfl h dX9_givenOnes_15 (fun v1 h => ?_)
    refine lv_if_ge (tgt := 23) hx hb dX9_givenOnes_16 (by decide) (fun cd => ?_) (fun cd => ?_)
    · replace h := k_t cd h
      clear cd
      refine lv_iconst (v := 1) hx hb dX9_givenOnes_23 (by decide) ?_
      refine lv_iload_n hx hb dX9_givenOnes_24 rfl (lv_at hl 2 rfl) ?_
      refine lv_ishl hx hb dX9_givenOnes_25 ?_
      refine lv_ior hx hb dX9_givenOnes_26 ?_
      refine lv_topi (fun e2 he => ?_)
      replace h := k_lt he h
      clear he
      refine lv_istore_n (lv' := [(1, .int e2), (0, .ref (a_o 0)), (2, .int x2)]) hx hb dX9_givenOnes_27 rfl hl (by decide) rfl (fun ls hl => ?_)
      refine lv_iinc (v := (x2 + (1 : Int32))) (lv' := [(2, .int (x2 + (1 : Int32))), (1, .int e2), (0, .ref (a_o 0))]) hx hb dX9_givenOnes_28 hl (k := 2) rfl rfl (by decide) rfl (fun ls hl => ?_)
      refine lv_goto (tgt := 4) hx hb dX9_givenOnes_31 (by decide) ?_
      exact hrec4 (e2, (x2 + (1 : Int32))) h locs ls hF (lv_sub hl [2, 1, 0] rfl)
    · replace h := k_f cd h
      clear cd
      refine lv_iconst (v := 0) hx hb dX9_givenOnes_19 (by decide) ?_
      refine lv_goto (tgt := 26) hx hb dX9_givenOnes_20 (by decide) ?_
      refine lv_ior hx hb dX9_givenOnes_26 ?_
      refine lv_istore_n (lv' := [(1, .int (x1 ||| (0 : Int32))), (0, .ref (a_o 0)), (2, .int x2)]) hx hb dX9_givenOnes_27 rfl hl (by decide) rfl (fun ls hl => ?_)
      refine lv_iinc (v := (x2 + (1 : Int32))) (lv' := [(2, .int (x2 + (1 : Int32))), (1, .int (x1 ||| (0 : Int32))), (0, .ref (a_o 0))]) hx hb dX9_givenOnes_28 hl (k := 2) rfl rfl (by decide) rfl (fun ls hl => ?_)
      refine lv_goto (tgt := 4) hx hb dX9_givenOnes_31 (by decide) ?_
      exact hrec4 ((x1 ||| (0 : Int32)), (x2 + (1 : Int32))) h locs ls hF (lv_sub hl [2, 1, 0] rfl)
set_option maxHeartbeats 4000000 in
set_option maxRecDepth 100000 in
theorem c_X9_givenOnes {l : Launch} {D : va_G} {aC : Nat → ClassId} {a_o : Nat → Nat} (s_o : Ob_T) {out : Int32} (h : f_X9_givenOnes s_o = some out) : M_R l yX9_givenOnes wlX9_givenOnes 0 0 D aC [.ref (a_o 0)] (wd_X9 aC a_o s_o) (some (.int out)) := by
  refine k_entR (cc := cX9_givenOnes) (ret := (some .int)) (maxL := 3) (own := RX9) (by decide) rfl rfl rfl ?_
  intro p e s m below meth c A ls hX hr hZ hl
  have hl : lv_has ls 3 [(0, .ref (a_o 0))] := hl
  generalize ([.ref (a_o 0)] : List Value).toArray = args at hX ⊢
  obtain ⟨hx, hb, hml, hown, hts, hK, hA, hlk⟩ := id hX
  unfold f_X9_givenOnes at h
  have hF : ∀ q ∈ ([] : List Loc), False := fun _ h => nomatch h
  generalize ([] : List Loc) = locs at hF ⊢
  refine lv_iconst (v := 0) hx hb dX9_givenOnes_0 (by decide) ?_
  refine lv_istore_n (lv' := [(1, .int (0 : Int32)), (0, .ref (a_o 0))]) hx hb dX9_givenOnes_1 rfl hl (by decide) rfl (fun ls hl => ?_)
  refine lv_iconst (v := 0) hx hb dX9_givenOnes_2 (by decide) ?_
  refine lv_istore_n (lv' := [(2, .int (0 : Int32)), (1, .int (0 : Int32)), (0, .ref (a_o 0))]) hx hb dX9_givenOnes_3 rfl hl (by decide) rfl (fun ls hl => ?_)
  exact Lp_ok (body := (fun (rec : (Int32 × Int32) → Option Int32) x => f_X9_givenOnes_L4 rec x.1 x.2 s_o)) (out := out) (fun x => ∀ (locs : List Loc) (ls : Array Slot), (∀ q ∈ locs, False) → lv_has ls 3 [(0, .ref (a_o 0)), (1, .int x.1), (2, .int x.2)] → W p l e (R_m 0 0) s m args below meth c s.heap locs 0 0 (MQ below (Q_R (some (.int out))) args s 0 0 (fun _ => False)) (F0 m 4 ls [])) (fun rec hrec x h locs ls hF hl => t_X9_givenOnes_L4 hX hr hZ hrec x.1 x.2 h locs ls hF hl) FU_ ((0 : Int32), (0 : Int32)) h locs ls hF (lv_sub hl [2, 1, 0] rfl)
def wlX9_count : List Cond := .code yX9_count cX9_count 2 (some .int) :: WL_
theorem hd_X9_count : yX9_count.cls = RX9 ∧ yX9_count.cls ≠ "java/lang/invoke/MethodHandle" ∧ yX9_count.cls ≠ "java/lang/invoke/VarHandle" ∧ (parseMethodDescriptor yX9_count.desc).map (fun d => d.parameters.length) = some 1 := by decide +kernel
theorem dX9_count_0 : decode cX9_count 0 = .ok (.iload_n 1, 1) := by decide +kernel
theorem dX9_count_1 : decode cX9_count 1 = .ok (.tableswitch 78 0 6 #[43, 48, 53, 58, 63, 68, 73], 43) := by decide +kernel
theorem dX9_count_44 : decode cX9_count 44 = .ok (.aload_n 0, 1) := by decide +kernel
theorem dX9_count_45 : decode cX9_count 45 = .ok (.getfield 170, 3) := by decide +kernel
theorem dX9_count_48 : decode cX9_count 48 = .ok (.ireturn, 1) := by decide +kernel
theorem dX9_count_49 : decode cX9_count 49 = .ok (.aload_n 0, 1) := by decide +kernel
theorem dX9_count_50 : decode cX9_count 50 = .ok (.invokevirtual 362, 3) := by decide +kernel
theorem dX9_count_53 : decode cX9_count 53 = .ok (.ireturn, 1) := by decide +kernel
theorem dX9_count_54 : decode cX9_count 54 = .ok (.aload_n 0, 1) := by decide +kernel
theorem dX9_count_55 : decode cX9_count 55 = .ok (.getfield 185, 3) := by decide +kernel
theorem dX9_count_58 : decode cX9_count 58 = .ok (.ireturn, 1) := by decide +kernel
theorem dX9_count_59 : decode cX9_count 59 = .ok (.aload_n 0, 1) := by decide +kernel
theorem dX9_count_60 : decode cX9_count 60 = .ok (.invokevirtual 365, 3) := by decide +kernel
theorem dX9_count_63 : decode cX9_count 63 = .ok (.ireturn, 1) := by decide +kernel
theorem dX9_count_64 : decode cX9_count 64 = .ok (.aload_n 0, 1) := by decide +kernel
theorem dX9_count_65 : decode cX9_count 65 = .ok (.getfield 182, 3) := by decide +kernel
theorem dX9_count_68 : decode cX9_count 68 = .ok (.ireturn, 1) := by decide +kernel
theorem dX9_count_69 : decode cX9_count 69 = .ok (.aload_n 0, 1) := by decide +kernel
theorem dX9_count_70 : decode cX9_count 70 = .ok (.getfield 101, 3) := by decide +kernel
theorem dX9_count_73 : decode cX9_count 73 = .ok (.ireturn, 1) := by decide +kernel
theorem dX9_count_74 : decode cX9_count 74 = .ok (.aload_n 0, 1) := by decide +kernel
theorem dX9_count_75 : decode cX9_count 75 = .ok (.invokevirtual 319, 3) := by decide +kernel
theorem dX9_count_78 : decode cX9_count 78 = .ok (.ireturn, 1) := by decide +kernel
theorem dX9_count_79 : decode cX9_count 79 = .ok (.bipush (-3), 2) := by decide +kernel
theorem dX9_count_81 : decode cX9_count 81 = .ok (.ireturn, 1) := by decide +kernel
set_option maxHeartbeats 4000000 in
set_option maxRecDepth 100000 in
theorem c_X9_count {l : Launch} {D : va_G} {aC : Nat → ClassId} {a_o : Nat → Nat} (s_o : Ob_T) (x1 : Int32) {out : Int32} (h : f_X9_count s_o x1 = some out) : M_R l yX9_count wlX9_count 1 24 D aC [.ref (a_o 0), .int x1] (wd_X9 aC a_o s_o) (some (.int out)) := by
  refine k_entR (cc := cX9_count) (ret := (some .int)) (maxL := 2) (own := RX9) (by decide) rfl rfl rfl ?_
  intro p e s m below meth c A ls hX hr hZ hl
  have hl : lv_has ls 2 [(0, .ref (a_o 0)), (1, .int x1)] := hl
  generalize ([.ref (a_o 0), .int x1] : List Value).toArray = args at hX ⊢
  obtain ⟨hx, hb, hml, hown, hts, hK, hA, hlk⟩ := id hX
  unfold f_X9_count at h
  have hF : ∀ q ∈ ([] : List Loc), False := fun _ h => nomatch h
  generalize ([] : List Loc) = locs at hF ⊢
  refine lv_iload_n hx hb dX9_count_0 rfl (lv_at hl 1 rfl) ?_
  by_cases c0 : x1 = (0 : Int32)
  · replace h := k_t c0 h
    refine k_sw c0 ?_
    refine lv_tableIn (tgt := 44) (off := 43) hx hb dX9_count_1 (by decide) (by decide) rfl (by decide) ?_
    refine lv_aload_n hx hb dX9_count_44 rfl (lv_at hl 0 rfl) ?_
    refine k_get hX hZ.1 0 9 rfl rfl iw_X9 2 rfl (wm_108) (v := .int (o_F s_o 2)) rfl dX9_count_45 ?_
    cases h
    exact k_iretR hX hr hF dX9_count_48
  · replace h := k_f c0 h
    have n0 := k_ne c0 (0) (by decide)
    by_cases c1 : x1 = (1 : Int32)
    · replace h := k_t c1 h
      refine k_sw c1 ?_
      refine lv_tableIn (tgt := 49) (off := 48) hx hb dX9_count_1 (by decide) (by decide) rfl (by decide) ?_
      refine lv_aload_n hx hb dX9_count_49 rfl (lv_at hl 0 rfl) ?_
      obtain ⟨u1, hu, h⟩ := k_bd h
      refine k_vRRs (As := []) (rest := []) (v := some (.int u1)) (st1 := [.int u1]) hX hl.1 hZ hF (c_X9_givenOnes (a_o := a_o) s_o hu) (gv_ wm_282 wm_284 wm_285 wm_11 wm_283) rfl hd_X9_givenOnes ⟨rfl, rfl⟩ 9 0 rfl rfl rfl rfl rfl dX9_count_50 rfl ⟨rfl, rfl⟩ (fun locs hF => ?_)
      clear hu
      cases h
      exact k_iretR hX hr hF dX9_count_53
    · replace h := k_f c1 h
      have n1 := k_ne c1 (1) (by decide)
      by_cases c2 : x1 = (2 : Int32)
      · replace h := k_t c2 h
        refine k_sw c2 ?_
        refine lv_tableIn (tgt := 54) (off := 53) hx hb dX9_count_1 (by decide) (by decide) rfl (by decide) ?_
        refine lv_aload_n hx hb dX9_count_54 rfl (lv_at hl 0 rfl) ?_
        refine k_get hX hZ.1 0 9 rfl rfl iw_X9 11 rfl (wm_121) (v := .int (o_F s_o 11)) rfl dX9_count_55 ?_
        cases h
        exact k_iretR hX hr hF dX9_count_58
      · replace h := k_f c2 h
        have n2 := k_ne c2 (2) (by decide)
        by_cases c3 : x1 = (3 : Int32)
        · replace h := k_t c3 h
          refine k_sw c3 ?_
          refine lv_tableIn (tgt := 59) (off := 58) hx hb dX9_count_1 (by decide) (by decide) rfl (by decide) ?_
          refine lv_aload_n hx hb dX9_count_59 rfl (lv_at hl 0 rfl) ?_
          obtain ⟨u2, hu, h⟩ := k_bd h
          refine k_vRRs (As := []) (rest := []) (v := some (.int u2)) (st1 := [.int u2]) hX hl.1 hZ hF (c_X9_allPlaces (a_o := a_o) s_o hu) (gv_ wm_286 wm_288 wm_289 wm_11 wm_287) rfl hd_X9_allPlaces ⟨rfl, rfl⟩ 9 0 rfl rfl rfl rfl rfl dX9_count_60 rfl ⟨rfl, rfl⟩ (fun locs hF => ?_)
          clear hu
          cases h
          exact k_iretR hX hr hF dX9_count_63
        · replace h := k_f c3 h
          have n3 := k_ne c3 (3) (by decide)
          by_cases c4 : x1 = (4 : Int32)
          · replace h := k_t c4 h
            refine k_sw c4 ?_
            refine lv_tableIn (tgt := 64) (off := 63) hx hb dX9_count_1 (by decide) (by decide) rfl (by decide) ?_
            refine lv_aload_n hx hb dX9_count_64 rfl (lv_at hl 0 rfl) ?_
            refine k_get hX hZ.1 0 9 rfl rfl iw_X9 6 rfl (wm_122) (v := .int (o_F s_o 6)) rfl dX9_count_65 ?_
            cases h
            exact k_iretR hX hr hF dX9_count_68
          · replace h := k_f c4 h
            have n4 := k_ne c4 (4) (by decide)
            by_cases c5 : x1 = (5 : Int32)
            · replace h := k_t c5 h
              refine k_sw c5 ?_
              refine lv_tableIn (tgt := 69) (off := 68) hx hb dX9_count_1 (by decide) (by decide) rfl (by decide) ?_
              refine lv_aload_n hx hb dX9_count_69 rfl (lv_at hl 0 rfl) ?_
              refine k_get hX hZ.1 0 9 rfl rfl iw_X9 10 rfl (wm_8) (v := .int (o_F s_o 10)) rfl dX9_count_70 ?_
              cases h
              exact k_iretR hX hr hF dX9_count_73
            · replace h := k_f c5 h
              have n5 := k_ne c5 (5) (by decide)
              by_cases c6 : x1 = (6 : Int32)
              · replace h := k_t c6 h
                refine k_sw c6 ?_
                refine lv_tableIn (tgt := 74) (off := 73) hx hb dX9_count_1 (by decide) (by decide) rfl (by decide) ?_
                refine lv_aload_n hx hb dX9_count_74 rfl (lv_at hl 0 rfl) ?_
                obtain ⟨u3, hu, h⟩ := k_bd h
                refine k_vRRs (As := []) (rest := []) (v := some (.int u3)) (st1 := [.int u3]) hX hl.1 hZ hF (c_X9_toldLetters (a_o := a_o) s_o hu) (gv_ wm_234 wm_236 wm_237 wm_11 wm_235) rfl hd_X9_toldLetters ⟨rfl, rfl⟩ 9 0 rfl rfl rfl rfl rfl dX9_count_75 rfl ⟨rfl, rfl⟩ (fun locs hF => ?_)
                clear hu
                cases h
                exact k_iretR hX hr hF dX9_count_78
              · replace h := k_f c6 h
                have n6 := k_ne c6 (6) (by decide)
                refine lv_tableOut (tgt := 79) hx hb dX9_count_1 (by omega) (by decide) ?_
                refine lv_bipush (v := -3) hx hb dX9_count_79 (by decide) ?_
                cases h
                exact k_iretR hX hr hF dX9_count_81
