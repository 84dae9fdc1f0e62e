def wlX4_missingAddend : List Cond := .code yX4_missingAddend cX4_missingAddend 3 (some .long) :: WL_
theorem hd_X4_missingAddend : yX4_missingAddend.cls = RX4 ∧ yX4_missingAddend.cls ≠ "java/lang/invoke/MethodHandle" ∧ yX4_missingAddend.cls ≠ "java/lang/invoke/VarHandle" ∧ (parseMethodDescriptor yX4_missingAddend.desc).map (fun d => d.parameters.length) = some 0 := by decide +kernel
theorem dX4_missingAddend_0 : decode cX4_missingAddend 0 = .ok (.aload_n 0, 1) := by decide +kernel
theorem dX4_missingAddend_1 : decode cX4_missingAddend 1 = .ok (.getfield 18, 3) := by decide +kernel
theorem dX4_missingAddend_4 : decode cX4_missingAddend 4 = .ok (.ifCond .ne 29, 3) := by decide +kernel
theorem dX4_missingAddend_7 : decode cX4_missingAddend 7 = .ok (.aload_n 0, 1) := by decide +kernel
theorem dX4_missingAddend_8 : decode cX4_missingAddend 8 = .ok (.getfield 9, 3) := by decide +kernel
theorem dX4_missingAddend_11 : decode cX4_missingAddend 11 = .ok (.iconst 0, 1) := by decide +kernel
theorem dX4_missingAddend_12 : decode cX4_missingAddend 12 = .ok (.laload, 1) := by decide +kernel
theorem dX4_missingAddend_13 : decode cX4_missingAddend 13 = .ok (.aload_n 0, 1) := by decide +kernel
theorem dX4_missingAddend_14 : decode cX4_missingAddend 14 = .ok (.getfield 9, 3) := by decide +kernel
theorem dX4_missingAddend_17 : decode cX4_missingAddend 17 = .ok (.iconst 1, 1) := by decide +kernel
theorem dX4_missingAddend_18 : decode cX4_missingAddend 18 = .ok (.laload, 1) := by decide +kernel
theorem dX4_missingAddend_19 : decode cX4_missingAddend 19 = .ok (.lcmp, 1) := by decide +kernel
theorem dX4_missingAddend_20 : decode cX4_missingAddend 20 = .ok (.ifCond .ne 9, 3) := by decide +kernel
theorem dX4_missingAddend_23 : decode cX4_missingAddend 23 = .ok (.ldc2_w 33, 3) := by decide +kernel
theorem dX4_missingAddend_26 : decode cX4_missingAddend 26 = .ok (.goto 6, 3) := by decide +kernel
theorem dX4_missingAddend_29 : decode cX4_missingAddend 29 = .ok (.ldc2_w 35, 3) := by decide +kernel
theorem dX4_missingAddend_32 : decode cX4_missingAddend 32 = .ok (.lreturn, 1) := by decide +kernel
theorem dX4_missingAddend_33 : decode cX4_missingAddend 33 = .ok (.aload_n 0, 1) := by decide +kernel
theorem dX4_missingAddend_34 : decode cX4_missingAddend 34 = .ok (.getfield 9, 3) := by decide +kernel
theorem dX4_missingAddend_37 : decode cX4_missingAddend 37 = .ok (.iconst 1, 1) := by decide +kernel
theorem dX4_missingAddend_38 : decode cX4_missingAddend 38 = .ok (.aload_n 0, 1) := by decide +kernel
theorem dX4_missingAddend_39 : decode cX4_missingAddend 39 = .ok (.getfield 25, 3) := by decide +kernel
theorem dX4_missingAddend_42 : decode cX4_missingAddend 42 = .ok (.isub, 1) := by decide +kernel
theorem dX4_missingAddend_43 : decode cX4_missingAddend 43 = .ok (.laload, 1) := by decide +kernel
theorem dX4_missingAddend_44 : decode cX4_missingAddend 44 = .ok (.aload_n 0, 1) := by decide +kernel
theorem dX4_missingAddend_45 : decode cX4_missingAddend 45 = .ok (.getfield 9, 3) := by decide +kernel
theorem dX4_missingAddend_48 : decode cX4_missingAddend 48 = .ok (.aload_n 0, 1) := by decide +kernel
theorem dX4_missingAddend_49 : decode cX4_missingAddend 49 = .ok (.getfield 25, 3) := by decide +kernel
theorem dX4_missingAddend_52 : decode cX4_missingAddend 52 = .ok (.laload, 1) := by decide +kernel
theorem dX4_missingAddend_53 : decode cX4_missingAddend 53 = .ok (.lsub, 1) := by decide +kernel
theorem dX4_missingAddend_54 : decode cX4_missingAddend 54 = .ok (.lstore_n 1, 1) := by decide +kernel
theorem dX4_missingAddend_55 : decode cX4_missingAddend 55 = .ok (.lload_n 1, 1) := by decide +kernel
theorem dX4_missingAddend_56 : decode cX4_missingAddend 56 = .ok (.lconst 0, 1) := by decide +kernel
theorem dX4_missingAddend_57 : decode cX4_missingAddend 57 = .ok (.lcmp, 1) := by decide +kernel
theorem dX4_missingAddend_58 : decode cX4_missingAddend 58 = .ok (.ifCond .lt 11, 3) := by decide +kernel
theorem dX4_missingAddend_61 : decode cX4_missingAddend 61 = .ok (.lload_n 1, 1) := by decide +kernel
theorem dX4_missingAddend_62 : decode cX4_missingAddend 62 = .ok (.ldc2_w 37, 3) := by decide +kernel
theorem dX4_missingAddend_65 : decode cX4_missingAddend 65 = .ok (.lcmp, 1) := by decide +kernel
theorem dX4_missingAddend_66 : decode cX4_missingAddend 66 = .ok (.ifCond .le 9, 3) := by decide +kernel
theorem dX4_missingAddend_69 : decode cX4_missingAddend 69 = .ok (.ldc2_w 35, 3) := by decide +kernel
theorem dX4_missingAddend_72 : decode cX4_missingAddend 72 = .ok (.goto 4, 3) := by decide +kernel
theorem dX4_missingAddend_75 : decode cX4_missingAddend 75 = .ok (.lload_n 1, 1) := by decide +kernel
theorem dX4_missingAddend_76 : decode cX4_missingAddend 76 = .ok (.lreturn, 1) := by decide +kernel
set_option maxHeartbeats 4000000 in
set_option maxRecDepth 100000 in
theorem c_X4_missingAddend {l : Launch} {D : va_G} {aC : Nat → ClassId} {a_d : Nat → Nat} (s_d : Ob_T) {out : Int64} (h : f_X4_missingAddend s_d = some out) : M_R l yX4_missingAddend wlX4_missingAddend 0 0 D aC [.ref (a_d 0)] (wd_X4 aC a_d s_d) (some (.long out)) := by
  refine k_entR (cc := cX4_missingAddend) (ret := (some .long)) (maxL := 3) (own := RX4) (by decide) rfl rfl rfl ?_
  intro p e s m below meth c A ls hX hr hZ hl
  have hl : lv_has ls 3 [(0, .ref (a_d 0))] := hl
  generalize ([.ref (a_d 0)] : List Value).toArray = args at hX ⊢
  obtain ⟨hx, hb, hml, hown, hts, hK, hA, hlk⟩ := id hX
  unfold f_X4_missingAddend at h
  have hF : ∀ q ∈ ([] : List Loc), False := fun _ h => nomatch h
  generalize ([] : List Loc) = locs at hF ⊢
  refine lv_aload_n hx hb dX4_missingAddend_0 rfl (lv_at hl 0 rfl) ?_
  refine k_get hX hZ.1 0 4 rfl rfl iw_X4 2 rfl (wm_422) (v := .int (o_F s_d 2)) rfl dX4_missingAddend_1 ?_
  refine lv_if_ne (tgt := 33) hx hb dX4_missingAddend_4 (by decide) (fun cd => ?_) (fun cd => ?_)
  · replace h := k_f cd h
    clear cd
    refine lv_aload_n hx hb dX4_missingAddend_33 rfl (lv_at hl 0 rfl) ?_
    refine k_get hX hZ.1 0 4 rfl rfl iw_X4 0 rfl (wm_417) (v := .ref (a_d 1)) rfl dX4_missingAddend_34 ?_
    refine lv_iconst (v := 1) hx hb dX4_missingAddend_37 (by decide) ?_
    refine lv_aload_n hx hb dX4_missingAddend_38 rfl (lv_at hl 0 rfl) ?_
    refine k_get hX hZ.1 0 4 rfl rfl iw_X4 4 rfl (wm_420) (v := .int (o_F s_d 4)) rfl dX4_missingAddend_39 ?_
    refine lv_isub hx hb dX4_missingAddend_42 ?_
    refine k_lald hX hZ.1 1 rfl h dX4_missingAddend_43 (fun v1 h => ?_)
    refine lv_aload_n hx hb dX4_missingAddend_44 rfl (lv_at hl 0 rfl) ?_
    refine k_get hX hZ.1 0 4 rfl rfl iw_X4 0 rfl (wm_417) (v := .ref (a_d 1)) rfl dX4_missingAddend_45 ?_
    refine lv_aload_n hx hb dX4_missingAddend_48 rfl (lv_at hl 0 rfl) ?_
    refine k_get hX hZ.1 0 4 rfl rfl iw_X4 4 rfl (wm_420) (v := .int (o_F s_d 4)) rfl dX4_missingAddend_49 ?_
    refine k_lald hX hZ.1 1 rfl h dX4_missingAddend_52 (fun v2 h => ?_)
    refine lv_lsub hx hb dX4_missingAddend_53 ?_
    refine lv_lstore_n (lv' := [(1, .long (v1 - v2)), (0, .ref (a_d 0))]) hx hb dX4_missingAddend_54 rfl hl (by decide) rfl (fun ls hl => ?_)
    refine lv_lload_n hx hb dX4_missingAddend_55 rfl (lv_at hl 0 rfl) ?_
    refine lv_lconst (v := 0) hx hb dX4_missingAddend_56 (by decide) ?_
    refine W.lcmp hx hb dX4_missingAddend_57 ?_
    refine lv_if_lt (tgt := 69) hx hb dX4_missingAddend_58 (by decide) (fun cd => ?_) (fun cd => ?_)
    · replace h := k_t cd h
      clear cd
      refine lv_ldc2 (v := -1) hx hb hown (hts _ wm_424) dX4_missingAddend_69 ?_
      refine lv_goto (tgt := 76) hx hb dX4_missingAddend_72 (by decide) ?_
      cases h
      exact k_lretR hX hr hF dX4_missingAddend_76
    · replace h := k_f cd h
      clear cd
      refine lv_lload_n hx hb dX4_missingAddend_61 rfl (lv_at hl 0 rfl) ?_
      refine lv_ldc2 (v := 9999) hx hb hown (hts _ wm_425) dX4_missingAddend_62 ?_
      refine W.lcmp hx hb dX4_missingAddend_65 ?_
      refine lv_if_le (tgt := 75) hx hb dX4_missingAddend_66 (by decide) (fun cd => ?_) (fun cd => ?_)
      · replace h := k_t cd h
        clear cd
        refine lv_lload_n hx hb dX4_missingAddend_75 rfl (lv_at hl 0 rfl) ?_
        cases h
        exact k_lretR hX hr hF dX4_missingAddend_76
      · replace h := k_f cd h
        clear cd
        refine lv_ldc2 (v := -1) hx hb hown (hts _ wm_424) dX4_missingAddend_69 ?_
        refine lv_goto (tgt := 76) hx hb dX4_missingAddend_72 (by decide) ?_
        cases h
        exact k_lretR hX hr hF dX4_missingAddend_76
  · replace h := k_t cd h
    clear cd
    refine lv_aload_n hx hb dX4_missingAddend_7 rfl (lv_at hl 0 rfl) ?_
    refine k_get hX hZ.1 0 4 rfl rfl iw_X4 0 rfl (wm_417) (v := .ref (a_d 1)) rfl dX4_missingAddend_8 ?_
    refine lv_iconst (v := 0) hx hb dX4_missingAddend_11 (by decide) ?_
    refine k_lald hX hZ.1 1 rfl h dX4_missingAddend_12 (fun v3 h => ?_)
    refine lv_aload_n hx hb dX4_missingAddend_13 rfl (lv_at hl 0 rfl) ?_
    refine k_get hX hZ.1 0 4 rfl rfl iw_X4 0 rfl (wm_417) (v := .ref (a_d 1)) rfl dX4_missingAddend_14 ?_
    refine lv_iconst (v := 1) hx hb dX4_missingAddend_17 (by decide) ?_
    refine k_lald hX hZ.1 1 rfl h dX4_missingAddend_18 (fun v4 h => ?_)
    refine W.lcmp hx hb dX4_missingAddend_19 ?_
    refine lv_if_ne (tgt := 29) hx hb dX4_missingAddend_20 (by decide) (fun cd => ?_) (fun cd => ?_)
    · replace h := k_f cd h
      clear cd
      refine lv_ldc2 (v := -1) hx hb hown (hts _ wm_424) dX4_missingAddend_29 ?_
      cases h
      exact k_lretR hX hr hF dX4_missingAddend_32
    · replace h := k_t cd h
      clear cd
      refine lv_ldc2 (v := -2) hx hb hown (hts _ wm_426) dX4_missingAddend_23 ?_
      refine lv_goto (tgt := 32) hx hb dX4_missingAddend_26 (by decide) ?_
      cases h
      exact k_lretR hX hr hF dX4_missingAddend_32
def wlX4_missingFactor : List Cond := .code yX4_missingFactor cX4_missingFactor 5 (some .long) :: WL_
theorem hd_X4_missingFactor : yX4_missingFactor.cls = RX4 ∧ yX4_missingFactor.cls ≠ "java/lang/invoke/MethodHandle" ∧ yX4_missingFactor.cls ≠ "java/lang/invoke/VarHandle" ∧ (parseMethodDescriptor yX4_missingFactor.desc).map (fun d => d.parameters.length) = some 0 := by decide +kernel
theorem dX4_missingFactor_0 : decode cX4_missingFactor 0 = .ok (.aload_n 0, 1) := by decide +kernel
theorem dX4_missingFactor_1 : decode cX4_missingFactor 1 = .ok (.getfield 15, 3) := by decide +kernel
theorem dX4_missingFactor_4 : decode cX4_missingFactor 4 = .ok (.iconst 1, 1) := by decide +kernel
theorem dX4_missingFactor_5 : decode cX4_missingFactor 5 = .ok (.aload_n 0, 1) := by decide +kernel
theorem dX4_missingFactor_6 : decode cX4_missingFactor 6 = .ok (.getfield 25, 3) := by decide +kernel
theorem dX4_missingFactor_9 : decode cX4_missingFactor 9 = .ok (.isub, 1) := by decide +kernel
theorem dX4_missingFactor_10 : decode cX4_missingFactor 10 = .ok (.laload, 1) := by decide +kernel
theorem dX4_missingFactor_11 : decode cX4_missingFactor 11 = .ok (.lstore_n 1, 1) := by decide +kernel
theorem dX4_missingFactor_12 : decode cX4_missingFactor 12 = .ok (.aload_n 0, 1) := by decide +kernel
theorem dX4_missingFactor_13 : decode cX4_missingFactor 13 = .ok (.getfield 15, 3) := by decide +kernel
theorem dX4_missingFactor_16 : decode cX4_missingFactor 16 = .ok (.aload_n 0, 1) := by decide +kernel
theorem dX4_missingFactor_17 : decode cX4_missingFactor 17 = .ok (.getfield 25, 3) := by decide +kernel
theorem dX4_missingFactor_20 : decode cX4_missingFactor 20 = .ok (.laload, 1) := by decide +kernel
theorem dX4_missingFactor_21 : decode cX4_missingFactor 21 = .ok (.lstore_n 3, 1) := by decide +kernel
theorem dX4_missingFactor_22 : decode cX4_missingFactor 22 = .ok (.lload_n 1, 1) := by decide +kernel
theorem dX4_missingFactor_23 : decode cX4_missingFactor 23 = .ok (.ldc2_w 31, 3) := by decide +kernel
theorem dX4_missingFactor_26 : decode cX4_missingFactor 26 = .ok (.lcmp, 1) := by decide +kernel
theorem dX4_missingFactor_27 : decode cX4_missingFactor 27 = .ok (.ifCond .gt 11, 3) := by decide +kernel
theorem dX4_missingFactor_30 : decode cX4_missingFactor 30 = .ok (.lload_n 3, 1) := by decide +kernel
theorem dX4_missingFactor_31 : decode cX4_missingFactor 31 = .ok (.ldc2_w 31, 3) := by decide +kernel
theorem dX4_missingFactor_34 : decode cX4_missingFactor 34 = .ok (.lcmp, 1) := by decide +kernel
theorem dX4_missingFactor_35 : decode cX4_missingFactor 35 = .ok (.ifCond .le 7, 3) := by decide +kernel
theorem dX4_missingFactor_38 : decode cX4_missingFactor 38 = .ok (.ldc2_w 35, 3) := by decide +kernel
theorem dX4_missingFactor_41 : decode cX4_missingFactor 41 = .ok (.lreturn, 1) := by decide +kernel
theorem dX4_missingFactor_42 : decode cX4_missingFactor 42 = .ok (.aload_n 0, 1) := by decide +kernel
theorem dX4_missingFactor_43 : decode cX4_missingFactor 43 = .ok (.getfield 18, 3) := by decide +kernel
theorem dX4_missingFactor_46 : decode cX4_missingFactor 46 = .ok (.ifCond .eq 9, 3) := by decide +kernel
theorem dX4_missingFactor_49 : decode cX4_missingFactor 49 = .ok (.lload_n 3, 1) := by decide +kernel
theorem dX4_missingFactor_50 : decode cX4_missingFactor 50 = .ok (.lconst 0, 1) := by decide +kernel
theorem dX4_missingFactor_51 : decode cX4_missingFactor 51 = .ok (.lcmp, 1) := by decide +kernel
theorem dX4_missingFactor_52 : decode cX4_missingFactor 52 = .ok (.ifCond .ne 19, 3) := by decide +kernel
theorem dX4_missingFactor_55 : decode cX4_missingFactor 55 = .ok (.lload_n 1, 1) := by decide +kernel
theorem dX4_missingFactor_56 : decode cX4_missingFactor 56 = .ok (.lload_n 3, 1) := by decide +kernel
theorem dX4_missingFactor_57 : decode cX4_missingFactor 57 = .ok (.lcmp, 1) := by decide +kernel
theorem dX4_missingFactor_58 : decode cX4_missingFactor 58 = .ok (.ifCond .ne 9, 3) := by decide +kernel
theorem dX4_missingFactor_61 : decode cX4_missingFactor 61 = .ok (.ldc2_w 33, 3) := by decide +kernel
theorem dX4_missingFactor_64 : decode cX4_missingFactor 64 = .ok (.goto 6, 3) := by decide +kernel
theorem dX4_missingFactor_67 : decode cX4_missingFactor 67 = .ok (.ldc2_w 35, 3) := by decide +kernel
theorem dX4_missingFactor_70 : decode cX4_missingFactor 70 = .ok (.lreturn, 1) := by decide +kernel
theorem dX4_missingFactor_71 : decode cX4_missingFactor 71 = .ok (.lload_n 1, 1) := by decide +kernel
theorem dX4_missingFactor_72 : decode cX4_missingFactor 72 = .ok (.lload_n 3, 1) := by decide +kernel
theorem dX4_missingFactor_73 : decode cX4_missingFactor 73 = .ok (.lrem, 1) := by decide +kernel
theorem dX4_missingFactor_74 : decode cX4_missingFactor 74 = .ok (.lconst 0, 1) := by decide +kernel
theorem dX4_missingFactor_75 : decode cX4_missingFactor 75 = .ok (.lcmp, 1) := by decide +kernel
theorem dX4_missingFactor_76 : decode cX4_missingFactor 76 = .ok (.ifCond .ne 13, 3) := by decide +kernel
theorem dX4_missingFactor_79 : decode cX4_missingFactor 79 = .ok (.lload_n 1, 1) := by decide +kernel
theorem dX4_missingFactor_80 : decode cX4_missingFactor 80 = .ok (.lload_n 3, 1) := by decide +kernel
theorem dX4_missingFactor_81 : decode cX4_missingFactor 81 = .ok (.ldiv, 1) := by decide +kernel
theorem dX4_missingFactor_82 : decode cX4_missingFactor 82 = .ok (.ldc2_w 37, 3) := by decide +kernel
theorem dX4_missingFactor_85 : decode cX4_missingFactor 85 = .ok (.lcmp, 1) := by decide +kernel
theorem dX4_missingFactor_86 : decode cX4_missingFactor 86 = .ok (.ifCond .le 9, 3) := by decide +kernel
theorem dX4_missingFactor_89 : decode cX4_missingFactor 89 = .ok (.ldc2_w 35, 3) := by decide +kernel
theorem dX4_missingFactor_92 : decode cX4_missingFactor 92 = .ok (.goto 6, 3) := by decide +kernel
theorem dX4_missingFactor_95 : decode cX4_missingFactor 95 = .ok (.lload_n 1, 1) := by decide +kernel
theorem dX4_missingFactor_96 : decode cX4_missingFactor 96 = .ok (.lload_n 3, 1) := by decide +kernel
theorem dX4_missingFactor_97 : decode cX4_missingFactor 97 = .ok (.ldiv, 1) := by decide +kernel
theorem dX4_missingFactor_98 : decode cX4_missingFactor 98 = .ok (.lreturn, 1) := by decide +kernel
set_option maxHeartbeats 4000000 in
set_option maxRecDepth 100000 in
theorem t_X4_missingFactor_J55 {p : Program} {l : Launch} {e : Env} {s : State} {m : MethodId} {args : Array Value} {below : List Frame} {meth : Method} {c : Code} {D : va_G} {aC : Nat → ClassId} {A : Nat → Prop} {a_d : Nat → Nat} {out : Int64} {s_d : Ob_T} (hX : K_X p s m args meth c cX4_missingFactor 5 WL_ RX4 D aC A) (hr : meth.sig.returnType = (some .long)) (hZ : va_P D vwCl (wd_X4 aC a_d s_d) s.heap ∧ va_D (fun _ => True) (wd_X4 aC a_d s_d)) (x1 : Int64) (x3 : Int64) (h : f_X4_missingFactor_J55 x1 x3 s_d = some out) (locs : List Loc) (ls : Array Slot) (hF : ∀ q ∈ locs, False) (hl : lv_has ls 5 [(1, .long x1), (3, .long x3)]) : W p l e (R_m 0 0) s m args below meth c s.heap locs 0 0 (MQ below (Q_R (some (.long out))) args s 0 0 (fun _ => False)) (F0 m 55 ls []) := by
  obtain ⟨hx, hb, hml, hown, hts, hK, hA, hlk⟩ := id hX
  unfold f_X4_missingFactor_J55 at h
  refine lv_lload_n hx hb dX4_missingFactor_55 rfl (lv_at hl 0 rfl) ?_
  refine lv_lload_n hx hb dX4_missingFactor_56 rfl (lv_at hl 1 rfl) ?_
  refine W.lcmp hx hb dX4_missingFactor_57 ?_
  refine lv_if_ne (tgt := 67) hx hb dX4_missingFactor_58 (by decide) (fun cd => ?_) (fun cd => ?_)
  · replace h := k_f cd h
    clear cd
    refine lv_ldc2 (v := -1) hx hb hown (hts _ wm_424) dX4_missingFactor_67 ?_
    cases h
    exact k_lretR hX hr hF dX4_missingFactor_70
  · replace h := k_t cd h
    clear cd
    refine lv_ldc2 (v := -2) hx hb hown (hts _ wm_426) dX4_missingFactor_61 ?_
    refine lv_goto (tgt := 70) hx hb dX4_missingFactor_64 (by decide) ?_
    cases h
    exact k_lretR hX hr hF dX4_missingFactor_70
set_option maxHeartbeats 4000000 in
set_option maxRecDepth 100000 in
theorem c_X4_missingFactor {l : Launch} {D : va_G} {aC : Nat → ClassId} {a_d : Nat → Nat} (s_d : Ob_T) {out : Int64} (h : f_X4_missingFactor s_d = some out) : M_R l yX4_missingFactor wlX4_missingFactor 0 0 D aC [.ref (a_d 0)] (wd_X4 aC a_d s_d) (some (.long out)) := by
  refine k_entR (cc := cX4_missingFactor) (ret := (some .long)) (maxL := 5) (own := RX4) (by decide) rfl rfl rfl ?_
  intro p e s m below meth c A ls hX hr hZ hl
  have hl : lv_has ls 5 [(0, .ref (a_d 0))] := hl
  generalize ([.ref (a_d 0)] : List Value).toArray = args at hX ⊢
  obtain ⟨hx, hb, hml, hown, hts, hK, hA, hlk⟩ := id hX
  unfold f_X4_missingFactor at h
  have hF : ∀ q ∈ ([] : List Loc), False := fun _ h => nomatch h
  generalize ([] : List Loc) = locs at hF ⊢
  refine lv_aload_n hx hb dX4_missingFactor_0 rfl (lv_at hl 0 rfl) ?_
  refine k_get hX hZ.1 0 4 rfl rfl iw_X4 1 rfl (wm_418) (v := .ref (a_d 2)) rfl dX4_missingFactor_1 ?_
  refine lv_iconst (v := 1) hx hb dX4_missingFactor_4 (by decide) ?_
  refine lv_aload_n hx hb dX4_missingFactor_5 rfl (lv_at hl 0 rfl) ?_
  refine k_get hX hZ.1 0 4 rfl rfl iw_X4 4 rfl (wm_420) (v := .int (o_F s_d 4)) rfl dX4_missingFactor_6 ?_
  refine lv_isub hx hb dX4_missingFactor_9 ?_
  refine k_lald hX hZ.1 2 rfl h dX4_missingFactor_10 (fun v1 h => ?_)
  refine lv_lstore_n (lv' := [(1, .long v1), (0, .ref (a_d 0))]) hx hb dX4_missingFactor_11 rfl hl (by decide) rfl (fun ls hl => ?_)
  refine lv_aload_n hx hb dX4_missingFactor_12 rfl (lv_at hl 1 rfl) ?_
  refine k_get hX hZ.1 0 4 rfl rfl iw_X4 1 rfl (wm_418) (v := .ref (a_d 2)) rfl dX4_missingFactor_13 ?_
  refine lv_aload_n hx hb dX4_missingFactor_16 rfl (lv_at hl 1 rfl) ?_
  refine k_get hX hZ.1 0 4 rfl rfl iw_X4 4 rfl (wm_420) (v := .int (o_F s_d 4)) rfl dX4_missingFactor_17 ?_
  refine k_lald hX hZ.1 2 rfl h dX4_missingFactor_20 (fun v2 h => ?_)
  refine lv_lstore_n (lv' := [(3, .long v2), (1, .long v1), (0, .ref (a_d 0))]) hx hb dX4_missingFactor_21 rfl hl (by decide) rfl (fun ls hl => ?_)
  refine lv_lload_n hx hb dX4_missingFactor_22 rfl (lv_at hl 1 rfl) ?_
  refine lv_ldc2 (v := 999999999999) hx hb hown (hts _ wm_423) dX4_missingFactor_23 ?_
  refine W.lcmp hx hb dX4_missingFactor_26 ?_
  refine lv_if_gt (tgt := 38) hx hb dX4_missingFactor_27 (by decide) (fun cd => ?_) (fun cd => ?_)
  · replace h := k_t cd h
    clear cd
    refine lv_ldc2 (v := -1) hx hb hown (hts _ wm_424) dX4_missingFactor_38 ?_
    cases h
    exact k_lretR hX hr hF dX4_missingFactor_41
  · replace h := k_f cd h
    clear cd
    refine lv_lload_n hx hb dX4_missingFactor_30 rfl (lv_at hl 0 rfl) ?_
    refine lv_ldc2 (v := 999999999999) hx hb hown (hts _ wm_423) dX4_missingFactor_31 ?_
    refine W.lcmp hx hb dX4_missingFactor_34 ?_
    refine lv_if_le (tgt := 42) hx hb dX4_missingFactor_35 (by decide) (fun cd => ?_) (fun cd => ?_)
    · replace h := k_t cd h
      clear cd
      refine lv_aload_n hx hb dX4_missingFactor_42 rfl (lv_at hl 2 rfl) ?_
      refine k_get hX hZ.1 0 4 rfl rfl iw_X4 2 rfl (wm_422) (v := .int (o_F s_d 2)) rfl dX4_missingFactor_43 ?_
      refine lv_if_eq (tgt := 55) hx hb dX4_missingFactor_46 (by decide) (fun cd => ?_) (fun cd => ?_)
      · replace h := k_t cd h
        clear cd
        exact t_X4_missingFactor_J55 hX hr hZ v1 v2 h locs ls hF (lv_sub hl [1, 0] rfl)
      · replace h := k_f cd h
        clear cd
        refine lv_lload_n hx hb dX4_missingFactor_49 rfl (lv_at hl 0 rfl) ?_
        refine lv_lconst (v := 0) hx hb dX4_missingFactor_50 (by decide) ?_
        refine W.lcmp hx hb dX4_missingFactor_51 ?_
        refine lv_if_ne (tgt := 71) hx hb dX4_missingFactor_52 (by decide) (fun cd => ?_) (fun cd => ?_)
        · replace h := k_f cd h
          clear cd
          refine lv_lload_n hx hb dX4_missingFactor_71 rfl (lv_at hl 1 rfl) ?_
          refine lv_lload_n hx hb dX4_missingFactor_72 rfl (lv_at hl 0 rfl) ?_
          by_cases hd0 : v2 = 0
          · replace h := k_t hd0 h
            cases h
          · replace h := k_f hd0 h
            refine lv_lrem hx hb dX4_missingFactor_73 hd0 ?_
            refine lv_lconst (v := 0) hx hb dX4_missingFactor_74 (by decide) ?_
            refine W.lcmp hx hb dX4_missingFactor_75 ?_
            refine lv_if_ne (tgt := 89) hx hb dX4_missingFactor_76 (by decide) (fun cd => ?_) (fun cd => ?_)
            · replace h := k_f cd h
              clear cd
              refine lv_ldc2 (v := -1) hx hb hown (hts _ wm_424) dX4_missingFactor_89 ?_
              refine lv_goto (tgt := 98) hx hb dX4_missingFactor_92 (by decide) ?_
              cases h
              exact k_lretR hX hr hF dX4_missingFactor_98
            · replace h := k_t cd h
              clear cd
              refine lv_lload_n hx hb dX4_missingFactor_79 rfl (lv_at hl 1 rfl) ?_
              refine lv_lload_n hx hb dX4_missingFactor_80 rfl (lv_at hl 0 rfl) ?_
              by_cases hd0 : v2 = 0
              · replace h := k_t hd0 h
                cases h
              · replace h := k_f hd0 h
                refine lv_ldiv hx hb dX4_missingFactor_81 hd0 ?_
                refine lv_ldc2 (v := 9999) hx hb hown (hts _ wm_425) dX4_missingFactor_82 ?_
                refine W.lcmp hx hb dX4_missingFactor_85 ?_
                refine lv_if_le (tgt := 95) hx hb dX4_missingFactor_86 (by decide) (fun cd => ?_) (fun cd => ?_)
                · replace h := k_t cd h
                  clear cd
                  refine lv_lload_n hx hb dX4_missingFactor_95 rfl (lv_at hl 1 rfl) ?_
                  refine lv_lload_n hx hb dX4_missingFactor_96 rfl (lv_at hl 0 rfl) ?_
                  by_cases hd0 : v2 = 0
                  · replace h := k_t hd0 h
                    cases h
                  · replace h := k_f hd0 h
                    refine lv_ldiv hx hb dX4_missingFactor_97 hd0 ?_
                    cases h
                    exact k_lretR hX hr hF dX4_missingFactor_98
                · replace h := k_f cd h
                  clear cd
                  refine lv_ldc2 (v := -1) hx hb hown (hts _ wm_424) dX4_missingFactor_89 ?_
                  refine lv_goto (tgt := 98) hx hb dX4_missingFactor_92 (by decide) ?_
                  cases h
                  exact k_lretR hX hr hF dX4_missingFactor_98
        · replace h := k_t cd h
          clear cd
          exact t_X4_missingFactor_J55 hX hr hZ v1 v2 h locs ls hF (lv_sub hl [1, 0] rfl)
    · replace h := k_f cd h
      clear cd
      refine lv_ldc2 (v := -1) hx hb hown (hts _ wm_424) dX4_missingFactor_38 ?_
      cases h
      exact k_lretR hX hr hF dX4_missingFactor_41
