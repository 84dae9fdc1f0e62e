def wlX4_missingAddend : List Cond := .code yX4_missingAddend cX4_missingAddend 3 (some .long) :: WL_
theorem hd_X4_missingAddend : yX4_missingAddend.cls = RX4 ∧ yX4_missingAddend.cls ≠ "java/lang/invoke/MethodHandle" ∧ yX4_missingAddend.cls ≠ "java/lang/invoke/VarHandle" ∧ (parseMethodDescriptor yX4_missingAddend.desc).map (fun d => d.parameters.length) = some 0 := by decide +kernel
theorem dX4_missingAddend_0 : decode cX4_missingAddend 0 = .ok (.aload_n 0, 1) := by decide +kernel
theorem dX4_missingAddend_1 : decode cX4_missingAddend 1 = .ok (.getfield 22, 3) := by decide +kernel
theorem dX4_missingAddend_4 : decode cX4_missingAddend 4 = .ok (.ifCond .ne 29, 3) := by decide +kernel
theorem dX4_missingAddend_7 : decode cX4_missingAddend 7 = .ok (.aload_n 0, 1) := by decide +kernel
theorem dX4_missingAddend_8 : decode cX4_missingAddend 8 = .ok (.getfield 9, 3) := by decide +kernel
theorem dX4_missingAddend_11 : decode cX4_missingAddend 11 = .ok (.iconst 0, 1) := by decide +kernel
theorem dX4_missingAddend_12 : decode cX4_missingAddend 12 = .ok (.laload, 1) := by decide +kernel
theorem dX4_missingAddend_13 : decode cX4_missingAddend 13 = .ok (.aload_n 0, 1) := by decide +kernel
theorem dX4_missingAddend_14 : decode cX4_missingAddend 14 = .ok (.getfield 9, 3) := by decide +kernel
theorem dX4_missingAddend_17 : decode cX4_missingAddend 17 = .ok (.iconst 1, 1) := by decide +kernel
theorem dX4_missingAddend_18 : decode cX4_missingAddend 18 = .ok (.laload, 1) := by decide +kernel
theorem dX4_missingAddend_19 : decode cX4_missingAddend 19 = .ok (.lcmp, 1) := by decide +kernel
theorem dX4_missingAddend_20 : decode cX4_missingAddend 20 = .ok (.ifCond .ne 9, 3) := by decide +kernel
theorem dX4_missingAddend_23 : decode cX4_missingAddend 23 = .ok (.ldc2_w 41, 3) := by decide +kernel
theorem dX4_missingAddend_26 : decode cX4_missingAddend 26 = .ok (.goto 6, 3) := by decide +kernel
theorem dX4_missingAddend_29 : decode cX4_missingAddend 29 = .ok (.ldc2_w 43, 3) := by decide +kernel
theorem dX4_missingAddend_32 : decode cX4_missingAddend 32 = .ok (.lreturn, 1) := by decide +kernel
theorem dX4_missingAddend_33 : decode cX4_missingAddend 33 = .ok (.aload_n 0, 1) := by decide +kernel
theorem dX4_missingAddend_34 : decode cX4_missingAddend 34 = .ok (.getfield 9, 3) := by decide +kernel
theorem dX4_missingAddend_37 : decode cX4_missingAddend 37 = .ok (.iconst 1, 1) := by decide +kernel
theorem dX4_missingAddend_38 : decode cX4_missingAddend 38 = .ok (.aload_n 0, 1) := by decide +kernel
theorem dX4_missingAddend_39 : decode cX4_missingAddend 39 = .ok (.getfield 29, 3) := by decide +kernel
theorem dX4_missingAddend_42 : decode cX4_missingAddend 42 = .ok (.isub, 1) := by decide +kernel
theorem dX4_missingAddend_43 : decode cX4_missingAddend 43 = .ok (.laload, 1) := by decide +kernel
theorem dX4_missingAddend_44 : decode cX4_missingAddend 44 = .ok (.aload_n 0, 1) := by decide +kernel
theorem dX4_missingAddend_45 : decode cX4_missingAddend 45 = .ok (.getfield 9, 3) := by decide +kernel
theorem dX4_missingAddend_48 : decode cX4_missingAddend 48 = .ok (.aload_n 0, 1) := by decide +kernel
theorem dX4_missingAddend_49 : decode cX4_missingAddend 49 = .ok (.getfield 29, 3) := by decide +kernel
theorem dX4_missingAddend_52 : decode cX4_missingAddend 52 = .ok (.laload, 1) := by decide +kernel
theorem dX4_missingAddend_53 : decode cX4_missingAddend 53 = .ok (.lsub, 1) := by decide +kernel
theorem dX4_missingAddend_54 : decode cX4_missingAddend 54 = .ok (.lstore_n 1, 1) := by decide +kernel
theorem dX4_missingAddend_55 : decode cX4_missingAddend 55 = .ok (.lload_n 1, 1) := by decide +kernel
theorem dX4_missingAddend_56 : decode cX4_missingAddend 56 = .ok (.lconst 0, 1) := by decide +kernel
theorem dX4_missingAddend_57 : decode cX4_missingAddend 57 = .ok (.lcmp, 1) := by decide +kernel
theorem dX4_missingAddend_58 : decode cX4_missingAddend 58 = .ok (.ifCond .lt 11, 3) := by decide +kernel
theorem dX4_missingAddend_61 : decode cX4_missingAddend 61 = .ok (.lload_n 1, 1) := by decide +kernel
theorem dX4_missingAddend_62 : decode cX4_missingAddend 62 = .ok (.ldc2_w 45, 3) := by decide +kernel
theorem dX4_missingAddend_65 : decode cX4_missingAddend 65 = .ok (.lcmp, 1) := by decide +kernel
theorem dX4_missingAddend_66 : decode cX4_missingAddend 66 = .ok (.ifCond .le 9, 3) := by decide +kernel
theorem dX4_missingAddend_69 : decode cX4_missingAddend 69 = .ok (.ldc2_w 43, 3) := by decide +kernel
theorem dX4_missingAddend_72 : decode cX4_missingAddend 72 = .ok (.goto 4, 3) := by decide +kernel
theorem dX4_missingAddend_75 : decode cX4_missingAddend 75 = .ok (.lload_n 1, 1) := by decide +kernel
theorem dX4_missingAddend_76 : decode cX4_missingAddend 76 = .ok (.lreturn, 1) := by decide +kernel
set_option maxHeartbeats 4000000 in
set_option maxRecDepth 100000 in
theorem c_X4_missingAddend {l : Launch} {D : va_G} {aC : Nat → ClassId} {a_d : Nat → Nat} (s_d : Ob_T) {out : Int64} (h : f_X4_missingAddend s_d = some out) : M_R l yX4_missingAddend wlX4_missingAddend 0 0 D aC [.ref (a_d 0)] (wd_X4 aC a_d s_d) (some (.long out)) := by
  refine k_entR (cc := cX4_missingAddend) (ret := (some .long)) (maxL := 3) (own := RX4) (by decide) rfl rfl rfl ?_
  intro p e s m below meth c A ls hX hr hZ hl
  have hl : lv_has ls 3 [(0, .ref (a_d 0))] := hl
  generalize ([.ref (a_d 0)] : List Value).toArray = args at hX ⊢
  obtain ⟨hx, hb, hml, hown, hts, hK, hA, hlk⟩ := id hX
  unfold f_X4_missingAddend at h
  have hF : ∀ q ∈ ([] : List Loc), False := fun _ h => nomatch h
  generalize ([] : List Loc) = locs at hF ⊢
  refine lv_aload_n hx hb dX4_missingAddend_0 rfl (lv_at hl 0 rfl) ?_
  refine k_get hX hZ.1 0 4 rfl rfl iw_X4 3 rfl (wm_423) (v := .int (o_F s_d 3)) rfl dX4_missingAddend_1 ?_
  refine lv_if_ne (tgt := 33) hx hb dX4_missingAddend_4 (by decide) (fun cd => ?_) (fun cd => ?_)
  · replace h := k_f cd h
    clear cd
    refine lv_aload_n hx hb dX4_missingAddend_33 rfl (lv_at hl 0 rfl) ?_
    refine k_get hX hZ.1 0 4 rfl rfl iw_X4 0 rfl (wm_417) (v := .ref (a_d 1)) rfl dX4_missingAddend_34 ?_
    refine lv_iconst (v := 1) hx hb dX4_missingAddend_37 (by decide) ?_
    refine lv_aload_n hx hb dX4_missingAddend_38 rfl (lv_at hl 0 rfl) ?_
    refine k_get hX hZ.1 0 4 rfl rfl iw_X4 5 rfl (wm_421) (v := .int (o_F s_d 5)) rfl dX4_missingAddend_39 ?_
    refine lv_isub hx hb dX4_missingAddend_42 ?_
    refine k_lald hX hZ.1 1 rfl h dX4_missingAddend_43 (fun v1 h => ?_)
    refine lv_aload_n hx hb dX4_missingAddend_44 rfl (lv_at hl 0 rfl) ?_
    refine k_get hX hZ.1 0 4 rfl rfl iw_X4 0 rfl (wm_417) (v := .ref (a_d 1)) rfl dX4_missingAddend_45 ?_
    refine lv_aload_n hx hb dX4_missingAddend_48 rfl (lv_at hl 0 rfl) ?_
    refine k_get hX hZ.1 0 4 rfl rfl iw_X4 5 rfl (wm_421) (v := .int (o_F s_d 5)) rfl dX4_missingAddend_49 ?_
    refine k_lald hX hZ.1 1 rfl h dX4_missingAddend_52 (fun v2 h => ?_)
    refine lv_lsub hx hb dX4_missingAddend_53 ?_
    refine lv_lstore_n (lv' := [(1, .long (v1 - v2)), (0, .ref (a_d 0))]) hx hb dX4_missingAddend_54 rfl hl (by decide) rfl (fun ls hl => ?_)
    refine lv_lload_n hx hb dX4_missingAddend_55 rfl (lv_at hl 0 rfl) ?_
    refine lv_lconst (v := 0) hx hb dX4_missingAddend_56 (by decide) ?_
    refine W.lcmp hx hb dX4_missingAddend_57 ?_
    refine lv_if_lt (tgt := 69) hx hb dX4_missingAddend_58 (by decide) (fun cd => ?_) (fun cd => ?_)
    · replace h := k_t cd h
      clear cd
      refine lv_ldc2 (v := -1) hx hb hown (hts _ wm_430) dX4_missingAddend_69 ?_
      refine lv_goto (tgt := 76) hx hb dX4_missingAddend_72 (by decide) ?_
      cases h
      exact k_lretR hX hr hF dX4_missingAddend_76
    · replace h := k_f cd h
      clear cd
      refine lv_lload_n hx hb dX4_missingAddend_61 rfl (lv_at hl 0 rfl) ?_
      refine lv_ldc2 (v := 9999) hx hb hown (hts _ wm_431) dX4_missingAddend_62 ?_
      refine W.lcmp hx hb dX4_missingAddend_65 ?_
      refine lv_if_le (tgt := 75) hx hb dX4_missingAddend_66 (by decide) (fun cd => ?_) (fun cd => ?_)
      · replace h := k_t cd h
        clear cd
        refine lv_lload_n hx hb dX4_missingAddend_75 rfl (lv_at hl 0 rfl) ?_
        cases h
        exact k_lretR hX hr hF dX4_missingAddend_76
      · replace h := k_f cd h
        clear cd
        refine lv_ldc2 (v := -1) hx hb hown (hts _ wm_430) dX4_missingAddend_69 ?_
        refine lv_goto (tgt := 76) hx hb dX4_missingAddend_72 (by decide) ?_
        cases h
        exact k_lretR hX hr hF dX4_missingAddend_76
  · replace h := k_t cd h
    clear cd
    refine lv_aload_n hx hb dX4_missingAddend_7 rfl (lv_at hl 0 rfl) ?_
    refine k_get hX hZ.1 0 4 rfl rfl iw_X4 0 rfl (wm_417) (v := .ref (a_d 1)) rfl dX4_missingAddend_8 ?_
    refine lv_iconst (v := 0) hx hb dX4_missingAddend_11 (by decide) ?_
    refine k_lald hX hZ.1 1 rfl h dX4_missingAddend_12 (fun v3 h => ?_)
    refine lv_aload_n hx hb dX4_missingAddend_13 rfl (lv_at hl 0 rfl) ?_
    refine k_get hX hZ.1 0 4 rfl rfl iw_X4 0 rfl (wm_417) (v := .ref (a_d 1)) rfl dX4_missingAddend_14 ?_
    refine lv_iconst (v := 1) hx hb dX4_missingAddend_17 (by decide) ?_
    refine k_lald hX hZ.1 1 rfl h dX4_missingAddend_18 (fun v4 h => ?_)
    refine W.lcmp hx hb dX4_missingAddend_19 ?_
    refine lv_if_ne (tgt := 29) hx hb dX4_missingAddend_20 (by decide) (fun cd => ?_) (fun cd => ?_)
    · replace h := k_f cd h
      clear cd
      refine lv_ldc2 (v := -1) hx hb hown (hts _ wm_430) dX4_missingAddend_29 ?_
      cases h
      exact k_lretR hX hr hF dX4_missingAddend_32
    · replace h := k_t cd h
      clear cd
      refine lv_ldc2 (v := -2) hx hb hown (hts _ wm_432) dX4_missingAddend_23 ?_
      refine lv_goto (tgt := 32) hx hb dX4_missingAddend_26 (by decide) ?_
      cases h
      exact k_lretR hX hr hF dX4_missingAddend_32
def wlX4_missingFactor : List Cond := .code yX4_missingFactor cX4_missingFactor 5 (some .long) :: WL_
theorem hd_X4_missingFactor : yX4_missingFactor.cls = RX4 ∧ yX4_missingFactor.cls ≠ "java/lang/invoke/MethodHandle" ∧ yX4_missingFactor.cls ≠ "java/lang/invoke/VarHandle" ∧ (parseMethodDescriptor yX4_missingFactor.desc).map (fun d => d.parameters.length) = some 0 := by decide +kernel
theorem dX4_missingFactor_0 : decode cX4_missingFactor 0 = .ok (.aload_n 0, 1) := by decide +kernel
theorem dX4_missingFactor_1 : decode cX4_missingFactor 1 = .ok (.iconst 1, 1) := by decide +kernel
theorem dX4_missingFactor_2 : decode cX4_missingFactor 2 = .ok (.aload_n 0, 1) := by decide +kernel
theorem dX4_missingFactor_3 : decode cX4_missingFactor 3 = .ok (.getfield 29, 3) := by decide +kernel
theorem dX4_missingFactor_6 : decode cX4_missingFactor 6 = .ok (.isub, 1) := by decide +kernel
theorem dX4_missingFactor_7 : decode cX4_missingFactor 7 = .ok (.invokevirtual 37, 3) := by decide +kernel
theorem dX4_missingFactor_10 : decode cX4_missingFactor 10 = .ok (.lstore_n 1, 1) := by decide +kernel
theorem dX4_missingFactor_11 : decode cX4_missingFactor 11 = .ok (.aload_n 0, 1) := by decide +kernel
theorem dX4_missingFactor_12 : decode cX4_missingFactor 12 = .ok (.aload_n 0, 1) := by decide +kernel
theorem dX4_missingFactor_13 : decode cX4_missingFactor 13 = .ok (.getfield 29, 3) := by decide +kernel
theorem dX4_missingFactor_16 : decode cX4_missingFactor 16 = .ok (.invokevirtual 37, 3) := by decide +kernel
theorem dX4_missingFactor_19 : decode cX4_missingFactor 19 = .ok (.lstore_n 3, 1) := by decide +kernel
theorem dX4_missingFactor_20 : decode cX4_missingFactor 20 = .ok (.lload_n 1, 1) := by decide +kernel
theorem dX4_missingFactor_21 : decode cX4_missingFactor 21 = .ok (.ldc2_w 35, 3) := by decide +kernel
theorem dX4_missingFactor_24 : decode cX4_missingFactor 24 = .ok (.lcmp, 1) := by decide +kernel
theorem dX4_missingFactor_25 : decode cX4_missingFactor 25 = .ok (.ifCond .gt 11, 3) := by decide +kernel
theorem dX4_missingFactor_28 : decode cX4_missingFactor 28 = .ok (.lload_n 3, 1) := by decide +kernel
theorem dX4_missingFactor_29 : decode cX4_missingFactor 29 = .ok (.ldc2_w 35, 3) := by decide +kernel
theorem dX4_missingFactor_32 : decode cX4_missingFactor 32 = .ok (.lcmp, 1) := by decide +kernel
theorem dX4_missingFactor_33 : decode cX4_missingFactor 33 = .ok (.ifCond .le 7, 3) := by decide +kernel
theorem dX4_missingFactor_36 : decode cX4_missingFactor 36 = .ok (.ldc2_w 43, 3) := by decide +kernel
theorem dX4_missingFactor_39 : decode cX4_missingFactor 39 = .ok (.lreturn, 1) := by decide +kernel
theorem dX4_missingFactor_40 : decode cX4_missingFactor 40 = .ok (.aload_n 0, 1) := by decide +kernel
theorem dX4_missingFactor_41 : decode cX4_missingFactor 41 = .ok (.getfield 22, 3) := by decide +kernel
theorem dX4_missingFactor_44 : decode cX4_missingFactor 44 = .ok (.ifCond .eq 9, 3) := by decide +kernel
theorem dX4_missingFactor_47 : decode cX4_missingFactor 47 = .ok (.lload_n 3, 1) := by decide +kernel
theorem dX4_missingFactor_48 : decode cX4_missingFactor 48 = .ok (.lconst 0, 1) := by decide +kernel
theorem dX4_missingFactor_49 : decode cX4_missingFactor 49 = .ok (.lcmp, 1) := by decide +kernel
theorem dX4_missingFactor_50 : decode cX4_missingFactor 50 = .ok (.ifCond .ne 19, 3) := by decide +kernel
theorem dX4_missingFactor_53 : decode cX4_missingFactor 53 = .ok (.lload_n 1, 1) := by decide +kernel
theorem dX4_missingFactor_54 : decode cX4_missingFactor 54 = .ok (.lload_n 3, 1) := by decide +kernel
theorem dX4_missingFactor_55 : decode cX4_missingFactor 55 = .ok (.lcmp, 1) := by decide +kernel
theorem dX4_missingFactor_56 : decode cX4_missingFactor 56 = .ok (.ifCond .ne 9, 3) := by decide +kernel
theorem dX4_missingFactor_59 : decode cX4_missingFactor 59 = .ok (.ldc2_w 41, 3) := by decide +kernel
theorem dX4_missingFactor_62 : decode cX4_missingFactor 62 = .ok (.goto 6, 3) := by decide +kernel
theorem dX4_missingFactor_65 : decode cX4_missingFactor 65 = .ok (.ldc2_w 43, 3) := by decide +kernel
theorem dX4_missingFactor_68 : decode cX4_missingFactor 68 = .ok (.lreturn, 1) := by decide +kernel
theorem dX4_missingFactor_69 : decode cX4_missingFactor 69 = .ok (.lload_n 1, 1) := by decide +kernel
theorem dX4_missingFactor_70 : decode cX4_missingFactor 70 = .ok (.lload_n 3, 1) := by decide +kernel
theorem dX4_missingFactor_71 : decode cX4_missingFactor 71 = .ok (.lrem, 1) := by decide +kernel
theorem dX4_missingFactor_72 : decode cX4_missingFactor 72 = .ok (.lconst 0, 1) := by decide +kernel
theorem dX4_missingFactor_73 : decode cX4_missingFactor 73 = .ok (.lcmp, 1) := by decide +kernel
theorem dX4_missingFactor_74 : decode cX4_missingFactor 74 = .ok (.ifCond .ne 13, 3) := by decide +kernel
theorem dX4_missingFactor_77 : decode cX4_missingFactor 77 = .ok (.lload_n 1, 1) := by decide +kernel
theorem dX4_missingFactor_78 : decode cX4_missingFactor 78 = .ok (.lload_n 3, 1) := by decide +kernel
theorem dX4_missingFactor_79 : decode cX4_missingFactor 79 = .ok (.ldiv, 1) := by decide +kernel
theorem dX4_missingFactor_80 : decode cX4_missingFactor 80 = .ok (.ldc2_w 45, 3) := by decide +kernel
theorem dX4_missingFactor_83 : decode cX4_missingFactor 83 = .ok (.lcmp, 1) := by decide +kernel
theorem dX4_missingFactor_84 : decode cX4_missingFactor 84 = .ok (.ifCond .le 9, 3) := by decide +kernel
theorem dX4_missingFactor_87 : decode cX4_missingFactor 87 = .ok (.ldc2_w 43, 3) := by decide +kernel
theorem dX4_missingFactor_90 : decode cX4_missingFactor 90 = .ok (.goto 6, 3) := by decide +kernel
theorem dX4_missingFactor_93 : decode cX4_missingFactor 93 = .ok (.lload_n 1, 1) := by decide +kernel
theorem dX4_missingFactor_94 : decode cX4_missingFactor 94 = .ok (.lload_n 3, 1) := by decide +kernel
theorem dX4_missingFactor_95 : decode cX4_missingFactor 95 = .ok (.ldiv, 1) := by decide +kernel
theorem dX4_missingFactor_96 : decode cX4_missingFactor 96 = .ok (.lreturn, 1) := by decide +kernel
set_option maxHeartbeats 4000000 in
set_option maxRecDepth 100000 in
theorem t_X4_missingFactor_J53 {p : Program} {l : Launch} {e : Env} {s : State} {m : MethodId} {args : Array Value} {below : List Frame} {meth : Method} {c : Code} {D : va_G} {aC : Nat → ClassId} {A : Nat → Prop} {a_d : Nat → Nat} {out : Int64} {s_d : Ob_T} (hX : K_X p s m args meth c cX4_missingFactor 5 WL_ RX4 D aC A) (hr : meth.sig.returnType = (some .long)) (hZ : va_P D vwCl (wd_X4 aC a_d s_d) s.heap ∧ va_D (fun _ => True) (wd_X4 aC a_d s_d)) (x1 : Int64) (x3 : Int64) (h : f_X4_missingFactor_J53 x1 x3 s_d = some out) (locs : List Loc) (ls : Array Slot) (hF : ∀ q ∈ locs, False) (hl : lv_has ls 5 [(1, .long x1), (3, .long x3)]) : W p l e (R_m 1 21) s m args below meth c s.heap locs 0 0 (MQ below (Q_R (some (.long out))) args s 0 0 (fun _ => False)) (F0 m 53 ls []) := by
  obtain ⟨hx, hb, hml, hown, hts, hK, hA, hlk⟩ := id hX
  unfold f_X4_missingFactor_J53 at h
  refine lv_lload_n hx hb dX4_missingFactor_53 rfl (lv_at hl 0 rfl) ?_
  refine lv_lload_n hx hb dX4_missingFactor_54 rfl (lv_at hl 1 rfl) ?_
  refine W.lcmp hx hb dX4_missingFactor_55 ?_
  refine lv_if_ne (tgt := 65) hx hb dX4_missingFactor_56 (by decide) (fun cd => ?_) (fun cd => ?_)
  · replace h := k_f cd h
    clear cd
    refine lv_ldc2 (v := -1) hx hb hown (hts _ wm_430) dX4_missingFactor_65 ?_
    cases h
    exact k_lretR hX hr hF dX4_missingFactor_68
  · replace h := k_t cd h
    clear cd
    refine lv_ldc2 (v := -2) hx hb hown (hts _ wm_432) dX4_missingFactor_59 ?_
    refine lv_goto (tgt := 68) hx hb dX4_missingFactor_62 (by decide) ?_
    cases h
    exact k_lretR hX hr hF dX4_missingFactor_68
set_option maxHeartbeats 4000000 in
set_option maxRecDepth 100000 in
theorem c_X4_missingFactor {l : Launch} {D : va_G} {aC : Nat → ClassId} {a_d : Nat → Nat} (s_d : Ob_T) {out : Int64} (h : f_X4_missingFactor s_d = some out) : M_R l yX4_missingFactor wlX4_missingFactor 1 21 D aC [.ref (a_d 0)] (wd_X4 aC a_d s_d) (some (.long out)) := by
  refine k_entR (cc := cX4_missingFactor) (ret := (some .long)) (maxL := 5) (own := RX4) (by decide) rfl rfl rfl ?_
  intro p e s m below meth c A ls hX hr hZ hl
  have hl : lv_has ls 5 [(0, .ref (a_d 0))] := hl
  generalize ([.ref (a_d 0)] : List Value).toArray = args at hX ⊢
  obtain ⟨hx, hb, hml, hown, hts, hK, hA, hlk⟩ := id hX
  unfold f_X4_missingFactor at h
  have hF : ∀ q ∈ ([] : List Loc), False := fun _ h => nomatch h
  generalize ([] : List Loc) = locs at hF ⊢
  refine lv_aload_n hx hb dX4_missingFactor_0 rfl (lv_at hl 0 rfl) ?_
  refine lv_iconst (v := 1) hx hb dX4_missingFactor_1 (by decide) ?_
  refine lv_aload_n hx hb dX4_missingFactor_2 rfl (lv_at hl 0 rfl) ?_
  refine k_get hX hZ.1 0 4 rfl rfl iw_X4 5 rfl (wm_421) (v := .int (o_F s_d 5)) rfl dX4_missingFactor_3 ?_
  refine lv_isub hx hb dX4_missingFactor_6 ?_
  obtain ⟨u1, hu, h⟩ := k_bd h
  refine k_vRRs (As := [.int ((1 : Int32) - (o_F s_d 5))]) (rest := []) (v := some (.long u1)) (st1 := [.long u1]) hX hl.1 hZ hF (c_X4_product (a_d := a_d) s_d ((1 : Int32) - (o_F s_d 5)) hu) (gv_ wm_425 wm_428 wm_429 wm_426 wm_427) rfl hd_X4_product ⟨rfl, rfl⟩ 4 0 rfl rfl rfl rfl rfl dX4_missingFactor_7 rfl ⟨rfl, rfl⟩ (fun locs hF => ?_)
  clear hu
  refine lv_lstore_n (lv' := [(1, .long u1), (0, .ref (a_d 0))]) hx hb dX4_missingFactor_10 rfl hl (by decide) rfl (fun ls hl => ?_)
  refine lv_aload_n hx hb dX4_missingFactor_11 rfl (lv_at hl 1 rfl) ?_
  refine lv_aload_n hx hb dX4_missingFactor_12 rfl (lv_at hl 1 rfl) ?_
  refine k_get hX hZ.1 0 4 rfl rfl iw_X4 5 rfl (wm_421) (v := .int (o_F s_d 5)) rfl dX4_missingFactor_13 ?_
  obtain ⟨u2, hu, h⟩ := k_bd h
  refine k_vRRs (As := [.int (o_F s_d 5)]) (rest := []) (v := some (.long u2)) (st1 := [.long u2]) hX hl.1 hZ hF (c_X4_product (a_d := a_d) s_d (o_F s_d 5) hu) (gv_ wm_425 wm_428 wm_429 wm_426 wm_427) rfl hd_X4_product ⟨rfl, rfl⟩ 4 0 rfl rfl rfl rfl rfl dX4_missingFactor_16 rfl ⟨rfl, rfl⟩ (fun locs hF => ?_)
  clear hu
  refine lv_lstore_n (lv' := [(3, .long u2), (1, .long u1), (0, .ref (a_d 0))]) hx hb dX4_missingFactor_19 rfl hl (by decide) rfl (fun ls hl => ?_)
  refine lv_lload_n hx hb dX4_missingFactor_20 rfl (lv_at hl 1 rfl) ?_
  refine lv_ldc2 (v := 999999999999) hx hb hown (hts _ wm_424) dX4_missingFactor_21 ?_
  refine W.lcmp hx hb dX4_missingFactor_24 ?_
  refine lv_if_gt (tgt := 36) hx hb dX4_missingFactor_25 (by decide) (fun cd => ?_) (fun cd => ?_)
  · replace h := k_t cd h
    clear cd
    refine lv_ldc2 (v := -1) hx hb hown (hts _ wm_430) dX4_missingFactor_36 ?_
    cases h
    exact k_lretR hX hr hF dX4_missingFactor_39
  · replace h := k_f cd h
    clear cd
    refine lv_lload_n hx hb dX4_missingFactor_28 rfl (lv_at hl 0 rfl) ?_
    refine lv_ldc2 (v := 999999999999) hx hb hown (hts _ wm_424) dX4_missingFactor_29 ?_
    refine W.lcmp hx hb dX4_missingFactor_32 ?_
    refine lv_if_le (tgt := 40) hx hb dX4_missingFactor_33 (by decide) (fun cd => ?_) (fun cd => ?_)
    · replace h := k_t cd h
      clear cd
      refine lv_aload_n hx hb dX4_missingFactor_40 rfl (lv_at hl 2 rfl) ?_
      refine k_get hX hZ.1 0 4 rfl rfl iw_X4 3 rfl (wm_423) (v := .int (o_F s_d 3)) rfl dX4_missingFactor_41 ?_
      refine lv_if_eq (tgt := 53) hx hb dX4_missingFactor_44 (by decide) (fun cd => ?_) (fun cd => ?_)
      · replace h := k_t cd h
        clear cd
        exact t_X4_missingFactor_J53 hX hr hZ u1 u2 h locs ls hF (lv_sub hl [1, 0] rfl)
      · replace h := k_f cd h
        clear cd
        refine lv_lload_n hx hb dX4_missingFactor_47 rfl (lv_at hl 0 rfl) ?_
        refine lv_lconst (v := 0) hx hb dX4_missingFactor_48 (by decide) ?_
        refine W.lcmp hx hb dX4_missingFactor_49 ?_
        refine lv_if_ne (tgt := 69) hx hb dX4_missingFactor_50 (by decide) (fun cd => ?_) (fun cd => ?_)
        · replace h := k_f cd h
          clear cd
          refine lv_lload_n hx hb dX4_missingFactor_69 rfl (lv_at hl 1 rfl) ?_
          refine lv_lload_n hx hb dX4_missingFactor_70 rfl (lv_at hl 0 rfl) ?_
          by_cases hd0 : u2 = 0
          · replace h := k_t hd0 h
            cases h
          · replace h := k_f hd0 h
            refine lv_lrem hx hb dX4_missingFactor_71 hd0 ?_
            refine lv_lconst (v := 0) hx hb dX4_missingFactor_72 (by decide) ?_
            refine W.lcmp hx hb dX4_missingFactor_73 ?_
            refine lv_if_ne (tgt := 87) hx hb dX4_missingFactor_74 (by decide) (fun cd => ?_) (fun cd => ?_)
            · replace h := k_f cd h
              clear cd
              refine lv_ldc2 (v := -1) hx hb hown (hts _ wm_430) dX4_missingFactor_87 ?_
              refine lv_goto (tgt := 96) hx hb dX4_missingFactor_90 (by decide) ?_
              cases h
              exact k_lretR hX hr hF dX4_missingFactor_96
            · replace h := k_t cd h
              clear cd
              refine lv_lload_n hx hb dX4_missingFactor_77 rfl (lv_at hl 1 rfl) ?_
              refine lv_lload_n hx hb dX4_missingFactor_78 rfl (lv_at hl 0 rfl) ?_
              by_cases hd0 : u2 = 0
              · replace h := k_t hd0 h
                cases h
              · replace h := k_f hd0 h
                refine lv_ldiv hx hb dX4_missingFactor_79 hd0 ?_
                refine lv_ldc2 (v := 9999) hx hb hown (hts _ wm_431) dX4_missingFactor_80 ?_
                refine W.lcmp hx hb dX4_missingFactor_83 ?_
                refine lv_if_le (tgt := 93) hx hb dX4_missingFactor_84 (by decide) (fun cd => ?_) (fun cd => ?_)
                · replace h := k_t cd h
                  clear cd
                  refine lv_lload_n hx hb dX4_missingFactor_93 rfl (lv_at hl 1 rfl) ?_
                  refine lv_lload_n hx hb dX4_missingFactor_94 rfl (lv_at hl 0 rfl) ?_
                  by_cases hd0 : u2 = 0
                  · replace h := k_t hd0 h
                    cases h
                  · replace h := k_f hd0 h
                    refine lv_ldiv hx hb dX4_missingFactor_95 hd0 ?_
                    cases h
                    exact k_lretR hX hr hF dX4_missingFactor_96
                · replace h := k_f cd h
                  clear cd
                  refine lv_ldc2 (v := -1) hx hb hown (hts _ wm_430) dX4_missingFactor_87 ?_
                  refine lv_goto (tgt := 96) hx hb dX4_missingFactor_90 (by decide) ?_
                  cases h
                  exact k_lretR hX hr hF dX4_missingFactor_96
        · replace h := k_t cd h
          clear cd
          exact t_X4_missingFactor_J53 hX hr hZ u1 u2 h locs ls hF (lv_sub hl [1, 0] rfl)
    · replace h := k_f cd h
      clear cd
      refine lv_ldc2 (v := -1) hx hb hown (hts _ wm_430) dX4_missingFactor_36 ?_
      cases h
      exact k_lretR hX hr hF dX4_missingFactor_39
