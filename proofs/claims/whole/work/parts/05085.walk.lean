def wlX6_sortOf : List Cond := .code yX6_sortOf cX6_sortOf 1 (some .int) :: WL_
theorem hd_X6_sortOf : yX6_sortOf.cls ≠ "java/lang/invoke/MethodHandle" ∧ yX6_sortOf.cls ≠ "java/lang/invoke/VarHandle" ∧ (parseMethodDescriptor yX6_sortOf.desc).map (fun d => d.parameters.length) = some 1 := by decide +kernel
theorem dX6_sortOf_0 : decode cX6_sortOf 0 = .ok (.iload_n 0, 1) := by decide +kernel
theorem dX6_sortOf_1 : decode cX6_sortOf 1 = .ok (.bipush 97, 2) := by decide +kernel
theorem dX6_sortOf_3 : decode cX6_sortOf 3 = .ok (.if_icmp .lt 11, 3) := by decide +kernel
theorem dX6_sortOf_6 : decode cX6_sortOf 6 = .ok (.iload_n 0, 1) := by decide +kernel
theorem dX6_sortOf_7 : decode cX6_sortOf 7 = .ok (.bipush 122, 2) := by decide +kernel
theorem dX6_sortOf_9 : decode cX6_sortOf 9 = .ok (.if_icmp .gt 5, 3) := by decide +kernel
theorem dX6_sortOf_12 : decode cX6_sortOf 12 = .ok (.iconst 1, 1) := by decide +kernel
theorem dX6_sortOf_13 : decode cX6_sortOf 13 = .ok (.ireturn, 1) := by decide +kernel
theorem dX6_sortOf_14 : decode cX6_sortOf 14 = .ok (.iload_n 0, 1) := by decide +kernel
theorem dX6_sortOf_15 : decode cX6_sortOf 15 = .ok (.bipush 48, 2) := by decide +kernel
theorem dX6_sortOf_17 : decode cX6_sortOf 17 = .ok (.if_icmp .lt 13, 3) := by decide +kernel
theorem dX6_sortOf_20 : decode cX6_sortOf 20 = .ok (.iload_n 0, 1) := by decide +kernel
theorem dX6_sortOf_21 : decode cX6_sortOf 21 = .ok (.bipush 57, 2) := by decide +kernel
theorem dX6_sortOf_23 : decode cX6_sortOf 23 = .ok (.if_icmp .gt 7, 3) := by decide +kernel
theorem dX6_sortOf_26 : decode cX6_sortOf 26 = .ok (.iconst 2, 1) := by decide +kernel
theorem dX6_sortOf_27 : decode cX6_sortOf 27 = .ok (.goto 4, 3) := by decide +kernel
theorem dX6_sortOf_30 : decode cX6_sortOf 30 = .ok (.iconst 3, 1) := by decide +kernel
theorem dX6_sortOf_31 : decode cX6_sortOf 31 = .ok (.ireturn, 1) := by decide +kernel
set_option maxHeartbeats 4000000 in
set_option maxRecDepth 100000 in
theorem t_X6_sortOf_J14 {p : Program} {l : Launch} {e : Env} {s : State} {m : MethodId} {args : Array Value} {below : List Frame} {meth : Method} {c : Code} {D : va_G} {aC : Nat → ClassId} {A : Nat → Prop} {out : Int32} (hX : K_X p s m args meth c cX6_sortOf 1 WL_ RX6 D aC A) (hr : meth.sig.returnType = (some .int)) (hZ : va_P D vwCl (([] : va_W)) s.heap ∧ va_D (fun _ => True) (([] : va_W))) (x0 : Int32) (h : f_X6_sortOf_J14 x0 = some out) (locs : List Loc) (ls : Array Slot) (hF : ∀ q ∈ locs, False) (hl : lv_has ls 1 [(0, .int x0)]) : W p l e (R_m 0 0) s m args below meth c s.heap locs 0 0 (MQ below (Q_R (some (.int out))) args s 0 0 (fun _ => False)) (F0 m 14 ls []) := by
  obtain ⟨hx, hb, hml, hown, hts, hK, hA, hlk⟩ := id hX
  unfold f_X6_sortOf_J14 at h
  refine lv_iload_n hx hb dX6_sortOf_14 rfl (lv_at hl 0 rfl) ?_
  refine lv_bipush (v := 48) hx hb dX6_sortOf_15 (by decide) ?_
  refine lv_icmp_lt (tgt := 30) hx hb dX6_sortOf_17 (by decide) (fun cd => ?_) (fun cd => ?_)
  · replace h := k_t cd h
    clear cd
    refine lv_iconst (v := 3) hx hb dX6_sortOf_30 (by decide) ?_
    cases h
    exact k_iretR hX hr hF dX6_sortOf_31
  · replace h := k_f cd h
    clear cd
    refine lv_iload_n hx hb dX6_sortOf_20 rfl (lv_at hl 0 rfl) ?_
    refine lv_bipush (v := 57) hx hb dX6_sortOf_21 (by decide) ?_
    refine lv_icmp_gt (tgt := 30) hx hb dX6_sortOf_23 (by decide) (fun cd => ?_) (fun cd => ?_)
    · replace h := k_t cd h
      clear cd
      refine lv_iconst (v := 3) hx hb dX6_sortOf_30 (by decide) ?_
      cases h
      exact k_iretR hX hr hF dX6_sortOf_31
    · replace h := k_f cd h
      clear cd
      refine lv_iconst (v := 2) hx hb dX6_sortOf_26 (by decide) ?_
      refine lv_goto (tgt := 31) hx hb dX6_sortOf_27 (by decide) ?_
      cases h
      exact k_iretR hX hr hF dX6_sortOf_31
set_option maxHeartbeats 4000000 in
set_option maxRecDepth 100000 in
theorem c_X6_sortOf {l : Launch} {D : va_G} {aC : Nat → ClassId} (x0 : Int32) {out : Int32} (h : f_X6_sortOf x0 = some out) : M_R l yX6_sortOf wlX6_sortOf 0 0 D aC [.int x0] (([] : va_W)) (some (.int out)) := by
  refine k_entR (cc := cX6_sortOf) (ret := (some .int)) (maxL := 1) (own := RX6) (by decide) rfl rfl rfl ?_
  intro p e s m below meth c A ls hX hr hZ hl
  have hl : lv_has ls 1 [(0, .int x0)] := hl
  generalize ([.int x0] : List Value).toArray = args at hX ⊢
  obtain ⟨hx, hb, hml, hown, hts, hK, hA, hlk⟩ := id hX
  unfold f_X6_sortOf at h
  have hF : ∀ q ∈ ([] : List Loc), False := fun _ h => nomatch h
  generalize ([] : List Loc) = locs at hF ⊢
  refine lv_iload_n hx hb dX6_sortOf_0 rfl (lv_at hl 0 rfl) ?_
  refine lv_bipush (v := 97) hx hb dX6_sortOf_1 (by decide) ?_
  refine lv_icmp_lt (tgt := 14) hx hb dX6_sortOf_3 (by decide) (fun cd => ?_) (fun cd => ?_)
  · replace h := k_t cd h
    clear cd
    exact t_X6_sortOf_J14 hX hr hZ x0 h locs ls hF (lv_sub hl [0] rfl)
  · replace h := k_f cd h
    clear cd
    refine lv_iload_n hx hb dX6_sortOf_6 rfl (lv_at hl 0 rfl) ?_
    refine lv_bipush (v := 122) hx hb dX6_sortOf_7 (by decide) ?_
    refine lv_icmp_gt (tgt := 14) hx hb dX6_sortOf_9 (by decide) (fun cd => ?_) (fun cd => ?_)
    · replace h := k_t cd h
      clear cd
      exact t_X6_sortOf_J14 hX hr hZ x0 h locs ls hF (lv_sub hl [0] rfl)
    · replace h := k_f cd h
      clear cd
      refine lv_iconst (v := 1) hx hb dX6_sortOf_12 (by decide) ?_
      cases h
      exact k_iretR hX hr hF dX6_sortOf_13
def wlX6_step : List Cond := .code yX6_step cX6_step 1 none :: WL_
theorem hd_X6_step : yX6_step.cls = RX6 ∧ yX6_step.cls ≠ "java/lang/invoke/MethodHandle" ∧ yX6_step.cls ≠ "java/lang/invoke/VarHandle" ∧ (parseMethodDescriptor yX6_step.desc).map (fun d => d.parameters.length) = some 0 := by decide +kernel
theorem dX6_step_0 : decode cX6_step 0 = .ok (.aload_n 0, 1) := by decide +kernel
theorem dX6_step_1 : decode cX6_step 1 = .ok (.getfield 22, 3) := by decide +kernel
theorem dX6_step_4 : decode cX6_step 4 = .ok (.aload_n 0, 1) := by decide +kernel
theorem dX6_step_5 : decode cX6_step 5 = .ok (.getfield 15, 3) := by decide +kernel
theorem dX6_step_8 : decode cX6_step 8 = .ok (.if_icmp .ge 30, 3) := by decide +kernel
theorem dX6_step_11 : decode cX6_step 11 = .ok (.aload_n 0, 1) := by decide +kernel
theorem dX6_step_12 : decode cX6_step 12 = .ok (.getfield 9, 3) := by decide +kernel
theorem dX6_step_15 : decode cX6_step 15 = .ok (.aload_n 0, 1) := by decide +kernel
theorem dX6_step_16 : decode cX6_step 16 = .ok (.getfield 22, 3) := by decide +kernel
theorem dX6_step_19 : decode cX6_step 19 = .ok (.caload, 1) := by decide +kernel
theorem dX6_step_20 : decode cX6_step 20 = .ok (.bipush 32, 2) := by decide +kernel
theorem dX6_step_22 : decode cX6_step 22 = .ok (.if_icmp .ne 16, 3) := by decide +kernel
theorem dX6_step_25 : decode cX6_step 25 = .ok (.aload_n 0, 1) := by decide +kernel
theorem dX6_step_26 : decode cX6_step 26 = .ok (.dup, 1) := by decide +kernel
theorem dX6_step_27 : decode cX6_step 27 = .ok (.getfield 22, 3) := by decide +kernel
theorem dX6_step_30 : decode cX6_step 30 = .ok (.iconst 1, 1) := by decide +kernel
theorem dX6_step_31 : decode cX6_step 31 = .ok (.iadd, 1) := by decide +kernel
theorem dX6_step_32 : decode cX6_step 32 = .ok (.putfield 22, 3) := by decide +kernel
theorem dX6_step_35 : decode cX6_step 35 = .ok (.goto (-35), 3) := by decide +kernel
theorem dX6_step_38 : decode cX6_step 38 = .ok (.aload_n 0, 1) := by decide +kernel
theorem dX6_step_39 : decode cX6_step 39 = .ok (.aload_n 0, 1) := by decide +kernel
theorem dX6_step_40 : decode cX6_step 40 = .ok (.getfield 22, 3) := by decide +kernel
theorem dX6_step_43 : decode cX6_step 43 = .ok (.putfield 39, 3) := by decide +kernel
theorem dX6_step_46 : decode cX6_step 46 = .ok (.aload_n 0, 1) := by decide +kernel
theorem dX6_step_47 : decode cX6_step 47 = .ok (.getfield 22, 3) := by decide +kernel
theorem dX6_step_50 : decode cX6_step 50 = .ok (.aload_n 0, 1) := by decide +kernel
theorem dX6_step_51 : decode cX6_step 51 = .ok (.getfield 15, 3) := by decide +kernel
theorem dX6_step_54 : decode cX6_step 54 = .ok (.if_icmp .lt 9, 3) := by decide +kernel
theorem dX6_step_57 : decode cX6_step 57 = .ok (.aload_n 0, 1) := by decide +kernel
theorem dX6_step_58 : decode cX6_step 58 = .ok (.iconst 0, 1) := by decide +kernel
theorem dX6_step_59 : decode cX6_step 59 = .ok (.putfield 32, 3) := by decide +kernel
theorem dX6_step_62 : decode cX6_step 62 = .ok (.return_, 1) := by decide +kernel
theorem dX6_step_63 : decode cX6_step 63 = .ok (.aload_n 0, 1) := by decide +kernel
theorem dX6_step_64 : decode cX6_step 64 = .ok (.aload_n 0, 1) := by decide +kernel
theorem dX6_step_65 : decode cX6_step 65 = .ok (.getfield 9, 3) := by decide +kernel
theorem dX6_step_68 : decode cX6_step 68 = .ok (.aload_n 0, 1) := by decide +kernel
theorem dX6_step_69 : decode cX6_step 69 = .ok (.getfield 22, 3) := by decide +kernel
theorem dX6_step_72 : decode cX6_step 72 = .ok (.caload, 1) := by decide +kernel
theorem dX6_step_73 : decode cX6_step 73 = .ok (.invokestatic 96, 3) := by decide +kernel
theorem dX6_step_76 : decode cX6_step 76 = .ok (.putfield 32, 3) := by decide +kernel
theorem dX6_step_79 : decode cX6_step 79 = .ok (.aload_n 0, 1) := by decide +kernel
theorem dX6_step_80 : decode cX6_step 80 = .ok (.dup, 1) := by decide +kernel
theorem dX6_step_81 : decode cX6_step 81 = .ok (.getfield 22, 3) := by decide +kernel
theorem dX6_step_84 : decode cX6_step 84 = .ok (.iconst 1, 1) := by decide +kernel
theorem dX6_step_85 : decode cX6_step 85 = .ok (.iadd, 1) := by decide +kernel
theorem dX6_step_86 : decode cX6_step 86 = .ok (.putfield 22, 3) := by decide +kernel
theorem dX6_step_89 : decode cX6_step 89 = .ok (.aload_n 0, 1) := by decide +kernel
theorem dX6_step_90 : decode cX6_step 90 = .ok (.getfield 32, 3) := by decide +kernel
theorem dX6_step_93 : decode cX6_step 93 = .ok (.iconst 3, 1) := by decide +kernel
theorem dX6_step_94 : decode cX6_step 94 = .ok (.if_icmp .eq 46, 3) := by decide +kernel
theorem dX6_step_97 : decode cX6_step 97 = .ok (.aload_n 0, 1) := by decide +kernel
theorem dX6_step_98 : decode cX6_step 98 = .ok (.getfield 22, 3) := by decide +kernel
theorem dX6_step_101 : decode cX6_step 101 = .ok (.aload_n 0, 1) := by decide +kernel
theorem dX6_step_102 : decode cX6_step 102 = .ok (.getfield 15, 3) := by decide +kernel
theorem dX6_step_105 : decode cX6_step 105 = .ok (.if_icmp .ge 35, 3) := by decide +kernel
theorem dX6_step_108 : decode cX6_step 108 = .ok (.aload_n 0, 1) := by decide +kernel
theorem dX6_step_109 : decode cX6_step 109 = .ok (.getfield 9, 3) := by decide +kernel
theorem dX6_step_112 : decode cX6_step 112 = .ok (.aload_n 0, 1) := by decide +kernel
theorem dX6_step_113 : decode cX6_step 113 = .ok (.getfield 22, 3) := by decide +kernel
theorem dX6_step_116 : decode cX6_step 116 = .ok (.caload, 1) := by decide +kernel
theorem dX6_step_117 : decode cX6_step 117 = .ok (.invokestatic 96, 3) := by decide +kernel
theorem dX6_step_120 : decode cX6_step 120 = .ok (.aload_n 0, 1) := by decide +kernel
theorem dX6_step_121 : decode cX6_step 121 = .ok (.getfield 32, 3) := by decide +kernel
theorem dX6_step_124 : decode cX6_step 124 = .ok (.if_icmp .ne 16, 3) := by decide +kernel
theorem dX6_step_127 : decode cX6_step 127 = .ok (.aload_n 0, 1) := by decide +kernel
theorem dX6_step_128 : decode cX6_step 128 = .ok (.dup, 1) := by decide +kernel
theorem dX6_step_129 : decode cX6_step 129 = .ok (.getfield 22, 3) := by decide +kernel
theorem dX6_step_132 : decode cX6_step 132 = .ok (.iconst 1, 1) := by decide +kernel
theorem dX6_step_133 : decode cX6_step 133 = .ok (.iadd, 1) := by decide +kernel
theorem dX6_step_134 : decode cX6_step 134 = .ok (.putfield 22, 3) := by decide +kernel
theorem dX6_step_137 : decode cX6_step 137 = .ok (.goto (-48), 3) := by decide +kernel
theorem dX6_step_140 : decode cX6_step 140 = .ok (.return_, 1) := by decide +kernel
set_option maxHeartbeats 4000000 in
set_option maxRecDepth 100000 in
theorem t_X6_step_L0 {p : Program} {l : Launch} {e : Env} {s : State} {m : MethodId} {args : Array Value} {below : List Frame} {meth : Method} {c : Code} {D : va_G} {aC : Nat → ClassId} {A : Nat → Prop} {a_t : Nat → Nat} {out : Ob_T} {k38 : Ob_T → Option Ob_T} {rec0 : Ob_T → Option Ob_T} (hX : K_X p s m args meth c cX6_step 1 WL_ RX6 D aC A) (hr : meth.sig.returnType = none) (hk38 : ∀ (t_t : Ob_T), k38 t_t = some out → ∀ (H : Heap) (locs : List Loc) (ls : Array Slot), K_S D A s (wd_X6 aC a_t t_t) H locs → lv_has ls 1 [(0, .ref (a_t 0))] → W p l e (R_m 1 20) s m args below meth c H locs 0 0 (MQ below (Q_W (none) D A (wd_X6 aC a_t out)) args s 0 0 A) (F0 m 38 ls [])) (hrec0 : ∀ x : Ob_T, rec0 x = some out → ∀ (H : Heap) (locs : List Loc) (ls : Array Slot), K_S D A s (wd_X6 aC a_t x) H locs → lv_has ls 1 [(0, .ref (a_t 0))] → W p l e (R_m 1 20) s m args below meth c H locs 0 0 (MQ below (Q_W (none) D A (wd_X6 aC a_t out)) args s 0 0 A) (F0 m 0 ls [])) (s_t : Ob_T) (h : f_X6_step_L0 k38 rec0 s_t = some out) (H : Heap) (locs : List Loc) (ls : Array Slot) (hZ : K_S D A s (wd_X6 aC a_t s_t) H locs) (hl : lv_has ls 1 [(0, .ref (a_t 0))]) : W p l e (R_m 1 20) s m args below meth c H locs 0 0 (MQ below (Q_W (none) D A (wd_X6 aC a_t out)) args s 0 0 A) (F0 m 0 ls []) := by
  obtain ⟨hx, hb, hml, hown, hts, hK, hA, hlk⟩ := id hX
  unfold f_X6_step_L0 at h
  refine lv_aload_n hx hb dX6_step_0 rfl (lv_at hl 0 rfl) ?_
  refine k_get hX hZ.1 0 6 rfl rfl iw_X6 5 rfl (wm_560) (v := .int (o_F s_t 5)) rfl dX6_step_1 ?_
  refine lv_aload_n hx hb dX6_step_4 rfl (lv_at hl 0 rfl) ?_
  refine k_get hX hZ.1 0 6 rfl rfl iw_X6 1 rfl (wm_556) (v := .int (o_F s_t 1)) rfl dX6_step_5 ?_
  refine lv_icmp_ge (tgt := 38) hx hb dX6_step_8 (by decide) (fun cd => ?_) (fun cd => ?_)
  · replace h := k_t cd h
    clear cd
    exact hk38 s_t h H locs ls hZ (lv_sub hl [0] rfl)
  · replace h := k_f cd h
    clear cd
    refine lv_aload_n hx hb dX6_step_11 rfl (lv_at hl 0 rfl) ?_
    refine k_get hX hZ.1 0 6 rfl rfl iw_X6 0 rfl (wm_557) (v := .ref (a_t 1)) rfl dX6_step_12 ?_
    refine lv_aload_n hx hb dX6_step_15 rfl (lv_at hl 0 rfl) ?_
    refine k_get hX hZ.1 0 6 rfl rfl iw_X6 5 rfl (wm_560) (v := .int (o_F s_t 5)) rfl dX6_step_16 ?_
    refine k_cald hX hZ.1 1 rfl h dX6_step_19 (fun v1 h => ?_)
    refine lv_bipush (v := 32) hx hb dX6_step_20 (by decide) ?_
    refine lv_icmp_ne (tgt := 38) hx hb dX6_step_22 (by decide) (fun cd => ?_) (fun cd => ?_)
    · replace h := k_f cd h
      clear cd
      exact hk38 s_t h H locs ls hZ (lv_sub hl [0] rfl)
    · replace h := k_t cd h
      clear cd
      refine lv_aload_n hx hb dX6_step_25 rfl (lv_at hl 0 rfl) ?_
      refine lv_dup hx hb dX6_step_26 rfl ?_
      refine k_get hX hZ.1 0 6 rfl rfl iw_X6 5 rfl (wm_560) (v := .int (o_F s_t 5)) rfl dX6_step_27 ?_
      refine lv_iconst (v := 1) hx hb dX6_step_30 (by decide) ?_
      refine lv_iadd hx hb dX6_step_31 ?_
      refine k_put (wf := (fun o => wd_X6 aC a_t o)) (o := s_t) hX hZ 0 6 rfl rfl iw_X6 tyX6 tyX6_ok nmX6 5 rfl (wm_560) rfl rfl rfl rfl rfl h dX6_step_32 (fun o2 H locs hZ h => ?_)
      refine lv_goto (tgt := 0) hx hb dX6_step_35 (by decide) ?_
      exact hrec0 (o2) h H locs ls hZ (lv_sub hl [0] rfl)
set_option maxHeartbeats 4000000 in
set_option maxRecDepth 100000 in
theorem t_X6_step_L89 {p : Program} {l : Launch} {e : Env} {s : State} {m : MethodId} {args : Array Value} {below : List Frame} {meth : Method} {c : Code} {D : va_G} {aC : Nat → ClassId} {A : Nat → Prop} {a_t : Nat → Nat} {out : Ob_T} {rec89 : Ob_T → Option Ob_T} (hX : K_X p s m args meth c cX6_step 1 WL_ RX6 D aC A) (hr : meth.sig.returnType = none) (hrec89 : ∀ x : Ob_T, rec89 x = some out → ∀ (H : Heap) (locs : List Loc) (ls : Array Slot), K_S D A s (wd_X6 aC a_t x) H locs → lv_has ls 1 [(0, .ref (a_t 0))] → W p l e (R_m 1 20) s m args below meth c H locs 0 0 (MQ below (Q_W (none) D A (wd_X6 aC a_t out)) args s 0 0 A) (F0 m 89 ls [])) (s_t : Ob_T) (h : f_X6_step_L89 rec89 s_t = some out) (H : Heap) (locs : List Loc) (ls : Array Slot) (hZ : K_S D A s (wd_X6 aC a_t s_t) H locs) (hl : lv_has ls 1 [(0, .ref (a_t 0))]) : W p l e (R_m 1 20) s m args below meth c H locs 0 0 (MQ below (Q_W (none) D A (wd_X6 aC a_t out)) args s 0 0 A) (F0 m 89 ls []) := by
  obtain ⟨hx, hb, hml, hown, hts, hK, hA, hlk⟩ := id hX
  unfold f_X6_step_L89 at h
  refine lv_aload_n hx hb dX6_step_89 rfl (lv_at hl 0 rfl) ?_
  refine k_get hX hZ.1 0 6 rfl rfl iw_X6 3 rfl (wm_561) (v := .int (o_F s_t 3)) rfl dX6_step_90 ?_
  refine lv_iconst (v := 3) hx hb dX6_step_93 (by decide) ?_
  refine lv_icmp_eq (tgt := 140) hx hb dX6_step_94 (by decide) (fun cd => ?_) (fun cd => ?_)
  · replace h := k_t cd h
    clear cd
    cases h
    exact k_vretW hX hr hZ dX6_step_140
  · replace h := k_f cd h
    clear cd
    refine lv_aload_n hx hb dX6_step_97 rfl (lv_at hl 0 rfl) ?_
    refine k_get hX hZ.1 0 6 rfl rfl iw_X6 5 rfl (wm_560) (v := .int (o_F s_t 5)) rfl dX6_step_98 ?_
    refine lv_aload_n hx hb dX6_step_101 rfl (lv_at hl 0 rfl) ?_
    refine k_get hX hZ.1 0 6 rfl rfl iw_X6 1 rfl (wm_556) (v := .int (o_F s_t 1)) rfl dX6_step_102 ?_
    refine lv_icmp_ge (tgt := 140) hx hb dX6_step_105 (by decide) (fun cd => ?_) (fun cd => ?_)
    · replace h := k_t cd h
      clear cd
      cases h
      exact k_vretW hX hr hZ dX6_step_140
    · replace h := k_f cd h
      clear cd
      refine lv_aload_n hx hb dX6_step_108 rfl (lv_at hl 0 rfl) ?_
      refine k_get hX hZ.1 0 6 rfl rfl iw_X6 0 rfl (wm_557) (v := .ref (a_t 1)) rfl dX6_step_109 ?_
      refine lv_aload_n hx hb dX6_step_112 rfl (lv_at hl 0 rfl) ?_
      refine k_get hX hZ.1 0 6 rfl rfl iw_X6 5 rfl (wm_560) (v := .int (o_F s_t 5)) rfl dX6_step_113 ?_
      refine k_cald hX hZ.1 1 rfl h dX6_step_116 (fun v8 h => ?_)
      obtain ⟨u9, hu, h⟩ := k_bd h
      refine k_sR (As := [.int v8]) (rest := []) (wc := []) (v := some (.int u9)) (st1 := [.int u9]) hX hl.1 hZ (c_X6_sortOf  v8 hu) (gs_ wm_567 wm_569 wm_563 wm_568) rfl hd_X6_sortOf ⟨rfl, rfl⟩ [] rfl rfl rfl rfl rfl dX6_step_117 rfl ⟨rfl, rfl⟩ (fun locs hZ => ?_)
      clear hu
      refine lv_aload_n hx hb dX6_step_120 rfl (lv_at hl 0 rfl) ?_
      refine k_get hX hZ.1 0 6 rfl rfl iw_X6 3 rfl (wm_561) (v := .int (o_F s_t 3)) rfl dX6_step_121 ?_
      refine lv_icmp_ne (tgt := 140) hx hb dX6_step_124 (by decide) (fun cd => ?_) (fun cd => ?_)
      · replace h := k_f cd h
        clear cd
        cases h
        exact k_vretW hX hr hZ dX6_step_140
      · replace h := k_t cd h
        clear cd
        refine lv_aload_n hx hb dX6_step_127 rfl (lv_at hl 0 rfl) ?_
        refine lv_dup hx hb dX6_step_128 rfl ?_
        refine k_get hX hZ.1 0 6 rfl rfl iw_X6 5 rfl (wm_560) (v := .int (o_F s_t 5)) rfl dX6_step_129 ?_
        refine lv_iconst (v := 1) hx hb dX6_step_132 (by decide) ?_
        refine lv_iadd hx hb dX6_step_133 ?_
        refine k_put (wf := (fun o => wd_X6 aC a_t o)) (o := s_t) hX hZ 0 6 rfl rfl iw_X6 tyX6 tyX6_ok nmX6 5 rfl (wm_560) rfl rfl rfl rfl rfl h dX6_step_134 (fun o10 H locs hZ h => ?_)
        refine lv_goto (tgt := 89) hx hb dX6_step_137 (by decide) ?_
        exact hrec89 (o10) h H locs ls hZ (lv_sub hl [0] rfl)
set_option maxHeartbeats 4000000 in
set_option maxRecDepth 100000 in
theorem t_X6_step_J38 {p : Program} {l : Launch} {e : Env} {s : State} {m : MethodId} {args : Array Value} {below : List Frame} {meth : Method} {c : Code} {D : va_G} {aC : Nat → ClassId} {A : Nat → Prop} {a_t : Nat → Nat} {out : Ob_T} (hX : K_X p s m args meth c cX6_step 1 WL_ RX6 D aC A) (hr : meth.sig.returnType = none) (s_t : Ob_T) (h : f_X6_step_J38 s_t = some out) (H : Heap) (locs : List Loc) (ls : Array Slot) (hZ : K_S D A s (wd_X6 aC a_t s_t) H locs) (hl : lv_has ls 1 [(0, .ref (a_t 0))]) : W p l e (R_m 1 20) s m args below meth c H locs 0 0 (MQ below (Q_W (none) D A (wd_X6 aC a_t out)) args s 0 0 A) (F0 m 38 ls []) := by
  obtain ⟨hx, hb, hml, hown, hts, hK, hA, hlk⟩ := id hX
  unfold f_X6_step_J38 at h
  refine lv_aload_n hx hb dX6_step_38 rfl (lv_at hl 0 rfl) ?_
  refine lv_aload_n hx hb dX6_step_39 rfl (lv_at hl 0 rfl) ?_
  refine k_get hX hZ.1 0 6 rfl rfl iw_X6 5 rfl (wm_560) (v := .int (o_F s_t 5)) rfl dX6_step_40 ?_
  refine k_put (wf := (fun o => wd_X6 aC a_t o)) (o := s_t) hX hZ 0 6 rfl rfl iw_X6 tyX6 tyX6_ok nmX6 4 rfl (wm_559) rfl rfl rfl rfl rfl h dX6_step_43 (fun o3 H locs hZ h => ?_)
  refine lv_aload_n hx hb dX6_step_46 rfl (lv_at hl 0 rfl) ?_
  refine k_get hX hZ.1 0 6 rfl rfl iw_X6 5 rfl (wm_560) (v := .int (o_F o3 5)) rfl dX6_step_47 ?_
  refine lv_aload_n hx hb dX6_step_50 rfl (lv_at hl 0 rfl) ?_
  refine k_get hX hZ.1 0 6 rfl rfl iw_X6 1 rfl (wm_556) (v := .int (o_F o3 1)) rfl dX6_step_51 ?_
  refine lv_icmp_lt (tgt := 63) hx hb dX6_step_54 (by decide) (fun cd => ?_) (fun cd => ?_)
  · replace h := k_t cd h
    clear cd
    refine lv_aload_n hx hb dX6_step_63 rfl (lv_at hl 0 rfl) ?_
    refine lv_aload_n hx hb dX6_step_64 rfl (lv_at hl 0 rfl) ?_
    refine k_get hX hZ.1 0 6 rfl rfl iw_X6 0 rfl (wm_557) (v := .ref (a_t 1)) rfl dX6_step_65 ?_
    refine lv_aload_n hx hb dX6_step_68 rfl (lv_at hl 0 rfl) ?_
    refine k_get hX hZ.1 0 6 rfl rfl iw_X6 5 rfl (wm_560) (v := .int (o_F o3 5)) rfl dX6_step_69 ?_
    refine k_cald hX hZ.1 1 rfl h dX6_step_72 (fun v4 h => ?_)
    obtain ⟨u5, hu, h⟩ := k_bd h
    refine k_sR (As := [.int v4]) (rest := [.ref (a_t 0)]) (wc := []) (v := some (.int u5)) (st1 := [.int u5, .ref (a_t 0)]) hX hl.1 hZ (c_X6_sortOf  v4 hu) (gs_ wm_567 wm_569 wm_563 wm_568) rfl hd_X6_sortOf ⟨rfl, rfl⟩ [] rfl rfl rfl rfl rfl dX6_step_73 rfl ⟨rfl, rfl⟩ (fun locs hZ => ?_)
    clear hu
    refine k_put (wf := (fun o => wd_X6 aC a_t o)) (o := o3) hX hZ 0 6 rfl rfl iw_X6 tyX6 tyX6_ok nmX6 3 rfl (wm_561) rfl rfl rfl rfl rfl h dX6_step_76 (fun o6 H locs hZ h => ?_)
    refine lv_aload_n hx hb dX6_step_79 rfl (lv_at hl 0 rfl) ?_
    refine lv_dup hx hb dX6_step_80 rfl ?_
    refine k_get hX hZ.1 0 6 rfl rfl iw_X6 5 rfl (wm_560) (v := .int (o_F o6 5)) rfl dX6_step_81 ?_
    refine lv_iconst (v := 1) hx hb dX6_step_84 (by decide) ?_
    refine lv_iadd hx hb dX6_step_85 ?_
    refine k_put (wf := (fun o => wd_X6 aC a_t o)) (o := o6) hX hZ 0 6 rfl rfl iw_X6 tyX6 tyX6_ok nmX6 5 rfl (wm_560) rfl rfl rfl rfl rfl h dX6_step_86 (fun o7 H locs hZ h => ?_)
    exact Lp_ok (body := (fun (rec : Ob_T → Option Ob_T) x => f_X6_step_L89 rec x)) (out := out) (fun x => ∀ (H : Heap) (locs : List Loc) (ls : Array Slot), K_S D A s (wd_X6 aC a_t x) H locs → lv_has ls 1 [(0, .ref (a_t 0))] → W p l e (R_m 1 20) s m args below meth c H locs 0 0 (MQ below (Q_W (none) D A (wd_X6 aC a_t out)) args s 0 0 A) (F0 m 89 ls [])) (fun rec hrec x h H locs ls hZ hl => t_X6_step_L89 hX hr hrec x h H locs ls hZ hl) FU_ (o7) h H locs ls hZ (lv_sub hl [0] rfl)
  · replace h := k_f cd h
    clear cd
    refine lv_aload_n hx hb dX6_step_57 rfl (lv_at hl 0 rfl) ?_
    refine lv_iconst (v := 0) hx hb dX6_step_58 (by decide) ?_
    refine k_put (wf := (fun o => wd_X6 aC a_t o)) (o := o3) hX hZ 0 6 rfl rfl iw_X6 tyX6 tyX6_ok nmX6 3 rfl (wm_561) rfl rfl rfl rfl rfl h dX6_step_59 (fun o11 H locs hZ h => ?_)
    cases h
    exact k_vretW hX hr hZ dX6_step_62
set_option maxHeartbeats 4000000 in
set_option maxRecDepth 100000 in
theorem c_X6_step {l : Launch} {D : va_G} {aC : Nat → ClassId} {a_t : Nat → Nat} (s_t : Ob_T) {out : Ob_T} (h : f_X6_step s_t = some out) : M_W l yX6_step wlX6_step 1 20 D aC [.ref (a_t 0)] (wd_X6 aC a_t s_t) (none) (wd_X6 aC a_t out) := by
  refine k_entW (cc := cX6_step) (ret := none) (maxL := 1) (own := RX6) (by decide) rfl rfl rfl ?_
  intro p e s m below meth c A ls hX hr hZ hl
  have hl : lv_has ls 1 [(0, .ref (a_t 0))] := hl
  generalize ([.ref (a_t 0)] : List Value).toArray = args at hX ⊢
  obtain ⟨hx, hb, hml, hown, hts, hK, hA, hlk⟩ := id hX
  unfold f_X6_step at h
  generalize s.heap = H at hZ ⊢
  generalize ([] : List Loc) = locs at hZ ⊢
  exact Lp_ok (body := (fun (rec : Ob_T → Option Ob_T) x => f_X6_step_L0 (fun t_t => f_X6_step_J38 t_t) rec x)) (out := out) (fun x => ∀ (H : Heap) (locs : List Loc) (ls : Array Slot), K_S D A s (wd_X6 aC a_t x) H locs → lv_has ls 1 [(0, .ref (a_t 0))] → W p l e (R_m 1 20) s m args below meth c H locs 0 0 (MQ below (Q_W (none) D A (wd_X6 aC a_t out)) args s 0 0 A) (F0 m 0 ls [])) (fun rec hrec x h H locs ls hZ hl => t_X6_step_L0 hX hr (fun t_t h H locs ls hZ hl => t_X6_step_J38 hX hr t_t h H locs ls hZ (lv_sub hl [0] rfl)) hrec x h H locs ls hZ hl) FU_ (s_t) h H locs ls hZ (lv_sub hl [0] rfl)
