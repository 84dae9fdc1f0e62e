def wlX3_add : List Cond := .code yX3_add cX3_add 4 (some .boolean) :: WL_
theorem hd_X3_add : yX3_add.cls = RX3 ∧ yX3_add.cls ≠ "java/lang/invoke/MethodHandle" ∧ yX3_add.cls ≠ "java/lang/invoke/VarHandle" ∧ (parseMethodDescriptor yX3_add.desc).map (fun d => d.parameters.length) = some 3 := by decide +kernel
theorem dX3_add_0 : decode cX3_add 0 = .ok (.aload_n 0, 1) := by decide +kernel
theorem dX3_add_1 : decode cX3_add 1 = .ok (.getfield 18, 3) := by decide +kernel
theorem dX3_add_4 : decode cX3_add 4 = .ok (.bipush 6, 2) := by decide +kernel
theorem dX3_add_6 : decode cX3_add 6 = .ok (.if_icmp .lt 5, 3) := by decide +kernel
theorem dX3_add_9 : decode cX3_add 9 = .ok (.iconst 0, 1) := by decide +kernel
theorem dX3_add_10 : decode cX3_add 10 = .ok (.ireturn, 1) := by decide +kernel
theorem dX3_add_11 : decode cX3_add 11 = .ok (.aload_n 0, 1) := by decide +kernel
theorem dX3_add_12 : decode cX3_add 12 = .ok (.getfield 9, 3) := by decide +kernel
theorem dX3_add_15 : decode cX3_add 15 = .ok (.aload_n 0, 1) := by decide +kernel
theorem dX3_add_16 : decode cX3_add 16 = .ok (.getfield 18, 3) := by decide +kernel
theorem dX3_add_19 : decode cX3_add 19 = .ok (.iload_n 1, 1) := by decide +kernel
theorem dX3_add_20 : decode cX3_add 20 = .ok (.iastore, 1) := by decide +kernel
theorem dX3_add_21 : decode cX3_add 21 = .ok (.aload_n 0, 1) := by decide +kernel
theorem dX3_add_22 : decode cX3_add 22 = .ok (.getfield 15, 3) := by decide +kernel
theorem dX3_add_25 : decode cX3_add 25 = .ok (.aload_n 0, 1) := by decide +kernel
theorem dX3_add_26 : decode cX3_add 26 = .ok (.getfield 18, 3) := by decide +kernel
theorem dX3_add_29 : decode cX3_add 29 = .ok (.iload_n 2, 1) := by decide +kernel
theorem dX3_add_30 : decode cX3_add 30 = .ok (.iconst 1, 1) := by decide +kernel
theorem dX3_add_31 : decode cX3_add 31 = .ok (.if_icmp .ne 7, 3) := by decide +kernel
theorem dX3_add_34 : decode cX3_add 34 = .ok (.iload_n 3, 1) := by decide +kernel
theorem dX3_add_35 : decode cX3_add 35 = .ok (.goto 13, 3) := by decide +kernel
theorem dX3_add_38 : decode cX3_add 38 = .ok (.iload_n 3, 1) := by decide +kernel
theorem dX3_add_39 : decode cX3_add 39 = .ok (.ifCond .ne 7, 3) := by decide +kernel
theorem dX3_add_42 : decode cX3_add 42 = .ok (.iconst (-1), 1) := by decide +kernel
theorem dX3_add_43 : decode cX3_add 43 = .ok (.goto 5, 3) := by decide +kernel
theorem dX3_add_46 : decode cX3_add 46 = .ok (.bipush (-2), 2) := by decide +kernel
theorem dX3_add_48 : decode cX3_add 48 = .ok (.iastore, 1) := by decide +kernel
theorem dX3_add_49 : decode cX3_add 49 = .ok (.aload_n 0, 1) := by decide +kernel
theorem dX3_add_50 : decode cX3_add 50 = .ok (.dup, 1) := by decide +kernel
theorem dX3_add_51 : decode cX3_add 51 = .ok (.getfield 18, 3) := by decide +kernel
theorem dX3_add_54 : decode cX3_add 54 = .ok (.iconst 1, 1) := by decide +kernel
theorem dX3_add_55 : decode cX3_add 55 = .ok (.iadd, 1) := by decide +kernel
theorem dX3_add_56 : decode cX3_add 56 = .ok (.putfield 18, 3) := by decide +kernel
theorem dX3_add_59 : decode cX3_add 59 = .ok (.iconst 1, 1) := by decide +kernel
theorem dX3_add_60 : decode cX3_add 60 = .ok (.ireturn, 1) := by decide +kernel
set_option maxHeartbeats 4000000 in
set_option maxRecDepth 100000 in
theorem t_X3_add_J48 {p : Program} {l : Launch} {e : Env} {s : State} {m : MethodId} {args : Array Value} {below : List Frame} {meth : Method} {c : Code} {D : va_G} {aC : Nat → ClassId} {A : Nat → Prop} {a_q : Nat → Nat} {out : Int32 × Ob_T} (hX : K_X p s m args meth c cX3_add 4 WL_ RX3 D aC A) (hr : meth.sig.returnType = (some .boolean)) (k1 : Int32) (k2 : Int32) (s_q : Ob_T) (h : f_X3_add_J48 k1 k2 s_q = some out) (H : Heap) (locs : List Loc) (ls : Array Slot) (hZ : K_S D A s (wd_X3 aC a_q s_q) H locs) (hl : lv_has ls 4 [(0, .ref (a_q 0))]) : W p l e (R_m 0 0) s m args below meth c H locs 0 0 (MQ below (Q_W (some (.int out.1)) D A (wd_X3 aC a_q out.2)) args s 0 0 A) (F0 m 48 ls [.int k2, .int k1, .ref (a_q 2)]) := by
  obtain ⟨hx, hb, hml, hown, hts, hK, hA, hlk⟩ := id hX
  unfold f_X3_add_J48 at h
  refine k_iast (wf := (fun o => wd_X3 aC a_q o)) (o := s_q) hX hZ 2 1 rfl (fun _ => rfl) h dX3_add_48 (fun o2 H locs hZ h => ?_)
  refine lv_aload_n hx hb dX3_add_49 rfl (lv_at hl 0 rfl) ?_
  refine lv_dup hx hb dX3_add_50 rfl ?_
  refine k_get hX hZ.1 0 3 rfl rfl iw_X3 2 rfl (wm_397) (v := .int (o_F o2 2)) rfl dX3_add_51 ?_
  refine lv_iconst (v := 1) hx hb dX3_add_54 (by decide) ?_
  refine lv_iadd hx hb dX3_add_55 ?_
  refine k_put (wf := (fun o => wd_X3 aC a_q o)) (o := o2) hX hZ 0 3 rfl rfl iw_X3 tyX3 tyX3_ok nmX3 2 rfl (wm_397) rfl rfl rfl rfl rfl h dX3_add_56 (fun o3 H locs hZ h => ?_)
  refine lv_iconst (v := 1) hx hb dX3_add_59 (by decide) ?_
  cases h
  exact k_zretW (v := (1 : Int32)) hX hr rfl hZ dX3_add_60
set_option maxHeartbeats 4000000 in
set_option maxRecDepth 100000 in
theorem c_X3_add {l : Launch} {D : va_G} {aC : Nat → ClassId} {a_q : Nat → Nat} (s_q : Ob_T) (x1 : Int32) (x2 : Int32) (x3 : Int32) {out : Int32 × Ob_T} (h : f_X3_add s_q x1 x2 x3 = some out) : M_W l yX3_add wlX3_add 0 0 D aC [.ref (a_q 0), .int x1, .int x2, .int x3] (wd_X3 aC a_q s_q) (some (.int out.1)) (wd_X3 aC a_q out.2) := by
  refine k_entW (cc := cX3_add) (ret := (some .boolean)) (maxL := 4) (own := RX3) (by decide) rfl rfl rfl ?_
  intro p e s m below meth c A ls hX hr hZ hl
  have hl : lv_has ls 4 [(0, .ref (a_q 0)), (1, .int x1), (2, .int x2), (3, .int x3)] := hl
  generalize ([.ref (a_q 0), .int x1, .int x2, .int x3] : List Value).toArray = args at hX ⊢
  obtain ⟨hx, hb, hml, hown, hts, hK, hA, hlk⟩ := id hX
  unfold f_X3_add at h
  generalize s.heap = H at hZ ⊢
  generalize ([] : List Loc) = locs at hZ ⊢
  refine lv_aload_n hx hb dX3_add_0 rfl (lv_at hl 0 rfl) ?_
  refine k_get hX hZ.1 0 3 rfl rfl iw_X3 2 rfl (wm_397) (v := .int (o_F s_q 2)) rfl dX3_add_1 ?_
  refine lv_bipush (v := 6) hx hb dX3_add_4 (by decide) ?_
  refine lv_icmp_lt (tgt := 11) hx hb dX3_add_6 (by decide) (fun cd => ?_) (fun cd => ?_)
  · replace h := k_t cd h
    clear cd
    refine lv_aload_n hx hb dX3_add_11 rfl (lv_at hl 0 rfl) ?_
    refine k_get hX hZ.1 0 3 rfl rfl iw_X3 0 rfl (wm_398) (v := .ref (a_q 1)) rfl dX3_add_12 ?_
    refine lv_aload_n hx hb dX3_add_15 rfl (lv_at hl 0 rfl) ?_
    refine k_get hX hZ.1 0 3 rfl rfl iw_X3 2 rfl (wm_397) (v := .int (o_F s_q 2)) rfl dX3_add_16 ?_
    refine lv_iload_n hx hb dX3_add_19 rfl (lv_at hl 1 rfl) ?_
    refine k_iast (wf := (fun o => wd_X3 aC a_q o)) (o := s_q) hX hZ 1 0 rfl (fun _ => rfl) h dX3_add_20 (fun o1 H locs hZ h => ?_)
    refine lv_aload_n hx hb dX3_add_21 rfl (lv_at hl 0 rfl) ?_
    refine k_get hX hZ.1 0 3 rfl rfl iw_X3 1 rfl (wm_399) (v := .ref (a_q 2)) rfl dX3_add_22 ?_
    refine lv_aload_n hx hb dX3_add_25 rfl (lv_at hl 0 rfl) ?_
    refine k_get hX hZ.1 0 3 rfl rfl iw_X3 2 rfl (wm_397) (v := .int (o_F o1 2)) rfl dX3_add_26 ?_
    refine lv_iload_n hx hb dX3_add_29 rfl (lv_at hl 2 rfl) ?_
    refine lv_iconst (v := 1) hx hb dX3_add_30 (by decide) ?_
    refine lv_icmp_ne (tgt := 38) hx hb dX3_add_31 (by decide) (fun cd => ?_) (fun cd => ?_)
    · replace h := k_f cd h
      clear cd
      refine lv_iload_n hx hb dX3_add_38 rfl (lv_at hl 3 rfl) ?_
      refine lv_if_ne (tgt := 46) hx hb dX3_add_39 (by decide) (fun cd => ?_) (fun cd => ?_)
      · replace h := k_f cd h
        clear cd
        refine lv_bipush (v := -2) hx hb dX3_add_46 (by decide) ?_
        exact t_X3_add_J48 hX hr (o_F o1 2) (-2 : Int32) o1 h H locs ls hZ (lv_sub hl [0] rfl)
      · replace h := k_t cd h
        clear cd
        refine lv_iconst (v := -1) hx hb dX3_add_42 (by decide) ?_
        refine lv_goto (tgt := 48) hx hb dX3_add_43 (by decide) ?_
        exact t_X3_add_J48 hX hr (o_F o1 2) (-1 : Int32) o1 h H locs ls hZ (lv_sub hl [0] rfl)
    · replace h := k_t cd h
      clear cd
      refine lv_iload_n hx hb dX3_add_34 rfl (lv_at hl 3 rfl) ?_
      refine lv_goto (tgt := 48) hx hb dX3_add_35 (by decide) ?_
      exact t_X3_add_J48 hX hr (o_F o1 2) x3 o1 h H locs ls hZ (lv_sub hl [0] rfl)
  · replace h := k_f cd h
    clear cd
    refine lv_iconst (v := 0) hx hb dX3_add_9 (by decide) ?_
    cases h
    exact k_zretW (v := (0 : Int32)) hX hr rfl hZ dX3_add_10
def wlX3_wouldAnswer : List Cond := .code yX3_wouldAnswer cX3_wouldAnswer 2 (some .int) :: WL_
theorem hd_X3_wouldAnswer : yX3_wouldAnswer.cls ≠ "java/lang/invoke/MethodHandle" ∧ yX3_wouldAnswer.cls ≠ "java/lang/invoke/VarHandle" ∧ (parseMethodDescriptor yX3_wouldAnswer.desc).map (fun d => d.parameters.length) = some 2 := by decide +kernel
theorem dX3_wouldAnswer_0 : decode cX3_wouldAnswer 0 = .ok (.iload_n 0, 1) := by decide +kernel
theorem dX3_wouldAnswer_1 : decode cX3_wouldAnswer 1 = .ok (.iconst 4, 1) := by decide +kernel
theorem dX3_wouldAnswer_2 : decode cX3_wouldAnswer 2 = .ok (.if_icmp .ne 5, 3) := by decide +kernel
theorem dX3_wouldAnswer_5 : decode cX3_wouldAnswer 5 = .ok (.iconst (-1), 1) := by decide +kernel
theorem dX3_wouldAnswer_6 : decode cX3_wouldAnswer 6 = .ok (.ireturn, 1) := by decide +kernel
theorem dX3_wouldAnswer_7 : decode cX3_wouldAnswer 7 = .ok (.iload_n 0, 1) := by decide +kernel
theorem dX3_wouldAnswer_8 : decode cX3_wouldAnswer 8 = .ok (.iconst 2, 1) := by decide +kernel
theorem dX3_wouldAnswer_9 : decode cX3_wouldAnswer 9 = .ok (.if_icmp .ne 9, 3) := by decide +kernel
theorem dX3_wouldAnswer_12 : decode cX3_wouldAnswer 12 = .ok (.iload_n 1, 1) := by decide +kernel
theorem dX3_wouldAnswer_13 : decode cX3_wouldAnswer 13 = .ok (.iload_n 1, 1) := by decide +kernel
theorem dX3_wouldAnswer_14 : decode cX3_wouldAnswer 14 = .ok (.iadd, 1) := by decide +kernel
theorem dX3_wouldAnswer_15 : decode cX3_wouldAnswer 15 = .ok (.goto 4, 3) := by decide +kernel
theorem dX3_wouldAnswer_18 : decode cX3_wouldAnswer 18 = .ok (.iload_n 1, 1) := by decide +kernel
theorem dX3_wouldAnswer_19 : decode cX3_wouldAnswer 19 = .ok (.ireturn, 1) := by decide +kernel
set_option maxHeartbeats 4000000 in
set_option maxRecDepth 100000 in
theorem c_X3_wouldAnswer {l : Launch} {D : va_G} {aC : Nat → ClassId} (x0 : Int32) (x1 : Int32) {out : Int32} (h : f_X3_wouldAnswer x0 x1 = some out) : M_R l yX3_wouldAnswer wlX3_wouldAnswer 0 0 D aC [.int x0, .int x1] (([] : va_W)) (some (.int out)) := by
  refine k_entR (cc := cX3_wouldAnswer) (ret := (some .int)) (maxL := 2) (own := RX3) (by decide) rfl rfl rfl ?_
  intro p e s m below meth c A ls hX hr hZ hl
  have hl : lv_has ls 2 [(0, .int x0), (1, .int x1)] := hl
  generalize ([.int x0, .int x1] : List Value).toArray = args at hX ⊢
  obtain ⟨hx, hb, hml, hown, hts, hK, hA, hlk⟩ := id hX
  unfold f_X3_wouldAnswer at h
  have hF : ∀ q ∈ ([] : List Loc), False := fun _ h => nomatch h
  generalize ([] : List Loc) = locs at hF ⊢
  refine lv_iload_n hx hb dX3_wouldAnswer_0 rfl (lv_at hl 0 rfl) ?_
  refine lv_iconst (v := 4) hx hb dX3_wouldAnswer_1 (by decide) ?_
  refine lv_icmp_ne (tgt := 7) hx hb dX3_wouldAnswer_2 (by decide) (fun cd => ?_) (fun cd => ?_)
  · replace h := k_f cd h
    clear cd
    refine lv_iload_n hx hb dX3_wouldAnswer_7 rfl (lv_at hl 0 rfl) ?_
    refine lv_iconst (v := 2) hx hb dX3_wouldAnswer_8 (by decide) ?_
    refine lv_icmp_ne (tgt := 18) hx hb dX3_wouldAnswer_9 (by decide) (fun cd => ?_) (fun cd => ?_)
    · replace h := k_f cd h
      clear cd
      refine lv_iload_n hx hb dX3_wouldAnswer_18 rfl (lv_at hl 1 rfl) ?_
      cases h
      exact k_iretR hX hr hF dX3_wouldAnswer_19
    · replace h := k_t cd h
      clear cd
      refine lv_iload_n hx hb dX3_wouldAnswer_12 rfl (lv_at hl 1 rfl) ?_
      refine lv_iload_n hx hb dX3_wouldAnswer_13 rfl (lv_at hl 1 rfl) ?_
      refine lv_iadd hx hb dX3_wouldAnswer_14 ?_
      refine lv_goto (tgt := 19) hx hb dX3_wouldAnswer_15 (by decide) ?_
      cases h
      exact k_iretR hX hr hF dX3_wouldAnswer_19
  · replace h := k_t cd h
    clear cd
    refine lv_iconst (v := -1) hx hb dX3_wouldAnswer_5 (by decide) ?_
    cases h
    exact k_iretR hX hr hF dX3_wouldAnswer_6
def wlX3_fitsAll : List Cond := .code yX3_fitsAll cX3_fitsAll 3 (some .boolean) :: WL_
theorem hd_X3_fitsAll : yX3_fitsAll.cls = RX3 ∧ yX3_fitsAll.cls ≠ "java/lang/invoke/MethodHandle" ∧ yX3_fitsAll.cls ≠ "java/lang/invoke/VarHandle" ∧ (parseMethodDescriptor yX3_fitsAll.desc).map (fun d => d.parameters.length) = some 1 := by decide +kernel
theorem dX3_fitsAll_0 : decode cX3_fitsAll 0 = .ok (.iconst 0, 1) := by decide +kernel
theorem dX3_fitsAll_1 : decode cX3_fitsAll 1 = .ok (.istore_n 2, 1) := by decide +kernel
theorem dX3_fitsAll_2 : decode cX3_fitsAll 2 = .ok (.iload_n 2, 1) := by decide +kernel
theorem dX3_fitsAll_3 : decode cX3_fitsAll 3 = .ok (.aload_n 0, 1) := by decide +kernel
theorem dX3_fitsAll_4 : decode cX3_fitsAll 4 = .ok (.getfield 18, 3) := by decide +kernel
theorem dX3_fitsAll_7 : decode cX3_fitsAll 7 = .ok (.if_icmp .ge 30, 3) := by decide +kernel
theorem dX3_fitsAll_10 : decode cX3_fitsAll 10 = .ok (.iload_n 1, 1) := by decide +kernel
theorem dX3_fitsAll_11 : decode cX3_fitsAll 11 = .ok (.aload_n 0, 1) := by decide +kernel
theorem dX3_fitsAll_12 : decode cX3_fitsAll 12 = .ok (.getfield 9, 3) := by decide +kernel
theorem dX3_fitsAll_15 : decode cX3_fitsAll 15 = .ok (.iload_n 2, 1) := by decide +kernel
theorem dX3_fitsAll_16 : decode cX3_fitsAll 16 = .ok (.iaload, 1) := by decide +kernel
theorem dX3_fitsAll_17 : decode cX3_fitsAll 17 = .ok (.invokestatic 26, 3) := by decide +kernel
theorem dX3_fitsAll_20 : decode cX3_fitsAll 20 = .ok (.aload_n 0, 1) := by decide +kernel
theorem dX3_fitsAll_21 : decode cX3_fitsAll 21 = .ok (.getfield 15, 3) := by decide +kernel
theorem dX3_fitsAll_24 : decode cX3_fitsAll 24 = .ok (.iload_n 2, 1) := by decide +kernel
theorem dX3_fitsAll_25 : decode cX3_fitsAll 25 = .ok (.iaload, 1) := by decide +kernel
theorem dX3_fitsAll_26 : decode cX3_fitsAll 26 = .ok (.if_icmp .eq 5, 3) := by decide +kernel
theorem dX3_fitsAll_29 : decode cX3_fitsAll 29 = .ok (.iconst 0, 1) := by decide +kernel
theorem dX3_fitsAll_30 : decode cX3_fitsAll 30 = .ok (.ireturn, 1) := by decide +kernel
theorem dX3_fitsAll_31 : decode cX3_fitsAll 31 = .ok (.iinc 2 1, 3) := by decide +kernel
theorem dX3_fitsAll_34 : decode cX3_fitsAll 34 = .ok (.goto (-32), 3) := by decide +kernel
theorem dX3_fitsAll_37 : decode cX3_fitsAll 37 = .ok (.iconst 1, 1) := by decide +kernel
theorem dX3_fitsAll_38 : decode cX3_fitsAll 38 = .ok (.ireturn, 1) := by decide +kernel
set_option maxHeartbeats 4000000 in
set_option maxRecDepth 100000 in
theorem t_X3_fitsAll_L2 {p : Program} {l : Launch} {e : Env} {s : State} {m : MethodId} {args : Array Value} {below : List Frame} {meth : Method} {c : Code} {D : va_G} {aC : Nat → ClassId} {A : Nat → Prop} {a_q : Nat → Nat} {out : Int32} {s_q : Ob_T} {rec2 : (Int32 × Int32) → Option Int32} (hX : K_X p s m args meth c cX3_fitsAll 3 WL_ RX3 D aC A) (hr : meth.sig.returnType = (some .boolean)) (hZ : va_P D vwCl (wd_X3 aC a_q s_q) s.heap ∧ va_D (fun _ => True) (wd_X3 aC a_q s_q)) (hrec2 : ∀ x : Int32 × Int32, rec2 x = some out → ∀ (locs : List Loc) (ls : Array Slot), (∀ q ∈ locs, False) → lv_has ls 3 [(0, .ref (a_q 0)), (1, .int x.1), (2, .int x.2)] → W p l e (R_m 1 21) s m args below meth c s.heap locs 0 0 (MQ below (Q_R (some (.int out))) args s 0 0 (fun _ => False)) (F0 m 2 ls [])) (x1 : Int32) (x2 : Int32) (h : f_X3_fitsAll_L2 rec2 x1 x2 s_q = some out) (locs : List Loc) (ls : Array Slot) (hF : ∀ q ∈ locs, False) (hl : lv_has ls 3 [(0, .ref (a_q 0)), (1, .int x1), (2, .int x2)]) : W p l e (R_m 1 21) s m args below meth c s.heap locs 0 0 (MQ below (Q_R (some (.int out))) args s 0 0 (fun _ => False)) (F0 m 2 ls []) := by
  obtain ⟨hx, hb, hml, hown, hts, hK, hA, hlk⟩ := id hX
  unfold f_X3_fitsAll_L2 at h
  refine lv_iload_n hx hb dX3_fitsAll_2 rfl (lv_at hl 2 rfl) ?_
  refine lv_aload_n hx hb dX3_fitsAll_3 rfl (lv_at hl 0 rfl) ?_
  refine k_get hX hZ.1 0 3 rfl rfl iw_X3 2 rfl (wm_397) (v := .int (o_F s_q 2)) rfl dX3_fitsAll_4 ?_
  refine lv_icmp_ge (tgt := 37) hx hb dX3_fitsAll_7 (by decide) (fun cd => ?_) (fun cd => ?_)
  · replace h := k_t cd h
    clear cd
    refine lv_iconst (v := 1) hx hb dX3_fitsAll_37 (by decide) ?_
    cases h
    exact k_zretR (v := (1 : Int32)) hX hr rfl hF dX3_fitsAll_38
  · replace h := k_f cd h
    clear cd
    refine lv_iload_n hx hb dX3_fitsAll_10 rfl (lv_at hl 1 rfl) ?_
    refine lv_aload_n hx hb dX3_fitsAll_11 rfl (lv_at hl 0 rfl) ?_
    refine k_get hX hZ.1 0 3 rfl rfl iw_X3 0 rfl (wm_398) (v := .ref (a_q 1)) rfl dX3_fitsAll_12 ?_
    refine lv_iload_n hx hb dX3_fitsAll_15 rfl (lv_at hl 2 rfl) ?_
    refine k_iald hX hZ.1 1 rfl h dX3_fitsAll_16 (fun v1 h => ?_)
    obtain ⟨u2, hu, h⟩ := k_bd h
    refine k_sRR (As := [.int x1, .int v1]) (rest := []) (wc := []) (v := some (.int u2)) (st1 := [.int u2]) hX hl.1 hZ hF (c_X3_wouldAnswer  x1 v1 hu) (gs_ wm_400 wm_403 wm_401 wm_402) rfl hd_X3_wouldAnswer ⟨rfl, rfl⟩ [] rfl rfl rfl rfl rfl dX3_fitsAll_17 rfl ⟨rfl, rfl⟩ (fun locs hF => ?_)
    clear hu
    refine lv_aload_n hx hb dX3_fitsAll_20 rfl (lv_at hl 0 rfl) ?_
    refine k_get hX hZ.1 0 3 rfl rfl iw_X3 1 rfl (wm_399) (v := .ref (a_q 2)) rfl dX3_fitsAll_21 ?_
    refine lv_iload_n hx hb dX3_fitsAll_24 rfl (lv_at hl 2 rfl) ?_
    refine k_iald hX hZ.1 2 rfl h dX3_fitsAll_25 (fun v3 h => ?_)
    refine lv_icmp_eq (tgt := 31) hx hb dX3_fitsAll_26 (by decide) (fun cd => ?_) (fun cd => ?_)
    · replace h := k_t cd h
      clear cd
      refine lv_iinc (v := (x2 + (1 : Int32))) (lv' := [(2, .int (x2 + (1 : Int32))), (0, .ref (a_q 0)), (1, .int x1)]) hx hb dX3_fitsAll_31 hl (k := 2) rfl rfl (by decide) rfl (fun ls hl => ?_)
      refine lv_goto (tgt := 2) hx hb dX3_fitsAll_34 (by decide) ?_
      exact hrec2 (x1, (x2 + (1 : Int32))) h locs ls hF (lv_sub hl [1, 2, 0] rfl)
    · replace h := k_f cd h
      clear cd
      refine lv_iconst (v := 0) hx hb dX3_fitsAll_29 (by decide) ?_
      cases h
      exact k_zretR (v := (0 : Int32)) hX hr rfl hF dX3_fitsAll_30
set_option maxHeartbeats 4000000 in
set_option maxRecDepth 100000 in
theorem c_X3_fitsAll {l : Launch} {D : va_G} {aC : Nat → ClassId} {a_q : Nat → Nat} (s_q : Ob_T) (x1 : Int32) {out : Int32} (h : f_X3_fitsAll s_q x1 = some out) : M_R l yX3_fitsAll wlX3_fitsAll 1 21 D aC [.ref (a_q 0), .int x1] (wd_X3 aC a_q s_q) (some (.int out)) := by
  refine k_entR (cc := cX3_fitsAll) (ret := (some .boolean)) (maxL := 3) (own := RX3) (by decide) rfl rfl rfl ?_
  intro p e s m below meth c A ls hX hr hZ hl
  have hl : lv_has ls 3 [(0, .ref (a_q 0)), (1, .int x1)] := hl
  generalize ([.ref (a_q 0), .int x1] : List Value).toArray = args at hX ⊢
  obtain ⟨hx, hb, hml, hown, hts, hK, hA, hlk⟩ := id hX
  unfold f_X3_fitsAll at h
  have hF : ∀ q ∈ ([] : List Loc), False := fun _ h => nomatch h
  generalize ([] : List Loc) = locs at hF ⊢
  refine lv_iconst (v := 0) hx hb dX3_fitsAll_0 (by decide) ?_
  refine lv_istore_n (lv' := [(2, .int (0 : Int32)), (0, .ref (a_q 0)), (1, .int x1)]) hx hb dX3_fitsAll_1 rfl hl (by decide) rfl (fun ls hl => ?_)
  exact Lp_ok (body := (fun (rec : (Int32 × Int32) → Option Int32) x => f_X3_fitsAll_L2 rec x.1 x.2 s_q)) (out := out) (fun x => ∀ (locs : List Loc) (ls : Array Slot), (∀ q ∈ locs, False) → lv_has ls 3 [(0, .ref (a_q 0)), (1, .int x.1), (2, .int x.2)] → W p l e (R_m 1 21) s m args below meth c s.heap locs 0 0 (MQ below (Q_R (some (.int out))) args s 0 0 (fun _ => False)) (F0 m 2 ls [])) (fun rec hrec x h locs ls hF hl => t_X3_fitsAll_L2 hX hr hZ hrec x.1 x.2 h locs ls hF hl) FU_ (x1, (0 : Int32)) h locs ls hF (lv_sub hl [1, 2, 0] rfl)
