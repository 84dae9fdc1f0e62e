def wlX9_seen : List Cond := .code yX9_seen cX9_seen 4 (some .int) :: WL_
theorem hd_X9_seen : yX9_seen.cls = RX9 ∧ yX9_seen.cls ≠ "java/lang/invoke/MethodHandle" ∧ yX9_seen.cls ≠ "java/lang/invoke/VarHandle" ∧ (parseMethodDescriptor yX9_seen.desc).map (fun d => d.parameters.length) = some 3 := by decide +kernel
theorem dX9_seen_0 : decode cX9_seen 0 = .ok (.iload_n 1, 1) := by decide +kernel
theorem dX9_seen_1 : decode cX9_seen 1 = .ok (.i2l, 1) := by decide +kernel
theorem dX9_seen_2 : decode cX9_seen 2 = .ok (.lconst 1, 1) := by decide +kernel
theorem dX9_seen_3 : decode cX9_seen 3 = .ok (.ldc2_w 309, 3) := by decide +kernel
theorem dX9_seen_6 : decode cX9_seen 6 = .ok (.invokestatic 97, 3) := by decide +kernel
theorem dX9_seen_9 : decode cX9_seen 9 = .ok (.ifCond .eq 25, 3) := by decide +kernel
theorem dX9_seen_12 : decode cX9_seen 12 = .ok (.iload_n 2, 1) := by decide +kernel
theorem dX9_seen_13 : decode cX9_seen 13 = .ok (.i2l, 1) := by decide +kernel
theorem dX9_seen_14 : decode cX9_seen 14 = .ok (.lconst 0, 1) := by decide +kernel
theorem dX9_seen_15 : decode cX9_seen 15 = .ok (.lconst 1, 1) := by decide +kernel
theorem dX9_seen_16 : decode cX9_seen 16 = .ok (.invokestatic 97, 3) := by decide +kernel
theorem dX9_seen_19 : decode cX9_seen 19 = .ok (.ifCond .eq 15, 3) := by decide +kernel
theorem dX9_seen_22 : decode cX9_seen 22 = .ok (.iload_n 3, 1) := by decide +kernel
theorem dX9_seen_23 : decode cX9_seen 23 = .ok (.i2l, 1) := by decide +kernel
theorem dX9_seen_24 : decode cX9_seen 24 = .ok (.lconst 0, 1) := by decide +kernel
theorem dX9_seen_25 : decode cX9_seen 25 = .ok (.ldc2_w 338, 3) := by decide +kernel
theorem dX9_seen_28 : decode cX9_seen 28 = .ok (.invokestatic 97, 3) := by decide +kernel
theorem dX9_seen_31 : decode cX9_seen 31 = .ok (.ifCond .ne 6, 3) := by decide +kernel
theorem dX9_seen_34 : decode cX9_seen 34 = .ok (.bipush (-3), 2) := by decide +kernel
theorem dX9_seen_36 : decode cX9_seen 36 = .ok (.ireturn, 1) := by decide +kernel
theorem dX9_seen_37 : decode cX9_seen 37 = .ok (.aload_n 0, 1) := by decide +kernel
theorem dX9_seen_38 : decode cX9_seen 38 = .ok (.getfield 185, 3) := by decide +kernel
theorem dX9_seen_41 : decode cX9_seen 41 = .ok (.bipush 6, 2) := by decide +kernel
theorem dX9_seen_43 : decode cX9_seen 43 = .ok (.if_icmp .ne 6, 3) := by decide +kernel
theorem dX9_seen_46 : decode cX9_seen 46 = .ok (.bipush (-5), 2) := by decide +kernel
theorem dX9_seen_48 : decode cX9_seen 48 = .ok (.ireturn, 1) := by decide +kernel
theorem dX9_seen_49 : decode cX9_seen 49 = .ok (.aload_n 0, 1) := by decide +kernel
theorem dX9_seen_50 : decode cX9_seen 50 = .ok (.getfield 32, 3) := by decide +kernel
theorem dX9_seen_53 : decode cX9_seen 53 = .ok (.aload_n 0, 1) := by decide +kernel
theorem dX9_seen_54 : decode cX9_seen 54 = .ok (.getfield 185, 3) := by decide +kernel
theorem dX9_seen_57 : decode cX9_seen 57 = .ok (.iload_n 1, 1) := by decide +kernel
theorem dX9_seen_58 : decode cX9_seen 58 = .ok (.iastore, 1) := by decide +kernel
theorem dX9_seen_59 : decode cX9_seen 59 = .ok (.aload_n 0, 1) := by decide +kernel
theorem dX9_seen_60 : decode cX9_seen 60 = .ok (.getfield 35, 3) := by decide +kernel
theorem dX9_seen_63 : decode cX9_seen 63 = .ok (.aload_n 0, 1) := by decide +kernel
theorem dX9_seen_64 : decode cX9_seen 64 = .ok (.getfield 185, 3) := by decide +kernel
theorem dX9_seen_67 : decode cX9_seen 67 = .ok (.iload_n 2, 1) := by decide +kernel
theorem dX9_seen_68 : decode cX9_seen 68 = .ok (.iastore, 1) := by decide +kernel
theorem dX9_seen_69 : decode cX9_seen 69 = .ok (.aload_n 0, 1) := by decide +kernel
theorem dX9_seen_70 : decode cX9_seen 70 = .ok (.getfield 38, 3) := by decide +kernel
theorem dX9_seen_73 : decode cX9_seen 73 = .ok (.aload_n 0, 1) := by decide +kernel
theorem dX9_seen_74 : decode cX9_seen 74 = .ok (.getfield 185, 3) := by decide +kernel
theorem dX9_seen_77 : decode cX9_seen 77 = .ok (.iload_n 3, 1) := by decide +kernel
theorem dX9_seen_78 : decode cX9_seen 78 = .ok (.iastore, 1) := by decide +kernel
theorem dX9_seen_79 : decode cX9_seen 79 = .ok (.aload_n 0, 1) := by decide +kernel
theorem dX9_seen_80 : decode cX9_seen 80 = .ok (.dup, 1) := by decide +kernel
theorem dX9_seen_81 : decode cX9_seen 81 = .ok (.getfield 185, 3) := by decide +kernel
theorem dX9_seen_84 : decode cX9_seen 84 = .ok (.iconst 1, 1) := by decide +kernel
theorem dX9_seen_85 : decode cX9_seen 85 = .ok (.iadd, 1) := by decide +kernel
theorem dX9_seen_86 : decode cX9_seen 86 = .ok (.putfield 185, 3) := by decide +kernel
theorem dX9_seen_89 : decode cX9_seen 89 = .ok (.aload_n 0, 1) := by decide +kernel
theorem dX9_seen_90 : decode cX9_seen 90 = .ok (.getfield 185, 3) := by decide +kernel
theorem dX9_seen_93 : decode cX9_seen 93 = .ok (.ireturn, 1) := by decide +kernel
set_option maxHeartbeats 4000000 in
set_option maxRecDepth 100000 in
theorem c_X9_seen {l : Launch} {D : va_G} {aC : Nat → ClassId} {a_o : Nat → Nat} (s_o : Ob_T) (x1 : Int32) (x2 : Int32) (x3 : Int32) {out : Int32 × Ob_T} (h : f_X9_seen s_o x1 x2 x3 = some out) : M_W l yX9_seen wlX9_seen 1 25 D aC [.ref (a_o 0), .int x1, .int x2, .int x3] (wd_X9 aC a_o s_o) (some (.int out.1)) (wd_X9 aC a_o out.2) := by
  refine k_entW (cc := cX9_seen) (ret := (some .int)) (maxL := 4) (own := RX9) (by decide) rfl rfl rfl ?_
  intro p e s m below meth c A ls hX hr hZ hl
  have hl : lv_has ls 4 [(0, .ref (a_o 0)), (1, .int x1), (2, .int x2), (3, .int x3)] := hl
  generalize ([.ref (a_o 0), .int x1, .int x2, .int x3] : List Value).toArray = args at hX ⊢
  obtain ⟨hx, hb, hml, hown, hts, hK, hA, hlk⟩ := id hX
  unfold f_X9_seen at h
  generalize s.heap = H at hZ ⊢
  generalize ([] : List Loc) = locs at hZ ⊢
  refine lv_iload_n hx hb dX9_seen_0 rfl (lv_at hl 1 rfl) ?_
  refine lv_i2l (v := x1.toInt64) hx hb dX9_seen_1 rfl ?_
  refine lv_lconst (v := 1) hx hb dX9_seen_2 (by decide) ?_
  refine lv_ldc2 (v := 9) hx hb hown (hts _ wm_217) dX9_seen_3 ?_
  obtain ⟨u1, hu, h⟩ := k_bd h
  refine k_sR (As := [.long x1.toInt64, .long (1 : Int64), .long (9 : Int64)]) (rest := []) (wc := []) (v := some (.int u1)) (st1 := [.int u1]) hX hl.1 hZ (c_X9_in  x1.toInt64 (1 : Int64) (9 : Int64) hu) (gs_ wm_10 wm_13 wm_11 wm_12) rfl hd_X9_in ⟨rfl, rfl⟩ [] rfl rfl rfl rfl rfl dX9_seen_6 rfl ⟨rfl, rfl⟩ (fun locs hZ => ?_)
  clear hu
  refine lv_if_eq (tgt := 34) hx hb dX9_seen_9 (by decide) (fun cd => ?_) (fun cd => ?_)
  · replace h := k_t cd h
    clear cd
    refine lv_bipush (v := -3) hx hb dX9_seen_34 (by decide) ?_
    cases h
    exact k_iretW hX hr hZ dX9_seen_36
  · replace h := k_f cd h
    clear cd
    refine lv_iload_n hx hb dX9_seen_12 rfl (lv_at hl 2 rfl) ?_
    refine lv_i2l (v := x2.toInt64) hx hb dX9_seen_13 rfl ?_
    refine lv_lconst (v := 0) hx hb dX9_seen_14 (by decide) ?_
    refine lv_lconst (v := 1) hx hb dX9_seen_15 (by decide) ?_
    obtain ⟨u2, hu, h⟩ := k_bd h
    refine k_sR (As := [.long x2.toInt64, .long (0 : Int64), .long (1 : Int64)]) (rest := []) (wc := []) (v := some (.int u2)) (st1 := [.int u2]) hX hl.1 hZ (c_X9_in  x2.toInt64 (0 : Int64) (1 : Int64) hu) (gs_ wm_10 wm_13 wm_11 wm_12) rfl hd_X9_in ⟨rfl, rfl⟩ [] rfl rfl rfl rfl rfl dX9_seen_16 rfl ⟨rfl, rfl⟩ (fun locs hZ => ?_)
    clear hu
    refine lv_if_eq (tgt := 34) hx hb dX9_seen_19 (by decide) (fun cd => ?_) (fun cd => ?_)
    · replace h := k_t cd h
      clear cd
      refine lv_bipush (v := -3) hx hb dX9_seen_34 (by decide) ?_
      cases h
      exact k_iretW hX hr hZ dX9_seen_36
    · replace h := k_f cd h
      clear cd
      refine lv_iload_n hx hb dX9_seen_22 rfl (lv_at hl 3 rfl) ?_
      refine lv_i2l (v := x3.toInt64) hx hb dX9_seen_23 rfl ?_
      refine lv_lconst (v := 0) hx hb dX9_seen_24 (by decide) ?_
      refine lv_ldc2 (v := 99) hx hb hown (hts _ wm_254) dX9_seen_25 ?_
      obtain ⟨u3, hu, h⟩ := k_bd h
      refine k_sR (As := [.long x3.toInt64, .long (0 : Int64), .long (99 : Int64)]) (rest := []) (wc := []) (v := some (.int u3)) (st1 := [.int u3]) hX hl.1 hZ (c_X9_in  x3.toInt64 (0 : Int64) (99 : Int64) hu) (gs_ wm_10 wm_13 wm_11 wm_12) rfl hd_X9_in ⟨rfl, rfl⟩ [] rfl rfl rfl rfl rfl dX9_seen_28 rfl ⟨rfl, rfl⟩ (fun locs hZ => ?_)
      clear hu
      refine lv_if_ne (tgt := 37) hx hb dX9_seen_31 (by decide) (fun cd => ?_) (fun cd => ?_)
      · replace h := k_f cd h
        clear cd
        refine lv_aload_n hx hb dX9_seen_37 rfl (lv_at hl 0 rfl) ?_
        refine k_get hX hZ.1 0 9 rfl rfl iw_X9 11 rfl (wm_121) (v := .int (o_F s_o 11)) rfl dX9_seen_38 ?_
        refine lv_bipush (v := 6) hx hb dX9_seen_41 (by decide) ?_
        refine lv_icmp_ne (tgt := 49) hx hb dX9_seen_43 (by decide) (fun cd => ?_) (fun cd => ?_)
        · replace h := k_f cd h
          clear cd
          refine lv_aload_n hx hb dX9_seen_49 rfl (lv_at hl 0 rfl) ?_
          refine k_get hX hZ.1 0 9 rfl rfl iw_X9 12 rfl (wm_255) (v := .ref (a_o 8)) rfl dX9_seen_50 ?_
          refine lv_aload_n hx hb dX9_seen_53 rfl (lv_at hl 0 rfl) ?_
          refine k_get hX hZ.1 0 9 rfl rfl iw_X9 11 rfl (wm_121) (v := .int (o_F s_o 11)) rfl dX9_seen_54 ?_
          refine lv_iload_n hx hb dX9_seen_57 rfl (lv_at hl 1 rfl) ?_
          refine k_iast (wf := (fun o => wd_X9 aC a_o o)) (o := s_o) hX hZ 8 12 rfl (fun _ => rfl) h dX9_seen_58 (fun o4 H locs hZ h => ?_)
          refine lv_aload_n hx hb dX9_seen_59 rfl (lv_at hl 0 rfl) ?_
          refine k_get hX hZ.1 0 9 rfl rfl iw_X9 13 rfl (wm_256) (v := .ref (a_o 9)) rfl dX9_seen_60 ?_
          refine lv_aload_n hx hb dX9_seen_63 rfl (lv_at hl 0 rfl) ?_
          refine k_get hX hZ.1 0 9 rfl rfl iw_X9 11 rfl (wm_121) (v := .int (o_F o4 11)) rfl dX9_seen_64 ?_
          refine lv_iload_n hx hb dX9_seen_67 rfl (lv_at hl 2 rfl) ?_
          refine k_iast (wf := (fun o => wd_X9 aC a_o o)) (o := o4) hX hZ 9 13 rfl (fun _ => rfl) h dX9_seen_68 (fun o5 H locs hZ h => ?_)
          refine lv_aload_n hx hb dX9_seen_69 rfl (lv_at hl 0 rfl) ?_
          refine k_get hX hZ.1 0 9 rfl rfl iw_X9 14 rfl (wm_257) (v := .ref (a_o 10)) rfl dX9_seen_70 ?_
          refine lv_aload_n hx hb dX9_seen_73 rfl (lv_at hl 0 rfl) ?_
          refine k_get hX hZ.1 0 9 rfl rfl iw_X9 11 rfl (wm_121) (v := .int (o_F o5 11)) rfl dX9_seen_74 ?_
          refine lv_iload_n hx hb dX9_seen_77 rfl (lv_at hl 3 rfl) ?_
          refine k_iast (wf := (fun o => wd_X9 aC a_o o)) (o := o5) hX hZ 10 14 rfl (fun _ => rfl) h dX9_seen_78 (fun o6 H locs hZ h => ?_)
          refine lv_aload_n hx hb dX9_seen_79 rfl (lv_at hl 0 rfl) ?_
          refine lv_dup hx hb dX9_seen_80 rfl ?_
          refine k_get hX hZ.1 0 9 rfl rfl iw_X9 11 rfl (wm_121) (v := .int (o_F o6 11)) rfl dX9_seen_81 ?_
          refine lv_iconst (v := 1) hx hb dX9_seen_84 (by decide) ?_
          refine lv_iadd hx hb dX9_seen_85 ?_
          refine k_put (wf := (fun o => wd_X9 aC a_o o)) (o := o6) hX hZ 0 9 rfl rfl iw_X9 tyX9 tyX9_ok nmX9 11 rfl (wm_121) rfl rfl rfl rfl rfl h dX9_seen_86 (fun o7 H locs hZ h => ?_)
          refine lv_aload_n hx hb dX9_seen_89 rfl (lv_at hl 0 rfl) ?_
          refine k_get hX hZ.1 0 9 rfl rfl iw_X9 11 rfl (wm_121) (v := .int (o_F o7 11)) rfl dX9_seen_90 ?_
          cases h
          exact k_iretW hX hr hZ dX9_seen_93
        · replace h := k_t cd h
          clear cd
          refine lv_bipush (v := -5) hx hb dX9_seen_46 (by decide) ?_
          cases h
          exact k_iretW hX hr hZ dX9_seen_48
      · replace h := k_t cd h
        clear cd
        refine lv_bipush (v := -3) hx hb dX9_seen_34 (by decide) ?_
        cases h
        exact k_iretW hX hr hZ dX9_seen_36
def wlX9_forget : List Cond := .code yX9_forget cX9_forget 2 (some .int) :: WL_
theorem hd_X9_forget : yX9_forget.cls = RX9 ∧ yX9_forget.cls ≠ "java/lang/invoke/MethodHandle" ∧ yX9_forget.cls ≠ "java/lang/invoke/VarHandle" ∧ (parseMethodDescriptor yX9_forget.desc).map (fun d => d.parameters.length) = some 0 := by decide +kernel
theorem dX9_forget_0 : decode cX9_forget 0 = .ok (.aload_n 0, 1) := by decide +kernel
theorem dX9_forget_1 : decode cX9_forget 1 = .ok (.getfield 185, 3) := by decide +kernel
theorem dX9_forget_4 : decode cX9_forget 4 = .ok (.istore_n 1, 1) := by decide +kernel
theorem dX9_forget_5 : decode cX9_forget 5 = .ok (.aload_n 0, 1) := by decide +kernel
theorem dX9_forget_6 : decode cX9_forget 6 = .ok (.iconst 0, 1) := by decide +kernel
theorem dX9_forget_7 : decode cX9_forget 7 = .ok (.putfield 185, 3) := by decide +kernel
theorem dX9_forget_10 : decode cX9_forget 10 = .ok (.iload_n 1, 1) := by decide +kernel
theorem dX9_forget_11 : decode cX9_forget 11 = .ok (.ireturn, 1) := by decide +kernel
set_option maxHeartbeats 4000000 in
set_option maxRecDepth 100000 in
theorem c_X9_forget {l : Launch} {D : va_G} {aC : Nat → ClassId} {a_o : Nat → Nat} (s_o : Ob_T) {out : Int32 × Ob_T} (h : f_X9_forget s_o = some out) : M_W l yX9_forget wlX9_forget 0 0 D aC [.ref (a_o 0)] (wd_X9 aC a_o s_o) (some (.int out.1)) (wd_X9 aC a_o out.2) := by
  refine k_entW (cc := cX9_forget) (ret := (some .int)) (maxL := 2) (own := RX9) (by decide) rfl rfl rfl ?_
  intro p e s m below meth c A ls hX hr hZ hl
  have hl : lv_has ls 2 [(0, .ref (a_o 0))] := hl
  generalize ([.ref (a_o 0)] : List Value).toArray = args at hX ⊢
  obtain ⟨hx, hb, hml, hown, hts, hK, hA, hlk⟩ := id hX
  unfold f_X9_forget at h
  generalize s.heap = H at hZ ⊢
  generalize ([] : List Loc) = locs at hZ ⊢
  refine lv_aload_n hx hb dX9_forget_0 rfl (lv_at hl 0 rfl) ?_
  refine k_get hX hZ.1 0 9 rfl rfl iw_X9 11 rfl (wm_121) (v := .int (o_F s_o 11)) rfl dX9_forget_1 ?_
  refine lv_istore_n (lv' := [(1, .int (o_F s_o 11)), (0, .ref (a_o 0))]) hx hb dX9_forget_4 rfl hl (by decide) rfl (fun ls hl => ?_)
  refine lv_aload_n hx hb dX9_forget_5 rfl (lv_at hl 1 rfl) ?_
  refine lv_iconst (v := 0) hx hb dX9_forget_6 (by decide) ?_
  refine k_put (wf := (fun o => wd_X9 aC a_o o)) (o := s_o) hX hZ 0 9 rfl rfl iw_X9 tyX9 tyX9_ok nmX9 11 rfl (wm_121) rfl rfl rfl rfl rfl h dX9_forget_7 (fun o1 H locs hZ h => ?_)
  refine lv_iload_n hx hb dX9_forget_10 rfl (lv_at hl 0 rfl) ?_
  cases h
  exact k_iretW hX hr hZ dX9_forget_11
def wlX9_comesOf : List Cond := .code yX9_comesOf cX9_comesOf 2 (some .int) :: WL_
theorem hd_X9_comesOf : yX9_comesOf.cls ≠ "java/lang/invoke/MethodHandle" ∧ yX9_comesOf.cls ≠ "java/lang/invoke/VarHandle" ∧ (parseMethodDescriptor yX9_comesOf.desc).map (fun d => d.parameters.length) = some 2 := by decide +kernel
theorem dX9_comesOf_0 : decode cX9_comesOf 0 = .ok (.iload_n 0, 1) := by decide +kernel
theorem dX9_comesOf_1 : decode cX9_comesOf 1 = .ok (.iconst 4, 1) := by decide +kernel
theorem dX9_comesOf_2 : decode cX9_comesOf 2 = .ok (.if_icmp .ne 7, 3) := by decide +kernel
theorem dX9_comesOf_5 : decode cX9_comesOf 5 = .ok (.iconst 0, 1) := by decide +kernel
theorem dX9_comesOf_6 : decode cX9_comesOf 6 = .ok (.goto 18, 3) := by decide +kernel
theorem dX9_comesOf_9 : decode cX9_comesOf 9 = .ok (.bipush 100, 2) := by decide +kernel
theorem dX9_comesOf_11 : decode cX9_comesOf 11 = .ok (.iload_n 0, 1) := by decide +kernel
theorem dX9_comesOf_12 : decode cX9_comesOf 12 = .ok (.iconst 2, 1) := by decide +kernel
theorem dX9_comesOf_13 : decode cX9_comesOf 13 = .ok (.if_icmp .ne 9, 3) := by decide +kernel
theorem dX9_comesOf_16 : decode cX9_comesOf 16 = .ok (.iconst 2, 1) := by decide +kernel
theorem dX9_comesOf_17 : decode cX9_comesOf 17 = .ok (.iload_n 1, 1) := by decide +kernel
theorem dX9_comesOf_18 : decode cX9_comesOf 18 = .ok (.imul, 1) := by decide +kernel
theorem dX9_comesOf_19 : decode cX9_comesOf 19 = .ok (.goto 4, 3) := by decide +kernel
theorem dX9_comesOf_22 : decode cX9_comesOf 22 = .ok (.iload_n 1, 1) := by decide +kernel
theorem dX9_comesOf_23 : decode cX9_comesOf 23 = .ok (.iadd, 1) := by decide +kernel
theorem dX9_comesOf_24 : decode cX9_comesOf 24 = .ok (.ireturn, 1) := by decide +kernel
set_option maxHeartbeats 4000000 in
set_option maxRecDepth 100000 in
theorem c_X9_comesOf {l : Launch} {D : va_G} {aC : Nat → ClassId} (x0 : Int32) (x1 : Int32) {out : Int32} (h : f_X9_comesOf x0 x1 = some out) : M_R l yX9_comesOf wlX9_comesOf 0 0 D aC [.int x0, .int x1] (([] : va_W)) (some (.int out)) := by
  refine k_entR (cc := cX9_comesOf) (ret := (some .int)) (maxL := 2) (own := RX9) (by decide) rfl rfl rfl ?_
  intro p e s m below meth c A ls hX hr hZ hl
  have hl : lv_has ls 2 [(0, .int x0), (1, .int x1)] := hl
  generalize ([.int x0, .int x1] : List Value).toArray = args at hX ⊢
  obtain ⟨hx, hb, hml, hown, hts, hK, hA, hlk⟩ := id hX
  unfold f_X9_comesOf at h
  have hF : ∀ q ∈ ([] : List Loc), False := fun _ h => nomatch h
  generalize ([] : List Loc) = locs at hF ⊢
  refine lv_iload_n hx hb dX9_comesOf_0 rfl (lv_at hl 0 rfl) ?_
  refine lv_iconst (v := 4) hx hb dX9_comesOf_1 (by decide) ?_
  refine lv_icmp_ne (tgt := 9) hx hb dX9_comesOf_2 (by decide) (fun cd => ?_) (fun cd => ?_)
  · replace h := k_f cd h
    clear cd
    refine lv_bipush (v := 100) hx hb dX9_comesOf_9 (by decide) ?_
    refine lv_iload_n hx hb dX9_comesOf_11 rfl (lv_at hl 0 rfl) ?_
    refine lv_iconst (v := 2) hx hb dX9_comesOf_12 (by decide) ?_
    refine lv_icmp_ne (tgt := 22) hx hb dX9_comesOf_13 (by decide) (fun cd => ?_) (fun cd => ?_)
    · replace h := k_f cd h
      clear cd
      refine lv_iload_n hx hb dX9_comesOf_22 rfl (lv_at hl 1 rfl) ?_
      refine lv_iadd hx hb dX9_comesOf_23 ?_
      cases h
      exact k_iretR hX hr hF dX9_comesOf_24
    · replace h := k_t cd h
      clear cd
      refine lv_iconst (v := 2) hx hb dX9_comesOf_16 (by decide) ?_
      refine lv_iload_n hx hb dX9_comesOf_17 rfl (lv_at hl 1 rfl) ?_
      refine lv_imul hx hb dX9_comesOf_18 ?_
      refine lv_goto (tgt := 23) hx hb dX9_comesOf_19 (by decide) ?_
      refine lv_iadd hx hb dX9_comesOf_23 ?_
      cases h
      exact k_iretR hX hr hF dX9_comesOf_24
  · replace h := k_t cd h
    clear cd
    refine lv_iconst (v := 0) hx hb dX9_comesOf_5 (by decide) ?_
    refine lv_goto (tgt := 24) hx hb dX9_comesOf_6 (by decide) ?_
    cases h
    exact k_iretR hX hr hF dX9_comesOf_24
