def wlX9_set : List Cond := .code yX9_set cX9_set 7 (some .int) :: WL_
theorem hd_X9_set : yX9_set.cls = RX9 ∧ yX9_set.cls ≠ "java/lang/invoke/MethodHandle" ∧ yX9_set.cls ≠ "java/lang/invoke/VarHandle" ∧ (parseMethodDescriptor yX9_set.desc).map (fun d => d.parameters.length) = some 4 := by decide +kernel
theorem dX9_set_0 : decode cX9_set 0 = .ok (.iload_n 1, 1) := by decide +kernel
theorem dX9_set_1 : decode cX9_set 1 = .ok (.invokestatic 348, 3) := by decide +kernel
theorem dX9_set_4 : decode cX9_set 4 = .ok (.ifCond .ne 6, 3) := by decide +kernel
theorem dX9_set_7 : decode cX9_set 7 = .ok (.bipush (-2), 2) := by decide +kernel
theorem dX9_set_9 : decode cX9_set 9 = .ok (.ireturn, 1) := by decide +kernel
theorem dX9_set_10 : decode cX9_set 10 = .ok (.iload_n 2, 1) := by decide +kernel
theorem dX9_set_11 : decode cX9_set 11 = .ok (.i2l, 1) := by decide +kernel
theorem dX9_set_12 : decode cX9_set 12 = .ok (.lconst 0, 1) := by decide +kernel
theorem dX9_set_13 : decode cX9_set 13 = .ok (.lconst 1, 1) := by decide +kernel
theorem dX9_set_14 : decode cX9_set 14 = .ok (.invokestatic 97, 3) := by decide +kernel
theorem dX9_set_17 : decode cX9_set 17 = .ok (.ifCond .eq 18, 3) := by decide +kernel
theorem dX9_set_20 : decode cX9_set 20 = .ok (.iload 4, 2) := by decide +kernel
theorem dX9_set_22 : decode cX9_set 22 = .ok (.i2l, 1) := by decide +kernel
theorem dX9_set_23 : decode cX9_set 23 = .ok (.ldc2_w 351, 3) := by decide +kernel
theorem dX9_set_26 : decode cX9_set 26 = .ok (.ldc2_w 253, 3) := by decide +kernel
theorem dX9_set_29 : decode cX9_set 29 = .ok (.invokestatic 97, 3) := by decide +kernel
theorem dX9_set_32 : decode cX9_set 32 = .ok (.ifCond .ne 6, 3) := by decide +kernel
theorem dX9_set_35 : decode cX9_set 35 = .ok (.bipush (-3), 2) := by decide +kernel
theorem dX9_set_37 : decode cX9_set 37 = .ok (.ireturn, 1) := by decide +kernel
theorem dX9_set_38 : decode cX9_set 38 = .ok (.aload_n 0, 1) := by decide +kernel
theorem dX9_set_39 : decode cX9_set 39 = .ok (.iload_n 1, 1) := by decide +kernel
theorem dX9_set_40 : decode cX9_set 40 = .ok (.iload_n 2, 1) := by decide +kernel
theorem dX9_set_41 : decode cX9_set 41 = .ok (.iload_n 3, 1) := by decide +kernel
theorem dX9_set_42 : decode cX9_set 42 = .ok (.invokevirtual 353, 3) := by decide +kernel
theorem dX9_set_45 : decode cX9_set 45 = .ok (.istore 5, 2) := by decide +kernel
theorem dX9_set_47 : decode cX9_set 47 = .ok (.iload 5, 2) := by decide +kernel
theorem dX9_set_49 : decode cX9_set 49 = .ok (.ifCond .eq 6, 3) := by decide +kernel
theorem dX9_set_52 : decode cX9_set 52 = .ok (.iload 5, 2) := by decide +kernel
theorem dX9_set_54 : decode cX9_set 54 = .ok (.ireturn, 1) := by decide +kernel
theorem dX9_set_55 : decode cX9_set 55 = .ok (.aload_n 0, 1) := by decide +kernel
theorem dX9_set_56 : decode cX9_set 56 = .ok (.getfield 47, 3) := by decide +kernel
theorem dX9_set_59 : decode cX9_set 59 = .ok (.bipush 10, 2) := by decide +kernel
theorem dX9_set_61 : decode cX9_set 61 = .ok (.iload_n 1, 1) := by decide +kernel
theorem dX9_set_62 : decode cX9_set 62 = .ok (.imul, 1) := by decide +kernel
theorem dX9_set_63 : decode cX9_set 63 = .ok (.iload_n 3, 1) := by decide +kernel
theorem dX9_set_64 : decode cX9_set 64 = .ok (.iadd, 1) := by decide +kernel
theorem dX9_set_65 : decode cX9_set 65 = .ok (.iaload, 1) := by decide +kernel
theorem dX9_set_66 : decode cX9_set 66 = .ok (.istore 6, 2) := by decide +kernel
theorem dX9_set_68 : decode cX9_set 68 = .ok (.aload_n 0, 1) := by decide +kernel
theorem dX9_set_69 : decode cX9_set 69 = .ok (.getfield 47, 3) := by decide +kernel
theorem dX9_set_72 : decode cX9_set 72 = .ok (.bipush 10, 2) := by decide +kernel
theorem dX9_set_74 : decode cX9_set 74 = .ok (.iload_n 1, 1) := by decide +kernel
theorem dX9_set_75 : decode cX9_set 75 = .ok (.imul, 1) := by decide +kernel
theorem dX9_set_76 : decode cX9_set 76 = .ok (.iload_n 3, 1) := by decide +kernel
theorem dX9_set_77 : decode cX9_set 77 = .ok (.iadd, 1) := by decide +kernel
theorem dX9_set_78 : decode cX9_set 78 = .ok (.iload 4, 2) := by decide +kernel
theorem dX9_set_80 : decode cX9_set 80 = .ok (.iastore, 1) := by decide +kernel
theorem dX9_set_81 : decode cX9_set 81 = .ok (.iload 6, 2) := by decide +kernel
theorem dX9_set_83 : decode cX9_set 83 = .ok (.ldc_w 357, 3) := by decide +kernel
theorem dX9_set_86 : decode cX9_set 86 = .ok (.iadd, 1) := by decide +kernel
theorem dX9_set_87 : decode cX9_set 87 = .ok (.ireturn, 1) := by decide +kernel
set_option maxHeartbeats 4000000 in
set_option maxRecDepth 100000 in
theorem c_X9_set {l : Launch} {D : va_G} {aC : Nat → ClassId} {a_o : Nat → Nat} (s_o : Ob_T) (x1 : Int32) (x2 : Int32) (x3 : Int32) (x4 : Int32) {out : Int32 × Ob_T} (h : f_X9_set s_o x1 x2 x3 x4 = some out) : M_W l yX9_set wlX9_set 2 48 D aC [.ref (a_o 0), .int x1, .int x2, .int x3, .int x4] (wd_X9 aC a_o s_o) (some (.int out.1)) (wd_X9 aC a_o out.2) := by
  refine k_entW (cc := cX9_set) (ret := (some .int)) (maxL := 7) (own := RX9) (by decide) rfl rfl rfl ?_
  intro p e s m below meth c A ls hX hr hZ hl
  have hl : lv_has ls 7 [(0, .ref (a_o 0)), (1, .int x1), (2, .int x2), (3, .int x3), (4, .int x4)] := hl
  generalize ([.ref (a_o 0), .int x1, .int x2, .int x3, .int x4] : List Value).toArray = args at hX ⊢
  obtain ⟨hx, hb, hml, hown, hts, hK, hA, hlk⟩ := id hX
  unfold f_X9_set at h
  generalize s.heap = H at hZ ⊢
  generalize ([] : List Loc) = locs at hZ ⊢
  refine lv_iload_n hx hb dX9_set_0 rfl (lv_at hl 1 rfl) ?_
  obtain ⟨u1, hu, h⟩ := k_bd h
  refine k_sR (As := [.int x1]) (rest := []) (wc := []) (v := some (.int u1)) (st1 := [.int u1]) hX hl.1 hZ (c_X9_isRow  x1 hu) (gs_ wm_268 wm_270 wm_11 wm_269) rfl hd_X9_isRow ⟨rfl, rfl⟩ [] rfl rfl rfl rfl rfl dX9_set_1 rfl ⟨rfl, rfl⟩ (fun locs hZ => ?_)
  clear hu
  refine lv_if_ne (tgt := 10) hx hb dX9_set_4 (by decide) (fun cd => ?_) (fun cd => ?_)
  · replace h := k_f cd h
    clear cd
    refine lv_iload_n hx hb dX9_set_10 rfl (lv_at hl 2 rfl) ?_
    refine lv_i2l (v := x2.toInt64) hx hb dX9_set_11 rfl ?_
    refine lv_lconst (v := 0) hx hb dX9_set_12 (by decide) ?_
    refine lv_lconst (v := 1) hx hb dX9_set_13 (by decide) ?_
    obtain ⟨u2, hu, h⟩ := k_bd h
    refine k_sR (As := [.long x2.toInt64, .long (0 : Int64), .long (1 : Int64)]) (rest := []) (wc := []) (v := some (.int u2)) (st1 := [.int u2]) hX hl.1 hZ (c_X9_in  x2.toInt64 (0 : Int64) (1 : Int64) hu) (gs_ wm_10 wm_13 wm_11 wm_12) rfl hd_X9_in ⟨rfl, rfl⟩ [] rfl rfl rfl rfl rfl dX9_set_14 rfl ⟨rfl, rfl⟩ (fun locs hZ => ?_)
    clear hu
    refine lv_if_eq (tgt := 35) hx hb dX9_set_17 (by decide) (fun cd => ?_) (fun cd => ?_)
    · replace h := k_t cd h
      clear cd
      refine lv_bipush (v := -3) hx hb dX9_set_35 (by decide) ?_
      cases h
      exact k_iretW hX hr hZ dX9_set_37
    · replace h := k_f cd h
      clear cd
      refine lv_iload hx hb dX9_set_20 (lv_at hl 4 rfl) ?_
      refine lv_i2l (v := x4.toInt64) hx hb dX9_set_22 rfl ?_
      refine lv_ldc2 (v := -9999) hx hb hown (hts _ wm_271) dX9_set_23 ?_
      refine lv_ldc2 (v := 9999) hx hb hown (hts _ wm_154) dX9_set_26 ?_
      obtain ⟨u3, hu, h⟩ := k_bd h
      refine k_sR (As := [.long x4.toInt64, .long (-9999 : Int64), .long (9999 : Int64)]) (rest := []) (wc := []) (v := some (.int u3)) (st1 := [.int u3]) hX hl.1 hZ (c_X9_in  x4.toInt64 (-9999 : Int64) (9999 : Int64) hu) (gs_ wm_10 wm_13 wm_11 wm_12) rfl hd_X9_in ⟨rfl, rfl⟩ [] rfl rfl rfl rfl rfl dX9_set_29 rfl ⟨rfl, rfl⟩ (fun locs hZ => ?_)
      clear hu
      refine lv_if_ne (tgt := 38) hx hb dX9_set_32 (by decide) (fun cd => ?_) (fun cd => ?_)
      · replace h := k_f cd h
        clear cd
        refine lv_aload_n hx hb dX9_set_38 rfl (lv_at hl 0 rfl) ?_
        refine lv_iload_n hx hb dX9_set_39 rfl (lv_at hl 1 rfl) ?_
        refine lv_iload_n hx hb dX9_set_40 rfl (lv_at hl 2 rfl) ?_
        refine lv_iload_n hx hb dX9_set_41 rfl (lv_at hl 3 rfl) ?_
        obtain ⟨u4, hu, h⟩ := k_bd h
        refine k_vRs (As := [.int x1, .int x2, .int x3]) (rest := []) (v := some (.int u4)) (st1 := [.int u4]) hX hl.1 hZ (c_X9_noPlace (a_o := a_o) s_o x1 x2 x3 hu) (gv_ wm_273 wm_275 wm_276 wm_11 wm_274) rfl hd_X9_noPlace ⟨rfl, rfl⟩ 9 0 rfl rfl rfl rfl rfl dX9_set_42 rfl ⟨rfl, rfl⟩ (fun locs hZ => ?_)
        clear hu
        refine lv_istore (lv' := [(5, .int u4), (0, .ref (a_o 0)), (1, .int x1), (2, .int x2), (3, .int x3), (4, .int x4)]) hx hb dX9_set_45 hl (by decide) rfl (fun ls hl => ?_)
        refine lv_iload hx hb dX9_set_47 (lv_at hl 0 rfl) ?_
        refine lv_if_eq (tgt := 55) hx hb dX9_set_49 (by decide) (fun cd => ?_) (fun cd => ?_)
        · replace h := k_t cd h
          clear cd
          refine lv_aload_n hx hb dX9_set_55 rfl (lv_at hl 1 rfl) ?_
          refine k_get hX hZ.1 0 9 rfl rfl iw_X9 17 rfl (wm_267) (v := .ref (a_o 13)) rfl dX9_set_56 ?_
          refine lv_bipush (v := 10) hx hb dX9_set_59 (by decide) ?_
          refine lv_iload_n hx hb dX9_set_61 rfl (lv_at hl 2 rfl) ?_
          refine lv_imul hx hb dX9_set_62 ?_
          refine lv_iload_n hx hb dX9_set_63 rfl (lv_at hl 4 rfl) ?_
          refine lv_iadd hx hb dX9_set_64 ?_
          refine k_iald hX hZ.1 13 rfl h dX9_set_65 (fun v5 h => ?_)
          refine lv_istore (lv' := [(6, .int v5), (5, .int u4), (0, .ref (a_o 0)), (1, .int x1), (2, .int x2), (3, .int x3), (4, .int x4)]) hx hb dX9_set_66 hl (by decide) rfl (fun ls hl => ?_)
          refine lv_aload_n hx hb dX9_set_68 rfl (lv_at hl 2 rfl) ?_
          refine k_get hX hZ.1 0 9 rfl rfl iw_X9 17 rfl (wm_267) (v := .ref (a_o 13)) rfl dX9_set_69 ?_
          refine lv_bipush (v := 10) hx hb dX9_set_72 (by decide) ?_
          refine lv_iload_n hx hb dX9_set_74 rfl (lv_at hl 3 rfl) ?_
          refine lv_imul hx hb dX9_set_75 ?_
          refine lv_iload_n hx hb dX9_set_76 rfl (lv_at hl 5 rfl) ?_
          refine lv_iadd hx hb dX9_set_77 ?_
          refine lv_iload hx hb dX9_set_78 (lv_at hl 6 rfl) ?_
          refine k_iast (wf := (fun o => wd_X9 aC a_o o)) (o := s_o) hX hZ 13 17 rfl (fun _ => rfl) h dX9_set_80 (fun o6 H locs hZ h => ?_)
          refine lv_iload hx hb dX9_set_81 (lv_at hl 0 rfl) ?_
          refine lv_ldcw (v := 50000) hx hb hown (hts _ wm_272) dX9_set_83 ?_
          refine lv_iadd hx hb dX9_set_86 ?_
          cases h
          exact k_iretW hX hr hZ dX9_set_87
        · replace h := k_f cd h
          clear cd
          refine lv_iload hx hb dX9_set_52 (lv_at hl 0 rfl) ?_
          cases h
          exact k_iretW hX hr hZ dX9_set_54
      · replace h := k_t cd h
        clear cd
        refine lv_bipush (v := -3) hx hb dX9_set_35 (by decide) ?_
        cases h
        exact k_iretW hX hr hZ dX9_set_37
  · replace h := k_t cd h
    clear cd
    refine lv_bipush (v := -2) hx hb dX9_set_7 (by decide) ?_
    cases h
    exact k_iretW hX hr hZ dX9_set_9
def wlX9_get : List Cond := .code yX9_get cX9_get 5 (some .int) :: WL_
theorem hd_X9_get : yX9_get.cls = RX9 ∧ yX9_get.cls ≠ "java/lang/invoke/MethodHandle" ∧ yX9_get.cls ≠ "java/lang/invoke/VarHandle" ∧ (parseMethodDescriptor yX9_get.desc).map (fun d => d.parameters.length) = some 3 := by decide +kernel
theorem dX9_get_0 : decode cX9_get 0 = .ok (.iload_n 1, 1) := by decide +kernel
theorem dX9_get_1 : decode cX9_get 1 = .ok (.invokestatic 348, 3) := by decide +kernel
theorem dX9_get_4 : decode cX9_get 4 = .ok (.ifCond .ne 6, 3) := by decide +kernel
theorem dX9_get_7 : decode cX9_get 7 = .ok (.bipush (-2), 2) := by decide +kernel
theorem dX9_get_9 : decode cX9_get 9 = .ok (.ireturn, 1) := by decide +kernel
theorem dX9_get_10 : decode cX9_get 10 = .ok (.iload_n 2, 1) := by decide +kernel
theorem dX9_get_11 : decode cX9_get 11 = .ok (.i2l, 1) := by decide +kernel
theorem dX9_get_12 : decode cX9_get 12 = .ok (.lconst 0, 1) := by decide +kernel
theorem dX9_get_13 : decode cX9_get 13 = .ok (.lconst 1, 1) := by decide +kernel
theorem dX9_get_14 : decode cX9_get 14 = .ok (.invokestatic 97, 3) := by decide +kernel
theorem dX9_get_17 : decode cX9_get 17 = .ok (.ifCond .ne 6, 3) := by decide +kernel
theorem dX9_get_20 : decode cX9_get 20 = .ok (.bipush (-3), 2) := by decide +kernel
theorem dX9_get_22 : decode cX9_get 22 = .ok (.ireturn, 1) := by decide +kernel
theorem dX9_get_23 : decode cX9_get 23 = .ok (.aload_n 0, 1) := by decide +kernel
theorem dX9_get_24 : decode cX9_get 24 = .ok (.iload_n 1, 1) := by decide +kernel
theorem dX9_get_25 : decode cX9_get 25 = .ok (.iload_n 2, 1) := by decide +kernel
theorem dX9_get_26 : decode cX9_get 26 = .ok (.iload_n 3, 1) := by decide +kernel
theorem dX9_get_27 : decode cX9_get 27 = .ok (.invokevirtual 353, 3) := by decide +kernel
theorem dX9_get_30 : decode cX9_get 30 = .ok (.istore 4, 2) := by decide +kernel
theorem dX9_get_32 : decode cX9_get 32 = .ok (.iload 4, 2) := by decide +kernel
theorem dX9_get_34 : decode cX9_get 34 = .ok (.ifCond .eq 8, 3) := by decide +kernel
theorem dX9_get_37 : decode cX9_get 37 = .ok (.iload 4, 2) := by decide +kernel
theorem dX9_get_39 : decode cX9_get 39 = .ok (.goto 18, 3) := by decide +kernel
theorem dX9_get_42 : decode cX9_get 42 = .ok (.aload_n 0, 1) := by decide +kernel
theorem dX9_get_43 : decode cX9_get 43 = .ok (.getfield 47, 3) := by decide +kernel
theorem dX9_get_46 : decode cX9_get 46 = .ok (.bipush 10, 2) := by decide +kernel
theorem dX9_get_48 : decode cX9_get 48 = .ok (.iload_n 1, 1) := by decide +kernel
theorem dX9_get_49 : decode cX9_get 49 = .ok (.imul, 1) := by decide +kernel
theorem dX9_get_50 : decode cX9_get 50 = .ok (.iload_n 3, 1) := by decide +kernel
theorem dX9_get_51 : decode cX9_get 51 = .ok (.iadd, 1) := by decide +kernel
theorem dX9_get_52 : decode cX9_get 52 = .ok (.iaload, 1) := by decide +kernel
theorem dX9_get_53 : decode cX9_get 53 = .ok (.ldc_w 357, 3) := by decide +kernel
theorem dX9_get_56 : decode cX9_get 56 = .ok (.iadd, 1) := by decide +kernel
theorem dX9_get_57 : decode cX9_get 57 = .ok (.ireturn, 1) := by decide +kernel
set_option maxHeartbeats 4000000 in
set_option maxRecDepth 100000 in
theorem c_X9_get {l : Launch} {D : va_G} {aC : Nat → ClassId} {a_o : Nat → Nat} (s_o : Ob_T) (x1 : Int32) (x2 : Int32) (x3 : Int32) {out : Int32} (h : f_X9_get s_o x1 x2 x3 = some out) : M_R l yX9_get wlX9_get 2 48 D aC [.ref (a_o 0), .int x1, .int x2, .int x3] (wd_X9 aC a_o s_o) (some (.int out)) := by
  refine k_entR (cc := cX9_get) (ret := (some .int)) (maxL := 5) (own := RX9) (by decide) rfl rfl rfl ?_
  intro p e s m below meth c A ls hX hr hZ hl
  have hl : lv_has ls 5 [(0, .ref (a_o 0)), (1, .int x1), (2, .int x2), (3, .int x3)] := hl
  generalize ([.ref (a_o 0), .int x1, .int x2, .int x3] : List Value).toArray = args at hX ⊢
  obtain ⟨hx, hb, hml, hown, hts, hK, hA, hlk⟩ := id hX
  unfold f_X9_get at h
  have hF : ∀ q ∈ ([] : List Loc), False := fun _ h => nomatch h
  generalize ([] : List Loc) = locs at hF ⊢
  refine lv_iload_n hx hb dX9_get_0 rfl (lv_at hl 1 rfl) ?_
  obtain ⟨u1, hu, h⟩ := k_bd h
  refine k_sRR (As := [.int x1]) (rest := []) (wc := []) (v := some (.int u1)) (st1 := [.int u1]) hX hl.1 hZ hF (c_X9_isRow  x1 hu) (gs_ wm_268 wm_270 wm_11 wm_269) rfl hd_X9_isRow ⟨rfl, rfl⟩ [] rfl rfl rfl rfl rfl dX9_get_1 rfl ⟨rfl, rfl⟩ (fun locs hF => ?_)
  clear hu
  refine lv_if_ne (tgt := 10) hx hb dX9_get_4 (by decide) (fun cd => ?_) (fun cd => ?_)
  · replace h := k_f cd h
    clear cd
    refine lv_iload_n hx hb dX9_get_10 rfl (lv_at hl 2 rfl) ?_
    refine lv_i2l (v := x2.toInt64) hx hb dX9_get_11 rfl ?_
    refine lv_lconst (v := 0) hx hb dX9_get_12 (by decide) ?_
    refine lv_lconst (v := 1) hx hb dX9_get_13 (by decide) ?_
    obtain ⟨u2, hu, h⟩ := k_bd h
    refine k_sRR (As := [.long x2.toInt64, .long (0 : Int64), .long (1 : Int64)]) (rest := []) (wc := []) (v := some (.int u2)) (st1 := [.int u2]) hX hl.1 hZ hF (c_X9_in  x2.toInt64 (0 : Int64) (1 : Int64) hu) (gs_ wm_10 wm_13 wm_11 wm_12) rfl hd_X9_in ⟨rfl, rfl⟩ [] rfl rfl rfl rfl rfl dX9_get_14 rfl ⟨rfl, rfl⟩ (fun locs hF => ?_)
    clear hu
    refine lv_if_ne (tgt := 23) hx hb dX9_get_17 (by decide) (fun cd => ?_) (fun cd => ?_)
    · replace h := k_f cd h
      clear cd
      refine lv_aload_n hx hb dX9_get_23 rfl (lv_at hl 0 rfl) ?_
      refine lv_iload_n hx hb dX9_get_24 rfl (lv_at hl 1 rfl) ?_
      refine lv_iload_n hx hb dX9_get_25 rfl (lv_at hl 2 rfl) ?_
      refine lv_iload_n hx hb dX9_get_26 rfl (lv_at hl 3 rfl) ?_
      obtain ⟨u3, hu, h⟩ := k_bd h
      refine k_vRRs (As := [.int x1, .int x2, .int x3]) (rest := []) (v := some (.int u3)) (st1 := [.int u3]) hX hl.1 hZ hF (c_X9_noPlace (a_o := a_o) s_o x1 x2 x3 hu) (gv_ wm_273 wm_275 wm_276 wm_11 wm_274) rfl hd_X9_noPlace ⟨rfl, rfl⟩ 9 0 rfl rfl rfl rfl rfl dX9_get_27 rfl ⟨rfl, rfl⟩ (fun locs hF => ?_)
      clear hu
      refine lv_istore (lv' := [(4, .int u3), (0, .ref (a_o 0)), (1, .int x1), (2, .int x2), (3, .int x3)]) hx hb dX9_get_30 hl (by decide) rfl (fun ls hl => ?_)
      refine lv_iload hx hb dX9_get_32 (lv_at hl 0 rfl) ?_
      refine lv_if_eq (tgt := 42) hx hb dX9_get_34 (by decide) (fun cd => ?_) (fun cd => ?_)
      · replace h := k_t cd h
        clear cd
        refine lv_aload_n hx hb dX9_get_42 rfl (lv_at hl 1 rfl) ?_
        refine k_get hX hZ.1 0 9 rfl rfl iw_X9 17 rfl (wm_267) (v := .ref (a_o 13)) rfl dX9_get_43 ?_
        refine lv_bipush (v := 10) hx hb dX9_get_46 (by decide) ?_
        refine lv_iload_n hx hb dX9_get_48 rfl (lv_at hl 2 rfl) ?_
        refine lv_imul hx hb dX9_get_49 ?_
        refine lv_iload_n hx hb dX9_get_50 rfl (lv_at hl 4 rfl) ?_
        refine lv_iadd hx hb dX9_get_51 ?_
        refine k_iald hX hZ.1 13 rfl h dX9_get_52 (fun v4 h => ?_)
        refine lv_ldcw (v := 50000) hx hb hown (hts _ wm_272) dX9_get_53 ?_
        refine lv_iadd hx hb dX9_get_56 ?_
        cases h
        exact k_iretR hX hr hF dX9_get_57
      · replace h := k_f cd h
        clear cd
        refine lv_iload hx hb dX9_get_37 (lv_at hl 0 rfl) ?_
        refine lv_goto (tgt := 57) hx hb dX9_get_39 (by decide) ?_
        cases h
        exact k_iretR hX hr hF dX9_get_57
    · replace h := k_t cd h
      clear cd
      refine lv_bipush (v := -3) hx hb dX9_get_20 (by decide) ?_
      cases h
      exact k_iretR hX hr hF dX9_get_22
  · replace h := k_t cd h
    clear cd
    refine lv_bipush (v := -2) hx hb dX9_get_7 (by decide) ?_
    cases h
    exact k_iretR hX hr hF dX9_get_9
def wlX9_isSpan : List Cond := .code yX9_isSpan cX9_isSpan 4 (some .boolean) :: WL_
theorem hd_X9_isSpan : yX9_isSpan.cls = RX9 ∧ yX9_isSpan.cls ≠ "java/lang/invoke/MethodHandle" ∧ yX9_isSpan.cls ≠ "java/lang/invoke/VarHandle" ∧ (parseMethodDescriptor yX9_isSpan.desc).map (fun d => d.parameters.length) = some 3 := by decide +kernel
theorem dX9_isSpan_0 : decode cX9_isSpan 0 = .ok (.iload_n 2, 1) := by decide +kernel
theorem dX9_isSpan_1 : decode cX9_isSpan 1 = .ok (.ifCond .lt 23, 3) := by decide +kernel
theorem dX9_isSpan_4 : decode cX9_isSpan 4 = .ok (.iload_n 2, 1) := by decide +kernel
theorem dX9_isSpan_5 : decode cX9_isSpan 5 = .ok (.i2l, 1) := by decide +kernel
theorem dX9_isSpan_6 : decode cX9_isSpan 6 = .ok (.iload_n 3, 1) := by decide +kernel
theorem dX9_isSpan_7 : decode cX9_isSpan 7 = .ok (.i2l, 1) := by decide +kernel
theorem dX9_isSpan_8 : decode cX9_isSpan 8 = .ok (.ladd, 1) := by decide +kernel
theorem dX9_isSpan_9 : decode cX9_isSpan 9 = .ok (.aload_n 0, 1) := by decide +kernel
theorem dX9_isSpan_10 : decode cX9_isSpan 10 = .ok (.getfield 44, 3) := by decide +kernel
theorem dX9_isSpan_13 : decode cX9_isSpan 13 = .ok (.iload_n 1, 1) := by decide +kernel
theorem dX9_isSpan_14 : decode cX9_isSpan 14 = .ok (.iaload, 1) := by decide +kernel
theorem dX9_isSpan_15 : decode cX9_isSpan 15 = .ok (.i2l, 1) := by decide +kernel
theorem dX9_isSpan_16 : decode cX9_isSpan 16 = .ok (.lcmp, 1) := by decide +kernel
theorem dX9_isSpan_17 : decode cX9_isSpan 17 = .ok (.ifCond .gt 7, 3) := by decide +kernel
theorem dX9_isSpan_20 : decode cX9_isSpan 20 = .ok (.iconst 1, 1) := by decide +kernel
theorem dX9_isSpan_21 : decode cX9_isSpan 21 = .ok (.goto 4, 3) := by decide +kernel
theorem dX9_isSpan_24 : decode cX9_isSpan 24 = .ok (.iconst 0, 1) := by decide +kernel
theorem dX9_isSpan_25 : decode cX9_isSpan 25 = .ok (.ireturn, 1) := by decide +kernel
set_option maxHeartbeats 4000000 in
set_option maxRecDepth 100000 in
theorem c_X9_isSpan {l : Launch} {D : va_G} {aC : Nat → ClassId} {a_o : Nat → Nat} (s_o : Ob_T) (x1 : Int32) (x2 : Int32) (x3 : Int32) {out : Int32} (h : f_X9_isSpan s_o x1 x2 x3 = some out) : M_R l yX9_isSpan wlX9_isSpan 0 0 D aC [.ref (a_o 0), .int x1, .int x2, .int x3] (wd_X9 aC a_o s_o) (some (.int out)) := by
  refine k_entR (cc := cX9_isSpan) (ret := (some .boolean)) (maxL := 4) (own := RX9) (by decide) rfl rfl rfl ?_
  intro p e s m below meth c A ls hX hr hZ hl
  have hl : lv_has ls 4 [(0, .ref (a_o 0)), (1, .int x1), (2, .int x2), (3, .int x3)] := hl
  generalize ([.ref (a_o 0), .int x1, .int x2, .int x3] : List Value).toArray = args at hX ⊢
  obtain ⟨hx, hb, hml, hown, hts, hK, hA, hlk⟩ := id hX
  unfold f_X9_isSpan at h
  have hF : ∀ q ∈ ([] : List Loc), False := fun _ h => nomatch h
  generalize ([] : List Loc) = locs at hF ⊢
  refine lv_iload_n hx hb dX9_isSpan_0 rfl (lv_at hl 2 rfl) ?_
  refine lv_if_lt (tgt := 24) hx hb dX9_isSpan_1 (by decide) (fun cd => ?_) (fun cd => ?_)
  · replace h := k_t cd h
    clear cd
    refine lv_iconst (v := 0) hx hb dX9_isSpan_24 (by decide) ?_
    cases h
    exact k_zretR (v := (0 : Int32)) hX hr rfl hF dX9_isSpan_25
  · replace h := k_f cd h
    clear cd
    refine lv_iload_n hx hb dX9_isSpan_4 rfl (lv_at hl 2 rfl) ?_
    refine lv_i2l (v := x2.toInt64) hx hb dX9_isSpan_5 rfl ?_
    refine lv_iload_n hx hb dX9_isSpan_6 rfl (lv_at hl 3 rfl) ?_
    refine lv_i2l (v := x3.toInt64) hx hb dX9_isSpan_7 rfl ?_
    refine lv_ladd hx hb dX9_isSpan_8 ?_
    refine lv_aload_n hx hb dX9_isSpan_9 rfl (lv_at hl 0 rfl) ?_
    refine k_get hX hZ.1 0 9 rfl rfl iw_X9 16 rfl (wm_120) (v := .ref (a_o 12)) rfl dX9_isSpan_10 ?_
    refine lv_iload_n hx hb dX9_isSpan_13 rfl (lv_at hl 1 rfl) ?_
    refine k_iald hX hZ.1 12 rfl h dX9_isSpan_14 (fun v1 h => ?_)
    refine lv_i2l (v := v1.toInt64) hx hb dX9_isSpan_15 rfl ?_
    refine W.lcmp hx hb dX9_isSpan_16 ?_
    refine lv_if_gt (tgt := 24) hx hb dX9_isSpan_17 (by decide) (fun cd => ?_) (fun cd => ?_)
    · replace h := k_t cd h
      clear cd
      refine lv_iconst (v := 0) hx hb dX9_isSpan_24 (by decide) ?_
      cases h
      exact k_zretR (v := (0 : Int32)) hX hr rfl hF dX9_isSpan_25
    · replace h := k_f cd h
      clear cd
      refine lv_iconst (v := 1) hx hb dX9_isSpan_20 (by decide) ?_
      refine lv_goto (tgt := 25) hx hb dX9_isSpan_21 (by decide) ?_
      cases h
      exact k_zretR (v := (1 : Int32)) hX hr rfl hF dX9_isSpan_25
