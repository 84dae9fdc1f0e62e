theorem dX6_readClause_0 : decode cX6_readClause 0 = .ok (.aload_n 0, 1) := by decide +kernel
theorem dX6_readClause_1 : decode cX6_readClause 1 = .ok (.getfield 39, 3) := by decide +kernel
theorem dX6_readClause_4 : decode cX6_readClause 4 = .ok (.istore_n 2, 1) := by decide +kernel
theorem dX6_readClause_5 : decode cX6_readClause 5 = .ok (.aload_n 0, 1) := by decide +kernel
theorem dX6_readClause_6 : decode cX6_readClause 6 = .ok (.invokevirtual 42, 3) := by decide +kernel
theorem dX6_readClause_9 : decode cX6_readClause 9 = .ok (.istore_n 3, 1) := by decide +kernel
theorem dX6_readClause_10 : decode cX6_readClause 10 = .ok (.iload_n 3, 1) := by decide +kernel
theorem dX6_readClause_11 : decode cX6_readClause 11 = .ok (.iconst (-1), 1) := by decide +kernel
theorem dX6_readClause_12 : decode cX6_readClause 12 = .ok (.if_icmp .ne 5, 3) := by decide +kernel
theorem dX6_readClause_15 : decode cX6_readClause 15 = .ok (.iload_n 2, 1) := by decide +kernel
theorem dX6_readClause_16 : decode cX6_readClause 16 = .ok (.ireturn, 1) := by decide +kernel
theorem dX6_readClause_17 : decode cX6_readClause 17 = .ok (.iload_n 3, 1) := by decide +kernel
theorem dX6_readClause_18 : decode cX6_readClause 18 = .ok (.bipush 7, 2) := by decide +kernel
theorem dX6_readClause_20 : decode cX6_readClause 20 = .ok (.if_icmp .ne 13, 3) := by decide +kernel
theorem dX6_readClause_23 : decode cX6_readClause 23 = .ok (.aload_n 1, 1) := by decide +kernel
theorem dX6_readClause_24 : decode cX6_readClause 24 = .ok (.invokevirtual 46, 3) := by decide +kernel
theorem dX6_readClause_27 : decode cX6_readClause 27 = .ok (.aload_n 0, 1) := by decide +kernel
theorem dX6_readClause_28 : decode cX6_readClause 28 = .ok (.invokevirtual 25, 3) := by decide +kernel
theorem dX6_readClause_31 : decode cX6_readClause 31 = .ok (.iconst (-1), 1) := by decide +kernel
theorem dX6_readClause_32 : decode cX6_readClause 32 = .ok (.ireturn, 1) := by decide +kernel
theorem dX6_readClause_33 : decode cX6_readClause 33 = .ok (.aload_n 1, 1) := by decide +kernel
theorem dX6_readClause_34 : decode cX6_readClause 34 = .ok (.invokevirtual 51, 3) := by decide +kernel
theorem dX6_readClause_37 : decode cX6_readClause 37 = .ok (.bipush 10, 2) := by decide +kernel
theorem dX6_readClause_39 : decode cX6_readClause 39 = .ok (.if_icmp .lt 5, 3) := by decide +kernel
theorem dX6_readClause_42 : decode cX6_readClause 42 = .ok (.iload_n 2, 1) := by decide +kernel
theorem dX6_readClause_43 : decode cX6_readClause 43 = .ok (.ireturn, 1) := by decide +kernel
theorem dX6_readClause_44 : decode cX6_readClause 44 = .ok (.aload_n 0, 1) := by decide +kernel
theorem dX6_readClause_45 : decode cX6_readClause 45 = .ok (.invokevirtual 25, 3) := by decide +kernel
theorem dX6_readClause_48 : decode cX6_readClause 48 = .ok (.aload_n 0, 1) := by decide +kernel
theorem dX6_readClause_49 : decode cX6_readClause 49 = .ok (.iload_n 3, 1) := by decide +kernel
theorem dX6_readClause_50 : decode cX6_readClause 50 = .ok (.aload_n 1, 1) := by decide +kernel
theorem dX6_readClause_51 : decode cX6_readClause 51 = .ok (.invokevirtual 51, 3) := by decide +kernel
theorem dX6_readClause_54 : decode cX6_readClause 54 = .ok (.invokevirtual 54, 3) := by decide +kernel
theorem dX6_readClause_57 : decode cX6_readClause 57 = .ok (.ifCond .ne 8, 3) := by decide +kernel
theorem dX6_readClause_60 : decode cX6_readClause 60 = .ok (.aload_n 0, 1) := by decide +kernel
theorem dX6_readClause_61 : decode cX6_readClause 61 = .ok (.getfield 39, 3) := by decide +kernel
theorem dX6_readClause_64 : decode cX6_readClause 64 = .ok (.ireturn, 1) := by decide +kernel
theorem dX6_readClause_65 : decode cX6_readClause 65 = .ok (.aload_n 1, 1) := by decide +kernel
theorem dX6_readClause_66 : decode cX6_readClause 66 = .ok (.iload_n 3, 1) := by decide +kernel
theorem dX6_readClause_67 : decode cX6_readClause 67 = .ok (.aload_n 0, 1) := by decide +kernel
theorem dX6_readClause_68 : decode cX6_readClause 68 = .ok (.getfield 58, 3) := by decide +kernel
theorem dX6_readClause_71 : decode cX6_readClause 71 = .ok (.aload_n 0, 1) := by decide +kernel
theorem dX6_readClause_72 : decode cX6_readClause 72 = .ok (.getfield 61, 3) := by decide +kernel
theorem dX6_readClause_75 : decode cX6_readClause 75 = .ok (.aload_n 0, 1) := by decide +kernel
theorem dX6_readClause_76 : decode cX6_readClause 76 = .ok (.getfield 64, 3) := by decide +kernel
theorem dX6_readClause_79 : decode cX6_readClause 79 = .ok (.invokevirtual 67, 3) := by decide +kernel
theorem dX6_readClause_82 : decode cX6_readClause 82 = .ok (.bipush 6, 2) := by decide +kernel
theorem dX6_readClause_84 : decode cX6_readClause 84 = .ok (.if_icmp .le 5, 3) := by decide +kernel
theorem dX6_readClause_87 : decode cX6_readClause 87 = .ok (.iload_n 2, 1) := by decide +kernel
theorem dX6_readClause_88 : decode cX6_readClause 88 = .ok (.ireturn, 1) := by decide +kernel
theorem dX6_readClause_89 : decode cX6_readClause 89 = .ok (.aload_n 1, 1) := by decide +kernel
theorem dX6_readClause_90 : decode cX6_readClause 90 = .ok (.iload_n 3, 1) := by decide +kernel
theorem dX6_readClause_91 : decode cX6_readClause 91 = .ok (.aload_n 0, 1) := by decide +kernel
theorem dX6_readClause_92 : decode cX6_readClause 92 = .ok (.getfield 58, 3) := by decide +kernel
theorem dX6_readClause_95 : decode cX6_readClause 95 = .ok (.aload_n 0, 1) := by decide +kernel
theorem dX6_readClause_96 : decode cX6_readClause 96 = .ok (.getfield 61, 3) := by decide +kernel
theorem dX6_readClause_99 : decode cX6_readClause 99 = .ok (.aload_n 0, 1) := by decide +kernel
theorem dX6_readClause_100 : decode cX6_readClause 100 = .ok (.getfield 64, 3) := by decide +kernel
theorem dX6_readClause_103 : decode cX6_readClause 103 = .ok (.invokevirtual 71, 3) := by decide +kernel
theorem dX6_readClause_106 : decode cX6_readClause 106 = .ok (.iload_n 3, 1) := by decide +kernel
theorem dX6_readClause_107 : decode cX6_readClause 107 = .ok (.ifCond .eq 9, 3) := by decide +kernel
theorem dX6_readClause_110 : decode cX6_readClause 110 = .ok (.iload_n 3, 1) := by decide +kernel
theorem dX6_readClause_111 : decode cX6_readClause 111 = .ok (.bipush 6, 2) := by decide +kernel
theorem dX6_readClause_113 : decode cX6_readClause 113 = .ok (.if_icmp .ne 8, 3) := by decide +kernel
theorem dX6_readClause_116 : decode cX6_readClause 116 = .ok (.aload_n 0, 1) := by decide +kernel
theorem dX6_readClause_117 : decode cX6_readClause 117 = .ok (.aload_n 1, 1) := by decide +kernel
theorem dX6_readClause_118 : decode cX6_readClause 118 = .ok (.invokevirtual 75, 3) := by decide +kernel
theorem dX6_readClause_121 : decode cX6_readClause 121 = .ok (.iconst (-1), 1) := by decide +kernel
theorem dX6_readClause_122 : decode cX6_readClause 122 = .ok (.ireturn, 1) := by decide +kernel
theorem wq_1 : Cond.methodLink RX6 42 yX6_kindOfWord ∈ WL_ := wl_in (tj_2 (List.mem_of_getElem? (i := 72) rfl)) rfl
theorem wq_2 : Cond.instanceMethod yX6_kindOfWord ∈ WL_ := wl_in (tj_2 (List.mem_of_getElem? (i := 74) rfl)) rfl
theorem wq_3 : Cond.selects RX6 yX6_kindOfWord yX6_kindOfWord ∈ WL_ := wl_in (List.mem_append_left _ (List.mem_of_getElem? (i := 2) rfl)) rfl
theorem wq_4 : Cond.initialized RX6 ∈ WL_ := wl_in (tj_1 (List.mem_of_getElem? (i := 2) rfl)) rfl
theorem wq_5 : Cond.code yX6_kindOfWord cX6_kindOfWord 2 (some .int) ∈ WL_ := wl_in (tj_2 (List.mem_of_getElem? (i := 75) rfl)) rfl
theorem wq_6 : Cond.methodLink RX6 46 yX1_clear ∈ WL_ := wl_in (tj_2 (List.mem_of_getElem? (i := 139) rfl)) rfl
theorem wq_7 : Cond.instanceMethod yX1_clear ∈ WL_ := wl_in (tj_2 (List.mem_of_getElem? (i := 140) rfl)) rfl
theorem wq_8 : Cond.selects RX1 yX1_clear yX1_clear ∈ WL_ := wl_in (tj_2 (List.mem_of_getElem? (i := 141) rfl)) rfl
theorem wq_9 : Cond.initialized RX1 ∈ WL_ := wl_in (tj_1 (List.mem_of_getElem? (i := 3) rfl)) rfl
theorem wq_10 : Cond.code yX1_clear cX1_clear 1 none ∈ WL_ := wl_in (tj_2 (List.mem_of_getElem? (i := 142) rfl)) rfl
theorem wq_11 : Cond.methodLink RX6 25 yX6_step ∈ WL_ := wl_in (tj_2 (List.mem_of_getElem? (i := 61) rfl)) rfl
theorem wq_12 : Cond.instanceMethod yX6_step ∈ WL_ := wl_in (tj_2 (List.mem_of_getElem? (i := 63) rfl)) rfl
theorem wq_13 : Cond.selects RX6 yX6_step yX6_step ∈ WL_ := wl_in (List.mem_append_left _ (List.mem_of_getElem? (i := 0) rfl)) rfl
theorem wq_14 : Cond.initialized RX6 ∈ WL_ := wl_in (tj_1 (List.mem_of_getElem? (i := 2) rfl)) rfl
theorem wq_15 : Cond.code yX6_step cX6_step 1 none ∈ WL_ := wl_in (tj_2 (List.mem_of_getElem? (i := 64) rfl)) rfl
theorem wq_16 : Cond.methodLink RX6 51 yX1_size ∈ WL_ := wl_in (tj_2 (List.mem_of_getElem? (i := 143) rfl)) rfl
theorem wq_17 : Cond.instanceMethod yX1_size ∈ WL_ := wl_in (tj_2 (List.mem_of_getElem? (i := 144) rfl)) rfl
theorem wq_18 : Cond.selects RX1 yX1_size yX1_size ∈ WL_ := wl_in (tj_2 (List.mem_of_getElem? (i := 145) rfl)) rfl
theorem wq_19 : Cond.initialized RX1 ∈ WL_ := wl_in (tj_1 (List.mem_of_getElem? (i := 3) rfl)) rfl
theorem wq_20 : Cond.code yX1_size cX1_size 1 (some .int) ∈ WL_ := wl_in (tj_2 (List.mem_of_getElem? (i := 146) rfl)) rfl
theorem wq_21 : Cond.methodLink RX6 54 yX6_readArguments ∈ WL_ := wl_in (tj_2 (List.mem_of_getElem? (i := 147) rfl)) rfl
theorem wq_22 : Cond.instanceMethod yX6_readArguments ∈ WL_ := wl_in (tj_2 (List.mem_of_getElem? (i := 149) rfl)) rfl
theorem wq_23 : Cond.selects RX6 yX6_readArguments yX6_readArguments ∈ WL_ := wl_in (List.mem_append_left _ (List.mem_of_getElem? (i := 4) rfl)) rfl
theorem wq_24 : Cond.initialized RX6 ∈ WL_ := wl_in (tj_1 (List.mem_of_getElem? (i := 2) rfl)) rfl
theorem wq_25 : Cond.code yX6_readArguments cX6_readArguments 3 (some .boolean) ∈ WL_ := wl_in (tj_2 (List.mem_of_getElem? (i := 150) rfl)) rfl
theorem wq_26 : Cond.methodLink RX6 67 yX1_axesOfVerb ∈ WL_ := wl_in (tj_2 (List.mem_of_getElem? (i := 167) rfl)) rfl
theorem wq_27 : Cond.instanceMethod yX1_axesOfVerb ∈ WL_ := wl_in (tj_2 (List.mem_of_getElem? (i := 168) rfl)) rfl
theorem wq_28 : Cond.selects RX1 yX1_axesOfVerb yX1_axesOfVerb ∈ WL_ := wl_in (tj_2 (List.mem_of_getElem? (i := 169) rfl)) rfl
theorem wq_29 : Cond.initialized RX1 ∈ WL_ := wl_in (tj_1 (List.mem_of_getElem? (i := 3) rfl)) rfl
theorem wq_30 : Cond.code yX1_axesOfVerb cX1_axesOfVerb 5 (some .int) ∈ WL_ := wl_in (tj_2 (List.mem_of_getElem? (i := 170) rfl)) rfl
theorem wq_31 : Cond.methodLink RX6 71 yX1_add ∈ WL_ := wl_in (tj_2 (List.mem_of_getElem? (i := 182) rfl)) rfl
theorem wq_32 : Cond.instanceMethod yX1_add ∈ WL_ := wl_in (tj_2 (List.mem_of_getElem? (i := 183) rfl)) rfl
theorem wq_33 : Cond.selects RX1 yX1_add yX1_add ∈ WL_ := wl_in (tj_2 (List.mem_of_getElem? (i := 184) rfl)) rfl
theorem wq_34 : Cond.initialized RX1 ∈ WL_ := wl_in (tj_1 (List.mem_of_getElem? (i := 3) rfl)) rfl
theorem wq_35 : Cond.code yX1_add cX1_add 5 none ∈ WL_ := wl_in (tj_2 (List.mem_of_getElem? (i := 185) rfl)) rfl
theorem wq_36 : Cond.methodLink RX6 75 yX6_readExtents ∈ WL_ := wl_in (tj_2 (List.mem_of_getElem? (i := 218) rfl)) rfl
theorem wq_37 : Cond.instanceMethod yX6_readExtents ∈ WL_ := wl_in (tj_2 (List.mem_of_getElem? (i := 220) rfl)) rfl
theorem wq_38 : Cond.selects RX6 yX6_readExtents yX6_readExtents ∈ WL_ := wl_in (List.mem_append_left _ (List.mem_of_getElem? (i := 15) rfl)) rfl
theorem wq_39 : Cond.initialized RX6 ∈ WL_ := wl_in (tj_1 (List.mem_of_getElem? (i := 2) rfl)) rfl
theorem wq_40 : Cond.code yX6_readExtents cX6_readExtents 3 none ∈ WL_ := wl_in (tj_2 (List.mem_of_getElem? (i := 221) rfl)) rfl
theorem wq_41 : Cond.fieldLink RX6 58 "ShapeFrames$Text" "first" "I" ∈ WL_ := wl_in (tj_1 (List.mem_of_getElem? (i := 39) rfl)) rfl
theorem wq_42 : Cond.fieldLink RX6 61 "ShapeFrames$Text" "second" "I" ∈ WL_ := wl_in (tj_1 (List.mem_of_getElem? (i := 40) rfl)) rfl
theorem wq_43 : Cond.fieldLink RX6 64 "ShapeFrames$Text" "rank" "I" ∈ WL_ := wl_in (tj_1 (List.mem_of_getElem? (i := 41) rfl)) rfl
theorem hd_X6_kindOfWord : yX6_kindOfWord.cls = RX6 ∧ yX6_kindOfWord.cls ≠ "java/lang/invoke/MethodHandle" ∧ yX6_kindOfWord.cls ≠ "java/lang/invoke/VarHandle" ∧ (parseMethodDescriptor yX6_kindOfWord.desc).map (fun d => d.parameters.length) = some 0 := by decide +kernel
def wlX6_readClause : List Cond := .code yX6_readClause cX6_readClause 4 (some .int) :: WL_
section
variable {adK adV : Nat → Nat} {tA : Nat}
set_option maxHeartbeats 4000000 in
set_option maxRecDepth 100000 in
theorem c_X6_readClause {l : Launch} {D : va_G} {aC : Nat → ClassId} {a_t : Nat → Nat} {a_n : Nat → Nat} (s_t : Ob_T) (s_n : Ob_T) {out : Int32 × Ob_T × Ob_T} (h : f_X6_readClause s_t s_n = some out) : M_WE adK adV tA l yX6_readClause wlX6_readClause 6 128 D aC [.ref (a_t 0), .ref (a_n 0)] (wd_X6 aC a_t s_t ++ wd_X1 aC a_n s_n) (some (.int out.1)) (wd_X6 aC a_t out.2.1 ++ wd_X1 aC a_n out.2.2) := by
  refine k_entWE (cc := cX6_readClause) (ret := (some .int)) (maxL := 4) (own := RX6) (by decide) rfl rfl rfl ?_
  intro p e s m below meth c A ls hE hX hr hZ hl
  have hl : lv_has ls 4 [(0, .ref (a_t 0)), (1, .ref (a_n 0))] := hl
  generalize ([.ref (a_t 0), .ref (a_n 0)] : List Value).toArray = args at hX ⊢
  obtain ⟨hx, hb, hml, hown, hts, hK, hA, hlk⟩ := id hX
  unfold f_X6_readClause at h
  generalize hH : s.heap = H at hZ ⊢
  generalize ([] : List Loc) = locs at hZ ⊢
  refine lv_aload_n hx hb dX6_readClause_0 rfl (lv_at hl 0 rfl) ?_
  refine k_get hX hZ.1 0 6 rfl rfl iw_X6 4 rfl (wm_559) (v := .int (o_F s_t 4)) rfl dX6_readClause_1 ?_
  refine lv_istore_n (lv' := [(2, .int (o_F s_t 4)), (0, .ref (a_t 0)), (1, .ref (a_n 0))]) hx hb dX6_readClause_4 rfl hl (by decide) rfl (fun ls hl => ?_)
  refine lv_aload_n hx hb dX6_readClause_5 rfl (lv_at hl 1 rfl) ?_
  obtain ⟨u1, hu, h⟩ := k_bd h
  refine k_cR (v := some (.int u1)) (k_runVE (Bf := fun sz q => sz ≤ q) (Qc := fun _ => Q_R (some (.int u1))) (free := fun _ _ => False) (wc := wd_X6 aC a_t s_t) (As := []) (rest := []) (k_exR hE hX hZ.2.2) hX hl.1 (c_X6_kindOfWord s_t hu) (gv_ wq_1 wq_2 wq_3 wq_4 wq_5) rfl hd_X6_kindOfWord ⟨rfl, rfl⟩ 6 0 rfl rfl (k_P0 hZ.1 [0, 1] rfl) (k_D0 hZ.2.1 [0, 1] rfl rfl) rfl rfl rfl dX6_readClause_6 ⟨rfl, rfl⟩) hZ (fun locs hZ => ?_)
  clear hu
  refine lv_istore_n (lv' := [(3, .int u1), (2, .int (o_F s_t 4)), (0, .ref (a_t 0)), (1, .ref (a_n 0))]) hx hb dX6_readClause_9 rfl hl (by decide) rfl (fun ls hl => ?_)
  refine lv_iload_n hx hb dX6_readClause_10 rfl (lv_at hl 0 rfl) ?_
  refine lv_iconst (v := -1) hx hb dX6_readClause_11 (by decide) ?_
  refine lv_icmp_ne (tgt := 17) hx hb dX6_readClause_12 (by decide) (fun cd => ?_) (fun cd => ?_)
  · replace h := k_f cd h
    clear cd
    refine lv_iload_n hx hb dX6_readClause_17 rfl (lv_at hl 0 rfl) ?_
    refine lv_bipush (v := 7) hx hb dX6_readClause_18 (by decide) ?_
    refine lv_icmp_ne (tgt := 33) hx hb dX6_readClause_20 (by decide) (fun cd => ?_) (fun cd => ?_)
    · replace h := k_f cd h
      clear cd
      refine lv_aload_n hx hb dX6_readClause_33 rfl (lv_at hl 3 rfl) ?_
      obtain ⟨u4, hu, h⟩ := k_bd h
      refine k_vR (As := []) (rest := []) (wc := wd_X1 aC a_n s_n) (v := some (.int u4)) (st1 := [.int u4]) hX hl.1 hZ (c_X1_size (a_n := a_n) s_n hu) (gv_ wq_16 wq_17 wq_18 wq_19 wq_20) rfl hd_X1_size ⟨rfl, rfl⟩ 1 0 rfl rfl [2, 3, 4, 5, 6, 7, 8] rfl rfl rfl rfl rfl dX6_readClause_34 rfl ⟨rfl, rfl⟩ (fun locs hZ => ?_)
      clear hu
      refine lv_bipush (v := 10) hx hb dX6_readClause_37 (by decide) ?_
      refine lv_icmp_lt (tgt := 44) hx hb dX6_readClause_39 (by decide) (fun cd => ?_) (fun cd => ?_)
      · replace h := k_f (Int32.not_le.mpr cd) h
        clear cd
        refine lv_aload_n hx hb dX6_readClause_44 rfl (lv_at hl 2 rfl) ?_
        obtain ⟨u5, hu, h⟩ := k_bd h
        refine k_vW (As := []) (rest := []) (wc := wd_X6 aC a_t s_t) (v := none) (st1 := []) (w' := wd_X6 aC a_t u5 ++ wd_X1 aC a_n s_n) hX hl.1 hZ (c_X6_step (a_t := a_t) s_t hu) (gv_ wq_11 wq_12 wq_13 wq_14 wq_15) rfl hd_X6_step ⟨rfl, rfl⟩ 6 0 rfl rfl [0, 1] rfl rfl rfl rfl rfl dX6_readClause_45 rfl ⟨rfl, rfl⟩ rfl rfl rfl (fun H locs hZ => ?_)
        clear hu
        refine lv_aload_n hx hb dX6_readClause_48 rfl (lv_at hl 2 rfl) ?_
        refine lv_iload_n hx hb dX6_readClause_49 rfl (lv_at hl 0 rfl) ?_
        refine lv_aload_n hx hb dX6_readClause_50 rfl (lv_at hl 3 rfl) ?_
        obtain ⟨u6, hu, h⟩ := k_bd h
        refine k_vR (As := []) (rest := [.int u1, .ref (a_t 0)]) (wc := wd_X1 aC a_n s_n) (v := some (.int u6)) (st1 := [.int u6, .int u1, .ref (a_t 0)]) hX hl.1 hZ (c_X1_size (a_n := a_n) s_n hu) (gv_ wq_16 wq_17 wq_18 wq_19 wq_20) rfl hd_X1_size ⟨rfl, rfl⟩ 1 0 rfl rfl [2, 3, 4, 5, 6, 7, 8] rfl rfl rfl rfl rfl dX6_readClause_51 rfl ⟨rfl, rfl⟩ (fun locs hZ => ?_)
        clear hu
        obtain ⟨u7, hu, h⟩ := k_bd h
        refine k_vW (As := [.int u1, .int u6]) (rest := []) (wc := wd_X6 aC a_t u5) (v := some (.int u7.1)) (st1 := [.int u7.1]) (w' := wd_X6 aC a_t u7.2 ++ wd_X1 aC a_n s_n) hX hl.1 hZ (c_X6_readArguments (a_t := a_t) u5 u1 u6 hu) (gv_ wq_21 wq_22 wq_23 wq_24 wq_25) rfl hd_X6_readArguments ⟨rfl, rfl⟩ 6 0 rfl rfl [0, 1] rfl rfl rfl rfl rfl dX6_readClause_54 rfl ⟨rfl, rfl⟩ rfl rfl rfl (fun H locs hZ => ?_)
        clear hu
        refine lv_if_ne (tgt := 65) hx hb dX6_readClause_57 (by decide) (fun cd => ?_) (fun cd => ?_)
        · replace h := k_f cd h
          clear cd
          refine lv_aload_n hx hb dX6_readClause_65 rfl (lv_at hl 3 rfl) ?_
          refine lv_iload_n hx hb dX6_readClause_66 rfl (lv_at hl 0 rfl) ?_
          refine lv_aload_n hx hb dX6_readClause_67 rfl (lv_at hl 2 rfl) ?_
          refine k_get hX hZ.1 0 6 rfl rfl iw_X6 6 rfl (wq_41) (v := .int (o_F u7.2 6)) rfl dX6_readClause_68 ?_
          refine lv_aload_n hx hb dX6_readClause_71 rfl (lv_at hl 2 rfl) ?_
          refine k_get hX hZ.1 0 6 rfl rfl iw_X6 7 rfl (wq_42) (v := .int (o_F u7.2 7)) rfl dX6_readClause_72 ?_
          refine lv_aload_n hx hb dX6_readClause_75 rfl (lv_at hl 2 rfl) ?_
          refine k_get hX hZ.1 0 6 rfl rfl iw_X6 8 rfl (wq_43) (v := .int (o_F u7.2 8)) rfl dX6_readClause_76 ?_
          obtain ⟨u8, hu, h⟩ := k_bd h
          refine k_vR (As := [.int u1, .int (o_F u7.2 6), .int (o_F u7.2 7), .int (o_F u7.2 8)]) (rest := []) (wc := wd_X1 aC a_n s_n) (v := some (.int u8)) (st1 := [.int u8]) hX hl.1 hZ (c_X1_axesOfVerb (a_n := a_n) s_n u1 (o_F u7.2 6) (o_F u7.2 7) (o_F u7.2 8) hu) (gv_ wq_26 wq_27 wq_28 wq_29 wq_30) rfl hd_X1_axesOfVerb ⟨rfl, rfl⟩ 1 0 rfl rfl [2, 3, 4, 5, 6, 7, 8] rfl rfl rfl rfl rfl dX6_readClause_79 rfl ⟨rfl, rfl⟩ (fun locs hZ => ?_)
          clear hu
          refine lv_bipush (v := 6) hx hb dX6_readClause_82 (by decide) ?_
          refine lv_icmp_le (tgt := 89) hx hb dX6_readClause_84 (by decide) (fun cd => ?_) (fun cd => ?_)
          · replace h := k_f (Int32.not_lt.mpr cd) h
            clear cd
            refine lv_aload_n hx hb dX6_readClause_89 rfl (lv_at hl 3 rfl) ?_
            refine lv_iload_n hx hb dX6_readClause_90 rfl (lv_at hl 0 rfl) ?_
            refine lv_aload_n hx hb dX6_readClause_91 rfl (lv_at hl 2 rfl) ?_
            refine k_get hX hZ.1 0 6 rfl rfl iw_X6 6 rfl (wq_41) (v := .int (o_F u7.2 6)) rfl dX6_readClause_92 ?_
            refine lv_aload_n hx hb dX6_readClause_95 rfl (lv_at hl 2 rfl) ?_
            refine k_get hX hZ.1 0 6 rfl rfl iw_X6 7 rfl (wq_42) (v := .int (o_F u7.2 7)) rfl dX6_readClause_96 ?_
            refine lv_aload_n hx hb dX6_readClause_99 rfl (lv_at hl 2 rfl) ?_
            refine k_get hX hZ.1 0 6 rfl rfl iw_X6 8 rfl (wq_43) (v := .int (o_F u7.2 8)) rfl dX6_readClause_100 ?_
            obtain ⟨u9, hu, h⟩ := k_bd h
            refine k_vW (As := [.int u1, .int (o_F u7.2 6), .int (o_F u7.2 7), .int (o_F u7.2 8)]) (rest := []) (wc := wd_X1 aC a_n s_n) (v := none) (st1 := []) (w' := wd_X6 aC a_t u7.2 ++ wd_X1 aC a_n u9) hX hl.1 hZ (c_X1_add (a_n := a_n) s_n u1 (o_F u7.2 6) (o_F u7.2 7) (o_F u7.2 8) hu) (gv_ wq_31 wq_32 wq_33 wq_34 wq_35) rfl hd_X1_add ⟨rfl, rfl⟩ 1 0 rfl rfl [2, 3, 4, 5, 6, 7, 8] rfl rfl rfl rfl rfl dX6_readClause_103 rfl ⟨rfl, rfl⟩ rfl rfl rfl (fun H locs hZ => ?_)
            clear hu
            refine lv_iload_n hx hb dX6_readClause_106 rfl (lv_at hl 0 rfl) ?_
            refine lv_if_eq (tgt := 116) hx hb dX6_readClause_107 (by decide) (fun cd => ?_) (fun cd => ?_)
            · replace h := k_t cd h
              clear cd
              refine lv_aload_n hx hb dX6_readClause_116 rfl (lv_at hl 2 rfl) ?_
              refine lv_aload_n hx hb dX6_readClause_117 rfl (lv_at hl 3 rfl) ?_
              obtain ⟨u10, hu, h⟩ := k_bd h
              refine k_vWs (As := [.ref (a_n 0)]) (rest := []) (v := none) (st1 := []) hX hl.1 hZ (c_X6_readExtents (a_t := a_t) (a_n := a_n) u7.2 u9 hu) (gv_ wq_36 wq_37 wq_38 wq_39 wq_40) rfl hd_X6_readExtents ⟨rfl, rfl⟩ 6 0 rfl rfl rfl rfl rfl dX6_readClause_118 rfl ⟨rfl, rfl⟩ rfl (fun H locs hZ => ?_)
              clear hu
              refine lv_iconst (v := -1) hx hb dX6_readClause_121 (by decide) ?_
              cases h
              exact k_iretW hX hr hZ dX6_readClause_122
            · replace h := k_f cd h
              clear cd
              refine lv_iload_n hx hb dX6_readClause_110 rfl (lv_at hl 0 rfl) ?_
              refine lv_bipush (v := 6) hx hb dX6_readClause_111 (by decide) ?_
              refine lv_icmp_ne (tgt := 121) hx hb dX6_readClause_113 (by decide) (fun cd => ?_) (fun cd => ?_)
              · replace h := k_f cd h
                clear cd
                refine lv_iconst (v := -1) hx hb dX6_readClause_121 (by decide) ?_
                cases h
                exact k_iretW hX hr hZ dX6_readClause_122
              · replace h := k_t cd h
                clear cd
                refine lv_aload_n hx hb dX6_readClause_116 rfl (lv_at hl 2 rfl) ?_
                refine lv_aload_n hx hb dX6_readClause_117 rfl (lv_at hl 3 rfl) ?_
                obtain ⟨u10, hu, h⟩ := k_bd h
                refine k_vWs (As := [.ref (a_n 0)]) (rest := []) (v := none) (st1 := []) hX hl.1 hZ (c_X6_readExtents (a_t := a_t) (a_n := a_n) u7.2 u9 hu) (gv_ wq_36 wq_37 wq_38 wq_39 wq_40) rfl hd_X6_readExtents ⟨rfl, rfl⟩ 6 0 rfl rfl rfl rfl rfl dX6_readClause_118 rfl ⟨rfl, rfl⟩ rfl (fun H locs hZ => ?_)
                clear hu
                refine lv_iconst (v := -1) hx hb dX6_readClause_121 (by decide) ?_
                cases h
                exact k_iretW hX hr hZ dX6_readClause_122
          · replace h := k_t (Int32.not_le.mp cd) h
            clear cd
            refine lv_iload_n hx hb dX6_readClause_87 rfl (lv_at hl 1 rfl) ?_
            cases h
            exact k_iretW hX hr hZ dX6_readClause_88
        · replace h := k_t cd h
          clear cd
          refine lv_aload_n hx hb dX6_readClause_60 rfl (lv_at hl 2 rfl) ?_
          refine k_get hX hZ.1 0 6 rfl rfl iw_X6 4 rfl (wm_559) (v := .int (o_F u7.2 4)) rfl dX6_readClause_61 ?_
          cases h
          exact k_iretW hX hr hZ dX6_readClause_64
      · replace h := k_t (Int32.not_lt.mp cd) h
        clear cd
        refine lv_iload_n hx hb dX6_readClause_42 rfl (lv_at hl 1 rfl) ?_
        cases h
        exact k_iretW hX hr hZ dX6_readClause_43
    · replace h := k_t cd h
      clear cd
      refine lv_aload_n hx hb dX6_readClause_23 rfl (lv_at hl 3 rfl) ?_
      obtain ⟨u2, hu, h⟩ := k_bd h
      refine k_vW (As := []) (rest := []) (wc := wd_X1 aC a_n s_n) (v := none) (st1 := []) (w' := wd_X6 aC a_t s_t ++ wd_X1 aC a_n u2) hX hl.1 hZ (c_X1_clear (a_n := a_n) s_n hu) (gv_ wq_6 wq_7 wq_8 wq_9 wq_10) rfl hd_X1_clear ⟨rfl, rfl⟩ 1 0 rfl rfl [2, 3, 4, 5, 6, 7, 8] rfl rfl rfl rfl rfl dX6_readClause_24 rfl ⟨rfl, rfl⟩ rfl rfl rfl (fun H locs hZ => ?_)
      clear hu
      refine lv_aload_n hx hb dX6_readClause_27 rfl (lv_at hl 2 rfl) ?_
      obtain ⟨u3, hu, h⟩ := k_bd h
      refine k_vW (As := []) (rest := []) (wc := wd_X6 aC a_t s_t) (v := none) (st1 := []) (w' := wd_X6 aC a_t u3 ++ wd_X1 aC a_n u2) hX hl.1 hZ (c_X6_step (a_t := a_t) s_t hu) (gv_ wq_11 wq_12 wq_13 wq_14 wq_15) rfl hd_X6_step ⟨rfl, rfl⟩ 6 0 rfl rfl [0, 1] rfl rfl rfl rfl rfl dX6_readClause_28 rfl ⟨rfl, rfl⟩ rfl rfl rfl (fun H locs hZ => ?_)
      clear hu
      refine lv_iconst (v := -1) hx hb dX6_readClause_31 (by decide) ?_
      cases h
      exact k_iretW hX hr hZ dX6_readClause_32
  · replace h := k_t cd h
    clear cd
    refine lv_iload_n hx hb dX6_readClause_15 rfl (lv_at hl 1 rfl) ?_
    cases h
    exact k_iretW hX hr hZ dX6_readClause_16
end
