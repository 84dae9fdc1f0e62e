def wlX9_node : List Cond := .code yX9_node cX9_node 4 (some .int) :: WL_
theorem hd_X9_node : yX9_node.cls = RX9 ∧ yX9_node.cls ≠ "java/lang/invoke/MethodHandle" ∧ yX9_node.cls ≠ "java/lang/invoke/VarHandle" ∧ (parseMethodDescriptor yX9_node.desc).map (fun d => d.parameters.length) = some 2 := by decide +kernel
theorem dX9_node_0 : decode cX9_node 0 = .ok (.aload_n 0, 1) := by decide +kernel
theorem dX9_node_1 : decode cX9_node 1 = .ok (.iload_n 1, 1) := by decide +kernel
theorem dX9_node_2 : decode cX9_node 2 = .ok (.invokevirtual 296, 3) := by decide +kernel
theorem dX9_node_5 : decode cX9_node 5 = .ok (.ifCond .ne 6, 3) := by decide +kernel
theorem dX9_node_8 : decode cX9_node 8 = .ok (.bipush (-2), 2) := by decide +kernel
theorem dX9_node_10 : decode cX9_node 10 = .ok (.ireturn, 1) := by decide +kernel
theorem dX9_node_11 : decode cX9_node 11 = .ok (.bipush 15, 2) := by decide +kernel
theorem dX9_node_13 : decode cX9_node 13 = .ok (.iload_n 1, 1) := by decide +kernel
theorem dX9_node_14 : decode cX9_node 14 = .ok (.imul, 1) := by decide +kernel
theorem dX9_node_15 : decode cX9_node 15 = .ok (.istore_n 3, 1) := by decide +kernel
theorem dX9_node_16 : decode cX9_node 16 = .ok (.iload_n 2, 1) := by decide +kernel
theorem dX9_node_17 : decode cX9_node 17 = .ok (.tableswitch 107 0 4 #[35, 44, 54, 63, 72], 35) := by decide +kernel
theorem dX9_node_52 : decode cX9_node 52 = .ok (.aload_n 0, 1) := by decide +kernel
theorem dX9_node_53 : decode cX9_node 53 = .ok (.getfield 7, 3) := by decide +kernel
theorem dX9_node_56 : decode cX9_node 56 = .ok (.iload_n 3, 1) := by decide +kernel
theorem dX9_node_57 : decode cX9_node 57 = .ok (.iconst 0, 1) := by decide +kernel
theorem dX9_node_58 : decode cX9_node 58 = .ok (.iadd, 1) := by decide +kernel
theorem dX9_node_59 : decode cX9_node 59 = .ok (.iaload, 1) := by decide +kernel
theorem dX9_node_60 : decode cX9_node 60 = .ok (.ireturn, 1) := by decide +kernel
theorem dX9_node_61 : decode cX9_node 61 = .ok (.aload_n 0, 1) := by decide +kernel
theorem dX9_node_62 : decode cX9_node 62 = .ok (.getfield 7, 3) := by decide +kernel
theorem dX9_node_65 : decode cX9_node 65 = .ok (.iload_n 3, 1) := by decide +kernel
theorem dX9_node_66 : decode cX9_node 66 = .ok (.bipush 8, 2) := by decide +kernel
theorem dX9_node_68 : decode cX9_node 68 = .ok (.iadd, 1) := by decide +kernel
theorem dX9_node_69 : decode cX9_node 69 = .ok (.iaload, 1) := by decide +kernel
theorem dX9_node_70 : decode cX9_node 70 = .ok (.ireturn, 1) := by decide +kernel
theorem dX9_node_71 : decode cX9_node 71 = .ok (.aload_n 0, 1) := by decide +kernel
theorem dX9_node_72 : decode cX9_node 72 = .ok (.getfield 7, 3) := by decide +kernel
theorem dX9_node_75 : decode cX9_node 75 = .ok (.iload_n 3, 1) := by decide +kernel
theorem dX9_node_76 : decode cX9_node 76 = .ok (.iconst 1, 1) := by decide +kernel
theorem dX9_node_77 : decode cX9_node 77 = .ok (.iadd, 1) := by decide +kernel
theorem dX9_node_78 : decode cX9_node 78 = .ok (.iaload, 1) := by decide +kernel
theorem dX9_node_79 : decode cX9_node 79 = .ok (.ireturn, 1) := by decide +kernel
theorem dX9_node_80 : decode cX9_node 80 = .ok (.aload_n 0, 1) := by decide +kernel
theorem dX9_node_81 : decode cX9_node 81 = .ok (.getfield 7, 3) := by decide +kernel
theorem dX9_node_84 : decode cX9_node 84 = .ok (.iload_n 3, 1) := by decide +kernel
theorem dX9_node_85 : decode cX9_node 85 = .ok (.iconst 2, 1) := by decide +kernel
theorem dX9_node_86 : decode cX9_node 86 = .ok (.iadd, 1) := by decide +kernel
theorem dX9_node_87 : decode cX9_node 87 = .ok (.iaload, 1) := by decide +kernel
theorem dX9_node_88 : decode cX9_node 88 = .ok (.ireturn, 1) := by decide +kernel
theorem dX9_node_89 : decode cX9_node 89 = .ok (.aload_n 0, 1) := by decide +kernel
theorem dX9_node_90 : decode cX9_node 90 = .ok (.getfield 7, 3) := by decide +kernel
theorem dX9_node_93 : decode cX9_node 93 = .ok (.iload_n 3, 1) := by decide +kernel
theorem dX9_node_94 : decode cX9_node 94 = .ok (.iconst 0, 1) := by decide +kernel
theorem dX9_node_95 : decode cX9_node 95 = .ok (.iadd, 1) := by decide +kernel
theorem dX9_node_96 : decode cX9_node 96 = .ok (.iaload, 1) := by decide +kernel
theorem dX9_node_97 : decode cX9_node 97 = .ok (.i2l, 1) := by decide +kernel
theorem dX9_node_98 : decode cX9_node 98 = .ok (.lconst 1, 1) := by decide +kernel
theorem dX9_node_99 : decode cX9_node 99 = .ok (.ldc2_w 299, 3) := by decide +kernel
theorem dX9_node_102 : decode cX9_node 102 = .ok (.invokestatic 97, 3) := by decide +kernel
theorem dX9_node_105 : decode cX9_node 105 = .ok (.ifCond .eq 17, 3) := by decide +kernel
theorem dX9_node_108 : decode cX9_node 108 = .ok (.aload_n 0, 1) := by decide +kernel
theorem dX9_node_109 : decode cX9_node 109 = .ok (.getfield 7, 3) := by decide +kernel
theorem dX9_node_112 : decode cX9_node 112 = .ok (.iload_n 3, 1) := by decide +kernel
theorem dX9_node_113 : decode cX9_node 113 = .ok (.iconst 3, 1) := by decide +kernel
theorem dX9_node_114 : decode cX9_node 114 = .ok (.iadd, 1) := by decide +kernel
theorem dX9_node_115 : decode cX9_node 115 = .ok (.iaload, 1) := by decide +kernel
theorem dX9_node_116 : decode cX9_node 116 = .ok (.bipush 10, 2) := by decide +kernel
theorem dX9_node_118 : decode cX9_node 118 = .ok (.iadd, 1) := by decide +kernel
theorem dX9_node_119 : decode cX9_node 119 = .ok (.goto 4, 3) := by decide +kernel
theorem dX9_node_122 : decode cX9_node 122 = .ok (.iconst (-1), 1) := by decide +kernel
theorem dX9_node_123 : decode cX9_node 123 = .ok (.ireturn, 1) := by decide +kernel
theorem dX9_node_124 : decode cX9_node 124 = .ok (.bipush (-3), 2) := by decide +kernel
theorem dX9_node_126 : decode cX9_node 126 = .ok (.ireturn, 1) := by decide +kernel
set_option maxHeartbeats 4000000 in
set_option maxRecDepth 100000 in
theorem c_X9_node {l : Launch} {D : va_G} {aC : Nat → ClassId} {a_o : Nat → Nat} (s_o : Ob_T) (x1 : Int32) (x2 : Int32) {out : Int32} (h : f_X9_node s_o x1 x2 = some out) : M_R l yX9_node wlX9_node 2 46 D aC [.ref (a_o 0), .int x1, .int x2] (wd_X9 aC a_o s_o) (some (.int out)) := by
  refine k_entR (cc := cX9_node) (ret := (some .int)) (maxL := 4) (own := RX9) (by decide) rfl rfl rfl ?_
  intro p e s m below meth c A ls hX hr hZ hl
  have hl : lv_has ls 4 [(0, .ref (a_o 0)), (1, .int x1), (2, .int x2)] := hl
  generalize ([.ref (a_o 0), .int x1, .int x2] : List Value).toArray = args at hX ⊢
  obtain ⟨hx, hb, hml, hown, hts, hK, hA, hlk⟩ := id hX
  unfold f_X9_node at h
  have hF : ∀ q ∈ ([] : List Loc), False := fun _ h => nomatch h
  generalize ([] : List Loc) = locs at hF ⊢
  refine lv_aload_n hx hb dX9_node_0 rfl (lv_at hl 0 rfl) ?_
  refine lv_iload_n hx hb dX9_node_1 rfl (lv_at hl 1 rfl) ?_
  obtain ⟨u1, hu, h⟩ := k_bd h
  refine k_vRRs (As := [.int x1]) (rest := []) (v := some (.int u1)) (st1 := [.int u1]) hX hl.1 hZ hF (c_X9_isNode (a_o := a_o) s_o x1 hu) (gv_ wm_207 wm_209 wm_210 wm_11 wm_208) rfl hd_X9_isNode ⟨rfl, rfl⟩ 9 0 rfl rfl rfl rfl rfl dX9_node_2 rfl ⟨rfl, rfl⟩ (fun locs hF => ?_)
  clear hu
  refine lv_if_ne (tgt := 11) hx hb dX9_node_5 (by decide) (fun cd => ?_) (fun cd => ?_)
  · replace h := k_f cd h
    clear cd
    refine lv_bipush (v := 15) hx hb dX9_node_11 (by decide) ?_
    refine lv_iload_n hx hb dX9_node_13 rfl (lv_at hl 1 rfl) ?_
    refine lv_imul hx hb dX9_node_14 ?_
    refine lv_istore_n (lv' := [(3, .int ((15 : Int32) * x1)), (0, .ref (a_o 0)), (1, .int x1), (2, .int x2)]) hx hb dX9_node_15 rfl hl (by decide) rfl (fun ls hl => ?_)
    refine lv_iload_n hx hb dX9_node_16 rfl (lv_at hl 3 rfl) ?_
    by_cases c0 : x2 = (0 : Int32)
    · replace h := k_t c0 h
      refine k_sw c0 ?_
      refine lv_tableIn (tgt := 52) (off := 35) hx hb dX9_node_17 (by decide) (by decide) rfl (by decide) ?_
      refine lv_aload_n hx hb dX9_node_52 rfl (lv_at hl 1 rfl) ?_
      refine k_get hX hZ.1 0 9 rfl rfl iw_X9 0 rfl (wm_107) (v := .ref (a_o 1)) rfl dX9_node_53 ?_
      refine lv_iload_n hx hb dX9_node_56 rfl (lv_at hl 0 rfl) ?_
      refine lv_iconst (v := 0) hx hb dX9_node_57 (by decide) ?_
      refine lv_iadd hx hb dX9_node_58 ?_
      refine k_iald hX hZ.1 1 rfl h dX9_node_59 (fun v2 h => ?_)
      cases h
      exact k_iretR hX hr hF dX9_node_60
    · replace h := k_f c0 h
      have n0 := k_ne c0 (0) (by decide)
      by_cases c1 : x2 = (1 : Int32)
      · replace h := k_t c1 h
        refine k_sw c1 ?_
        refine lv_tableIn (tgt := 61) (off := 44) hx hb dX9_node_17 (by decide) (by decide) rfl (by decide) ?_
        refine lv_aload_n hx hb dX9_node_61 rfl (lv_at hl 1 rfl) ?_
        refine k_get hX hZ.1 0 9 rfl rfl iw_X9 0 rfl (wm_107) (v := .ref (a_o 1)) rfl dX9_node_62 ?_
        refine lv_iload_n hx hb dX9_node_65 rfl (lv_at hl 0 rfl) ?_
        refine lv_bipush (v := 8) hx hb dX9_node_66 (by decide) ?_
        refine lv_iadd hx hb dX9_node_68 ?_
        refine k_iald hX hZ.1 1 rfl h dX9_node_69 (fun v3 h => ?_)
        cases h
        exact k_iretR hX hr hF dX9_node_70
      · replace h := k_f c1 h
        have n1 := k_ne c1 (1) (by decide)
        by_cases c2 : x2 = (2 : Int32)
        · replace h := k_t c2 h
          refine k_sw c2 ?_
          refine lv_tableIn (tgt := 71) (off := 54) hx hb dX9_node_17 (by decide) (by decide) rfl (by decide) ?_
          refine lv_aload_n hx hb dX9_node_71 rfl (lv_at hl 1 rfl) ?_
          refine k_get hX hZ.1 0 9 rfl rfl iw_X9 0 rfl (wm_107) (v := .ref (a_o 1)) rfl dX9_node_72 ?_
          refine lv_iload_n hx hb dX9_node_75 rfl (lv_at hl 0 rfl) ?_
          refine lv_iconst (v := 1) hx hb dX9_node_76 (by decide) ?_
          refine lv_iadd hx hb dX9_node_77 ?_
          refine k_iald hX hZ.1 1 rfl h dX9_node_78 (fun v4 h => ?_)
          cases h
          exact k_iretR hX hr hF dX9_node_79
        · replace h := k_f c2 h
          have n2 := k_ne c2 (2) (by decide)
          by_cases c3 : x2 = (3 : Int32)
          · replace h := k_t c3 h
            refine k_sw c3 ?_
            refine lv_tableIn (tgt := 80) (off := 63) hx hb dX9_node_17 (by decide) (by decide) rfl (by decide) ?_
            refine lv_aload_n hx hb dX9_node_80 rfl (lv_at hl 1 rfl) ?_
            refine k_get hX hZ.1 0 9 rfl rfl iw_X9 0 rfl (wm_107) (v := .ref (a_o 1)) rfl dX9_node_81 ?_
            refine lv_iload_n hx hb dX9_node_84 rfl (lv_at hl 0 rfl) ?_
            refine lv_iconst (v := 2) hx hb dX9_node_85 (by decide) ?_
            refine lv_iadd hx hb dX9_node_86 ?_
            refine k_iald hX hZ.1 1 rfl h dX9_node_87 (fun v5 h => ?_)
            cases h
            exact k_iretR hX hr hF dX9_node_88
          · replace h := k_f c3 h
            have n3 := k_ne c3 (3) (by decide)
            by_cases c4 : x2 = (4 : Int32)
            · replace h := k_t c4 h
              refine k_sw c4 ?_
              refine lv_tableIn (tgt := 89) (off := 72) hx hb dX9_node_17 (by decide) (by decide) rfl (by decide) ?_
              refine lv_aload_n hx hb dX9_node_89 rfl (lv_at hl 1 rfl) ?_
              refine k_get hX hZ.1 0 9 rfl rfl iw_X9 0 rfl (wm_107) (v := .ref (a_o 1)) rfl dX9_node_90 ?_
              refine lv_iload_n hx hb dX9_node_93 rfl (lv_at hl 0 rfl) ?_
              refine lv_iconst (v := 0) hx hb dX9_node_94 (by decide) ?_
              refine lv_iadd hx hb dX9_node_95 ?_
              refine k_iald hX hZ.1 1 rfl h dX9_node_96 (fun v6 h => ?_)
              refine lv_i2l (v := v6.toInt64) hx hb dX9_node_97 rfl ?_
              refine lv_lconst (v := 1) hx hb dX9_node_98 (by decide) ?_
              refine lv_ldc2 (v := 5) hx hb hown (hts _ wm_206) dX9_node_99 ?_
              obtain ⟨u7, hu, h⟩ := k_bd h
              refine k_sRR (As := [.long v6.toInt64, .long (1 : Int64), .long (5 : Int64)]) (rest := []) (wc := []) (v := some (.int u7)) (st1 := [.int u7]) hX hl.1 hZ hF (c_X9_in  v6.toInt64 (1 : Int64) (5 : Int64) hu) (gs_ wm_10 wm_13 wm_11 wm_12) rfl hd_X9_in ⟨rfl, rfl⟩ [] rfl rfl rfl rfl rfl dX9_node_102 rfl ⟨rfl, rfl⟩ (fun locs hF => ?_)
              clear hu
              refine lv_if_eq (tgt := 122) hx hb dX9_node_105 (by decide) (fun cd => ?_) (fun cd => ?_)
              · replace h := k_t cd h
                clear cd
                refine lv_iconst (v := -1) hx hb dX9_node_122 (by decide) ?_
                cases h
                exact k_iretR hX hr hF dX9_node_123
              · replace h := k_f cd h
                clear cd
                refine lv_aload_n hx hb dX9_node_108 rfl (lv_at hl 1 rfl) ?_
                refine k_get hX hZ.1 0 9 rfl rfl iw_X9 0 rfl (wm_107) (v := .ref (a_o 1)) rfl dX9_node_109 ?_
                refine lv_iload_n hx hb dX9_node_112 rfl (lv_at hl 0 rfl) ?_
                refine lv_iconst (v := 3) hx hb dX9_node_113 (by decide) ?_
                refine lv_iadd hx hb dX9_node_114 ?_
                refine k_iald hX hZ.1 1 rfl h dX9_node_115 (fun v8 h => ?_)
                refine lv_bipush (v := 10) hx hb dX9_node_116 (by decide) ?_
                refine lv_iadd hx hb dX9_node_118 ?_
                refine lv_goto (tgt := 123) hx hb dX9_node_119 (by decide) ?_
                cases h
                exact k_iretR hX hr hF dX9_node_123
            · replace h := k_f c4 h
              have n4 := k_ne c4 (4) (by decide)
              refine lv_tableOut (tgt := 124) hx hb dX9_node_17 (by omega) (by decide) ?_
              refine lv_bipush (v := -3) hx hb dX9_node_124 (by decide) ?_
              cases h
              exact k_iretR hX hr hF dX9_node_126
  · replace h := k_t cd h
    clear cd
    refine lv_bipush (v := -2) hx hb dX9_node_8 (by decide) ?_
    cases h
    exact k_iretR hX hr hF dX9_node_10
def wlX9_extent : List Cond := .code yX9_extent cX9_extent 3 (some .int) :: WL_
theorem hd_X9_extent : yX9_extent.cls = RX9 ∧ yX9_extent.cls ≠ "java/lang/invoke/MethodHandle" ∧ yX9_extent.cls ≠ "java/lang/invoke/VarHandle" ∧ (parseMethodDescriptor yX9_extent.desc).map (fun d => d.parameters.length) = some 2 := by decide +kernel
theorem dX9_extent_0 : decode cX9_extent 0 = .ok (.aload_n 0, 1) := by decide +kernel
theorem dX9_extent_1 : decode cX9_extent 1 = .ok (.iload_n 1, 1) := by decide +kernel
theorem dX9_extent_2 : decode cX9_extent 2 = .ok (.invokevirtual 296, 3) := by decide +kernel
theorem dX9_extent_5 : decode cX9_extent 5 = .ok (.ifCond .ne 6, 3) := by decide +kernel
theorem dX9_extent_8 : decode cX9_extent 8 = .ok (.bipush (-2), 2) := by decide +kernel
theorem dX9_extent_10 : decode cX9_extent 10 = .ok (.ireturn, 1) := by decide +kernel
theorem dX9_extent_11 : decode cX9_extent 11 = .ok (.iload_n 2, 1) := by decide +kernel
theorem dX9_extent_12 : decode cX9_extent 12 = .ok (.i2l, 1) := by decide +kernel
theorem dX9_extent_13 : decode cX9_extent 13 = .ok (.lconst 0, 1) := by decide +kernel
theorem dX9_extent_14 : decode cX9_extent 14 = .ok (.aload_n 0, 1) := by decide +kernel
theorem dX9_extent_15 : decode cX9_extent 15 = .ok (.getfield 7, 3) := by decide +kernel
theorem dX9_extent_18 : decode cX9_extent 18 = .ok (.bipush 15, 2) := by decide +kernel
theorem dX9_extent_20 : decode cX9_extent 20 = .ok (.iload_n 1, 1) := by decide +kernel
theorem dX9_extent_21 : decode cX9_extent 21 = .ok (.imul, 1) := by decide +kernel
theorem dX9_extent_22 : decode cX9_extent 22 = .ok (.bipush 8, 2) := by decide +kernel
theorem dX9_extent_24 : decode cX9_extent 24 = .ok (.iadd, 1) := by decide +kernel
theorem dX9_extent_25 : decode cX9_extent 25 = .ok (.iaload, 1) := by decide +kernel
theorem dX9_extent_26 : decode cX9_extent 26 = .ok (.iconst 1, 1) := by decide +kernel
theorem dX9_extent_27 : decode cX9_extent 27 = .ok (.isub, 1) := by decide +kernel
theorem dX9_extent_28 : decode cX9_extent 28 = .ok (.i2l, 1) := by decide +kernel
theorem dX9_extent_29 : decode cX9_extent 29 = .ok (.invokestatic 97, 3) := by decide +kernel
theorem dX9_extent_32 : decode cX9_extent 32 = .ok (.ifCond .ne 6, 3) := by decide +kernel
theorem dX9_extent_35 : decode cX9_extent 35 = .ok (.bipush (-3), 2) := by decide +kernel
theorem dX9_extent_37 : decode cX9_extent 37 = .ok (.ireturn, 1) := by decide +kernel
theorem dX9_extent_38 : decode cX9_extent 38 = .ok (.aload_n 0, 1) := by decide +kernel
theorem dX9_extent_39 : decode cX9_extent 39 = .ok (.invokevirtual 301, 3) := by decide +kernel
theorem dX9_extent_42 : decode cX9_extent 42 = .ok (.aload_n 0, 1) := by decide +kernel
theorem dX9_extent_43 : decode cX9_extent 43 = .ok (.aload_n 0, 1) := by decide +kernel
theorem dX9_extent_44 : decode cX9_extent 44 = .ok (.iload_n 1, 1) := by decide +kernel
theorem dX9_extent_45 : decode cX9_extent 45 = .ok (.iload_n 2, 1) := by decide +kernel
theorem dX9_extent_46 : decode cX9_extent 46 = .ok (.invokevirtual 191, 3) := by decide +kernel
theorem dX9_extent_49 : decode cX9_extent 49 = .ok (.invokevirtual 221, 3) := by decide +kernel
theorem dX9_extent_52 : decode cX9_extent 52 = .ok (.ireturn, 1) := by decide +kernel
set_option maxHeartbeats 4000000 in
set_option maxRecDepth 100000 in
theorem c_X9_extent {l : Launch} {D : va_G} {aC : Nat → ClassId} {a_o : Nat → Nat} (s_o : Ob_T) (x1 : Int32) (x2 : Int32) {out : Int32 × Ob_T} (h : f_X9_extent s_o x1 x2 = some out) : M_W l yX9_extent wlX9_extent 6 146 D aC [.ref (a_o 0), .int x1, .int x2] (wd_X9 aC a_o s_o) (some (.int out.1)) (wd_X9 aC a_o out.2) := by
  refine k_entW (cc := cX9_extent) (ret := (some .int)) (maxL := 3) (own := RX9) (by decide) rfl rfl rfl ?_
  intro p e s m below meth c A ls hX hr hZ hl
  have hl : lv_has ls 3 [(0, .ref (a_o 0)), (1, .int x1), (2, .int x2)] := hl
  generalize ([.ref (a_o 0), .int x1, .int x2] : List Value).toArray = args at hX ⊢
  obtain ⟨hx, hb, hml, hown, hts, hK, hA, hlk⟩ := id hX
  unfold f_X9_extent at h
  generalize s.heap = H at hZ ⊢
  generalize ([] : List Loc) = locs at hZ ⊢
  refine lv_aload_n hx hb dX9_extent_0 rfl (lv_at hl 0 rfl) ?_
  refine lv_iload_n hx hb dX9_extent_1 rfl (lv_at hl 1 rfl) ?_
  obtain ⟨u1, hu, h⟩ := k_bd h
  refine k_vRs (As := [.int x1]) (rest := []) (v := some (.int u1)) (st1 := [.int u1]) hX hl.1 hZ (c_X9_isNode (a_o := a_o) s_o x1 hu) (gv_ wm_207 wm_209 wm_210 wm_11 wm_208) rfl hd_X9_isNode ⟨rfl, rfl⟩ 9 0 rfl rfl rfl rfl rfl dX9_extent_2 rfl ⟨rfl, rfl⟩ (fun locs hZ => ?_)
  clear hu
  refine lv_if_ne (tgt := 11) hx hb dX9_extent_5 (by decide) (fun cd => ?_) (fun cd => ?_)
  · replace h := k_f cd h
    clear cd
    refine lv_iload_n hx hb dX9_extent_11 rfl (lv_at hl 2 rfl) ?_
    refine lv_i2l (v := x2.toInt64) hx hb dX9_extent_12 rfl ?_
    refine lv_lconst (v := 0) hx hb dX9_extent_13 (by decide) ?_
    refine lv_aload_n hx hb dX9_extent_14 rfl (lv_at hl 0 rfl) ?_
    refine k_get hX hZ.1 0 9 rfl rfl iw_X9 0 rfl (wm_107) (v := .ref (a_o 1)) rfl dX9_extent_15 ?_
    refine lv_bipush (v := 15) hx hb dX9_extent_18 (by decide) ?_
    refine lv_iload_n hx hb dX9_extent_20 rfl (lv_at hl 1 rfl) ?_
    refine lv_imul hx hb dX9_extent_21 ?_
    refine lv_bipush (v := 8) hx hb dX9_extent_22 (by decide) ?_
    refine lv_iadd hx hb dX9_extent_24 ?_
    refine k_iald hX hZ.1 1 rfl h dX9_extent_25 (fun v2 h => ?_)
    refine lv_iconst (v := 1) hx hb dX9_extent_26 (by decide) ?_
    refine lv_isub hx hb dX9_extent_27 ?_
    refine lv_i2l (v := (v2 - (1 : Int32)).toInt64) hx hb dX9_extent_28 rfl ?_
    obtain ⟨u3, hu, h⟩ := k_bd h
    refine k_sR (As := [.long x2.toInt64, .long (0 : Int64), .long (v2 - (1 : Int32)).toInt64]) (rest := []) (wc := []) (v := some (.int u3)) (st1 := [.int u3]) hX hl.1 hZ (c_X9_in  x2.toInt64 (0 : Int64) ((v2 - (1 : Int32)).toInt64) hu) (gs_ wm_10 wm_13 wm_11 wm_12) rfl hd_X9_in ⟨rfl, rfl⟩ [] rfl rfl rfl rfl rfl dX9_extent_29 rfl ⟨rfl, rfl⟩ (fun locs hZ => ?_)
    clear hu
    refine lv_if_ne (tgt := 38) hx hb dX9_extent_32 (by decide) (fun cd => ?_) (fun cd => ?_)
    · replace h := k_f cd h
      clear cd
      refine lv_aload_n hx hb dX9_extent_38 rfl (lv_at hl 0 rfl) ?_
      obtain ⟨u4, hu, h⟩ := k_bd h
      refine k_vWs (As := []) (rest := []) (v := none) (st1 := []) hX hl.1 hZ (c_X9_solveNow (a_o := a_o) s_o hu) (gv_ wm_211 wm_213 wm_214 wm_11 wm_212) rfl hd_X9_solveNow ⟨rfl, rfl⟩ 9 0 rfl rfl rfl rfl rfl dX9_extent_39 rfl ⟨rfl, rfl⟩ rfl (fun H locs hZ => ?_)
      clear hu
      refine lv_aload_n hx hb dX9_extent_42 rfl (lv_at hl 0 rfl) ?_
      refine lv_aload_n hx hb dX9_extent_43 rfl (lv_at hl 0 rfl) ?_
      refine lv_iload_n hx hb dX9_extent_44 rfl (lv_at hl 1 rfl) ?_
      refine lv_iload_n hx hb dX9_extent_45 rfl (lv_at hl 2 rfl) ?_
      obtain ⟨u5, hu, h⟩ := k_bd h
      refine k_vRs (As := [.int x1, .int x2]) (rest := [.ref (a_o 0)]) (v := some (.int u5)) (st1 := [.int u5, .ref (a_o 0)]) hX hl.1 hZ (c_X9_extentOf (a_o := a_o) u4 x1 x2 hu) (gv_ wm_71 wm_73 wm_74 wm_11 wm_72) rfl hd_X9_extentOf ⟨rfl, rfl⟩ 9 0 rfl rfl rfl rfl rfl dX9_extent_46 rfl ⟨rfl, rfl⟩ (fun locs hZ => ?_)
      clear hu
      obtain ⟨u6, hu, h⟩ := k_bd h
      refine k_vRs (As := [.int u5]) (rest := []) (v := some (.int u6)) (st1 := [.int u6]) hX hl.1 hZ (c_X9_solved (a_o := a_o) u4 u5 hu) (gv_ wm_135 wm_137 wm_138 wm_11 wm_136) rfl hd_X9_solved ⟨rfl, rfl⟩ 9 0 rfl rfl rfl rfl rfl dX9_extent_49 rfl ⟨rfl, rfl⟩ (fun locs hZ => ?_)
      clear hu
      cases h
      exact k_iretW hX hr hZ dX9_extent_52
    · replace h := k_t cd h
      clear cd
      refine lv_bipush (v := -3) hx hb dX9_extent_35 (by decide) ?_
      cases h
      exact k_iretW hX hr hZ dX9_extent_37
  · replace h := k_t cd h
    clear cd
    refine lv_bipush (v := -2) hx hb dX9_extent_8 (by decide) ?_
    cases h
    exact k_iretW hX hr hZ dX9_extent_10
