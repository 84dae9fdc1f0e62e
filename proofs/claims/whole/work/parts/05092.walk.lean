def wlX8_node : List Cond := .code yX8_node cX8_node 4 (some .int) :: WL_
theorem hd_X8_node : yX8_node.cls = RX8 ∧ yX8_node.cls ≠ "java/lang/invoke/MethodHandle" ∧ yX8_node.cls ≠ "java/lang/invoke/VarHandle" ∧ (parseMethodDescriptor yX8_node.desc).map (fun d => d.parameters.length) = some 2 := by decide +kernel
theorem dX8_node_0 : decode cX8_node 0 = .ok (.aload_n 0, 1) := by decide +kernel
theorem dX8_node_1 : decode cX8_node 1 = .ok (.getfield 19, 3) := by decide +kernel
theorem dX8_node_4 : decode cX8_node 4 = .ok (.iload_n 1, 1) := by decide +kernel
theorem dX8_node_5 : decode cX8_node 5 = .ok (.invokevirtual 102, 3) := by decide +kernel
theorem dX8_node_8 : decode cX8_node 8 = .ok (.ifCond .ne 6, 3) := by decide +kernel
theorem dX8_node_11 : decode cX8_node 11 = .ok (.bipush (-2), 2) := by decide +kernel
theorem dX8_node_13 : decode cX8_node 13 = .ok (.ireturn, 1) := by decide +kernel
theorem dX8_node_14 : decode cX8_node 14 = .ok (.iload_n 2, 1) := by decide +kernel
theorem dX8_node_15 : decode cX8_node 15 = .ok (.tableswitch 93 0 4 #[33, 42, 51, 60, 69], 33) := by decide +kernel
theorem dX8_node_48 : decode cX8_node 48 = .ok (.aload_n 0, 1) := by decide +kernel
theorem dX8_node_49 : decode cX8_node 49 = .ok (.getfield 19, 3) := by decide +kernel
theorem dX8_node_52 : decode cX8_node 52 = .ok (.iload_n 1, 1) := by decide +kernel
theorem dX8_node_53 : decode cX8_node 53 = .ok (.invokevirtual 105, 3) := by decide +kernel
theorem dX8_node_56 : decode cX8_node 56 = .ok (.ireturn, 1) := by decide +kernel
theorem dX8_node_57 : decode cX8_node 57 = .ok (.aload_n 0, 1) := by decide +kernel
theorem dX8_node_58 : decode cX8_node 58 = .ok (.getfield 19, 3) := by decide +kernel
theorem dX8_node_61 : decode cX8_node 61 = .ok (.iload_n 1, 1) := by decide +kernel
theorem dX8_node_62 : decode cX8_node 62 = .ok (.invokevirtual 109, 3) := by decide +kernel
theorem dX8_node_65 : decode cX8_node 65 = .ok (.ireturn, 1) := by decide +kernel
theorem dX8_node_66 : decode cX8_node 66 = .ok (.aload_n 0, 1) := by decide +kernel
theorem dX8_node_67 : decode cX8_node 67 = .ok (.getfield 19, 3) := by decide +kernel
theorem dX8_node_70 : decode cX8_node 70 = .ok (.iload_n 1, 1) := by decide +kernel
theorem dX8_node_71 : decode cX8_node 71 = .ok (.invokevirtual 112, 3) := by decide +kernel
theorem dX8_node_74 : decode cX8_node 74 = .ok (.ireturn, 1) := by decide +kernel
theorem dX8_node_75 : decode cX8_node 75 = .ok (.aload_n 0, 1) := by decide +kernel
theorem dX8_node_76 : decode cX8_node 76 = .ok (.getfield 19, 3) := by decide +kernel
theorem dX8_node_79 : decode cX8_node 79 = .ok (.iload_n 1, 1) := by decide +kernel
theorem dX8_node_80 : decode cX8_node 80 = .ok (.invokevirtual 115, 3) := by decide +kernel
theorem dX8_node_83 : decode cX8_node 83 = .ok (.ireturn, 1) := by decide +kernel
theorem dX8_node_84 : decode cX8_node 84 = .ok (.aload_n 0, 1) := by decide +kernel
theorem dX8_node_85 : decode cX8_node 85 = .ok (.getfield 19, 3) := by decide +kernel
theorem dX8_node_88 : decode cX8_node 88 = .ok (.iload_n 1, 1) := by decide +kernel
theorem dX8_node_89 : decode cX8_node 89 = .ok (.invokevirtual 118, 3) := by decide +kernel
theorem dX8_node_92 : decode cX8_node 92 = .ok (.istore_n 3, 1) := by decide +kernel
theorem dX8_node_93 : decode cX8_node 93 = .ok (.iload_n 3, 1) := by decide +kernel
theorem dX8_node_94 : decode cX8_node 94 = .ok (.bipush (-11), 2) := by decide +kernel
theorem dX8_node_96 : decode cX8_node 96 = .ok (.if_icmp .ne 7, 3) := by decide +kernel
theorem dX8_node_99 : decode cX8_node 99 = .ok (.iconst (-1), 1) := by decide +kernel
theorem dX8_node_100 : decode cX8_node 100 = .ok (.goto 7, 3) := by decide +kernel
theorem dX8_node_103 : decode cX8_node 103 = .ok (.iload_n 3, 1) := by decide +kernel
theorem dX8_node_104 : decode cX8_node 104 = .ok (.bipush 10, 2) := by decide +kernel
theorem dX8_node_106 : decode cX8_node 106 = .ok (.iadd, 1) := by decide +kernel
theorem dX8_node_107 : decode cX8_node 107 = .ok (.ireturn, 1) := by decide +kernel
theorem dX8_node_108 : decode cX8_node 108 = .ok (.bipush (-3), 2) := by decide +kernel
theorem dX8_node_110 : decode cX8_node 110 = .ok (.ireturn, 1) := by decide +kernel
set_option maxHeartbeats 4000000 in
set_option maxRecDepth 100000 in
theorem c_X8_node {l : Launch} {D : va_G} {aC : Nat → ClassId} {a_x : Nat → Nat} {a_n : Nat → Nat} {a_t : Nat → Nat} {a_n2 : Nat → Nat} {a_v : Nat → Nat} {a_v2 : Nat → Nat} {a_g : Nat → Nat} {a_w : Nat → Nat} {a_q : Nat → Nat} {a_r : Nat → Nat} (s_x : Ob_T) (s_n : Ob_T) (x1 : Int32) (x2 : Int32) {out : Int32} (h : f_X8_node s_x s_n x1 x2 = some out) : M_R l yX8_node wlX8_node 1 21 D aC [.ref (a_x 0), .int x1, .int x2] (wd_X8 aC a_x (a_t 0) (a_n 0) (a_n2 0) (a_v 0) (a_v2 0) (a_g 0) (a_w 0) (a_q 0) (a_r 0) s_x ++ wd_X1 aC a_n s_n) (some (.int out)) := by
  refine k_entR (cc := cX8_node) (ret := (some .int)) (maxL := 4) (own := RX8) (by decide) rfl rfl rfl ?_
  intro p e s m below meth c A ls hX hr hZ hl
  have hl : lv_has ls 4 [(0, .ref (a_x 0)), (1, .int x1), (2, .int x2)] := hl
  generalize ([.ref (a_x 0), .int x1, .int x2] : List Value).toArray = args at hX ⊢
  obtain ⟨hx, hb, hml, hown, hts, hK, hA, hlk⟩ := id hX
  unfold f_X8_node at h
  have hF : ∀ q ∈ ([] : List Loc), False := fun _ h => nomatch h
  generalize ([] : List Loc) = locs at hF ⊢
  refine lv_aload_n hx hb dX8_node_0 rfl (lv_at hl 0 rfl) ?_
  refine k_get hX hZ.1 0 8 rfl rfl iw_X8 1 rfl (wm_651) (v := .ref (a_n 0)) rfl dX8_node_1 ?_
  refine lv_iload_n hx hb dX8_node_4 rfl (lv_at hl 1 rfl) ?_
  obtain ⟨u1, hu, h⟩ := k_bd h
  refine k_vRR (As := [.int x1]) (rest := []) (wc := wd_X1 aC a_n s_n) (v := some (.int u1)) (st1 := [.int u1]) hX hl.1 hZ hF (c_X1_has (a_n := a_n) s_n x1 hu) (gv_ wm_657 wm_323 wm_324 wm_321 wm_322) rfl hd_X1_has ⟨rfl, rfl⟩ 1 0 rfl rfl [1, 2, 3, 4, 5, 6, 7] rfl rfl rfl rfl rfl dX8_node_5 rfl ⟨rfl, rfl⟩ (fun locs hF => ?_)
  clear hu
  refine lv_if_ne (tgt := 14) hx hb dX8_node_8 (by decide) (fun cd => ?_) (fun cd => ?_)
  · replace h := k_f cd h
    clear cd
    refine lv_iload_n hx hb dX8_node_14 rfl (lv_at hl 2 rfl) ?_
    by_cases c0 : x2 = (0 : Int32)
    · replace h := k_t c0 h
      refine k_sw c0 ?_
      refine lv_tableIn (tgt := 48) (off := 33) hx hb dX8_node_15 (by decide) (by decide) rfl (by decide) ?_
      refine lv_aload_n hx hb dX8_node_48 rfl (lv_at hl 0 rfl) ?_
      refine k_get hX hZ.1 0 8 rfl rfl iw_X8 1 rfl (wm_651) (v := .ref (a_n 0)) rfl dX8_node_49 ?_
      refine lv_iload_n hx hb dX8_node_52 rfl (lv_at hl 1 rfl) ?_
      obtain ⟨u2, hu, h⟩ := k_bd h
      refine k_vRR (As := [.int x1]) (rest := []) (wc := wd_X1 aC a_n s_n) (v := some (.int u2)) (st1 := [.int u2]) hX hl.1 hZ hF (c_X1_kindOf (a_n := a_n) s_n x1 hu) (gv_ wm_652 wm_482 wm_483 wm_321 wm_481) rfl hd_X1_kindOf ⟨rfl, rfl⟩ 1 0 rfl rfl [1, 2, 3, 4, 5, 6, 7] rfl rfl rfl rfl rfl dX8_node_53 rfl ⟨rfl, rfl⟩ (fun locs hF => ?_)
      clear hu
      cases h
      exact k_iretR hX hr hF dX8_node_56
    · replace h := k_f c0 h
      have n0 := k_ne c0 (0) (by decide)
      by_cases c1 : x2 = (1 : Int32)
      · replace h := k_t c1 h
        refine k_sw c1 ?_
        refine lv_tableIn (tgt := 57) (off := 42) hx hb dX8_node_15 (by decide) (by decide) rfl (by decide) ?_
        refine lv_aload_n hx hb dX8_node_57 rfl (lv_at hl 0 rfl) ?_
        refine k_get hX hZ.1 0 8 rfl rfl iw_X8 1 rfl (wm_651) (v := .ref (a_n 0)) rfl dX8_node_58 ?_
        refine lv_iload_n hx hb dX8_node_61 rfl (lv_at hl 1 rfl) ?_
        obtain ⟨u3, hu, h⟩ := k_bd h
        refine k_vRR (As := [.int x1]) (rest := []) (wc := wd_X1 aC a_n s_n) (v := some (.int u3)) (st1 := [.int u3]) hX hl.1 hZ hF (c_X1_axesOf (a_n := a_n) s_n x1 hu) (gv_ wm_653 wm_502 wm_503 wm_321 wm_501) rfl hd_X1_axesOf ⟨rfl, rfl⟩ 1 0 rfl rfl [1, 2, 3, 4, 5, 6, 7] rfl rfl rfl rfl rfl dX8_node_62 rfl ⟨rfl, rfl⟩ (fun locs hF => ?_)
        clear hu
        cases h
        exact k_iretR hX hr hF dX8_node_65
      · replace h := k_f c1 h
        have n1 := k_ne c1 (1) (by decide)
        by_cases c2 : x2 = (2 : Int32)
        · replace h := k_t c2 h
          refine k_sw c2 ?_
          refine lv_tableIn (tgt := 66) (off := 51) hx hb dX8_node_15 (by decide) (by decide) rfl (by decide) ?_
          refine lv_aload_n hx hb dX8_node_66 rfl (lv_at hl 0 rfl) ?_
          refine k_get hX hZ.1 0 8 rfl rfl iw_X8 1 rfl (wm_651) (v := .ref (a_n 0)) rfl dX8_node_67 ?_
          refine lv_iload_n hx hb dX8_node_70 rfl (lv_at hl 1 rfl) ?_
          obtain ⟨u4, hu, h⟩ := k_bd h
          refine k_vRR (As := [.int x1]) (rest := []) (wc := wd_X1 aC a_n s_n) (v := some (.int u4)) (st1 := [.int u4]) hX hl.1 hZ hF (c_X1_firstOf (a_n := a_n) s_n x1 hu) (gv_ wm_654 wm_469 wm_470 wm_321 wm_468) rfl hd_X1_firstOf ⟨rfl, rfl⟩ 1 0 rfl rfl [1, 2, 3, 4, 5, 6, 7] rfl rfl rfl rfl rfl dX8_node_71 rfl ⟨rfl, rfl⟩ (fun locs hF => ?_)
          clear hu
          cases h
          exact k_iretR hX hr hF dX8_node_74
        · replace h := k_f c2 h
          have n2 := k_ne c2 (2) (by decide)
          by_cases c3 : x2 = (3 : Int32)
          · replace h := k_t c3 h
            refine k_sw c3 ?_
            refine lv_tableIn (tgt := 75) (off := 60) hx hb dX8_node_15 (by decide) (by decide) rfl (by decide) ?_
            refine lv_aload_n hx hb dX8_node_75 rfl (lv_at hl 0 rfl) ?_
            refine k_get hX hZ.1 0 8 rfl rfl iw_X8 1 rfl (wm_651) (v := .ref (a_n 0)) rfl dX8_node_76 ?_
            refine lv_iload_n hx hb dX8_node_79 rfl (lv_at hl 1 rfl) ?_
            obtain ⟨u5, hu, h⟩ := k_bd h
            refine k_vRR (As := [.int x1]) (rest := []) (wc := wd_X1 aC a_n s_n) (v := some (.int u5)) (st1 := [.int u5]) hX hl.1 hZ hF (c_X1_secondOf (a_n := a_n) s_n x1 hu) (gv_ wm_655 wm_465 wm_466 wm_321 wm_464) rfl hd_X1_secondOf ⟨rfl, rfl⟩ 1 0 rfl rfl [1, 2, 3, 4, 5, 6, 7] rfl rfl rfl rfl rfl dX8_node_80 rfl ⟨rfl, rfl⟩ (fun locs hF => ?_)
            clear hu
            cases h
            exact k_iretR hX hr hF dX8_node_83
          · replace h := k_f c3 h
            have n3 := k_ne c3 (3) (by decide)
            by_cases c4 : x2 = (4 : Int32)
            · replace h := k_t c4 h
              refine k_sw c4 ?_
              refine lv_tableIn (tgt := 84) (off := 69) hx hb dX8_node_15 (by decide) (by decide) rfl (by decide) ?_
              refine lv_aload_n hx hb dX8_node_84 rfl (lv_at hl 0 rfl) ?_
              refine k_get hX hZ.1 0 8 rfl rfl iw_X8 1 rfl (wm_651) (v := .ref (a_n 0)) rfl dX8_node_85 ?_
              refine lv_iload_n hx hb dX8_node_88 rfl (lv_at hl 1 rfl) ?_
              obtain ⟨u6, hu, h⟩ := k_bd h
              refine k_vRR (As := [.int x1]) (rest := []) (wc := wd_X1 aC a_n s_n) (v := some (.int u6)) (st1 := [.int u6]) hX hl.1 hZ hF (c_X1_rankOf (a_n := a_n) s_n x1 hu) (gv_ wm_656 wm_461 wm_462 wm_321 wm_460) rfl hd_X1_rankOf ⟨rfl, rfl⟩ 1 0 rfl rfl [1, 2, 3, 4, 5, 6, 7] rfl rfl rfl rfl rfl dX8_node_89 rfl ⟨rfl, rfl⟩ (fun locs hF => ?_)
              clear hu
              refine lv_istore_n (lv' := [(3, .int u6), (0, .ref (a_x 0)), (1, .int x1), (2, .int x2)]) hx hb dX8_node_92 rfl hl (by decide) rfl (fun ls hl => ?_)
              refine lv_iload_n hx hb dX8_node_93 rfl (lv_at hl 0 rfl) ?_
              refine lv_bipush (v := -11) hx hb dX8_node_94 (by decide) ?_
              refine lv_icmp_ne (tgt := 103) hx hb dX8_node_96 (by decide) (fun cd => ?_) (fun cd => ?_)
              · replace h := k_f cd h
                clear cd
                refine lv_iload_n hx hb dX8_node_103 rfl (lv_at hl 0 rfl) ?_
                refine lv_bipush (v := 10) hx hb dX8_node_104 (by decide) ?_
                refine lv_iadd hx hb dX8_node_106 ?_
                cases h
                exact k_iretR hX hr hF dX8_node_107
              · replace h := k_t cd h
                clear cd
                refine lv_iconst (v := -1) hx hb dX8_node_99 (by decide) ?_
                refine lv_goto (tgt := 107) hx hb dX8_node_100 (by decide) ?_
                cases h
                exact k_iretR hX hr hF dX8_node_107
            · replace h := k_f c4 h
              have n4 := k_ne c4 (4) (by decide)
              refine lv_tableOut (tgt := 108) hx hb dX8_node_15 (by omega) (by decide) ?_
              refine lv_bipush (v := -3) hx hb dX8_node_108 (by decide) ?_
              cases h
              exact k_iretR hX hr hF dX8_node_110
  · replace h := k_t cd h
    clear cd
    refine lv_bipush (v := -2) hx hb dX8_node_11 (by decide) ?_
    cases h
    exact k_iretR hX hr hF dX8_node_13
def wlX8_solveNow : List Cond := .code yX8_solveNow cX8_solveNow 1 none :: WL_
theorem hd_X8_solveNow : yX8_solveNow.cls = RX8 ∧ yX8_solveNow.cls ≠ "java/lang/invoke/MethodHandle" ∧ yX8_solveNow.cls ≠ "java/lang/invoke/VarHandle" ∧ (parseMethodDescriptor yX8_solveNow.desc).map (fun d => d.parameters.length) = some 0 := by decide +kernel
theorem dX8_solveNow_0 : decode cX8_solveNow 0 = .ok (.aload_n 0, 1) := by decide +kernel
theorem dX8_solveNow_1 : decode cX8_solveNow 1 = .ok (.getfield 68, 3) := by decide +kernel
theorem dX8_solveNow_4 : decode cX8_solveNow 4 = .ok (.ifCond .ne 22, 3) := by decide +kernel
theorem dX8_solveNow_7 : decode cX8_solveNow 7 = .ok (.aload_n 0, 1) := by decide +kernel
theorem dX8_solveNow_8 : decode cX8_solveNow 8 = .ok (.getfield 31, 3) := by decide +kernel
theorem dX8_solveNow_11 : decode cX8_solveNow 11 = .ok (.aload_n 0, 1) := by decide +kernel
theorem dX8_solveNow_12 : decode cX8_solveNow 12 = .ok (.getfield 41, 3) := by decide +kernel
theorem dX8_solveNow_15 : decode cX8_solveNow 15 = .ok (.invokevirtual 264, 3) := by decide +kernel
theorem dX8_solveNow_18 : decode cX8_solveNow 18 = .ok (.invokevirtual 268, 3) := by decide +kernel
theorem dX8_solveNow_21 : decode cX8_solveNow 21 = .ok (.aload_n 0, 1) := by decide +kernel
theorem dX8_solveNow_22 : decode cX8_solveNow 22 = .ok (.iconst 1, 1) := by decide +kernel
theorem dX8_solveNow_23 : decode cX8_solveNow 23 = .ok (.putfield 68, 3) := by decide +kernel
theorem dX8_solveNow_26 : decode cX8_solveNow 26 = .ok (.return_, 1) := by decide +kernel
set_option maxHeartbeats 4000000 in
set_option maxRecDepth 100000 in
theorem c_X8_solveNow {l : Launch} {D : va_G} {aC : Nat → ClassId} {a_x : Nat → Nat} {a_n : Nat → Nat} {a_v : Nat → Nat} {a_d : Nat → Nat} {a_g : Nat → Nat} {a_t : Nat → Nat} {a_n2 : Nat → Nat} {a_v2 : Nat → Nat} {a_w : Nat → Nat} {a_q : Nat → Nat} {a_r : Nat → Nat} (s_x : Ob_T) (s_n : Ob_T) (s_v : Ob_T) (s_d : Ob_T) (s_g : Ob_T) {out : Ob_T × Ob_T × Ob_T} (h : f_X8_solveNow s_x s_n s_v s_d s_g = some out) : M_W l yX8_solveNow wlX8_solveNow 5 144 D aC [.ref (a_x 0)] (wd_X8 aC a_x (a_t 0) (a_n 0) (a_n2 0) (a_v 0) (a_v2 0) (a_g 0) (a_w 0) (a_q 0) (a_r 0) s_x ++ (wd_X1 aC a_n s_n ++ (wd_X5 aC a_v (a_n 0) (a_d 0) s_v ++ (wd_X4 aC a_d s_d ++ wd_X0 aC a_g s_g)))) (none) (wd_X8 aC a_x (a_t 0) (a_n 0) (a_n2 0) (a_v 0) (a_v2 0) (a_g 0) (a_w 0) (a_q 0) (a_r 0) out.1 ++ (wd_X1 aC a_n s_n ++ (wd_X5 aC a_v (a_n 0) (a_d 0) out.2.1 ++ (wd_X4 aC a_d out.2.2 ++ wd_X0 aC a_g s_g)))) := by
  refine k_entW (cc := cX8_solveNow) (ret := none) (maxL := 1) (own := RX8) (by decide) rfl rfl rfl ?_
  intro p e s m below meth c A ls hX hr hZ hl
  have hl : lv_has ls 1 [(0, .ref (a_x 0))] := hl
  generalize ([.ref (a_x 0)] : List Value).toArray = args at hX ⊢
  obtain ⟨hx, hb, hml, hown, hts, hK, hA, hlk⟩ := id hX
  unfold f_X8_solveNow at h
  generalize s.heap = H at hZ ⊢
  generalize ([] : List Loc) = locs at hZ ⊢
  refine lv_aload_n hx hb dX8_solveNow_0 rfl (lv_at hl 0 rfl) ?_
  refine k_get hX hZ.1 0 8 rfl rfl iw_X8 9 rfl (wm_658) (v := .int (o_F s_x 9)) rfl dX8_solveNow_1 ?_
  refine lv_if_ne (tgt := 26) hx hb dX8_solveNow_4 (by decide) (fun cd => ?_) (fun cd => ?_)
  · replace h := k_f cd h
    clear cd
    cases h
    exact k_vretW hX hr hZ dX8_solveNow_26
  · replace h := k_t cd h
    clear cd
    refine lv_aload_n hx hb dX8_solveNow_7 rfl (lv_at hl 0 rfl) ?_
    refine k_get hX hZ.1 0 8 rfl rfl iw_X8 3 rfl (wm_659) (v := .ref (a_v 0)) rfl dX8_solveNow_8 ?_
    refine lv_aload_n hx hb dX8_solveNow_11 rfl (lv_at hl 0 rfl) ?_
    refine k_get hX hZ.1 0 8 rfl rfl iw_X8 5 rfl (wm_660) (v := .ref (a_g 0)) rfl dX8_solveNow_12 ?_
    obtain ⟨u1, hu, h⟩ := k_bd h
    refine k_vR (As := []) (rest := [.ref (a_v 0)]) (wc := wd_X0 aC a_g s_g) (v := some (.ref (a_g 1))) (st1 := [.ref (a_g 1), .ref (a_v 0)]) hX hl.1 hZ (c_X0_numbers (a_g := a_g) s_g hu) (gv_ wm_665 wm_667 wm_668 wm_301 wm_666) rfl hd_X0_numbers ⟨rfl, rfl⟩ 0 0 rfl rfl [16, 17, 18, 19, 20, 21] rfl rfl rfl rfl rfl dX8_solveNow_15 rfl ⟨rfl, rfl⟩ (fun locs hZ => ?_)
    clear hu
    obtain ⟨u2, hu, h⟩ := k_bd h
    refine k_vW (As := [.ref (a_g 1)]) (rest := []) (wc := wd_X5 aC a_v (a_n 0) (a_d 0) s_v ++ (wd_X4 aC a_d s_d ++ (wd_X1 aC a_n s_n ++ [((a_g 1), .inl (aC 0, 4, .inl (o_A s_g 0)))]))) (v := none) (st1 := []) (w' := wd_X8 aC a_x (a_t 0) (a_n 0) (a_n2 0) (a_v 0) (a_v2 0) (a_g 0) (a_w 0) (a_q 0) (a_r 0) s_x ++ (wd_X1 aC a_n s_n ++ (wd_X5 aC a_v (a_n 0) (a_d 0) u2.1 ++ (wd_X4 aC a_d u2.2 ++ wd_X0 aC a_g s_g)))) hX hl.1 hZ (c_X5_solve (a_v := a_v) (a_d := a_d) (a_n := a_n) (q1 := (a_g 1)) (f1 := o_A s_g 0) (z1 := 4) s_v s_d s_n hu) (gv_ wm_661 wm_663 wm_664 wm_432 wm_662) rfl hd_X5_solve ⟨rfl, rfl⟩ 5 0 rfl rfl [8, 9, 10, 11, 12, 13, 14, 15, 1, 2, 3, 4, 5, 6, 7, 17] rfl rfl rfl rfl rfl dX8_solveNow_18 rfl ⟨rfl, rfl⟩ rfl rfl rfl (fun H locs hZ => ?_)
    clear hu
    refine lv_aload_n hx hb dX8_solveNow_21 rfl (lv_at hl 0 rfl) ?_
    refine lv_iconst (v := 1) hx hb dX8_solveNow_22 (by decide) ?_
    refine k_put (wf := (fun o => wd_X8 aC a_x (a_t 0) (a_n 0) (a_n2 0) (a_v 0) (a_v2 0) (a_g 0) (a_w 0) (a_q 0) (a_r 0) o ++ (wd_X1 aC a_n s_n ++ (wd_X5 aC a_v (a_n 0) (a_d 0) u2.1 ++ (wd_X4 aC a_d u2.2 ++ wd_X0 aC a_g s_g))))) (o := s_x) hX hZ 0 8 rfl rfl iw_X8 tyX8 tyX8_ok nmX8 9 rfl (wm_658) rfl rfl rfl rfl rfl h dX8_solveNow_23 (fun o3 H locs hZ h => ?_)
    cases h
    exact k_vretW hX hr hZ dX8_solveNow_26
