def wlX9_kindHere : List Cond := .code yX9_kindHere cX9_kindHere 1 (some .int) :: WL_
theorem hd_X9_kindHere : yX9_kindHere.cls = RX9 ∧ yX9_kindHere.cls ≠ "java/lang/invoke/MethodHandle" ∧ yX9_kindHere.cls ≠ "java/lang/invoke/VarHandle" ∧ (parseMethodDescriptor yX9_kindHere.desc).map (fun d => d.parameters.length) = some 0 := by decide +kernel
theorem dX9_kindHere_0 : decode cX9_kindHere 0 = .ok (.aload_n 0, 1) := by decide +kernel
theorem dX9_kindHere_1 : decode cX9_kindHere 1 = .ok (.aload_n 0, 1) := by decide +kernel
theorem dX9_kindHere_2 : decode cX9_kindHere 2 = .ok (.getfield 53, 3) := by decide +kernel
theorem dX9_kindHere_5 : decode cX9_kindHere 5 = .ok (.invokevirtual 147, 3) := by decide +kernel
theorem dX9_kindHere_8 : decode cX9_kindHere 8 = .ok (.ifCond .eq 7, 3) := by decide +kernel
theorem dX9_kindHere_11 : decode cX9_kindHere 11 = .ok (.iconst 0, 1) := by decide +kernel
theorem dX9_kindHere_12 : decode cX9_kindHere 12 = .ok (.goto 95, 3) := by decide +kernel
theorem dX9_kindHere_15 : decode cX9_kindHere 15 = .ok (.aload_n 0, 1) := by decide +kernel
theorem dX9_kindHere_16 : decode cX9_kindHere 16 = .ok (.aload_n 0, 1) := by decide +kernel
theorem dX9_kindHere_17 : decode cX9_kindHere 17 = .ok (.getfield 56, 3) := by decide +kernel
theorem dX9_kindHere_20 : decode cX9_kindHere 20 = .ok (.invokevirtual 147, 3) := by decide +kernel
theorem dX9_kindHere_23 : decode cX9_kindHere 23 = .ok (.ifCond .eq 7, 3) := by decide +kernel
theorem dX9_kindHere_26 : decode cX9_kindHere 26 = .ok (.iconst 1, 1) := by decide +kernel
theorem dX9_kindHere_27 : decode cX9_kindHere 27 = .ok (.goto 80, 3) := by decide +kernel
theorem dX9_kindHere_30 : decode cX9_kindHere 30 = .ok (.aload_n 0, 1) := by decide +kernel
theorem dX9_kindHere_31 : decode cX9_kindHere 31 = .ok (.aload_n 0, 1) := by decide +kernel
theorem dX9_kindHere_32 : decode cX9_kindHere 32 = .ok (.getfield 59, 3) := by decide +kernel
theorem dX9_kindHere_35 : decode cX9_kindHere 35 = .ok (.invokevirtual 147, 3) := by decide +kernel
theorem dX9_kindHere_38 : decode cX9_kindHere 38 = .ok (.ifCond .eq 7, 3) := by decide +kernel
theorem dX9_kindHere_41 : decode cX9_kindHere 41 = .ok (.iconst 2, 1) := by decide +kernel
theorem dX9_kindHere_42 : decode cX9_kindHere 42 = .ok (.goto 65, 3) := by decide +kernel
theorem dX9_kindHere_45 : decode cX9_kindHere 45 = .ok (.aload_n 0, 1) := by decide +kernel
theorem dX9_kindHere_46 : decode cX9_kindHere 46 = .ok (.aload_n 0, 1) := by decide +kernel
theorem dX9_kindHere_47 : decode cX9_kindHere 47 = .ok (.getfield 62, 3) := by decide +kernel
theorem dX9_kindHere_50 : decode cX9_kindHere 50 = .ok (.invokevirtual 147, 3) := by decide +kernel
theorem dX9_kindHere_53 : decode cX9_kindHere 53 = .ok (.ifCond .eq 7, 3) := by decide +kernel
theorem dX9_kindHere_56 : decode cX9_kindHere 56 = .ok (.iconst 3, 1) := by decide +kernel
theorem dX9_kindHere_57 : decode cX9_kindHere 57 = .ok (.goto 50, 3) := by decide +kernel
theorem dX9_kindHere_60 : decode cX9_kindHere 60 = .ok (.aload_n 0, 1) := by decide +kernel
theorem dX9_kindHere_61 : decode cX9_kindHere 61 = .ok (.aload_n 0, 1) := by decide +kernel
theorem dX9_kindHere_62 : decode cX9_kindHere 62 = .ok (.getfield 65, 3) := by decide +kernel
theorem dX9_kindHere_65 : decode cX9_kindHere 65 = .ok (.invokevirtual 147, 3) := by decide +kernel
theorem dX9_kindHere_68 : decode cX9_kindHere 68 = .ok (.ifCond .eq 7, 3) := by decide +kernel
theorem dX9_kindHere_71 : decode cX9_kindHere 71 = .ok (.iconst 4, 1) := by decide +kernel
theorem dX9_kindHere_72 : decode cX9_kindHere 72 = .ok (.goto 35, 3) := by decide +kernel
theorem dX9_kindHere_75 : decode cX9_kindHere 75 = .ok (.aload_n 0, 1) := by decide +kernel
theorem dX9_kindHere_76 : decode cX9_kindHere 76 = .ok (.aload_n 0, 1) := by decide +kernel
theorem dX9_kindHere_77 : decode cX9_kindHere 77 = .ok (.getfield 68, 3) := by decide +kernel
theorem dX9_kindHere_80 : decode cX9_kindHere 80 = .ok (.invokevirtual 147, 3) := by decide +kernel
theorem dX9_kindHere_83 : decode cX9_kindHere 83 = .ok (.ifCond .eq 7, 3) := by decide +kernel
theorem dX9_kindHere_86 : decode cX9_kindHere 86 = .ok (.iconst 5, 1) := by decide +kernel
theorem dX9_kindHere_87 : decode cX9_kindHere 87 = .ok (.goto 20, 3) := by decide +kernel
theorem dX9_kindHere_90 : decode cX9_kindHere 90 = .ok (.aload_n 0, 1) := by decide +kernel
theorem dX9_kindHere_91 : decode cX9_kindHere 91 = .ok (.aload_n 0, 1) := by decide +kernel
theorem dX9_kindHere_92 : decode cX9_kindHere 92 = .ok (.getfield 71, 3) := by decide +kernel
theorem dX9_kindHere_95 : decode cX9_kindHere 95 = .ok (.invokevirtual 147, 3) := by decide +kernel
theorem dX9_kindHere_98 : decode cX9_kindHere 98 = .ok (.ifCond .eq 8, 3) := by decide +kernel
theorem dX9_kindHere_101 : decode cX9_kindHere 101 = .ok (.bipush 6, 2) := by decide +kernel
theorem dX9_kindHere_103 : decode cX9_kindHere 103 = .ok (.goto 4, 3) := by decide +kernel
theorem dX9_kindHere_106 : decode cX9_kindHere 106 = .ok (.iconst (-1), 1) := by decide +kernel
theorem dX9_kindHere_107 : decode cX9_kindHere 107 = .ok (.ireturn, 1) := by decide +kernel
set_option maxHeartbeats 4000000 in
set_option maxRecDepth 100000 in
theorem c_X9_kindHere {l : Launch} {D : va_G} {aC : Nat → ClassId} {a_o : Nat → Nat} (s_o : Ob_T) {out : Int32} (h : f_X9_kindHere s_o = some out) : M_R l yX9_kindHere wlX9_kindHere 1 23 D aC [.ref (a_o 0)] (wd_X9 aC a_o s_o) (some (.int out)) := by
  refine k_entR (cc := cX9_kindHere) (ret := (some .int)) (maxL := 1) (own := RX9) (by decide) rfl rfl rfl ?_
  intro p e s m below meth c A ls hX hr hZ hl
  have hl : lv_has ls 1 [(0, .ref (a_o 0))] := hl
  generalize ([.ref (a_o 0)] : List Value).toArray = args at hX ⊢
  obtain ⟨hx, hb, hml, hown, hts, hK, hA, hlk⟩ := id hX
  unfold f_X9_kindHere at h
  have hF : ∀ q ∈ ([] : List Loc), False := fun _ h => nomatch h
  generalize ([] : List Loc) = locs at hF ⊢
  refine lv_aload_n hx hb dX9_kindHere_0 rfl (lv_at hl 0 rfl) ?_
  refine lv_aload_n hx hb dX9_kindHere_1 rfl (lv_at hl 0 rfl) ?_
  refine k_get hX hZ.1 0 9 rfl rfl iw_X9 23 rfl (wm_43) (v := .ref (a_o 15)) rfl dX9_kindHere_2 ?_
  obtain ⟨u1, hu, h⟩ := k_bd h
  refine k_vRRs (As := [.ref (a_o 15)]) (rest := []) (v := some (.int u1)) (st1 := [.int u1]) hX hl.1 hZ hF (c_X9_isWord (a_o := a_o) (q1 := (a_o 15)) (f1 := o_A s_o 23) (z1 := 5) (pl1 := 15) (hq1 := rfl) s_o hu) (gv_ wm_50 wm_52 wm_53 wm_11 wm_51) rfl hd_X9_isWord ⟨rfl, rfl⟩ 9 0 rfl rfl rfl rfl rfl dX9_kindHere_5 rfl ⟨rfl, rfl⟩ (fun locs hF => ?_)
  clear hu
  refine lv_if_eq (tgt := 15) hx hb dX9_kindHere_8 (by decide) (fun cd => ?_) (fun cd => ?_)
  · replace h := k_t cd h
    clear cd
    refine lv_aload_n hx hb dX9_kindHere_15 rfl (lv_at hl 0 rfl) ?_
    refine lv_aload_n hx hb dX9_kindHere_16 rfl (lv_at hl 0 rfl) ?_
    refine k_get hX hZ.1 0 9 rfl rfl iw_X9 24 rfl (wm_44) (v := .ref (a_o 16)) rfl dX9_kindHere_17 ?_
    obtain ⟨u2, hu, h⟩ := k_bd h
    refine k_vRRs (As := [.ref (a_o 16)]) (rest := []) (v := some (.int u2)) (st1 := [.int u2]) hX hl.1 hZ hF (c_X9_isWord (a_o := a_o) (q1 := (a_o 16)) (f1 := o_A s_o 24) (z1 := 4) (pl1 := 16) (hq1 := rfl) s_o hu) (gv_ wm_50 wm_52 wm_53 wm_11 wm_51) rfl hd_X9_isWord ⟨rfl, rfl⟩ 9 0 rfl rfl rfl rfl rfl dX9_kindHere_20 rfl ⟨rfl, rfl⟩ (fun locs hF => ?_)
    clear hu
    refine lv_if_eq (tgt := 30) hx hb dX9_kindHere_23 (by decide) (fun cd => ?_) (fun cd => ?_)
    · replace h := k_t cd h
      clear cd
      refine lv_aload_n hx hb dX9_kindHere_30 rfl (lv_at hl 0 rfl) ?_
      refine lv_aload_n hx hb dX9_kindHere_31 rfl (lv_at hl 0 rfl) ?_
      refine k_get hX hZ.1 0 9 rfl rfl iw_X9 25 rfl (wm_45) (v := .ref (a_o 17)) rfl dX9_kindHere_32 ?_
      obtain ⟨u3, hu, h⟩ := k_bd h
      refine k_vRRs (As := [.ref (a_o 17)]) (rest := []) (v := some (.int u3)) (st1 := [.int u3]) hX hl.1 hZ hF (c_X9_isWord (a_o := a_o) (q1 := (a_o 17)) (f1 := o_A s_o 25) (z1 := 4) (pl1 := 17) (hq1 := rfl) s_o hu) (gv_ wm_50 wm_52 wm_53 wm_11 wm_51) rfl hd_X9_isWord ⟨rfl, rfl⟩ 9 0 rfl rfl rfl rfl rfl dX9_kindHere_35 rfl ⟨rfl, rfl⟩ (fun locs hF => ?_)
      clear hu
      refine lv_if_eq (tgt := 45) hx hb dX9_kindHere_38 (by decide) (fun cd => ?_) (fun cd => ?_)
      · replace h := k_t cd h
        clear cd
        refine lv_aload_n hx hb dX9_kindHere_45 rfl (lv_at hl 0 rfl) ?_
        refine lv_aload_n hx hb dX9_kindHere_46 rfl (lv_at hl 0 rfl) ?_
        refine k_get hX hZ.1 0 9 rfl rfl iw_X9 26 rfl (wm_46) (v := .ref (a_o 18)) rfl dX9_kindHere_47 ?_
        obtain ⟨u4, hu, h⟩ := k_bd h
        refine k_vRRs (As := [.ref (a_o 18)]) (rest := []) (v := some (.int u4)) (st1 := [.int u4]) hX hl.1 hZ hF (c_X9_isWord (a_o := a_o) (q1 := (a_o 18)) (f1 := o_A s_o 26) (z1 := 4) (pl1 := 18) (hq1 := rfl) s_o hu) (gv_ wm_50 wm_52 wm_53 wm_11 wm_51) rfl hd_X9_isWord ⟨rfl, rfl⟩ 9 0 rfl rfl rfl rfl rfl dX9_kindHere_50 rfl ⟨rfl, rfl⟩ (fun locs hF => ?_)
        clear hu
        refine lv_if_eq (tgt := 60) hx hb dX9_kindHere_53 (by decide) (fun cd => ?_) (fun cd => ?_)
        · replace h := k_t cd h
          clear cd
          refine lv_aload_n hx hb dX9_kindHere_60 rfl (lv_at hl 0 rfl) ?_
          refine lv_aload_n hx hb dX9_kindHere_61 rfl (lv_at hl 0 rfl) ?_
          refine k_get hX hZ.1 0 9 rfl rfl iw_X9 27 rfl (wm_47) (v := .ref (a_o 19)) rfl dX9_kindHere_62 ?_
          obtain ⟨u5, hu, h⟩ := k_bd h
          refine k_vRRs (As := [.ref (a_o 19)]) (rest := []) (v := some (.int u5)) (st1 := [.int u5]) hX hl.1 hZ hF (c_X9_isWord (a_o := a_o) (q1 := (a_o 19)) (f1 := o_A s_o 27) (z1 := 4) (pl1 := 19) (hq1 := rfl) s_o hu) (gv_ wm_50 wm_52 wm_53 wm_11 wm_51) rfl hd_X9_isWord ⟨rfl, rfl⟩ 9 0 rfl rfl rfl rfl rfl dX9_kindHere_65 rfl ⟨rfl, rfl⟩ (fun locs hF => ?_)
          clear hu
          refine lv_if_eq (tgt := 75) hx hb dX9_kindHere_68 (by decide) (fun cd => ?_) (fun cd => ?_)
          · replace h := k_t cd h
            clear cd
            refine lv_aload_n hx hb dX9_kindHere_75 rfl (lv_at hl 0 rfl) ?_
            refine lv_aload_n hx hb dX9_kindHere_76 rfl (lv_at hl 0 rfl) ?_
            refine k_get hX hZ.1 0 9 rfl rfl iw_X9 28 rfl (wm_48) (v := .ref (a_o 20)) rfl dX9_kindHere_77 ?_
            obtain ⟨u6, hu, h⟩ := k_bd h
            refine k_vRRs (As := [.ref (a_o 20)]) (rest := []) (v := some (.int u6)) (st1 := [.int u6]) hX hl.1 hZ hF (c_X9_isWord (a_o := a_o) (q1 := (a_o 20)) (f1 := o_A s_o 28) (z1 := 5) (pl1 := 20) (hq1 := rfl) s_o hu) (gv_ wm_50 wm_52 wm_53 wm_11 wm_51) rfl hd_X9_isWord ⟨rfl, rfl⟩ 9 0 rfl rfl rfl rfl rfl dX9_kindHere_80 rfl ⟨rfl, rfl⟩ (fun locs hF => ?_)
            clear hu
            refine lv_if_eq (tgt := 90) hx hb dX9_kindHere_83 (by decide) (fun cd => ?_) (fun cd => ?_)
            · replace h := k_t cd h
              clear cd
              refine lv_aload_n hx hb dX9_kindHere_90 rfl (lv_at hl 0 rfl) ?_
              refine lv_aload_n hx hb dX9_kindHere_91 rfl (lv_at hl 0 rfl) ?_
              refine k_get hX hZ.1 0 9 rfl rfl iw_X9 29 rfl (wm_49) (v := .ref (a_o 21)) rfl dX9_kindHere_92 ?_
              obtain ⟨u7, hu, h⟩ := k_bd h
              refine k_vRRs (As := [.ref (a_o 21)]) (rest := []) (v := some (.int u7)) (st1 := [.int u7]) hX hl.1 hZ hF (c_X9_isWord (a_o := a_o) (q1 := (a_o 21)) (f1 := o_A s_o 29) (z1 := 4) (pl1 := 21) (hq1 := rfl) s_o hu) (gv_ wm_50 wm_52 wm_53 wm_11 wm_51) rfl hd_X9_isWord ⟨rfl, rfl⟩ 9 0 rfl rfl rfl rfl rfl dX9_kindHere_95 rfl ⟨rfl, rfl⟩ (fun locs hF => ?_)
              clear hu
              refine lv_if_eq (tgt := 106) hx hb dX9_kindHere_98 (by decide) (fun cd => ?_) (fun cd => ?_)
              · replace h := k_t cd h
                clear cd
                refine lv_iconst (v := -1) hx hb dX9_kindHere_106 (by decide) ?_
                cases h
                exact k_iretR hX hr hF dX9_kindHere_107
              · replace h := k_f cd h
                clear cd
                refine lv_bipush (v := 6) hx hb dX9_kindHere_101 (by decide) ?_
                refine lv_goto (tgt := 107) hx hb dX9_kindHere_103 (by decide) ?_
                cases h
                exact k_iretR hX hr hF dX9_kindHere_107
            · replace h := k_f cd h
              clear cd
              refine lv_iconst (v := 5) hx hb dX9_kindHere_86 (by decide) ?_
              refine lv_goto (tgt := 107) hx hb dX9_kindHere_87 (by decide) ?_
              cases h
              exact k_iretR hX hr hF dX9_kindHere_107
          · replace h := k_f cd h
            clear cd
            refine lv_iconst (v := 4) hx hb dX9_kindHere_71 (by decide) ?_
            refine lv_goto (tgt := 107) hx hb dX9_kindHere_72 (by decide) ?_
            cases h
            exact k_iretR hX hr hF dX9_kindHere_107
        · replace h := k_f cd h
          clear cd
          refine lv_iconst (v := 3) hx hb dX9_kindHere_56 (by decide) ?_
          refine lv_goto (tgt := 107) hx hb dX9_kindHere_57 (by decide) ?_
          cases h
          exact k_iretR hX hr hF dX9_kindHere_107
      · replace h := k_f cd h
        clear cd
        refine lv_iconst (v := 2) hx hb dX9_kindHere_41 (by decide) ?_
        refine lv_goto (tgt := 107) hx hb dX9_kindHere_42 (by decide) ?_
        cases h
        exact k_iretR hX hr hF dX9_kindHere_107
    · replace h := k_f cd h
      clear cd
      refine lv_iconst (v := 1) hx hb dX9_kindHere_26 (by decide) ?_
      refine lv_goto (tgt := 107) hx hb dX9_kindHere_27 (by decide) ?_
      cases h
      exact k_iretR hX hr hF dX9_kindHere_107
  · replace h := k_f cd h
    clear cd
    refine lv_iconst (v := 0) hx hb dX9_kindHere_11 (by decide) ?_
    refine lv_goto (tgt := 107) hx hb dX9_kindHere_12 (by decide) ?_
    cases h
    exact k_iretR hX hr hF dX9_kindHere_107
