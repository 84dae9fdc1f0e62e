def wlX8_get : List Cond := .code yX8_get cX8_get 5 (some .int) :: WL_
theorem hd_X8_get : yX8_get.cls = RX8 ∧ yX8_get.cls ≠ "java/lang/invoke/MethodHandle" ∧ yX8_get.cls ≠ "java/lang/invoke/VarHandle" ∧ (parseMethodDescriptor yX8_get.desc).map (fun d => d.parameters.length) = some 3 := by decide +kernel
theorem dX8_get_0 : decode cX8_get 0 = .ok (.iload_n 1, 1) := by decide +kernel
theorem dX8_get_1 : decode cX8_get 1 = .ok (.invokestatic 210, 3) := by decide +kernel
theorem dX8_get_4 : decode cX8_get 4 = .ok (.ifCond .ne 6, 3) := by decide +kernel
theorem dX8_get_7 : decode cX8_get 7 = .ok (.bipush (-2), 2) := by decide +kernel
theorem dX8_get_9 : decode cX8_get 9 = .ok (.ireturn, 1) := by decide +kernel
theorem dX8_get_10 : decode cX8_get 10 = .ok (.iload_n 2, 1) := by decide +kernel
theorem dX8_get_11 : decode cX8_get 11 = .ok (.invokestatic 213, 3) := by decide +kernel
theorem dX8_get_14 : decode cX8_get 14 = .ok (.ifCond .ne 6, 3) := by decide +kernel
theorem dX8_get_17 : decode cX8_get 17 = .ok (.bipush (-3), 2) := by decide +kernel
theorem dX8_get_19 : decode cX8_get 19 = .ok (.ireturn, 1) := by decide +kernel
theorem dX8_get_20 : decode cX8_get 20 = .ok (.aload_n 0, 1) := by decide +kernel
theorem dX8_get_21 : decode cX8_get 21 = .ok (.getfield 64, 3) := by decide +kernel
theorem dX8_get_24 : decode cX8_get 24 = .ok (.iload_n 1, 1) := by decide +kernel
theorem dX8_get_25 : decode cX8_get 25 = .ok (.iload_n 2, 1) := by decide +kernel
theorem dX8_get_26 : decode cX8_get 26 = .ok (.iload_n 3, 1) := by decide +kernel
theorem dX8_get_27 : decode cX8_get 27 = .ok (.invokevirtual 220, 3) := by decide +kernel
theorem dX8_get_30 : decode cX8_get 30 = .ok (.istore 4, 2) := by decide +kernel
theorem dX8_get_32 : decode cX8_get 32 = .ok (.iload 4, 2) := by decide +kernel
theorem dX8_get_34 : decode cX8_get 34 = .ok (.iconst (-1), 1) := by decide +kernel
theorem dX8_get_35 : decode cX8_get 35 = .ok (.if_icmp .eq 8, 3) := by decide +kernel
theorem dX8_get_38 : decode cX8_get 38 = .ok (.iload 4, 2) := by decide +kernel
theorem dX8_get_40 : decode cX8_get 40 = .ok (.goto 15, 3) := by decide +kernel
theorem dX8_get_43 : decode cX8_get 43 = .ok (.aload_n 0, 1) := by decide +kernel
theorem dX8_get_44 : decode cX8_get 44 = .ok (.getfield 64, 3) := by decide +kernel
theorem dX8_get_47 : decode cX8_get 47 = .ok (.iload_n 1, 1) := by decide +kernel
theorem dX8_get_48 : decode cX8_get 48 = .ok (.iload_n 3, 1) := by decide +kernel
theorem dX8_get_49 : decode cX8_get 49 = .ok (.invokevirtual 224, 3) := by decide +kernel
theorem dX8_get_52 : decode cX8_get 52 = .ok (.ldc 228, 2) := by decide +kernel
theorem dX8_get_54 : decode cX8_get 54 = .ok (.iadd, 1) := by decide +kernel
theorem dX8_get_55 : decode cX8_get 55 = .ok (.ireturn, 1) := by decide +kernel
set_option maxHeartbeats 4000000 in
set_option maxRecDepth 100000 in
theorem c_X8_get {l : Launch} {D : va_G} {aC : Nat → ClassId} {a_x : Nat → Nat} {a_r : Nat → Nat} {a_t : Nat → Nat} {a_n : Nat → Nat} {a_n2 : Nat → Nat} {a_v : Nat → Nat} {a_v2 : Nat → Nat} {a_g : Nat → Nat} {a_w : Nat → Nat} {a_q : Nat → Nat} (s_x : Ob_T) (s_r : Ob_T) (x1 : Int32) (x2 : Int32) (x3 : Int32) {out : Int32} (h : f_X8_get s_x s_r x1 x2 x3 = some out) : M_R l yX8_get wlX8_get 2 44 D aC [.ref (a_x 0), .int x1, .int x2, .int x3] (wd_X8 aC a_x (a_t 0) (a_n 0) (a_n2 0) (a_v 0) (a_v2 0) (a_g 0) (a_w 0) (a_q 0) (a_r 0) s_x ++ wd_X2 aC a_r s_r) (some (.int out)) := by
  refine k_entR (cc := cX8_get) (ret := (some .int)) (maxL := 5) (own := RX8) (by decide) rfl rfl rfl ?_
  intro p e s m below meth c A ls hX hr hZ hl
  have hl : lv_has ls 5 [(0, .ref (a_x 0)), (1, .int x1), (2, .int x2), (3, .int x3)] := hl
  generalize ([.ref (a_x 0), .int x1, .int x2, .int x3] : List Value).toArray = args at hX ⊢
  obtain ⟨hx, hb, hml, hown, hts, hK, hA, hlk⟩ := id hX
  unfold f_X8_get at h
  have hF : ∀ q ∈ ([] : List Loc), False := fun _ h => nomatch h
  generalize ([] : List Loc) = locs at hF ⊢
  refine lv_iload_n hx hb dX8_get_0 rfl (lv_at hl 1 rfl) ?_
  obtain ⟨u1, hu, h⟩ := k_bd h
  refine k_sRR (As := [.int x1]) (rest := []) (wc := []) (v := some (.int u1)) (st1 := [.int u1]) hX hl.1 hZ hF (c_X8_isRow  x1 hu) (gs_ wm_797 wm_799 wm_672 wm_798) rfl hd_X8_isRow ⟨rfl, rfl⟩ [] rfl rfl rfl rfl rfl dX8_get_1 rfl ⟨rfl, rfl⟩ (fun locs hF => ?_)
  clear hu
  refine lv_if_ne (tgt := 10) hx hb dX8_get_4 (by decide) (fun cd => ?_) (fun cd => ?_)
  · replace h := k_f cd h
    clear cd
    refine lv_iload_n hx hb dX8_get_10 rfl (lv_at hl 2 rfl) ?_
    obtain ⟨u2, hu, h⟩ := k_bd h
    refine k_sRR (As := [.int x2]) (rest := []) (wc := []) (v := some (.int u2)) (st1 := [.int u2]) hX hl.1 hZ hF (c_X8_isSort  x2 hu) (gs_ wm_794 wm_796 wm_672 wm_795) rfl hd_X8_isSort ⟨rfl, rfl⟩ [] rfl rfl rfl rfl rfl dX8_get_11 rfl ⟨rfl, rfl⟩ (fun locs hF => ?_)
    clear hu
    refine lv_if_ne (tgt := 20) hx hb dX8_get_14 (by decide) (fun cd => ?_) (fun cd => ?_)
    · replace h := k_f cd h
      clear cd
      refine lv_aload_n hx hb dX8_get_20 rfl (lv_at hl 0 rfl) ?_
      refine k_get hX hZ.1 0 8 rfl rfl iw_X8 8 rfl (wm_789) (v := .ref (a_r 0)) rfl dX8_get_21 ?_
      refine lv_iload_n hx hb dX8_get_24 rfl (lv_at hl 1 rfl) ?_
      refine lv_iload_n hx hb dX8_get_25 rfl (lv_at hl 2 rfl) ?_
      refine lv_iload_n hx hb dX8_get_26 rfl (lv_at hl 3 rfl) ?_
      obtain ⟨u3, hu, h⟩ := k_bd h
      refine k_vRR (As := [.int x1, .int x2, .int x3]) (rest := []) (wc := wd_X2 aC a_r s_r) (v := some (.int u3)) (st1 := [.int u3]) hX hl.1 hZ hF (c_X2_placeTrouble (a_r := a_r) s_r x1 x2 x3 hu) (gv_ wm_806 wm_808 wm_809 wm_384 wm_807) rfl hd_X2_placeTrouble ⟨rfl, rfl⟩ 2 0 rfl rfl [1, 2, 3, 4] rfl rfl rfl rfl rfl dX8_get_27 rfl ⟨rfl, rfl⟩ (fun locs hF => ?_)
      clear hu
      refine lv_istore (lv' := [(4, .int u3), (0, .ref (a_x 0)), (1, .int x1), (2, .int x2), (3, .int x3)]) hx hb dX8_get_30 hl (by decide) rfl (fun ls hl => ?_)
      refine lv_iload hx hb dX8_get_32 (lv_at hl 0 rfl) ?_
      refine lv_iconst (v := -1) hx hb dX8_get_34 (by decide) ?_
      refine lv_icmp_eq (tgt := 43) hx hb dX8_get_35 (by decide) (fun cd => ?_) (fun cd => ?_)
      · replace h := k_t cd h
        clear cd
        refine lv_aload_n hx hb dX8_get_43 rfl (lv_at hl 1 rfl) ?_
        refine k_get hX hZ.1 0 8 rfl rfl iw_X8 8 rfl (wm_789) (v := .ref (a_r 0)) rfl dX8_get_44 ?_
        refine lv_iload_n hx hb dX8_get_47 rfl (lv_at hl 2 rfl) ?_
        refine lv_iload_n hx hb dX8_get_48 rfl (lv_at hl 4 rfl) ?_
        obtain ⟨u4, hu, h⟩ := k_bd h
        refine k_vRR (As := [.int x1, .int x3]) (rest := []) (wc := wd_X2 aC a_r s_r) (v := some (.int u4)) (st1 := [.int u4]) hX hl.1 hZ hF (c_X2_at (a_r := a_r) s_r x1 x3 hu) (gv_ wm_805 wm_395 wm_396 wm_384 wm_394) rfl hd_X2_at ⟨rfl, rfl⟩ 2 0 rfl rfl [1, 2, 3, 4] rfl rfl rfl rfl rfl dX8_get_49 rfl ⟨rfl, rfl⟩ (fun locs hF => ?_)
        clear hu
        refine lv_ldc (v := 50000) hx hb hown (hts _ wm_800) dX8_get_52 ?_
        refine lv_iadd hx hb dX8_get_54 ?_
        cases h
        exact k_iretR hX hr hF dX8_get_55
      · replace h := k_f cd h
        clear cd
        refine lv_iload hx hb dX8_get_38 (lv_at hl 0 rfl) ?_
        refine lv_goto (tgt := 55) hx hb dX8_get_40 (by decide) ?_
        cases h
        exact k_iretR hX hr hF dX8_get_55
    · replace h := k_t cd h
      clear cd
      refine lv_bipush (v := -3) hx hb dX8_get_17 (by decide) ?_
      cases h
      exact k_iretR hX hr hF dX8_get_19
  · replace h := k_t cd h
    clear cd
    refine lv_bipush (v := -2) hx hb dX8_get_7 (by decide) ?_
    cases h
    exact k_iretR hX hr hF dX8_get_9
def wlX8_copy : List Cond := .code yX8_copy cX8_copy 6 (some .int) :: WL_
theorem hd_X8_copy : yX8_copy.cls = RX8 ∧ yX8_copy.cls ≠ "java/lang/invoke/MethodHandle" ∧ yX8_copy.cls ≠ "java/lang/invoke/VarHandle" ∧ (parseMethodDescriptor yX8_copy.desc).map (fun d => d.parameters.length) = some 5 := by decide +kernel
theorem dX8_copy_0 : decode cX8_copy 0 = .ok (.iload_n 1, 1) := by decide +kernel
theorem dX8_copy_1 : decode cX8_copy 1 = .ok (.invokestatic 210, 3) := by decide +kernel
theorem dX8_copy_4 : decode cX8_copy 4 = .ok (.ifCond .eq 10, 3) := by decide +kernel
theorem dX8_copy_7 : decode cX8_copy 7 = .ok (.iload_n 3, 1) := by decide +kernel
theorem dX8_copy_8 : decode cX8_copy 8 = .ok (.invokestatic 210, 3) := by decide +kernel
theorem dX8_copy_11 : decode cX8_copy 11 = .ok (.ifCond .ne 6, 3) := by decide +kernel
theorem dX8_copy_14 : decode cX8_copy 14 = .ok (.bipush (-2), 2) := by decide +kernel
theorem dX8_copy_16 : decode cX8_copy 16 = .ok (.ireturn, 1) := by decide +kernel
theorem dX8_copy_17 : decode cX8_copy 17 = .ok (.aload_n 0, 1) := by decide +kernel
theorem dX8_copy_18 : decode cX8_copy 18 = .ok (.getfield 64, 3) := by decide +kernel
theorem dX8_copy_21 : decode cX8_copy 21 = .ok (.iload_n 1, 1) := by decide +kernel
theorem dX8_copy_22 : decode cX8_copy 22 = .ok (.invokevirtual 229, 3) := by decide +kernel
theorem dX8_copy_25 : decode cX8_copy 25 = .ok (.ifCond .ne 14, 3) := by decide +kernel
theorem dX8_copy_28 : decode cX8_copy 28 = .ok (.aload_n 0, 1) := by decide +kernel
theorem dX8_copy_29 : decode cX8_copy 29 = .ok (.getfield 64, 3) := by decide +kernel
theorem dX8_copy_32 : decode cX8_copy 32 = .ok (.iload_n 3, 1) := by decide +kernel
theorem dX8_copy_33 : decode cX8_copy 33 = .ok (.invokevirtual 229, 3) := by decide +kernel
theorem dX8_copy_36 : decode cX8_copy 36 = .ok (.ifCond .eq 6, 3) := by decide +kernel
theorem dX8_copy_39 : decode cX8_copy 39 = .ok (.bipush (-11), 2) := by decide +kernel
theorem dX8_copy_41 : decode cX8_copy 41 = .ok (.ireturn, 1) := by decide +kernel
theorem dX8_copy_42 : decode cX8_copy 42 = .ok (.iload 5, 2) := by decide +kernel
theorem dX8_copy_44 : decode cX8_copy 44 = .ok (.ifCond .ge 6, 3) := by decide +kernel
theorem dX8_copy_47 : decode cX8_copy 47 = .ok (.bipush (-12), 2) := by decide +kernel
theorem dX8_copy_49 : decode cX8_copy 49 = .ok (.ireturn, 1) := by decide +kernel
theorem dX8_copy_50 : decode cX8_copy 50 = .ok (.aload_n 0, 1) := by decide +kernel
theorem dX8_copy_51 : decode cX8_copy 51 = .ok (.getfield 64, 3) := by decide +kernel
theorem dX8_copy_54 : decode cX8_copy 54 = .ok (.iload_n 1, 1) := by decide +kernel
theorem dX8_copy_55 : decode cX8_copy 55 = .ok (.invokevirtual 232, 3) := by decide +kernel
theorem dX8_copy_58 : decode cX8_copy 58 = .ok (.aload_n 0, 1) := by decide +kernel
theorem dX8_copy_59 : decode cX8_copy 59 = .ok (.getfield 64, 3) := by decide +kernel
theorem dX8_copy_62 : decode cX8_copy 62 = .ok (.iload_n 3, 1) := by decide +kernel
theorem dX8_copy_63 : decode cX8_copy 63 = .ok (.invokevirtual 232, 3) := by decide +kernel
theorem dX8_copy_66 : decode cX8_copy 66 = .ok (.if_icmp .eq 6, 3) := by decide +kernel
theorem dX8_copy_69 : decode cX8_copy 69 = .ok (.bipush (-13), 2) := by decide +kernel
theorem dX8_copy_71 : decode cX8_copy 71 = .ok (.ireturn, 1) := by decide +kernel
theorem dX8_copy_72 : decode cX8_copy 72 = .ok (.aload_n 0, 1) := by decide +kernel
theorem dX8_copy_73 : decode cX8_copy 73 = .ok (.getfield 64, 3) := by decide +kernel
theorem dX8_copy_76 : decode cX8_copy 76 = .ok (.iload_n 1, 1) := by decide +kernel
theorem dX8_copy_77 : decode cX8_copy 77 = .ok (.iload_n 2, 1) := by decide +kernel
theorem dX8_copy_78 : decode cX8_copy 78 = .ok (.iload 5, 2) := by decide +kernel
theorem dX8_copy_80 : decode cX8_copy 80 = .ok (.invokevirtual 235, 3) := by decide +kernel
theorem dX8_copy_83 : decode cX8_copy 83 = .ok (.ifCond .eq 18, 3) := by decide +kernel
theorem dX8_copy_86 : decode cX8_copy 86 = .ok (.aload_n 0, 1) := by decide +kernel
theorem dX8_copy_87 : decode cX8_copy 87 = .ok (.getfield 64, 3) := by decide +kernel
theorem dX8_copy_90 : decode cX8_copy 90 = .ok (.iload_n 3, 1) := by decide +kernel
theorem dX8_copy_91 : decode cX8_copy 91 = .ok (.iload 4, 2) := by decide +kernel
theorem dX8_copy_93 : decode cX8_copy 93 = .ok (.iload 5, 2) := by decide +kernel
theorem dX8_copy_95 : decode cX8_copy 95 = .ok (.invokevirtual 235, 3) := by decide +kernel
theorem dX8_copy_98 : decode cX8_copy 98 = .ok (.ifCond .ne 6, 3) := by decide +kernel
theorem dX8_copy_101 : decode cX8_copy 101 = .ok (.bipush (-14), 2) := by decide +kernel
theorem dX8_copy_103 : decode cX8_copy 103 = .ok (.ireturn, 1) := by decide +kernel
theorem dX8_copy_104 : decode cX8_copy 104 = .ok (.aload_n 0, 1) := by decide +kernel
theorem dX8_copy_105 : decode cX8_copy 105 = .ok (.getfield 64, 3) := by decide +kernel
theorem dX8_copy_108 : decode cX8_copy 108 = .ok (.iload_n 1, 1) := by decide +kernel
theorem dX8_copy_109 : decode cX8_copy 109 = .ok (.iload_n 2, 1) := by decide +kernel
theorem dX8_copy_110 : decode cX8_copy 110 = .ok (.iload_n 3, 1) := by decide +kernel
theorem dX8_copy_111 : decode cX8_copy 111 = .ok (.iload 4, 2) := by decide +kernel
theorem dX8_copy_113 : decode cX8_copy 113 = .ok (.iload 5, 2) := by decide +kernel
theorem dX8_copy_115 : decode cX8_copy 115 = .ok (.invokevirtual 238, 3) := by decide +kernel
theorem dX8_copy_118 : decode cX8_copy 118 = .ok (.iload 5, 2) := by decide +kernel
theorem dX8_copy_120 : decode cX8_copy 120 = .ok (.ireturn, 1) := by decide +kernel
set_option maxHeartbeats 4000000 in
set_option maxRecDepth 100000 in
theorem c_X8_copy {l : Launch} {D : va_G} {aC : Nat → ClassId} {a_x : Nat → Nat} {a_r : Nat → Nat} {a_t : Nat → Nat} {a_n : Nat → Nat} {a_n2 : Nat → Nat} {a_v : Nat → Nat} {a_v2 : Nat → Nat} {a_g : Nat → Nat} {a_w : Nat → Nat} {a_q : Nat → Nat} (s_x : Ob_T) (s_r : Ob_T) (x1 : Int32) (x2 : Int32) (x3 : Int32) (x4 : Int32) (x5 : Int32) {out : Int32 × Ob_T} (h : f_X8_copy s_x s_r x1 x2 x3 x4 x5 = some out) : M_W l yX8_copy wlX8_copy 2 125 D aC [.ref (a_x 0), .int x1, .int x2, .int x3, .int x4, .int x5] (wd_X8 aC a_x (a_t 0) (a_n 0) (a_n2 0) (a_v 0) (a_v2 0) (a_g 0) (a_w 0) (a_q 0) (a_r 0) s_x ++ wd_X2 aC a_r s_r) (some (.int out.1)) (wd_X8 aC a_x (a_t 0) (a_n 0) (a_n2 0) (a_v 0) (a_v2 0) (a_g 0) (a_w 0) (a_q 0) (a_r 0) s_x ++ wd_X2 aC a_r out.2) := by
  refine k_entW (cc := cX8_copy) (ret := (some .int)) (maxL := 6) (own := RX8) (by decide) rfl rfl rfl ?_
  intro p e s m below meth c A ls hX hr hZ hl
  have hl : lv_has ls 6 [(0, .ref (a_x 0)), (1, .int x1), (2, .int x2), (3, .int x3), (4, .int x4), (5, .int x5)] := hl
  generalize ([.ref (a_x 0), .int x1, .int x2, .int x3, .int x4, .int x5] : List Value).toArray = args at hX ⊢
  obtain ⟨hx, hb, hml, hown, hts, hK, hA, hlk⟩ := id hX
  unfold f_X8_copy at h
  generalize s.heap = H at hZ ⊢
  generalize ([] : List Loc) = locs at hZ ⊢
  refine lv_iload_n hx hb dX8_copy_0 rfl (lv_at hl 1 rfl) ?_
  obtain ⟨u1, hu, h⟩ := k_bd h
  refine k_sR (As := [.int x1]) (rest := []) (wc := []) (v := some (.int u1)) (st1 := [.int u1]) hX hl.1 hZ (c_X8_isRow  x1 hu) (gs_ wm_797 wm_799 wm_672 wm_798) rfl hd_X8_isRow ⟨rfl, rfl⟩ [] rfl rfl rfl rfl rfl dX8_copy_1 rfl ⟨rfl, rfl⟩ (fun locs hZ => ?_)
  clear hu
  refine lv_if_eq (tgt := 14) hx hb dX8_copy_4 (by decide) (fun cd => ?_) (fun cd => ?_)
  · replace h := k_t cd h
    clear cd
    refine lv_bipush (v := -2) hx hb dX8_copy_14 (by decide) ?_
    cases h
    exact k_iretW hX hr hZ dX8_copy_16
  · replace h := k_f cd h
    clear cd
    refine lv_iload_n hx hb dX8_copy_7 rfl (lv_at hl 3 rfl) ?_
    obtain ⟨u2, hu, h⟩ := k_bd h
    refine k_sR (As := [.int x3]) (rest := []) (wc := []) (v := some (.int u2)) (st1 := [.int u2]) hX hl.1 hZ (c_X8_isRow  x3 hu) (gs_ wm_797 wm_799 wm_672 wm_798) rfl hd_X8_isRow ⟨rfl, rfl⟩ [] rfl rfl rfl rfl rfl dX8_copy_8 rfl ⟨rfl, rfl⟩ (fun locs hZ => ?_)
    clear hu
    refine lv_if_ne (tgt := 17) hx hb dX8_copy_11 (by decide) (fun cd => ?_) (fun cd => ?_)
    · replace h := k_f cd h
      clear cd
      refine lv_aload_n hx hb dX8_copy_17 rfl (lv_at hl 0 rfl) ?_
      refine k_get hX hZ.1 0 8 rfl rfl iw_X8 8 rfl (wm_789) (v := .ref (a_r 0)) rfl dX8_copy_18 ?_
      refine lv_iload_n hx hb dX8_copy_21 rfl (lv_at hl 1 rfl) ?_
      obtain ⟨u3, hu, h⟩ := k_bd h
      refine k_vR (As := [.int x1]) (rest := []) (wc := wd_X2 aC a_r s_r) (v := some (.int u3)) (st1 := [.int u3]) hX hl.1 hZ (c_X2_isMissing (a_r := a_r) s_r x1 hu) (gv_ wm_819 wm_386 wm_387 wm_384 wm_385) rfl hd_X2_isMissing ⟨rfl, rfl⟩ 2 0 rfl rfl [1, 2, 3, 4] rfl rfl rfl rfl rfl dX8_copy_22 rfl ⟨rfl, rfl⟩ (fun locs hZ => ?_)
      clear hu
      refine lv_if_ne (tgt := 39) hx hb dX8_copy_25 (by decide) (fun cd => ?_) (fun cd => ?_)
      · replace h := k_f cd h
        clear cd
        refine lv_bipush (v := -11) hx hb dX8_copy_39 (by decide) ?_
        cases h
        exact k_iretW hX hr hZ dX8_copy_41
      · replace h := k_t cd h
        clear cd
        refine lv_aload_n hx hb dX8_copy_28 rfl (lv_at hl 0 rfl) ?_
        refine k_get hX hZ.1 0 8 rfl rfl iw_X8 8 rfl (wm_789) (v := .ref (a_r 0)) rfl dX8_copy_29 ?_
        refine lv_iload_n hx hb dX8_copy_32 rfl (lv_at hl 3 rfl) ?_
        obtain ⟨u4, hu, h⟩ := k_bd h
        refine k_vR (As := [.int x3]) (rest := []) (wc := wd_X2 aC a_r s_r) (v := some (.int u4)) (st1 := [.int u4]) hX hl.1 hZ (c_X2_isMissing (a_r := a_r) s_r x3 hu) (gv_ wm_819 wm_386 wm_387 wm_384 wm_385) rfl hd_X2_isMissing ⟨rfl, rfl⟩ 2 0 rfl rfl [1, 2, 3, 4] rfl rfl rfl rfl rfl dX8_copy_33 rfl ⟨rfl, rfl⟩ (fun locs hZ => ?_)
        clear hu
        refine lv_if_eq (tgt := 42) hx hb dX8_copy_36 (by decide) (fun cd => ?_) (fun cd => ?_)
        · replace h := k_t cd h
          clear cd
          refine lv_iload hx hb dX8_copy_42 (lv_at hl 5 rfl) ?_
          refine lv_if_ge (tgt := 50) hx hb dX8_copy_44 (by decide) (fun cd => ?_) (fun cd => ?_)
          · replace h := k_t cd h
            clear cd
            refine lv_aload_n hx hb dX8_copy_50 rfl (lv_at hl 0 rfl) ?_
            refine k_get hX hZ.1 0 8 rfl rfl iw_X8 8 rfl (wm_789) (v := .ref (a_r 0)) rfl dX8_copy_51 ?_
            refine lv_iload_n hx hb dX8_copy_54 rfl (lv_at hl 1 rfl) ?_
            obtain ⟨u5, hu, h⟩ := k_bd h
            refine k_vR (As := [.int x1]) (rest := []) (wc := wd_X2 aC a_r s_r) (v := some (.int u5)) (st1 := [.int u5]) hX hl.1 hZ (c_X2_sortOf (a_r := a_r) s_r x1 hu) (gv_ wm_815 wm_817 wm_818 wm_384 wm_816) rfl hd_X2_sortOf ⟨rfl, rfl⟩ 2 0 rfl rfl [1, 2, 3, 4] rfl rfl rfl rfl rfl dX8_copy_55 rfl ⟨rfl, rfl⟩ (fun locs hZ => ?_)
            clear hu
            refine lv_aload_n hx hb dX8_copy_58 rfl (lv_at hl 0 rfl) ?_
            refine k_get hX hZ.1 0 8 rfl rfl iw_X8 8 rfl (wm_789) (v := .ref (a_r 0)) rfl dX8_copy_59 ?_
            refine lv_iload_n hx hb dX8_copy_62 rfl (lv_at hl 3 rfl) ?_
            obtain ⟨u6, hu, h⟩ := k_bd h
            refine k_vR (As := [.int x3]) (rest := [.int u5]) (wc := wd_X2 aC a_r s_r) (v := some (.int u6)) (st1 := [.int u6, .int u5]) hX hl.1 hZ (c_X2_sortOf (a_r := a_r) s_r x3 hu) (gv_ wm_815 wm_817 wm_818 wm_384 wm_816) rfl hd_X2_sortOf ⟨rfl, rfl⟩ 2 0 rfl rfl [1, 2, 3, 4] rfl rfl rfl rfl rfl dX8_copy_63 rfl ⟨rfl, rfl⟩ (fun locs hZ => ?_)
            clear hu
            refine lv_icmp_eq (tgt := 72) hx hb dX8_copy_66 (by decide) (fun cd => ?_) (fun cd => ?_)
            · replace h := k_t cd h
              clear cd
              refine lv_aload_n hx hb dX8_copy_72 rfl (lv_at hl 0 rfl) ?_
              refine k_get hX hZ.1 0 8 rfl rfl iw_X8 8 rfl (wm_789) (v := .ref (a_r 0)) rfl dX8_copy_73 ?_
              refine lv_iload_n hx hb dX8_copy_76 rfl (lv_at hl 1 rfl) ?_
              refine lv_iload_n hx hb dX8_copy_77 rfl (lv_at hl 2 rfl) ?_
              refine lv_iload hx hb dX8_copy_78 (lv_at hl 5 rfl) ?_
              obtain ⟨u7, hu, h⟩ := k_bd h
              refine k_vR (As := [.int x1, .int x2, .int x5]) (rest := []) (wc := wd_X2 aC a_r s_r) (v := some (.int u7)) (st1 := [.int u7]) hX hl.1 hZ (c_X2_hasPlaces (a_r := a_r) s_r x1 x2 x5 hu) (gv_ wm_811 wm_813 wm_814 wm_384 wm_812) rfl hd_X2_hasPlaces ⟨rfl, rfl⟩ 2 0 rfl rfl [1, 2, 3, 4] rfl rfl rfl rfl rfl dX8_copy_80 rfl ⟨rfl, rfl⟩ (fun locs hZ => ?_)
              clear hu
              refine lv_if_eq (tgt := 101) hx hb dX8_copy_83 (by decide) (fun cd => ?_) (fun cd => ?_)
              · replace h := k_t cd h
                clear cd
                refine lv_bipush (v := -14) hx hb dX8_copy_101 (by decide) ?_
                cases h
                exact k_iretW hX hr hZ dX8_copy_103
              · replace h := k_f cd h
                clear cd
                refine lv_aload_n hx hb dX8_copy_86 rfl (lv_at hl 0 rfl) ?_
                refine k_get hX hZ.1 0 8 rfl rfl iw_X8 8 rfl (wm_789) (v := .ref (a_r 0)) rfl dX8_copy_87 ?_
                refine lv_iload_n hx hb dX8_copy_90 rfl (lv_at hl 3 rfl) ?_
                refine lv_iload hx hb dX8_copy_91 (lv_at hl 4 rfl) ?_
                refine lv_iload hx hb dX8_copy_93 (lv_at hl 5 rfl) ?_
                obtain ⟨u8, hu, h⟩ := k_bd h
                refine k_vR (As := [.int x3, .int x4, .int x5]) (rest := []) (wc := wd_X2 aC a_r s_r) (v := some (.int u8)) (st1 := [.int u8]) hX hl.1 hZ (c_X2_hasPlaces (a_r := a_r) s_r x3 x4 x5 hu) (gv_ wm_811 wm_813 wm_814 wm_384 wm_812) rfl hd_X2_hasPlaces ⟨rfl, rfl⟩ 2 0 rfl rfl [1, 2, 3, 4] rfl rfl rfl rfl rfl dX8_copy_95 rfl ⟨rfl, rfl⟩ (fun locs hZ => ?_)
                clear hu
                refine lv_if_ne (tgt := 104) hx hb dX8_copy_98 (by decide) (fun cd => ?_) (fun cd => ?_)
                · replace h := k_f cd h
                  clear cd
                  refine lv_aload_n hx hb dX8_copy_104 rfl (lv_at hl 0 rfl) ?_
                  refine k_get hX hZ.1 0 8 rfl rfl iw_X8 8 rfl (wm_789) (v := .ref (a_r 0)) rfl dX8_copy_105 ?_
                  refine lv_iload_n hx hb dX8_copy_108 rfl (lv_at hl 1 rfl) ?_
                  refine lv_iload_n hx hb dX8_copy_109 rfl (lv_at hl 2 rfl) ?_
                  refine lv_iload_n hx hb dX8_copy_110 rfl (lv_at hl 3 rfl) ?_
                  refine lv_iload hx hb dX8_copy_111 (lv_at hl 4 rfl) ?_
                  refine lv_iload hx hb dX8_copy_113 (lv_at hl 5 rfl) ?_
                  obtain ⟨u9, hu, h⟩ := k_bd h
                  refine k_vW (As := [.int x1, .int x2, .int x3, .int x4, .int x5]) (rest := []) (wc := wd_X2 aC a_r s_r) (v := none) (st1 := []) (w' := wd_X8 aC a_x (a_t 0) (a_n 0) (a_n2 0) (a_v 0) (a_v2 0) (a_g 0) (a_w 0) (a_q 0) (a_r 0) s_x ++ wd_X2 aC a_r u9) hX hl.1 hZ (c_X2_move (a_r := a_r) s_r x1 x2 x3 x4 x5 hu) (gv_ wm_810 wm_391 wm_392 wm_384 wm_390) rfl hd_X2_move ⟨rfl, rfl⟩ 2 0 rfl rfl [1, 2, 3, 4] rfl rfl rfl rfl rfl dX8_copy_115 rfl ⟨rfl, rfl⟩ rfl rfl rfl (fun H locs hZ => ?_)
                  clear hu
                  refine lv_iload hx hb dX8_copy_118 (lv_at hl 5 rfl) ?_
                  cases h
                  exact k_iretW hX hr hZ dX8_copy_120
                · replace h := k_t cd h
                  clear cd
                  refine lv_bipush (v := -14) hx hb dX8_copy_101 (by decide) ?_
                  cases h
                  exact k_iretW hX hr hZ dX8_copy_103
            · replace h := k_f cd h
              clear cd
              refine lv_bipush (v := -13) hx hb dX8_copy_69 (by decide) ?_
              cases h
              exact k_iretW hX hr hZ dX8_copy_71
          · replace h := k_f cd h
            clear cd
            refine lv_bipush (v := -12) hx hb dX8_copy_47 (by decide) ?_
            cases h
            exact k_iretW hX hr hZ dX8_copy_49
        · replace h := k_f cd h
          clear cd
          refine lv_bipush (v := -11) hx hb dX8_copy_39 (by decide) ?_
          cases h
          exact k_iretW hX hr hZ dX8_copy_41
    · replace h := k_t cd h
      clear cd
      refine lv_bipush (v := -2) hx hb dX8_copy_14 (by decide) ?_
      cases h
      exact k_iretW hX hr hZ dX8_copy_16
