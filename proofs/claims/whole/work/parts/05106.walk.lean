def wlX8_sum : List Cond := .code yX8_sum cX8_sum 2 (some .int) :: WL_
theorem hd_X8_sum : yX8_sum.cls = RX8 ∧ yX8_sum.cls ≠ "java/lang/invoke/MethodHandle" ∧ yX8_sum.cls ≠ "java/lang/invoke/VarHandle" ∧ (parseMethodDescriptor yX8_sum.desc).map (fun d => d.parameters.length) = some 1 := by decide +kernel
theorem dX8_sum_0 : decode cX8_sum 0 = .ok (.iload_n 1, 1) := by decide +kernel
theorem dX8_sum_1 : decode cX8_sum 1 = .ok (.invokestatic 210, 3) := by decide +kernel
theorem dX8_sum_4 : decode cX8_sum 4 = .ok (.ifCond .ne 6, 3) := by decide +kernel
theorem dX8_sum_7 : decode cX8_sum 7 = .ok (.bipush (-2), 2) := by decide +kernel
theorem dX8_sum_9 : decode cX8_sum 9 = .ok (.ireturn, 1) := by decide +kernel
theorem dX8_sum_10 : decode cX8_sum 10 = .ok (.aload_n 0, 1) := by decide +kernel
theorem dX8_sum_11 : decode cX8_sum 11 = .ok (.getfield 64, 3) := by decide +kernel
theorem dX8_sum_14 : decode cX8_sum 14 = .ok (.iload_n 1, 1) := by decide +kernel
theorem dX8_sum_15 : decode cX8_sum 15 = .ok (.invokevirtual 229, 3) := by decide +kernel
theorem dX8_sum_18 : decode cX8_sum 18 = .ok (.ifCond .eq 8, 3) := by decide +kernel
theorem dX8_sum_21 : decode cX8_sum 21 = .ok (.bipush (-11), 2) := by decide +kernel
theorem dX8_sum_23 : decode cX8_sum 23 = .ok (.goto 14, 3) := by decide +kernel
theorem dX8_sum_26 : decode cX8_sum 26 = .ok (.aload_n 0, 1) := by decide +kernel
theorem dX8_sum_27 : decode cX8_sum 27 = .ok (.getfield 64, 3) := by decide +kernel
theorem dX8_sum_30 : decode cX8_sum 30 = .ok (.iload_n 1, 1) := by decide +kernel
theorem dX8_sum_31 : decode cX8_sum 31 = .ok (.invokevirtual 248, 3) := by decide +kernel
theorem dX8_sum_34 : decode cX8_sum 34 = .ok (.ldc 251, 2) := by decide +kernel
theorem dX8_sum_36 : decode cX8_sum 36 = .ok (.iadd, 1) := by decide +kernel
theorem dX8_sum_37 : decode cX8_sum 37 = .ok (.ireturn, 1) := by decide +kernel
set_option maxHeartbeats 4000000 in
set_option maxRecDepth 100000 in
theorem c_X8_sum {l : Launch} {D : va_G} {aC : Nat → ClassId} {a_x : Nat → Nat} {a_r : Nat → Nat} {a_t : Nat → Nat} {a_n : Nat → Nat} {a_n2 : Nat → Nat} {a_v : Nat → Nat} {a_v2 : Nat → Nat} {a_g : Nat → Nat} {a_w : Nat → Nat} {a_q : Nat → Nat} (s_x : Ob_T) (s_r : Ob_T) (x1 : Int32) {out : Int32} (h : f_X8_sum s_x s_r x1 = some out) : M_R l yX8_sum wlX8_sum 2 45 D aC [.ref (a_x 0), .int x1] (wd_X8 aC a_x (a_t 0) (a_n 0) (a_n2 0) (a_v 0) (a_v2 0) (a_g 0) (a_w 0) (a_q 0) (a_r 0) s_x ++ wd_X2 aC a_r s_r) (some (.int out)) := by
  refine k_entR (cc := cX8_sum) (ret := (some .int)) (maxL := 2) (own := RX8) (by decide) rfl rfl rfl ?_
  intro p e s m below meth c A ls hX hr hZ hl
  have hl : lv_has ls 2 [(0, .ref (a_x 0)), (1, .int x1)] := hl
  generalize ([.ref (a_x 0), .int x1] : List Value).toArray = args at hX ⊢
  obtain ⟨hx, hb, hml, hown, hts, hK, hA, hlk⟩ := id hX
  unfold f_X8_sum at h
  have hF : ∀ q ∈ ([] : List Loc), False := fun _ h => nomatch h
  generalize ([] : List Loc) = locs at hF ⊢
  refine lv_iload_n hx hb dX8_sum_0 rfl (lv_at hl 1 rfl) ?_
  obtain ⟨u1, hu, h⟩ := k_bd h
  refine k_sRR (As := [.int x1]) (rest := []) (wc := []) (v := some (.int u1)) (st1 := [.int u1]) hX hl.1 hZ hF (c_X8_isRow  x1 hu) (gs_ wm_797 wm_799 wm_672 wm_798) rfl hd_X8_isRow ⟨rfl, rfl⟩ [] rfl rfl rfl rfl rfl dX8_sum_1 rfl ⟨rfl, rfl⟩ (fun locs hF => ?_)
  clear hu
  refine lv_if_ne (tgt := 10) hx hb dX8_sum_4 (by decide) (fun cd => ?_) (fun cd => ?_)
  · replace h := k_f cd h
    clear cd
    refine lv_aload_n hx hb dX8_sum_10 rfl (lv_at hl 0 rfl) ?_
    refine k_get hX hZ.1 0 8 rfl rfl iw_X8 8 rfl (wm_789) (v := .ref (a_r 0)) rfl dX8_sum_11 ?_
    refine lv_iload_n hx hb dX8_sum_14 rfl (lv_at hl 1 rfl) ?_
    obtain ⟨u2, hu, h⟩ := k_bd h
    refine k_vRR (As := [.int x1]) (rest := []) (wc := wd_X2 aC a_r s_r) (v := some (.int u2)) (st1 := [.int u2]) hX hl.1 hZ hF (c_X2_isMissing (a_r := a_r) s_r x1 hu) (gv_ wm_819 wm_386 wm_387 wm_384 wm_385) rfl hd_X2_isMissing ⟨rfl, rfl⟩ 2 0 rfl rfl [1, 2, 3, 4] rfl rfl rfl rfl rfl dX8_sum_15 rfl ⟨rfl, rfl⟩ (fun locs hF => ?_)
    clear hu
    refine lv_if_eq (tgt := 26) hx hb dX8_sum_18 (by decide) (fun cd => ?_) (fun cd => ?_)
    · replace h := k_t cd h
      clear cd
      refine lv_aload_n hx hb dX8_sum_26 rfl (lv_at hl 0 rfl) ?_
      refine k_get hX hZ.1 0 8 rfl rfl iw_X8 8 rfl (wm_789) (v := .ref (a_r 0)) rfl dX8_sum_27 ?_
      refine lv_iload_n hx hb dX8_sum_30 rfl (lv_at hl 1 rfl) ?_
      obtain ⟨u3, hu, h⟩ := k_bd h
      refine k_vRR (As := [.int x1]) (rest := []) (wc := wd_X2 aC a_r s_r) (v := some (.int u3)) (st1 := [.int u3]) hX hl.1 hZ hF (c_X2_total (a_r := a_r) s_r x1 hu) (gv_ wm_829 wm_831 wm_832 wm_384 wm_830) rfl hd_X2_total ⟨rfl, rfl⟩ 2 0 rfl rfl [1, 2, 3, 4] rfl rfl rfl rfl rfl dX8_sum_31 rfl ⟨rfl, rfl⟩ (fun locs hF => ?_)
      clear hu
      refine lv_ldc (v := 500000) hx hb hown (hts _ wm_828) dX8_sum_34 ?_
      refine lv_iadd hx hb dX8_sum_36 ?_
      obtain rfl := Option.some.inj h
      exact k_iretR hX hr hF dX8_sum_37
    · replace h := k_f cd h
      clear cd
      refine lv_bipush (v := -11) hx hb dX8_sum_21 (by decide) ?_
      refine lv_goto (tgt := 37) hx hb dX8_sum_23 (by decide) ?_
      cases h
      exact k_iretR hX hr hF dX8_sum_37
  · replace h := k_t cd h
    clear cd
    refine lv_bipush (v := -2) hx hb dX8_sum_7 (by decide) ?_
    cases h
    exact k_iretR hX hr hF dX8_sum_9
def wlX8_drop : List Cond := .code yX8_drop cX8_drop 3 (some .int) :: WL_
theorem hd_X8_drop : yX8_drop.cls = RX8 ∧ yX8_drop.cls ≠ "java/lang/invoke/MethodHandle" ∧ yX8_drop.cls ≠ "java/lang/invoke/VarHandle" ∧ (parseMethodDescriptor yX8_drop.desc).map (fun d => d.parameters.length) = some 1 := by decide +kernel
theorem dX8_drop_0 : decode cX8_drop 0 = .ok (.iload_n 1, 1) := by decide +kernel
theorem dX8_drop_1 : decode cX8_drop 1 = .ok (.invokestatic 210, 3) := by decide +kernel
theorem dX8_drop_4 : decode cX8_drop 4 = .ok (.ifCond .ne 6, 3) := by decide +kernel
theorem dX8_drop_7 : decode cX8_drop 7 = .ok (.bipush (-2), 2) := by decide +kernel
theorem dX8_drop_9 : decode cX8_drop 9 = .ok (.ireturn, 1) := by decide +kernel
theorem dX8_drop_10 : decode cX8_drop 10 = .ok (.aload_n 0, 1) := by decide +kernel
theorem dX8_drop_11 : decode cX8_drop 11 = .ok (.getfield 64, 3) := by decide +kernel
theorem dX8_drop_14 : decode cX8_drop 14 = .ok (.iload_n 1, 1) := by decide +kernel
theorem dX8_drop_15 : decode cX8_drop 15 = .ok (.invokevirtual 229, 3) := by decide +kernel
theorem dX8_drop_18 : decode cX8_drop 18 = .ok (.ifCond .eq 6, 3) := by decide +kernel
theorem dX8_drop_21 : decode cX8_drop 21 = .ok (.bipush (-11), 2) := by decide +kernel
theorem dX8_drop_23 : decode cX8_drop 23 = .ok (.ireturn, 1) := by decide +kernel
theorem dX8_drop_24 : decode cX8_drop 24 = .ok (.aload_n 0, 1) := by decide +kernel
theorem dX8_drop_25 : decode cX8_drop 25 = .ok (.getfield 64, 3) := by decide +kernel
theorem dX8_drop_28 : decode cX8_drop 28 = .ok (.iload_n 1, 1) := by decide +kernel
theorem dX8_drop_29 : decode cX8_drop 29 = .ok (.invokevirtual 242, 3) := by decide +kernel
theorem dX8_drop_32 : decode cX8_drop 32 = .ok (.istore_n 2, 1) := by decide +kernel
theorem dX8_drop_33 : decode cX8_drop 33 = .ok (.aload_n 0, 1) := by decide +kernel
theorem dX8_drop_34 : decode cX8_drop 34 = .ok (.getfield 64, 3) := by decide +kernel
theorem dX8_drop_37 : decode cX8_drop 37 = .ok (.iload_n 1, 1) := by decide +kernel
theorem dX8_drop_38 : decode cX8_drop 38 = .ok (.invokevirtual 252, 3) := by decide +kernel
theorem dX8_drop_41 : decode cX8_drop 41 = .ok (.iload_n 2, 1) := by decide +kernel
theorem dX8_drop_42 : decode cX8_drop 42 = .ok (.ireturn, 1) := by decide +kernel
set_option maxHeartbeats 4000000 in
set_option maxRecDepth 100000 in
theorem c_X8_drop {l : Launch} {D : va_G} {aC : Nat → ClassId} {a_x : Nat → Nat} {a_r : Nat → Nat} {a_t : Nat → Nat} {a_n : Nat → Nat} {a_n2 : Nat → Nat} {a_v : Nat → Nat} {a_v2 : Nat → Nat} {a_g : Nat → Nat} {a_w : Nat → Nat} {a_q : Nat → Nat} (s_x : Ob_T) (s_r : Ob_T) (x1 : Int32) {out : Int32 × Ob_T} (h : f_X8_drop s_x s_r x1 = some out) : M_W l yX8_drop wlX8_drop 1 21 D aC [.ref (a_x 0), .int x1] (wd_X8 aC a_x (a_t 0) (a_n 0) (a_n2 0) (a_v 0) (a_v2 0) (a_g 0) (a_w 0) (a_q 0) (a_r 0) s_x ++ wd_X2 aC a_r s_r) (some (.int out.1)) (wd_X8 aC a_x (a_t 0) (a_n 0) (a_n2 0) (a_v 0) (a_v2 0) (a_g 0) (a_w 0) (a_q 0) (a_r 0) s_x ++ wd_X2 aC a_r out.2) := by
  refine k_entW (cc := cX8_drop) (ret := (some .int)) (maxL := 3) (own := RX8) (by decide) rfl rfl rfl ?_
  intro p e s m below meth c A ls hX hr hZ hl
  have hl : lv_has ls 3 [(0, .ref (a_x 0)), (1, .int x1)] := hl
  generalize ([.ref (a_x 0), .int x1] : List Value).toArray = args at hX ⊢
  obtain ⟨hx, hb, hml, hown, hts, hK, hA, hlk⟩ := id hX
  unfold f_X8_drop at h
  generalize s.heap = H at hZ ⊢
  generalize ([] : List Loc) = locs at hZ ⊢
  refine lv_iload_n hx hb dX8_drop_0 rfl (lv_at hl 1 rfl) ?_
  obtain ⟨u1, hu, h⟩ := k_bd h
  refine k_sR (As := [.int x1]) (rest := []) (wc := []) (v := some (.int u1)) (st1 := [.int u1]) hX hl.1 hZ (c_X8_isRow  x1 hu) (gs_ wm_797 wm_799 wm_672 wm_798) rfl hd_X8_isRow ⟨rfl, rfl⟩ [] rfl rfl rfl rfl rfl dX8_drop_1 rfl ⟨rfl, rfl⟩ (fun locs hZ => ?_)
  clear hu
  refine lv_if_ne (tgt := 10) hx hb dX8_drop_4 (by decide) (fun cd => ?_) (fun cd => ?_)
  · replace h := k_f cd h
    clear cd
    refine lv_aload_n hx hb dX8_drop_10 rfl (lv_at hl 0 rfl) ?_
    refine k_get hX hZ.1 0 8 rfl rfl iw_X8 8 rfl (wm_789) (v := .ref (a_r 0)) rfl dX8_drop_11 ?_
    refine lv_iload_n hx hb dX8_drop_14 rfl (lv_at hl 1 rfl) ?_
    obtain ⟨u2, hu, h⟩ := k_bd h
    refine k_vR (As := [.int x1]) (rest := []) (wc := wd_X2 aC a_r s_r) (v := some (.int u2)) (st1 := [.int u2]) hX hl.1 hZ (c_X2_isMissing (a_r := a_r) s_r x1 hu) (gv_ wm_819 wm_386 wm_387 wm_384 wm_385) rfl hd_X2_isMissing ⟨rfl, rfl⟩ 2 0 rfl rfl [1, 2, 3, 4] rfl rfl rfl rfl rfl dX8_drop_15 rfl ⟨rfl, rfl⟩ (fun locs hZ => ?_)
    clear hu
    refine lv_if_eq (tgt := 24) hx hb dX8_drop_18 (by decide) (fun cd => ?_) (fun cd => ?_)
    · replace h := k_t cd h
      clear cd
      refine lv_aload_n hx hb dX8_drop_24 rfl (lv_at hl 0 rfl) ?_
      refine k_get hX hZ.1 0 8 rfl rfl iw_X8 8 rfl (wm_789) (v := .ref (a_r 0)) rfl dX8_drop_25 ?_
      refine lv_iload_n hx hb dX8_drop_28 rfl (lv_at hl 1 rfl) ?_
      obtain ⟨u3, hu, h⟩ := k_bd h
      refine k_vR (As := [.int x1]) (rest := []) (wc := wd_X2 aC a_r s_r) (v := some (.int u3)) (st1 := [.int u3]) hX hl.1 hZ (c_X2_sizeOf (a_r := a_r) s_r x1 hu) (gv_ wm_820 wm_822 wm_823 wm_384 wm_821) rfl hd_X2_sizeOf ⟨rfl, rfl⟩ 2 0 rfl rfl [1, 2, 3, 4] rfl rfl rfl rfl rfl dX8_drop_29 rfl ⟨rfl, rfl⟩ (fun locs hZ => ?_)
      clear hu
      refine lv_istore_n (lv' := [(2, .int u3), (0, .ref (a_x 0)), (1, .int x1)]) hx hb dX8_drop_32 rfl hl (by decide) rfl (fun ls hl => ?_)
      refine lv_aload_n hx hb dX8_drop_33 rfl (lv_at hl 1 rfl) ?_
      refine k_get hX hZ.1 0 8 rfl rfl iw_X8 8 rfl (wm_789) (v := .ref (a_r 0)) rfl dX8_drop_34 ?_
      refine lv_iload_n hx hb dX8_drop_37 rfl (lv_at hl 2 rfl) ?_
      obtain ⟨u4, hu, h⟩ := k_bd h
      refine k_vW (As := [.int x1]) (rest := []) (wc := wd_X2 aC a_r s_r) (v := none) (st1 := []) (w' := wd_X8 aC a_x (a_t 0) (a_n 0) (a_n2 0) (a_v 0) (a_v2 0) (a_g 0) (a_w 0) (a_q 0) (a_r 0) s_x ++ wd_X2 aC a_r u4) hX hl.1 hZ (c_X2_remove (a_r := a_r) s_r x1 hu) (gv_ wm_833 wm_835 wm_836 wm_384 wm_834) rfl hd_X2_remove ⟨rfl, rfl⟩ 2 0 rfl rfl [1, 2, 3, 4] rfl rfl rfl rfl rfl dX8_drop_38 rfl ⟨rfl, rfl⟩ rfl rfl rfl (fun H locs hZ => ?_)
      clear hu
      refine lv_iload_n hx hb dX8_drop_41 rfl (lv_at hl 0 rfl) ?_
      cases h
      exact k_iretW hX hr hZ dX8_drop_42
    · replace h := k_f cd h
      clear cd
      refine lv_bipush (v := -11) hx hb dX8_drop_21 (by decide) ?_
      cases h
      exact k_iretW hX hr hZ dX8_drop_23
  · replace h := k_t cd h
    clear cd
    refine lv_bipush (v := -2) hx hb dX8_drop_7 (by decide) ?_
    cases h
    exact k_iretW hX hr hZ dX8_drop_9
def wlX8_count : List Cond := .code yX8_count cX8_count 2 (some .int) :: WL_
theorem hd_X8_count : yX8_count.cls = RX8 ∧ yX8_count.cls ≠ "java/lang/invoke/MethodHandle" ∧ yX8_count.cls ≠ "java/lang/invoke/VarHandle" ∧ (parseMethodDescriptor yX8_count.desc).map (fun d => d.parameters.length) = some 1 := by decide +kernel
theorem dX8_count_0 : decode cX8_count 0 = .ok (.iload_n 1, 1) := by decide +kernel
theorem dX8_count_1 : decode cX8_count 1 = .ok (.tableswitch 99 0 6 #[43, 51, 59, 67, 75, 83, 91], 43) := by decide +kernel
theorem dX8_count_44 : decode cX8_count 44 = .ok (.aload_n 0, 1) := by decide +kernel
theorem dX8_count_45 : decode cX8_count 45 = .ok (.getfield 19, 3) := by decide +kernel
theorem dX8_count_48 : decode cX8_count 48 = .ok (.invokevirtual 191, 3) := by decide +kernel
theorem dX8_count_51 : decode cX8_count 51 = .ok (.ireturn, 1) := by decide +kernel
theorem dX8_count_52 : decode cX8_count 52 = .ok (.aload_n 0, 1) := by decide +kernel
theorem dX8_count_53 : decode cX8_count 53 = .ok (.getfield 41, 3) := by decide +kernel
theorem dX8_count_56 : decode cX8_count 56 = .ok (.invokevirtual 255, 3) := by decide +kernel
theorem dX8_count_59 : decode cX8_count 59 = .ok (.ireturn, 1) := by decide +kernel
theorem dX8_count_60 : decode cX8_count 60 = .ok (.aload_n 0, 1) := by decide +kernel
theorem dX8_count_61 : decode cX8_count 61 = .ok (.getfield 57, 3) := by decide +kernel
theorem dX8_count_64 : decode cX8_count 64 = .ok (.invokevirtual 203, 3) := by decide +kernel
theorem dX8_count_67 : decode cX8_count 67 = .ok (.ireturn, 1) := by decide +kernel
theorem dX8_count_68 : decode cX8_count 68 = .ok (.aload_n 0, 1) := by decide +kernel
theorem dX8_count_69 : decode cX8_count 69 = .ok (.getfield 64, 3) := by decide +kernel
theorem dX8_count_72 : decode cX8_count 72 = .ok (.invokevirtual 258, 3) := by decide +kernel
theorem dX8_count_75 : decode cX8_count 75 = .ok (.ireturn, 1) := by decide +kernel
theorem dX8_count_76 : decode cX8_count 76 = .ok (.aload_n 0, 1) := by decide +kernel
theorem dX8_count_77 : decode cX8_count 77 = .ok (.getfield 41, 3) := by decide +kernel
theorem dX8_count_80 : decode cX8_count 80 = .ok (.invokevirtual 148, 3) := by decide +kernel
theorem dX8_count_83 : decode cX8_count 83 = .ok (.ireturn, 1) := by decide +kernel
theorem dX8_count_84 : decode cX8_count 84 = .ok (.aload_n 0, 1) := by decide +kernel
theorem dX8_count_85 : decode cX8_count 85 = .ok (.getfield 12, 3) := by decide +kernel
theorem dX8_count_88 : decode cX8_count 88 = .ok (.invokevirtual 79, 3) := by decide +kernel
theorem dX8_count_91 : decode cX8_count 91 = .ok (.ireturn, 1) := by decide +kernel
theorem dX8_count_92 : decode cX8_count 92 = .ok (.aload_n 0, 1) := by decide +kernel
theorem dX8_count_93 : decode cX8_count 93 = .ok (.getfield 19, 3) := by decide +kernel
theorem dX8_count_96 : decode cX8_count 96 = .ok (.invokevirtual 261, 3) := by decide +kernel
theorem dX8_count_99 : decode cX8_count 99 = .ok (.ireturn, 1) := by decide +kernel
theorem dX8_count_100 : decode cX8_count 100 = .ok (.bipush (-3), 2) := by decide +kernel
theorem dX8_count_102 : decode cX8_count 102 = .ok (.ireturn, 1) := by decide +kernel
set_option maxHeartbeats 4000000 in
set_option maxRecDepth 100000 in
theorem c_X8_count {l : Launch} {D : va_G} {aC : Nat → ClassId} {a_x : Nat → Nat} {a_t : Nat → Nat} {a_n : Nat → Nat} {a_g : Nat → Nat} {a_q : Nat → Nat} {a_r : Nat → Nat} {a_n2 : Nat → Nat} {a_v : Nat → Nat} {a_v2 : Nat → Nat} {a_w : Nat → Nat} (s_x : Ob_T) (s_t : Ob_T) (s_n : Ob_T) (s_g : Ob_T) (s_q : Ob_T) (s_r : Ob_T) (x1 : Int32) {out : Int32} (h : f_X8_count s_x s_t s_n s_g s_q s_r x1 = some out) : M_R l yX8_count wlX8_count 2 45 D aC [.ref (a_x 0), .int x1] (wd_X8 aC a_x (a_t 0) (a_n 0) (a_n2 0) (a_v 0) (a_v2 0) (a_g 0) (a_w 0) (a_q 0) (a_r 0) s_x ++ (wd_X6 aC a_t s_t ++ (wd_X1 aC a_n s_n ++ (wd_X0 aC a_g s_g ++ (wd_X3 aC a_q s_q ++ wd_X2 aC a_r s_r))))) (some (.int out)) := by
  refine k_entR (cc := cX8_count) (ret := (some .int)) (maxL := 2) (own := RX8) (by decide) rfl rfl rfl ?_
  intro p e s m below meth c A ls hX hr hZ hl
  have hl : lv_has ls 2 [(0, .ref (a_x 0)), (1, .int x1)] := hl
  generalize ([.ref (a_x 0), .int x1] : List Value).toArray = args at hX ⊢
  obtain ⟨hx, hb, hml, hown, hts, hK, hA, hlk⟩ := id hX
  unfold f_X8_count at h
  have hF : ∀ q ∈ ([] : List Loc), False := fun _ h => nomatch h
  generalize ([] : List Loc) = locs at hF ⊢
  refine lv_iload_n hx hb dX8_count_0 rfl (lv_at hl 1 rfl) ?_
  by_cases c0 : x1 = (0 : Int32)
  · replace h := k_t c0 h
    refine k_sw c0 ?_
    refine lv_tableIn (tgt := 44) (off := 43) hx hb dX8_count_1 (by decide) (by decide) rfl (by decide) ?_
    refine lv_aload_n hx hb dX8_count_44 rfl (lv_at hl 0 rfl) ?_
    refine k_get hX hZ.1 0 8 rfl rfl iw_X8 1 rfl (wm_651) (v := .ref (a_n 0)) rfl dX8_count_45 ?_
    obtain ⟨u1, hu, h⟩ := k_bd h
    refine k_vRR (As := []) (rest := []) (wc := wd_X1 aC a_n s_n) (v := some (.int u1)) (st1 := [.int u1]) hX hl.1 hZ hF (c_X1_size (a_n := a_n) s_n hu) (gv_ wm_770 wm_486 wm_487 wm_321 wm_485) rfl hd_X1_size ⟨rfl, rfl⟩ 1 0 rfl rfl [3, 4, 5, 6, 7, 8, 9] rfl rfl rfl rfl rfl dX8_count_48 rfl ⟨rfl, rfl⟩ (fun locs hF => ?_)
    clear hu
    cases h
    exact k_iretR hX hr hF dX8_count_51
  · replace h := k_f c0 h
    have n0 := k_ne c0 (0) (by decide)
    by_cases c1 : x1 = (1 : Int32)
    · replace h := k_t c1 h
      refine k_sw c1 ?_
      refine lv_tableIn (tgt := 52) (off := 51) hx hb dX8_count_1 (by decide) (by decide) rfl (by decide) ?_
      refine lv_aload_n hx hb dX8_count_52 rfl (lv_at hl 0 rfl) ?_
      refine k_get hX hZ.1 0 8 rfl rfl iw_X8 5 rfl (wm_660) (v := .ref (a_g 0)) rfl dX8_count_53 ?_
      obtain ⟨u2, hu, h⟩ := k_bd h
      refine k_vRR (As := []) (rest := []) (wc := wd_X0 aC a_g s_g) (v := some (.int u2)) (st1 := [.int u2]) hX hl.1 hZ hF (c_X0_bits (a_g := a_g) s_g hu) (gv_ wm_837 wm_303 wm_304 wm_301 wm_302) rfl hd_X0_bits ⟨rfl, rfl⟩ 0 0 rfl rfl [10, 11, 12, 13, 14, 15] rfl rfl rfl rfl rfl dX8_count_56 rfl ⟨rfl, rfl⟩ (fun locs hF => ?_)
      clear hu
      cases h
      exact k_iretR hX hr hF dX8_count_59
    · replace h := k_f c1 h
      have n1 := k_ne c1 (1) (by decide)
      by_cases c2 : x1 = (2 : Int32)
      · replace h := k_t c2 h
        refine k_sw c2 ?_
        refine lv_tableIn (tgt := 60) (off := 59) hx hb dX8_count_1 (by decide) (by decide) rfl (by decide) ?_
        refine lv_aload_n hx hb dX8_count_60 rfl (lv_at hl 0 rfl) ?_
        refine k_get hX hZ.1 0 8 rfl rfl iw_X8 7 rfl (wm_771) (v := .ref (a_q 0)) rfl dX8_count_61 ?_
        obtain ⟨u3, hu, h⟩ := k_bd h
        refine k_vRR (As := []) (rest := []) (wc := wd_X3 aC a_q s_q) (v := some (.int u3)) (st1 := [.int u3]) hX hl.1 hZ hF (c_X3_size (a_q := a_q) s_q hu) (gv_ wm_772 wm_774 wm_775 wm_401 wm_773) rfl hd_X3_size ⟨rfl, rfl⟩ 3 0 rfl rfl [16, 17, 18] rfl rfl rfl rfl rfl dX8_count_64 rfl ⟨rfl, rfl⟩ (fun locs hF => ?_)
        clear hu
        cases h
        exact k_iretR hX hr hF dX8_count_67
      · replace h := k_f c2 h
        have n2 := k_ne c2 (2) (by decide)
        by_cases c3 : x1 = (3 : Int32)
        · replace h := k_t c3 h
          refine k_sw c3 ?_
          refine lv_tableIn (tgt := 68) (off := 67) hx hb dX8_count_1 (by decide) (by decide) rfl (by decide) ?_
          refine lv_aload_n hx hb dX8_count_68 rfl (lv_at hl 0 rfl) ?_
          refine k_get hX hZ.1 0 8 rfl rfl iw_X8 8 rfl (wm_789) (v := .ref (a_r 0)) rfl dX8_count_69 ?_
          obtain ⟨u4, hu, h⟩ := k_bd h
          refine k_vRR (As := []) (rest := []) (wc := wd_X2 aC a_r s_r) (v := some (.int u4)) (st1 := [.int u4]) hX hl.1 hZ hF (c_X2_allPlaces (a_r := a_r) s_r hu) (gv_ wm_838 wm_840 wm_841 wm_384 wm_839) rfl hd_X2_allPlaces ⟨rfl, rfl⟩ 2 0 rfl rfl [19, 20, 21, 22] rfl rfl rfl rfl rfl dX8_count_72 rfl ⟨rfl, rfl⟩ (fun locs hF => ?_)
          clear hu
          cases h
          exact k_iretR hX hr hF dX8_count_75
        · replace h := k_f c3 h
          have n3 := k_ne c3 (3) (by decide)
          by_cases c4 : x1 = (4 : Int32)
          · replace h := k_t c4 h
            refine k_sw c4 ?_
            refine lv_tableIn (tgt := 76) (off := 75) hx hb dX8_count_1 (by decide) (by decide) rfl (by decide) ?_
            refine lv_aload_n hx hb dX8_count_76 rfl (lv_at hl 0 rfl) ?_
            refine k_get hX hZ.1 0 8 rfl rfl iw_X8 5 rfl (wm_660) (v := .ref (a_g 0)) rfl dX8_count_77 ?_
            obtain ⟨u5, hu, h⟩ := k_bd h
            refine k_vRR (As := []) (rest := []) (wc := wd_X0 aC a_g s_g) (v := some (.int u5)) (st1 := [.int u5]) hX hl.1 hZ hF (c_X0_undoable (a_g := a_g) s_g hu) (gv_ wm_696 wm_698 wm_699 wm_301 wm_697) rfl hd_X0_undoable ⟨rfl, rfl⟩ 0 0 rfl rfl [10, 11, 12, 13, 14, 15] rfl rfl rfl rfl rfl dX8_count_80 rfl ⟨rfl, rfl⟩ (fun locs hF => ?_)
            clear hu
            cases h
            exact k_iretR hX hr hF dX8_count_83
          · replace h := k_f c4 h
            have n4 := k_ne c4 (4) (by decide)
            by_cases c5 : x1 = (5 : Int32)
            · replace h := k_t c5 h
              refine k_sw c5 ?_
              refine lv_tableIn (tgt := 84) (off := 83) hx hb dX8_count_1 (by decide) (by decide) rfl (by decide) ?_
              refine lv_aload_n hx hb dX8_count_84 rfl (lv_at hl 0 rfl) ?_
              refine k_get hX hZ.1 0 8 rfl rfl iw_X8 0 rfl (wm_638) (v := .ref (a_t 0)) rfl dX8_count_85 ?_
              obtain ⟨u6, hu, h⟩ := k_bd h
              refine k_vRR (As := []) (rest := []) (wc := wd_X6 aC a_t s_t) (v := some (.int u6)) (st1 := [.int u6]) hX hl.1 hZ hF (c_X6_length (a_t := a_t) s_t hu) (gv_ wm_639 wm_641 wm_642 wm_563 wm_640) rfl hd_X6_length ⟨rfl, rfl⟩ 6 0 rfl rfl [1, 2] rfl rfl rfl rfl rfl dX8_count_88 rfl ⟨rfl, rfl⟩ (fun locs hF => ?_)
              clear hu
              cases h
              exact k_iretR hX hr hF dX8_count_91
            · replace h := k_f c5 h
              have n5 := k_ne c5 (5) (by decide)
              by_cases c6 : x1 = (6 : Int32)
              · replace h := k_t c6 h
                refine k_sw c6 ?_
                refine lv_tableIn (tgt := 92) (off := 91) hx hb dX8_count_1 (by decide) (by decide) rfl (by decide) ?_
                refine lv_aload_n hx hb dX8_count_92 rfl (lv_at hl 0 rfl) ?_
                refine k_get hX hZ.1 0 8 rfl rfl iw_X8 1 rfl (wm_651) (v := .ref (a_n 0)) rfl dX8_count_93 ?_
                obtain ⟨u7, hu, h⟩ := k_bd h
                refine k_vRR (As := []) (rest := []) (wc := wd_X1 aC a_n s_n) (v := some (.int u7)) (st1 := [.int u7]) hX hl.1 hZ hF (c_X1_toldLetters (a_n := a_n) s_n hu) (gv_ wm_842 wm_844 wm_845 wm_321 wm_843) rfl hd_X1_toldLetters ⟨rfl, rfl⟩ 1 0 rfl rfl [3, 4, 5, 6, 7, 8, 9] rfl rfl rfl rfl rfl dX8_count_96 rfl ⟨rfl, rfl⟩ (fun locs hF => ?_)
                clear hu
                cases h
                exact k_iretR hX hr hF dX8_count_99
              · replace h := k_f c6 h
                have n6 := k_ne c6 (6) (by decide)
                refine lv_tableOut (tgt := 100) hx hb dX8_count_1 (by omega) (by decide) ?_
                refine lv_bipush (v := -3) hx hb dX8_count_100 (by decide) ?_
                cases h
                exact k_iretR hX hr hF dX8_count_102
