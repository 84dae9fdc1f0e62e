def wlX8_seen : List Cond := .code yX8_seen cX8_seen 4 (some .int) :: WL_
theorem hd_X8_seen : yX8_seen.cls = RX8 ∧ yX8_seen.cls ≠ "java/lang/invoke/MethodHandle" ∧ yX8_seen.cls ≠ "java/lang/invoke/VarHandle" ∧ (parseMethodDescriptor yX8_seen.desc).map (fun d => d.parameters.length) = some 3 := by decide +kernel
theorem dX8_seen_0 : decode cX8_seen 0 = .ok (.iload_n 1, 1) := by decide +kernel
theorem dX8_seen_1 : decode cX8_seen 1 = .ok (.iconst 1, 1) := by decide +kernel
theorem dX8_seen_2 : decode cX8_seen 2 = .ok (.if_icmp .lt 28, 3) := by decide +kernel
theorem dX8_seen_5 : decode cX8_seen 5 = .ok (.iload_n 1, 1) := by decide +kernel
theorem dX8_seen_6 : decode cX8_seen 6 = .ok (.bipush 9, 2) := by decide +kernel
theorem dX8_seen_8 : decode cX8_seen 8 = .ok (.if_icmp .gt 22, 3) := by decide +kernel
theorem dX8_seen_11 : decode cX8_seen 11 = .ok (.iload_n 2, 1) := by decide +kernel
theorem dX8_seen_12 : decode cX8_seen 12 = .ok (.ifCond .lt 18, 3) := by decide +kernel
theorem dX8_seen_15 : decode cX8_seen 15 = .ok (.iload_n 2, 1) := by decide +kernel
theorem dX8_seen_16 : decode cX8_seen 16 = .ok (.iconst 1, 1) := by decide +kernel
theorem dX8_seen_17 : decode cX8_seen 17 = .ok (.if_icmp .gt 13, 3) := by decide +kernel
theorem dX8_seen_20 : decode cX8_seen 20 = .ok (.iload_n 3, 1) := by decide +kernel
theorem dX8_seen_21 : decode cX8_seen 21 = .ok (.ifCond .lt 9, 3) := by decide +kernel
theorem dX8_seen_24 : decode cX8_seen 24 = .ok (.iload_n 3, 1) := by decide +kernel
theorem dX8_seen_25 : decode cX8_seen 25 = .ok (.bipush 99, 2) := by decide +kernel
theorem dX8_seen_27 : decode cX8_seen 27 = .ok (.if_icmp .le 6, 3) := by decide +kernel
theorem dX8_seen_30 : decode cX8_seen 30 = .ok (.bipush (-3), 2) := by decide +kernel
theorem dX8_seen_32 : decode cX8_seen 32 = .ok (.ireturn, 1) := by decide +kernel
theorem dX8_seen_33 : decode cX8_seen 33 = .ok (.aload_n 0, 1) := by decide +kernel
theorem dX8_seen_34 : decode cX8_seen 34 = .ok (.getfield 57, 3) := by decide +kernel
theorem dX8_seen_37 : decode cX8_seen 37 = .ok (.iload_n 1, 1) := by decide +kernel
theorem dX8_seen_38 : decode cX8_seen 38 = .ok (.iload_n 2, 1) := by decide +kernel
theorem dX8_seen_39 : decode cX8_seen 39 = .ok (.iload_n 3, 1) := by decide +kernel
theorem dX8_seen_40 : decode cX8_seen 40 = .ok (.invokevirtual 200, 3) := by decide +kernel
theorem dX8_seen_43 : decode cX8_seen 43 = .ok (.ifCond .eq 13, 3) := by decide +kernel
theorem dX8_seen_46 : decode cX8_seen 46 = .ok (.aload_n 0, 1) := by decide +kernel
theorem dX8_seen_47 : decode cX8_seen 47 = .ok (.getfield 57, 3) := by decide +kernel
theorem dX8_seen_50 : decode cX8_seen 50 = .ok (.invokevirtual 203, 3) := by decide +kernel
theorem dX8_seen_53 : decode cX8_seen 53 = .ok (.goto 5, 3) := by decide +kernel
theorem dX8_seen_56 : decode cX8_seen 56 = .ok (.bipush (-5), 2) := by decide +kernel
theorem dX8_seen_58 : decode cX8_seen 58 = .ok (.ireturn, 1) := by decide +kernel
set_option maxHeartbeats 4000000 in
set_option maxRecDepth 100000 in
theorem c_X8_seen {l : Launch} {D : va_G} {aC : Nat → ClassId} {a_x : Nat → Nat} {a_q : Nat → Nat} {a_t : Nat → Nat} {a_n : Nat → Nat} {a_n2 : Nat → Nat} {a_v : Nat → Nat} {a_v2 : Nat → Nat} {a_g : Nat → Nat} {a_w : Nat → Nat} {a_r : Nat → Nat} (s_x : Ob_T) (s_q : Ob_T) (x1 : Int32) (x2 : Int32) (x3 : Int32) {out : Int32 × Ob_T} (h : f_X8_seen s_x s_q x1 x2 x3 = some out) : M_W l yX8_seen wlX8_seen 1 23 D aC [.ref (a_x 0), .int x1, .int x2, .int x3] (wd_X8 aC a_x (a_t 0) (a_n 0) (a_n2 0) (a_v 0) (a_v2 0) (a_g 0) (a_w 0) (a_q 0) (a_r 0) s_x ++ wd_X3 aC a_q s_q) (some (.int out.1)) (wd_X8 aC a_x (a_t 0) (a_n 0) (a_n2 0) (a_v 0) (a_v2 0) (a_g 0) (a_w 0) (a_q 0) (a_r 0) s_x ++ wd_X3 aC a_q out.2) := by
  refine k_entW (cc := cX8_seen) (ret := (some .int)) (maxL := 4) (own := RX8) (by decide) rfl rfl rfl ?_
  intro p e s m below meth c A ls hX hr hZ hl
  have hl : lv_has ls 4 [(0, .ref (a_x 0)), (1, .int x1), (2, .int x2), (3, .int x3)] := hl
  generalize ([.ref (a_x 0), .int x1, .int x2, .int x3] : List Value).toArray = args at hX ⊢
  obtain ⟨hx, hb, hml, hown, hts, hK, hA, hlk⟩ := id hX
  unfold f_X8_seen at h
  generalize s.heap = H at hZ ⊢
  generalize ([] : List Loc) = locs at hZ ⊢
  refine lv_iload_n hx hb dX8_seen_0 rfl (lv_at hl 1 rfl) ?_
  refine lv_iconst (v := 1) hx hb dX8_seen_1 (by decide) ?_
  refine lv_icmp_lt (tgt := 30) hx hb dX8_seen_2 (by decide) (fun cd => ?_) (fun cd => ?_)
  · replace h := k_t cd h
    clear cd
    refine lv_bipush (v := -3) hx hb dX8_seen_30 (by decide) ?_
    cases h
    exact k_iretW hX hr hZ dX8_seen_32
  · replace h := k_f cd h
    clear cd
    refine lv_iload_n hx hb dX8_seen_5 rfl (lv_at hl 1 rfl) ?_
    refine lv_bipush (v := 9) hx hb dX8_seen_6 (by decide) ?_
    refine lv_icmp_gt (tgt := 30) hx hb dX8_seen_8 (by decide) (fun cd => ?_) (fun cd => ?_)
    · replace h := k_t cd h
      clear cd
      refine lv_bipush (v := -3) hx hb dX8_seen_30 (by decide) ?_
      cases h
      exact k_iretW hX hr hZ dX8_seen_32
    · replace h := k_f cd h
      clear cd
      refine lv_iload_n hx hb dX8_seen_11 rfl (lv_at hl 2 rfl) ?_
      refine lv_if_lt (tgt := 30) hx hb dX8_seen_12 (by decide) (fun cd => ?_) (fun cd => ?_)
      · replace h := k_t cd h
        clear cd
        refine lv_bipush (v := -3) hx hb dX8_seen_30 (by decide) ?_
        cases h
        exact k_iretW hX hr hZ dX8_seen_32
      · replace h := k_f cd h
        clear cd
        refine lv_iload_n hx hb dX8_seen_15 rfl (lv_at hl 2 rfl) ?_
        refine lv_iconst (v := 1) hx hb dX8_seen_16 (by decide) ?_
        refine lv_icmp_gt (tgt := 30) hx hb dX8_seen_17 (by decide) (fun cd => ?_) (fun cd => ?_)
        · replace h := k_t cd h
          clear cd
          refine lv_bipush (v := -3) hx hb dX8_seen_30 (by decide) ?_
          cases h
          exact k_iretW hX hr hZ dX8_seen_32
        · replace h := k_f cd h
          clear cd
          refine lv_iload_n hx hb dX8_seen_20 rfl (lv_at hl 3 rfl) ?_
          refine lv_if_lt (tgt := 30) hx hb dX8_seen_21 (by decide) (fun cd => ?_) (fun cd => ?_)
          · replace h := k_t cd h
            clear cd
            refine lv_bipush (v := -3) hx hb dX8_seen_30 (by decide) ?_
            cases h
            exact k_iretW hX hr hZ dX8_seen_32
          · replace h := k_f cd h
            clear cd
            refine lv_iload_n hx hb dX8_seen_24 rfl (lv_at hl 3 rfl) ?_
            refine lv_bipush (v := 99) hx hb dX8_seen_25 (by decide) ?_
            refine lv_icmp_le (tgt := 33) hx hb dX8_seen_27 (by decide) (fun cd => ?_) (fun cd => ?_)
            · replace h := k_t cd h
              clear cd
              refine lv_aload_n hx hb dX8_seen_33 rfl (lv_at hl 0 rfl) ?_
              refine k_get hX hZ.1 0 8 rfl rfl iw_X8 7 rfl (wm_771) (v := .ref (a_q 0)) rfl dX8_seen_34 ?_
              refine lv_iload_n hx hb dX8_seen_37 rfl (lv_at hl 1 rfl) ?_
              refine lv_iload_n hx hb dX8_seen_38 rfl (lv_at hl 2 rfl) ?_
              refine lv_iload_n hx hb dX8_seen_39 rfl (lv_at hl 3 rfl) ?_
              obtain ⟨u1, hu, h⟩ := k_bd h
              refine k_vW (As := [.int x1, .int x2, .int x3]) (rest := []) (wc := wd_X3 aC a_q s_q) (v := some (.int u1.1)) (st1 := [.int u1.1]) (w' := wd_X8 aC a_x (a_t 0) (a_n 0) (a_n2 0) (a_v 0) (a_v2 0) (a_g 0) (a_w 0) (a_q 0) (a_r 0) s_x ++ wd_X3 aC a_q u1.2) hX hl.1 hZ (c_X3_add (a_q := a_q) s_q x1 x2 x3 hu) (gv_ wm_776 wm_778 wm_779 wm_401 wm_777) rfl hd_X3_add ⟨rfl, rfl⟩ 3 0 rfl rfl [1, 2, 3] rfl rfl rfl rfl rfl dX8_seen_40 rfl ⟨rfl, rfl⟩ rfl rfl rfl (fun H locs hZ => ?_)
              clear hu
              refine lv_if_eq (tgt := 56) hx hb dX8_seen_43 (by decide) (fun cd => ?_) (fun cd => ?_)
              · replace h := k_t cd h
                clear cd
                refine lv_bipush (v := -5) hx hb dX8_seen_56 (by decide) ?_
                cases h
                exact k_iretW hX hr hZ dX8_seen_58
              · replace h := k_f cd h
                clear cd
                refine lv_aload_n hx hb dX8_seen_46 rfl (lv_at hl 0 rfl) ?_
                refine k_get hX hZ.1 0 8 rfl rfl iw_X8 7 rfl (wm_771) (v := .ref (a_q 0)) rfl dX8_seen_47 ?_
                obtain ⟨u2, hu, h⟩ := k_bd h
                refine k_vR (As := []) (rest := []) (wc := wd_X3 aC a_q u1.2) (v := some (.int u2)) (st1 := [.int u2]) hX hl.1 hZ (c_X3_size (a_q := a_q) u1.2 hu) (gv_ wm_772 wm_774 wm_775 wm_401 wm_773) rfl hd_X3_size ⟨rfl, rfl⟩ 3 0 rfl rfl [1, 2, 3] rfl rfl rfl rfl rfl dX8_seen_50 rfl ⟨rfl, rfl⟩ (fun locs hZ => ?_)
                clear hu
                refine lv_goto (tgt := 58) hx hb dX8_seen_53 (by decide) ?_
                cases h
                exact k_iretW hX hr hZ dX8_seen_58
            · replace h := k_f cd h
              clear cd
              refine lv_bipush (v := -3) hx hb dX8_seen_30 (by decide) ?_
              cases h
              exact k_iretW hX hr hZ dX8_seen_32
def wlX8_forget : List Cond := .code yX8_forget cX8_forget 2 (some .int) :: WL_
theorem hd_X8_forget : yX8_forget.cls = RX8 ∧ yX8_forget.cls ≠ "java/lang/invoke/MethodHandle" ∧ yX8_forget.cls ≠ "java/lang/invoke/VarHandle" ∧ (parseMethodDescriptor yX8_forget.desc).map (fun d => d.parameters.length) = some 0 := by decide +kernel
theorem dX8_forget_0 : decode cX8_forget 0 = .ok (.aload_n 0, 1) := by decide +kernel
theorem dX8_forget_1 : decode cX8_forget 1 = .ok (.getfield 57, 3) := by decide +kernel
theorem dX8_forget_4 : decode cX8_forget 4 = .ok (.invokevirtual 203, 3) := by decide +kernel
theorem dX8_forget_7 : decode cX8_forget 7 = .ok (.istore_n 1, 1) := by decide +kernel
theorem dX8_forget_8 : decode cX8_forget 8 = .ok (.aload_n 0, 1) := by decide +kernel
theorem dX8_forget_9 : decode cX8_forget 9 = .ok (.getfield 57, 3) := by decide +kernel
theorem dX8_forget_12 : decode cX8_forget 12 = .ok (.invokevirtual 94, 3) := by decide +kernel
theorem dX8_forget_15 : decode cX8_forget 15 = .ok (.iload_n 1, 1) := by decide +kernel
theorem dX8_forget_16 : decode cX8_forget 16 = .ok (.ireturn, 1) := by decide +kernel
set_option maxHeartbeats 4000000 in
set_option maxRecDepth 100000 in
theorem c_X8_forget {l : Launch} {D : va_G} {aC : Nat → ClassId} {a_x : Nat → Nat} {a_q : Nat → Nat} {a_t : Nat → Nat} {a_n : Nat → Nat} {a_n2 : Nat → Nat} {a_v : Nat → Nat} {a_v2 : Nat → Nat} {a_g : Nat → Nat} {a_w : Nat → Nat} {a_r : Nat → Nat} (s_x : Ob_T) (s_q : Ob_T) {out : Int32 × Ob_T} (h : f_X8_forget s_x s_q = some out) : M_W l yX8_forget wlX8_forget 1 20 D aC [.ref (a_x 0)] (wd_X8 aC a_x (a_t 0) (a_n 0) (a_n2 0) (a_v 0) (a_v2 0) (a_g 0) (a_w 0) (a_q 0) (a_r 0) s_x ++ wd_X3 aC a_q s_q) (some (.int out.1)) (wd_X8 aC a_x (a_t 0) (a_n 0) (a_n2 0) (a_v 0) (a_v2 0) (a_g 0) (a_w 0) (a_q 0) (a_r 0) s_x ++ wd_X3 aC a_q out.2) := by
  refine k_entW (cc := cX8_forget) (ret := (some .int)) (maxL := 2) (own := RX8) (by decide) rfl rfl rfl ?_
  intro p e s m below meth c A ls hX hr hZ hl
  have hl : lv_has ls 2 [(0, .ref (a_x 0))] := hl
  generalize ([.ref (a_x 0)] : List Value).toArray = args at hX ⊢
  obtain ⟨hx, hb, hml, hown, hts, hK, hA, hlk⟩ := id hX
  unfold f_X8_forget at h
  generalize s.heap = H at hZ ⊢
  generalize ([] : List Loc) = locs at hZ ⊢
  refine lv_aload_n hx hb dX8_forget_0 rfl (lv_at hl 0 rfl) ?_
  refine k_get hX hZ.1 0 8 rfl rfl iw_X8 7 rfl (wm_771) (v := .ref (a_q 0)) rfl dX8_forget_1 ?_
  obtain ⟨u1, hu, h⟩ := k_bd h
  refine k_vR (As := []) (rest := []) (wc := wd_X3 aC a_q s_q) (v := some (.int u1)) (st1 := [.int u1]) hX hl.1 hZ (c_X3_size (a_q := a_q) s_q hu) (gv_ wm_772 wm_774 wm_775 wm_401 wm_773) rfl hd_X3_size ⟨rfl, rfl⟩ 3 0 rfl rfl [1, 2, 3] rfl rfl rfl rfl rfl dX8_forget_4 rfl ⟨rfl, rfl⟩ (fun locs hZ => ?_)
  clear hu
  refine lv_istore_n (lv' := [(1, .int u1), (0, .ref (a_x 0))]) hx hb dX8_forget_7 rfl hl (by decide) rfl (fun ls hl => ?_)
  refine lv_aload_n hx hb dX8_forget_8 rfl (lv_at hl 1 rfl) ?_
  refine k_get hX hZ.1 0 8 rfl rfl iw_X8 7 rfl (wm_771) (v := .ref (a_q 0)) rfl dX8_forget_9 ?_
  obtain ⟨u2, hu, h⟩ := k_bd h
  refine k_vW (As := []) (rest := []) (wc := wd_X3 aC a_q s_q) (v := none) (st1 := []) (w' := wd_X8 aC a_x (a_t 0) (a_n 0) (a_n2 0) (a_v 0) (a_v2 0) (a_g 0) (a_w 0) (a_q 0) (a_r 0) s_x ++ wd_X3 aC a_q u2) hX hl.1 hZ (c_X3_clear (a_q := a_q) s_q hu) (gv_ wm_780 wm_782 wm_783 wm_401 wm_781) rfl hd_X3_clear ⟨rfl, rfl⟩ 3 0 rfl rfl [1, 2, 3] rfl rfl rfl rfl rfl dX8_forget_12 rfl ⟨rfl, rfl⟩ rfl rfl rfl (fun H locs hZ => ?_)
  clear hu
  refine lv_iload_n hx hb dX8_forget_15 rfl (lv_at hl 0 rfl) ?_
  cases h
  exact k_iretW hX hr hZ dX8_forget_16
def wlX8_kinds : List Cond := .code yX8_kinds cX8_kinds 1 (some .int) :: WL_
theorem hd_X8_kinds : yX8_kinds.cls = RX8 ∧ yX8_kinds.cls ≠ "java/lang/invoke/MethodHandle" ∧ yX8_kinds.cls ≠ "java/lang/invoke/VarHandle" ∧ (parseMethodDescriptor yX8_kinds.desc).map (fun d => d.parameters.length) = some 0 := by decide +kernel
theorem dX8_kinds_0 : decode cX8_kinds 0 = .ok (.aload_n 0, 1) := by decide +kernel
theorem dX8_kinds_1 : decode cX8_kinds 1 = .ok (.getfield 57, 3) := by decide +kernel
theorem dX8_kinds_4 : decode cX8_kinds 4 = .ok (.invokevirtual 204, 3) := by decide +kernel
theorem dX8_kinds_7 : decode cX8_kinds 7 = .ok (.ireturn, 1) := by decide +kernel
set_option maxHeartbeats 4000000 in
set_option maxRecDepth 100000 in
theorem c_X8_kinds {l : Launch} {D : va_G} {aC : Nat → ClassId} {a_x : Nat → Nat} {a_q : Nat → Nat} {a_t : Nat → Nat} {a_n : Nat → Nat} {a_n2 : Nat → Nat} {a_v : Nat → Nat} {a_v2 : Nat → Nat} {a_g : Nat → Nat} {a_w : Nat → Nat} {a_r : Nat → Nat} (s_x : Ob_T) (s_q : Ob_T) {out : Int32} (h : f_X8_kinds s_x s_q = some out) : M_R l yX8_kinds wlX8_kinds 3 65 D aC [.ref (a_x 0)] (wd_X8 aC a_x (a_t 0) (a_n 0) (a_n2 0) (a_v 0) (a_v2 0) (a_g 0) (a_w 0) (a_q 0) (a_r 0) s_x ++ wd_X3 aC a_q s_q) (some (.int out)) := by
  refine k_entR (cc := cX8_kinds) (ret := (some .int)) (maxL := 1) (own := RX8) (by decide) rfl rfl rfl ?_
  intro p e s m below meth c A ls hX hr hZ hl
  have hl : lv_has ls 1 [(0, .ref (a_x 0))] := hl
  generalize ([.ref (a_x 0)] : List Value).toArray = args at hX ⊢
  obtain ⟨hx, hb, hml, hown, hts, hK, hA, hlk⟩ := id hX
  unfold f_X8_kinds at h
  have hF : ∀ q ∈ ([] : List Loc), False := fun _ h => nomatch h
  generalize ([] : List Loc) = locs at hF ⊢
  refine lv_aload_n hx hb dX8_kinds_0 rfl (lv_at hl 0 rfl) ?_
  refine k_get hX hZ.1 0 8 rfl rfl iw_X8 7 rfl (wm_771) (v := .ref (a_q 0)) rfl dX8_kinds_1 ?_
  obtain ⟨u1, hu, h⟩ := k_bd h
  refine k_vRR (As := []) (rest := []) (wc := wd_X3 aC a_q s_q) (v := some (.int u1)) (st1 := [.int u1]) hX hl.1 hZ hF (c_X3_kindsThatFit (a_q := a_q) s_q hu) (gv_ wm_784 wm_415 wm_416 wm_401 wm_414) rfl hd_X3_kindsThatFit ⟨rfl, rfl⟩ 3 0 rfl rfl [1, 2, 3] rfl rfl rfl rfl rfl dX8_kinds_4 rfl ⟨rfl, rfl⟩ (fun locs hF => ?_)
  clear hu
  cases h
  exact k_iretR hX hr hF dX8_kinds_7
def wlX8_ask : List Cond := .code yX8_ask cX8_ask 1 (some .int) :: WL_
theorem hd_X8_ask : yX8_ask.cls = RX8 ∧ yX8_ask.cls ≠ "java/lang/invoke/MethodHandle" ∧ yX8_ask.cls ≠ "java/lang/invoke/VarHandle" ∧ (parseMethodDescriptor yX8_ask.desc).map (fun d => d.parameters.length) = some 0 := by decide +kernel
theorem dX8_ask_0 : decode cX8_ask 0 = .ok (.aload_n 0, 1) := by decide +kernel
theorem dX8_ask_1 : decode cX8_ask 1 = .ok (.getfield 57, 3) := by decide +kernel
theorem dX8_ask_4 : decode cX8_ask 4 = .ok (.invokevirtual 207, 3) := by decide +kernel
theorem dX8_ask_7 : decode cX8_ask 7 = .ok (.ireturn, 1) := by decide +kernel
set_option maxHeartbeats 4000000 in
set_option maxRecDepth 100000 in
theorem c_X8_ask {l : Launch} {D : va_G} {aC : Nat → ClassId} {a_x : Nat → Nat} {a_q : Nat → Nat} {a_t : Nat → Nat} {a_n : Nat → Nat} {a_n2 : Nat → Nat} {a_v : Nat → Nat} {a_v2 : Nat → Nat} {a_g : Nat → Nat} {a_w : Nat → Nat} {a_r : Nat → Nat} (s_x : Ob_T) (s_q : Ob_T) {out : Int32} (h : f_X8_ask s_x s_q = some out) : M_R l yX8_ask wlX8_ask 4 91 D aC [.ref (a_x 0)] (wd_X8 aC a_x (a_t 0) (a_n 0) (a_n2 0) (a_v 0) (a_v2 0) (a_g 0) (a_w 0) (a_q 0) (a_r 0) s_x ++ wd_X3 aC a_q s_q) (some (.int out)) := by
  refine k_entR (cc := cX8_ask) (ret := (some .int)) (maxL := 1) (own := RX8) (by decide) rfl rfl rfl ?_
  intro p e s m below meth c A ls hX hr hZ hl
  have hl : lv_has ls 1 [(0, .ref (a_x 0))] := hl
  generalize ([.ref (a_x 0)] : List Value).toArray = args at hX ⊢
  obtain ⟨hx, hb, hml, hown, hts, hK, hA, hlk⟩ := id hX
  unfold f_X8_ask at h
  have hF : ∀ q ∈ ([] : List Loc), False := fun _ h => nomatch h
  generalize ([] : List Loc) = locs at hF ⊢
  refine lv_aload_n hx hb dX8_ask_0 rfl (lv_at hl 0 rfl) ?_
  refine k_get hX hZ.1 0 8 rfl rfl iw_X8 7 rfl (wm_771) (v := .ref (a_q 0)) rfl dX8_ask_1 ?_
  obtain ⟨u1, hu, h⟩ := k_bd h
  refine k_vRR (As := []) (rest := []) (wc := wd_X3 aC a_q s_q) (v := some (.int u1)) (st1 := [.int u1]) hX hl.1 hZ hF (c_X3_bestToAsk (a_q := a_q) s_q hu) (gv_ wm_785 wm_787 wm_788 wm_401 wm_786) rfl hd_X3_bestToAsk ⟨rfl, rfl⟩ 3 0 rfl rfl [1, 2, 3] rfl rfl rfl rfl rfl dX8_ask_4 rfl ⟨rfl, rfl⟩ (fun locs hF => ?_)
  clear hu
  cases h
  exact k_iretR hX hr hF dX8_ask_7
def wlX8_isRow : List Cond := .code yX8_isRow cX8_isRow 1 (some .boolean) :: WL_
theorem hd_X8_isRow : yX8_isRow.cls ≠ "java/lang/invoke/MethodHandle" ∧ yX8_isRow.cls ≠ "java/lang/invoke/VarHandle" ∧ (parseMethodDescriptor yX8_isRow.desc).map (fun d => d.parameters.length) = some 1 := by decide +kernel
theorem dX8_isRow_0 : decode cX8_isRow 0 = .ok (.iload_n 0, 1) := by decide +kernel
theorem dX8_isRow_1 : decode cX8_isRow 1 = .ok (.ifCond .lt 12, 3) := by decide +kernel
theorem dX8_isRow_4 : decode cX8_isRow 4 = .ok (.iload_n 0, 1) := by decide +kernel
theorem dX8_isRow_5 : decode cX8_isRow 5 = .ok (.iconst 3, 1) := by decide +kernel
theorem dX8_isRow_6 : decode cX8_isRow 6 = .ok (.if_icmp .ge 7, 3) := by decide +kernel
theorem dX8_isRow_9 : decode cX8_isRow 9 = .ok (.iconst 1, 1) := by decide +kernel
theorem dX8_isRow_10 : decode cX8_isRow 10 = .ok (.goto 4, 3) := by decide +kernel
theorem dX8_isRow_13 : decode cX8_isRow 13 = .ok (.iconst 0, 1) := by decide +kernel
theorem dX8_isRow_14 : decode cX8_isRow 14 = .ok (.ireturn, 1) := by decide +kernel
set_option maxHeartbeats 4000000 in
set_option maxRecDepth 100000 in
theorem c_X8_isRow {l : Launch} {D : va_G} {aC : Nat → ClassId} (x0 : Int32) {out : Int32} (h : f_X8_isRow x0 = some out) : M_R l yX8_isRow wlX8_isRow 0 0 D aC [.int x0] (([] : va_W)) (some (.int out)) := by
  refine k_entR (cc := cX8_isRow) (ret := (some .boolean)) (maxL := 1) (own := RX8) (by decide) rfl rfl rfl ?_
  intro p e s m below meth c A ls hX hr hZ hl
  have hl : lv_has ls 1 [(0, .int x0)] := hl
  generalize ([.int x0] : List Value).toArray = args at hX ⊢
  obtain ⟨hx, hb, hml, hown, hts, hK, hA, hlk⟩ := id hX
  unfold f_X8_isRow at h
  have hF : ∀ q ∈ ([] : List Loc), False := fun _ h => nomatch h
  generalize ([] : List Loc) = locs at hF ⊢
  refine lv_iload_n hx hb dX8_isRow_0 rfl (lv_at hl 0 rfl) ?_
  refine lv_if_lt (tgt := 13) hx hb dX8_isRow_1 (by decide) (fun cd => ?_) (fun cd => ?_)
  · replace h := k_t cd h
    clear cd
    refine lv_iconst (v := 0) hx hb dX8_isRow_13 (by decide) ?_
    cases h
    exact k_zretR (v := (0 : Int32)) hX hr rfl hF dX8_isRow_14
  · replace h := k_f cd h
    clear cd
    refine lv_iload_n hx hb dX8_isRow_4 rfl (lv_at hl 0 rfl) ?_
    refine lv_iconst (v := 3) hx hb dX8_isRow_5 (by decide) ?_
    refine lv_icmp_ge (tgt := 13) hx hb dX8_isRow_6 (by decide) (fun cd => ?_) (fun cd => ?_)
    · replace h := k_t cd h
      clear cd
      refine lv_iconst (v := 0) hx hb dX8_isRow_13 (by decide) ?_
      cases h
      exact k_zretR (v := (0 : Int32)) hX hr rfl hF dX8_isRow_14
    · replace h := k_f cd h
      clear cd
      refine lv_iconst (v := 1) hx hb dX8_isRow_9 (by decide) ?_
      refine lv_goto (tgt := 14) hx hb dX8_isRow_10 (by decide) ?_
      cases h
      exact k_zretR (v := (1 : Int32)) hX hr rfl hF dX8_isRow_14
def wlX8_isSort : List Cond := .code yX8_isSort cX8_isSort 1 (some .boolean) :: WL_
theorem hd_X8_isSort : yX8_isSort.cls ≠ "java/lang/invoke/MethodHandle" ∧ yX8_isSort.cls ≠ "java/lang/invoke/VarHandle" ∧ (parseMethodDescriptor yX8_isSort.desc).map (fun d => d.parameters.length) = some 1 := by decide +kernel
theorem dX8_isSort_0 : decode cX8_isSort 0 = .ok (.iload_n 0, 1) := by decide +kernel
theorem dX8_isSort_1 : decode cX8_isSort 1 = .ok (.ifCond .eq 8, 3) := by decide +kernel
theorem dX8_isSort_4 : decode cX8_isSort 4 = .ok (.iload_n 0, 1) := by decide +kernel
theorem dX8_isSort_5 : decode cX8_isSort 5 = .ok (.iconst 1, 1) := by decide +kernel
theorem dX8_isSort_6 : decode cX8_isSort 6 = .ok (.if_icmp .ne 7, 3) := by decide +kernel
theorem dX8_isSort_9 : decode cX8_isSort 9 = .ok (.iconst 1, 1) := by decide +kernel
theorem dX8_isSort_10 : decode cX8_isSort 10 = .ok (.goto 4, 3) := by decide +kernel
theorem dX8_isSort_13 : decode cX8_isSort 13 = .ok (.iconst 0, 1) := by decide +kernel
theorem dX8_isSort_14 : decode cX8_isSort 14 = .ok (.ireturn, 1) := by decide +kernel
set_option maxHeartbeats 4000000 in
set_option maxRecDepth 100000 in
theorem c_X8_isSort {l : Launch} {D : va_G} {aC : Nat → ClassId} (x0 : Int32) {out : Int32} (h : f_X8_isSort x0 = some out) : M_R l yX8_isSort wlX8_isSort 0 0 D aC [.int x0] (([] : va_W)) (some (.int out)) := by
  refine k_entR (cc := cX8_isSort) (ret := (some .boolean)) (maxL := 1) (own := RX8) (by decide) rfl rfl rfl ?_
  intro p e s m below meth c A ls hX hr hZ hl
  have hl : lv_has ls 1 [(0, .int x0)] := hl
  generalize ([.int x0] : List Value).toArray = args at hX ⊢
  obtain ⟨hx, hb, hml, hown, hts, hK, hA, hlk⟩ := id hX
  unfold f_X8_isSort at h
  have hF : ∀ q ∈ ([] : List Loc), False := fun _ h => nomatch h
  generalize ([] : List Loc) = locs at hF ⊢
  refine lv_iload_n hx hb dX8_isSort_0 rfl (lv_at hl 0 rfl) ?_
  refine lv_if_eq (tgt := 9) hx hb dX8_isSort_1 (by decide) (fun cd => ?_) (fun cd => ?_)
  · replace h := k_t cd h
    clear cd
    refine lv_iconst (v := 1) hx hb dX8_isSort_9 (by decide) ?_
    refine lv_goto (tgt := 14) hx hb dX8_isSort_10 (by decide) ?_
    cases h
    exact k_zretR (v := (1 : Int32)) hX hr rfl hF dX8_isSort_14
  · replace h := k_f cd h
    clear cd
    refine lv_iload_n hx hb dX8_isSort_4 rfl (lv_at hl 0 rfl) ?_
    refine lv_iconst (v := 1) hx hb dX8_isSort_5 (by decide) ?_
    refine lv_icmp_ne (tgt := 13) hx hb dX8_isSort_6 (by decide) (fun cd => ?_) (fun cd => ?_)
    · replace h := k_f cd h
      clear cd
      refine lv_iconst (v := 0) hx hb dX8_isSort_13 (by decide) ?_
      cases h
      exact k_zretR (v := (0 : Int32)) hX hr rfl hF dX8_isSort_14
    · replace h := k_t cd h
      clear cd
      refine lv_iconst (v := 1) hx hb dX8_isSort_9 (by decide) ?_
      refine lv_goto (tgt := 14) hx hb dX8_isSort_10 (by decide) ?_
      cases h
      exact k_zretR (v := (1 : Int32)) hX hr rfl hF dX8_isSort_14
