theorem dX6_read_0 : decode cX6_read 0 = .ok (.aload_n 0, 1) := by decide +kernel
theorem dX6_read_1 : decode cX6_read 1 = .ok (.iconst 0, 1) := by decide +kernel
theorem dX6_read_2 : decode cX6_read 2 = .ok (.putfield 22, 3) := by decide +kernel
theorem dX6_read_5 : decode cX6_read 5 = .ok (.aload_n 0, 1) := by decide +kernel
theorem dX6_read_6 : decode cX6_read 6 = .ok (.iconst 0, 1) := by decide +kernel
theorem dX6_read_7 : decode cX6_read 7 = .ok (.putfield 19, 3) := by decide +kernel
theorem dX6_read_10 : decode cX6_read 10 = .ok (.aload_n 0, 1) := by decide +kernel
theorem dX6_read_11 : decode cX6_read 11 = .ok (.invokevirtual 25, 3) := by decide +kernel
theorem dX6_read_14 : decode cX6_read 14 = .ok (.iconst 1, 1) := by decide +kernel
theorem dX6_read_15 : decode cX6_read 15 = .ok (.istore_n 2, 1) := by decide +kernel
theorem dX6_read_16 : decode cX6_read 16 = .ok (.iload_n 2, 1) := by decide +kernel
theorem dX6_read_17 : decode cX6_read 17 = .ok (.bipush 24, 2) := by decide +kernel
theorem dX6_read_19 : decode cX6_read 19 = .ok (.if_icmp .gt 60, 3) := by decide +kernel
theorem dX6_read_22 : decode cX6_read 22 = .ok (.aload_n 0, 1) := by decide +kernel
theorem dX6_read_23 : decode cX6_read 23 = .ok (.aload_n 1, 1) := by decide +kernel
theorem dX6_read_24 : decode cX6_read 24 = .ok (.invokevirtual 28, 3) := by decide +kernel
theorem dX6_read_27 : decode cX6_read 27 = .ok (.istore_n 3, 1) := by decide +kernel
theorem dX6_read_28 : decode cX6_read 28 = .ok (.iload_n 3, 1) := by decide +kernel
theorem dX6_read_29 : decode cX6_read 29 = .ok (.iconst (-1), 1) := by decide +kernel
theorem dX6_read_30 : decode cX6_read 30 = .ok (.if_icmp .eq 5, 3) := by decide +kernel
theorem dX6_read_33 : decode cX6_read 33 = .ok (.iload_n 3, 1) := by decide +kernel
theorem dX6_read_34 : decode cX6_read 34 = .ok (.ireturn, 1) := by decide +kernel
theorem dX6_read_35 : decode cX6_read 35 = .ok (.aload_n 0, 1) := by decide +kernel
theorem dX6_read_36 : decode cX6_read 36 = .ok (.iload_n 2, 1) := by decide +kernel
theorem dX6_read_37 : decode cX6_read 37 = .ok (.putfield 19, 3) := by decide +kernel
theorem dX6_read_40 : decode cX6_read 40 = .ok (.aload_n 0, 1) := by decide +kernel
theorem dX6_read_41 : decode cX6_read 41 = .ok (.getfield 32, 3) := by decide +kernel
theorem dX6_read_44 : decode cX6_read 44 = .ok (.ifCond .ne 5, 3) := by decide +kernel
theorem dX6_read_47 : decode cX6_read 47 = .ok (.iconst (-1), 1) := by decide +kernel
theorem dX6_read_48 : decode cX6_read 48 = .ok (.ireturn, 1) := by decide +kernel
theorem dX6_read_49 : decode cX6_read 49 = .ok (.aload_n 0, 1) := by decide +kernel
theorem dX6_read_50 : decode cX6_read 50 = .ok (.bipush 59, 2) := by decide +kernel
theorem dX6_read_52 : decode cX6_read 52 = .ok (.invokevirtual 35, 3) := by decide +kernel
theorem dX6_read_55 : decode cX6_read 55 = .ok (.ifCond .eq 9, 3) := by decide +kernel
theorem dX6_read_58 : decode cX6_read 58 = .ok (.iload_n 2, 1) := by decide +kernel
theorem dX6_read_59 : decode cX6_read 59 = .ok (.bipush 24, 2) := by decide +kernel
theorem dX6_read_61 : decode cX6_read 61 = .ok (.if_icmp .ne 8, 3) := by decide +kernel
theorem dX6_read_64 : decode cX6_read 64 = .ok (.aload_n 0, 1) := by decide +kernel
theorem dX6_read_65 : decode cX6_read 65 = .ok (.getfield 39, 3) := by decide +kernel
theorem dX6_read_68 : decode cX6_read 68 = .ok (.ireturn, 1) := by decide +kernel
theorem dX6_read_69 : decode cX6_read 69 = .ok (.aload_n 0, 1) := by decide +kernel
theorem dX6_read_70 : decode cX6_read 70 = .ok (.invokevirtual 25, 3) := by decide +kernel
theorem dX6_read_73 : decode cX6_read 73 = .ok (.iinc 2 1, 3) := by decide +kernel
theorem dX6_read_76 : decode cX6_read 76 = .ok (.goto (-60), 3) := by decide +kernel
theorem dX6_read_79 : decode cX6_read 79 = .ok (.aload_n 0, 1) := by decide +kernel
theorem dX6_read_80 : decode cX6_read 80 = .ok (.getfield 39, 3) := by decide +kernel
theorem dX6_read_83 : decode cX6_read 83 = .ok (.ireturn, 1) := by decide +kernel
theorem wr_1 : Cond.methodLink RX6 25 yX6_step ∈ WL_ := wl_in (tj_2 (List.mem_of_getElem? (i := 61) rfl)) rfl
theorem wr_2 : Cond.instanceMethod yX6_step ∈ WL_ := wl_in (tj_2 (List.mem_of_getElem? (i := 63) rfl)) rfl
theorem wr_3 : Cond.selects RX6 yX6_step yX6_step ∈ WL_ := wl_in (List.mem_append_left _ (List.mem_of_getElem? (i := 0) rfl)) rfl
theorem wr_4 : Cond.initialized RX6 ∈ WL_ := wl_in (tj_1 (List.mem_of_getElem? (i := 2) rfl)) rfl
theorem wr_5 : Cond.code yX6_step cX6_step 1 none ∈ WL_ := wl_in (tj_2 (List.mem_of_getElem? (i := 64) rfl)) rfl
theorem wr_6 : Cond.methodLink RX6 28 yX6_readClause ∈ WL_ := wl_in (tj_2 (List.mem_of_getElem? (i := 68) rfl)) rfl
theorem wr_7 : Cond.instanceMethod yX6_readClause ∈ WL_ := wl_in (tj_2 (List.mem_of_getElem? (i := 70) rfl)) rfl
theorem wr_8 : Cond.selects RX6 yX6_readClause yX6_readClause ∈ WL_ := wl_in (List.mem_append_left _ (List.mem_of_getElem? (i := 1) rfl)) rfl
theorem wr_9 : Cond.initialized RX6 ∈ WL_ := wl_in (tj_1 (List.mem_of_getElem? (i := 2) rfl)) rfl
theorem wr_10 : Cond.code yX6_readClause cX6_readClause 4 (some .int) ∈ WL_ := wl_in (tj_2 (List.mem_of_getElem? (i := 71) rfl)) rfl
theorem wr_11 : Cond.methodLink RX6 35 yX6_isSign ∈ WL_ := wl_in (tj_2 (List.mem_of_getElem? (i := 163) rfl)) rfl
theorem wr_12 : Cond.instanceMethod yX6_isSign ∈ WL_ := wl_in (tj_2 (List.mem_of_getElem? (i := 165) rfl)) rfl
theorem wr_13 : Cond.selects RX6 yX6_isSign yX6_isSign ∈ WL_ := wl_in (List.mem_append_left _ (List.mem_of_getElem? (i := 8) rfl)) rfl
theorem wr_14 : Cond.initialized RX6 ∈ WL_ := wl_in (tj_1 (List.mem_of_getElem? (i := 2) rfl)) rfl
theorem wr_15 : Cond.code yX6_isSign cX6_isSign 2 (some .boolean) ∈ WL_ := wl_in (tj_2 (List.mem_of_getElem? (i := 166) rfl)) rfl
theorem hd_X6_readClause : yX6_readClause.cls = RX6 ∧ yX6_readClause.cls ≠ "java/lang/invoke/MethodHandle" ∧ yX6_readClause.cls ≠ "java/lang/invoke/VarHandle" ∧ (parseMethodDescriptor yX6_readClause.desc).map (fun d => d.parameters.length) = some 1 := by decide +kernel
def wlX6_read : List Cond := .code yX6_read cX6_read 4 (some .int) :: WL_
section
variable {adK adV : Nat → Nat} {tA : Nat}
set_option maxHeartbeats 4000000 in
set_option maxRecDepth 100000 in
theorem c_X6_read {l : Launch} {D : va_G} {aC : Nat → ClassId} {a_t : Nat → Nat} {a_n : Nat → Nat} (s_t : Ob_T) (s_n : Ob_T) {out : Int32 × Ob_T × Ob_T} (h : f_X6_read s_t s_n = some out) : M_WE adK adV tA l yX6_read wlX6_read 7 151 D aC [.ref (a_t 0), .ref (a_n 0)] (wd_X6 aC a_t s_t ++ wd_X1 aC a_n s_n) (some (.int out.1)) (wd_X6 aC a_t out.2.1 ++ wd_X1 aC a_n out.2.2) := by
  refine k_entWE (cc := cX6_read) (ret := (some .int)) (maxL := 4) (own := RX6) (by decide) rfl rfl rfl ?_
  intro p e s m below meth c A ls hE hX hr hZ hl
  have hl : lv_has ls 4 [(0, .ref (a_t 0)), (1, .ref (a_n 0))] := hl
  generalize ([.ref (a_t 0), .ref (a_n 0)] : List Value).toArray = args at hX ⊢
  obtain ⟨hx, hb, hml, hown, hts, hK, hA, hlk⟩ := id hX
  unfold f_X6_read at h
  generalize hH : s.heap = H at hZ ⊢
  generalize ([] : List Loc) = locs at hZ ⊢
  refine lv_aload_n hx hb dX6_read_0 rfl (lv_at hl 0 rfl) ?_
  refine lv_iconst (v := 0) hx hb dX6_read_1 (by decide) ?_
  refine k_put (wf := (fun o => wd_X6 aC a_t o ++ wd_X1 aC a_n s_n)) (o := s_t) hX hZ 0 6 rfl rfl iw_X6 tyX6 tyX6_ok nmX6 5 rfl (wm_560) rfl rfl rfl rfl rfl h dX6_read_2 (fun o1 H locs hZ h => ?_)
  refine lv_aload_n hx hb dX6_read_5 rfl (lv_at hl 0 rfl) ?_
  refine lv_iconst (v := 0) hx hb dX6_read_6 (by decide) ?_
  refine k_put (wf := (fun o => wd_X6 aC a_t o ++ wd_X1 aC a_n s_n)) (o := o1) hX hZ 0 6 rfl rfl iw_X6 tyX6 tyX6_ok nmX6 2 rfl (wm_558) rfl rfl rfl rfl rfl h dX6_read_7 (fun o2 H locs hZ h => ?_)
  refine lv_aload_n hx hb dX6_read_10 rfl (lv_at hl 0 rfl) ?_
  obtain ⟨u3, hu, h⟩ := k_bd h
  refine k_vW (As := []) (rest := []) (wc := wd_X6 aC a_t o2) (v := none) (st1 := []) (w' := wd_X6 aC a_t u3 ++ wd_X1 aC a_n s_n) hX hl.1 hZ (c_X6_step (a_t := a_t) o2 hu) (gv_ wr_1 wr_2 wr_3 wr_4 wr_5) rfl hd_X6_step ⟨rfl, rfl⟩ 6 0 rfl rfl [0, 1] rfl rfl rfl rfl rfl dX6_read_11 rfl ⟨rfl, rfl⟩ rfl rfl rfl (fun H locs hZ => ?_)
  clear hu
  refine lv_iconst (v := 1) hx hb dX6_read_14 (by decide) ?_
  refine lv_istore_n (lv' := [(2, .int (1 : Int32)), (0, .ref (a_t 0)), (1, .ref (a_n 0))]) hx hb dX6_read_15 rfl hl (by decide) rfl (fun ls hl => ?_)
  refine Lp_ok (body := (fun (rec : (Int32 × Ob_T × Ob_T) → Option (Int32 × Ob_T × Ob_T)) x => f_X6_read_L17 rec x.1 x.2.1 x.2.2)) (out := out) (fun x => ∀ (H : Heap) (locs : List Loc) (ls : Array Slot), K_S D A s (wd_X6 aC a_t x.2.1 ++ wd_X1 aC a_n x.2.2) H locs → lv_has ls 4 [(0, .ref (a_t 0)), (1, .ref (a_n 0)), (2, .int x.1)] → W p l e (R_m 7 151) s m args below meth c H locs 0 0 (MQ below (Q_W (some (.int out.1)) D A (wd_X6 aC a_t out.2.1 ++ wd_X1 aC a_n out.2.2)) args s 0 0 A) (F0 m 16 ls [])) (fun rec hrec x h H locs ls hZ hl => ?_) FU_ ((1 : Int32), u3, s_n) h H locs ls hZ (lv_sub hl [1, 2, 0] rfl)
  obtain ⟨x2, s_t, s_n⟩ := x
  dsimp only at h hZ hl
  unfold f_X6_read_L17 at h
  refine lv_iload_n hx hb dX6_read_16 rfl (lv_at hl 2 rfl) ?_
  refine lv_bipush (v := 24) hx hb dX6_read_17 (by decide) ?_
  refine lv_icmp_gt (tgt := 79) hx hb dX6_read_19 (by decide) (fun cd => ?_) (fun cd => ?_)
  · replace h := k_t cd h
    clear cd
    refine lv_aload_n hx hb dX6_read_79 rfl (lv_at hl 0 rfl) ?_
    refine k_get hX hZ.1 0 6 rfl rfl iw_X6 4 rfl (wm_559) (v := .int (o_F s_t 4)) rfl dX6_read_80 ?_
    cases h
    exact k_iretW hX hr hZ dX6_read_83
  replace h := k_f cd h
  clear cd
  refine lv_aload_n hx hb dX6_read_22 rfl (lv_at hl 0 rfl) ?_
  refine lv_aload_n hx hb dX6_read_23 rfl (lv_at hl 1 rfl) ?_
  obtain ⟨u2, hu, h⟩ := k_bd h
  refine k_vWsE (As := [.ref (a_n 0)]) (rest := []) (v := some (.int u2.1)) (st1 := [.int u2.1]) hE hX hl.1 hZ (c_X6_readClause (a_t := a_t) (a_n := a_n) s_t s_n hu) (gv_ wr_6 wr_7 wr_8 wr_9 wr_10) rfl hd_X6_readClause ⟨rfl, rfl⟩ 6 0 rfl rfl rfl rfl rfl dX6_read_24 rfl ⟨rfl, rfl⟩ rfl (fun H locs hZ => ?_)
  clear hu
  refine lv_istore_n (lv' := [(3, .int u2.1), (0, .ref (a_t 0)), (1, .ref (a_n 0)), (2, .int x2)]) hx hb dX6_read_27 rfl hl (by decide) rfl (fun ls hl => ?_)
  refine lv_iload_n hx hb dX6_read_28 rfl (lv_at hl 0 rfl) ?_
  refine lv_iconst (v := -1) hx hb dX6_read_29 (by decide) ?_
  have fin64 : ∀ (o3 : Ob_T) (H : Heap) (locs : List Loc) (ls : Array Slot), K_S D A s (wd_X6 aC a_t o3 ++ wd_X1 aC a_n u2.2.2) H locs → lv_has ls 4 [(3, .int u2.1), (0, .ref (a_t 0)), (1, .ref (a_n 0)), (2, .int x2)] → some ((o_F o3 4), o3, u2.2.2) = some out → W p l e (R_m 7 151) s m args below meth c H locs 0 0 (MQ below (Q_W (some (.int out.1)) D A (wd_X6 aC a_t out.2.1 ++ wd_X1 aC a_n out.2.2)) args s 0 0 A) (F0 m 64 ls []) := by
    intro o3 H locs ls hZ hl h
    refine lv_aload_n hx hb dX6_read_64 rfl (lv_at hl 1 rfl) ?_
    refine k_get hX hZ.1 0 6 rfl rfl iw_X6 4 rfl (wm_559) (v := .int (o_F o3 4)) rfl dX6_read_65 ?_
    cases h
    exact k_iretW hX hr hZ dX6_read_68
  refine lv_icmp_eq (tgt := 35) hx hb dX6_read_30 (by decide) (fun cd => ?_) (fun cd => ?_)
  · replace h := k_t cd h
    clear cd
    refine lv_aload_n hx hb dX6_read_35 rfl (lv_at hl 1 rfl) ?_
    refine lv_iload_n hx hb dX6_read_36 rfl (lv_at hl 3 rfl) ?_
    refine k_put (wf := (fun o => wd_X6 aC a_t o ++ wd_X1 aC a_n u2.2.2)) (o := u2.2.1) hX hZ 0 6 rfl rfl iw_X6 tyX6 tyX6_ok nmX6 2 rfl (wm_558) rfl rfl rfl rfl rfl h dX6_read_37 (fun o3 H locs hZ h => ?_)
    refine lv_aload_n hx hb dX6_read_40 rfl (lv_at hl 1 rfl) ?_
    refine k_get hX hZ.1 0 6 rfl rfl iw_X6 3 rfl (wm_561) (v := .int (o_F o3 3)) rfl dX6_read_41 ?_
    refine lv_if_ne (tgt := 49) hx hb dX6_read_44 (by decide) (fun cd => ?_) (fun cd => ?_)
    · replace h := k_f cd h
      clear cd
      refine lv_aload_n hx hb dX6_read_49 rfl (lv_at hl 1 rfl) ?_
      refine lv_bipush (v := 59) hx hb dX6_read_50 (by decide) ?_
      obtain ⟨u4, hu, h⟩ := k_bd h
      refine k_vR (As := [.int (59 : Int32)]) (rest := []) (wc := wd_X6 aC a_t o3) (v := some (.int u4)) (st1 := [.int u4]) hX hl.1 hZ (c_X6_isSign (a_t := a_t) o3 (59 : Int32) hu) (gv_ wr_11 wr_12 wr_13 wr_14 wr_15) rfl hd_X6_isSign ⟨rfl, rfl⟩ 6 0 rfl rfl [0, 1] rfl rfl rfl rfl rfl dX6_read_52 rfl ⟨rfl, rfl⟩ (fun locs hZ => ?_)
      clear hu
      refine lv_if_eq (tgt := 64) hx hb dX6_read_55 (by decide) (fun cd => ?_) (fun cd => ?_)
      · replace h := k_t cd h
        exact fin64 o3 _ _ _ hZ hl h
      · replace h := k_f cd h
        clear cd
        refine lv_iload_n hx hb dX6_read_58 rfl (lv_at hl 3 rfl) ?_
        refine lv_bipush (v := 24) hx hb dX6_read_59 (by decide) ?_
        refine lv_icmp_ne (tgt := 69) hx hb dX6_read_61 (by decide) (fun cd => ?_) (fun cd => ?_)
        · replace h := k_f cd h
          clear cd
          refine lv_aload_n hx hb dX6_read_69 rfl (lv_at hl 1 rfl) ?_
          obtain ⟨u5, hu, h⟩ := k_bd h
          refine k_vW (As := []) (rest := []) (wc := wd_X6 aC a_t o3) (v := none) (st1 := []) (w' := wd_X6 aC a_t u5 ++ wd_X1 aC a_n u2.2.2) hX hl.1 hZ (c_X6_step (a_t := a_t) o3 hu) (gv_ wr_1 wr_2 wr_3 wr_4 wr_5) rfl hd_X6_step ⟨rfl, rfl⟩ 6 0 rfl rfl [0, 1] rfl rfl rfl rfl rfl dX6_read_70 rfl ⟨rfl, rfl⟩ rfl rfl rfl (fun H locs hZ => ?_)
          clear hu
          refine lv_iinc (v := (x2 + (1 : Int32))) (lv' := [(2, .int (x2 + (1 : Int32))), (3, .int u2.1), (0, .ref (a_t 0)), (1, .ref (a_n 0))]) hx hb dX6_read_73 hl (k := 3) rfl rfl (by decide) rfl (fun ls hl => ?_)
          refine lv_goto (tgt := 16) hx hb dX6_read_76 (by decide) ?_
          exact hrec _ h H locs ls hZ (lv_sub hl [2, 3, 0] rfl)
        · replace h := k_t cd h
          exact fin64 o3 _ _ _ hZ hl h
    · replace h := k_t cd h
      clear cd
      refine lv_iconst (v := -1) hx hb dX6_read_47 (by decide) ?_
      cases h
      exact k_iretW hX hr hZ dX6_read_48
  · replace h := k_f cd h
    clear cd
    refine lv_iload_n hx hb dX6_read_33 rfl (lv_at hl 0 rfl) ?_
    cases h
    exact k_iretW hX hr hZ dX6_read_34
end
