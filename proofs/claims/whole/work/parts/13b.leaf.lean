abbrev blX0 : List Value := [.null, .null, .null, .null, .null, .int 0]
theorem blX0_ok : ∀ j, j < 6 → defaultValue (tyX0 j) = vp_V blX0 j := fun j hj => by
  rcases (show j = 0 ∨ j = 1 ∨ j = 2 ∨ j = 3 ∨ j = 4 ∨ j = 5 by omega) with rfl | rfl | rfl | rfl | rfl | rfl <;> rfl
abbrev blX1 : List Value := [.null, .null, .null, .null, .null, .null, .int 0]
theorem blX1_ok : ∀ j, j < 7 → defaultValue (tyX1 j) = vp_V blX1 j := fun j hj => by
  rcases (show j = 0 ∨ j = 1 ∨ j = 2 ∨ j = 3 ∨ j = 4 ∨ j = 5 ∨ j = 6 by omega) with rfl | rfl | rfl | rfl | rfl | rfl | rfl <;> rfl
abbrev blX2 : List Value := [.null, .null, .null]
theorem blX2_ok : ∀ j, j < 3 → defaultValue (tyX2 j) = vp_V blX2 j := fun j hj => by
  rcases (show j = 0 ∨ j = 1 ∨ j = 2 by omega) with rfl | rfl | rfl <;> rfl
abbrev blX3 : List Value := [.null, .null, .int 0]
theorem blX3_ok : ∀ j, j < 3 → defaultValue (tyX3 j) = vp_V blX3 j := fun j hj => by
  rcases (show j = 0 ∨ j = 1 ∨ j = 2 by omega) with rfl | rfl | rfl <;> rfl
abbrev blX4 : List Value := [.null, .null, .int 0, .int 0, .int 0, .int 0]
theorem blX4_ok : ∀ j, j < 6 → defaultValue (tyX4 j) = vp_V blX4 j := fun j hj => by
  rcases (show j = 0 ∨ j = 1 ∨ j = 2 ∨ j = 3 ∨ j = 4 ∨ j = 5 by omega) with rfl | rfl | rfl | rfl | rfl | rfl <;> rfl
abbrev blX5 : List Value := [.null, .null, .null, .null, .null, .null, .int 0]
theorem blX5_ok : ∀ j, j < 7 → defaultValue (tyX5 j) = vp_V blX5 j := fun j hj => by
  rcases (show j = 0 ∨ j = 1 ∨ j = 2 ∨ j = 3 ∨ j = 4 ∨ j = 5 ∨ j = 6 by omega) with rfl | rfl | rfl | rfl | rfl | rfl | rfl <;> rfl
abbrev blX6 : List Value := [.null, .int 0, .int 0, .int 0, .int 0, .int 0, .int 0, .int 0, .int 0]
theorem blX6_ok : ∀ j, j < 9 → defaultValue (tyX6 j) = vp_V blX6 j := fun j hj => by
  rcases (show j = 0 ∨ j = 1 ∨ j = 2 ∨ j = 3 ∨ j = 4 ∨ j = 5 ∨ j = 6 ∨ j = 7 ∨ j = 8 by omega) with rfl | rfl | rfl | rfl | rfl | rfl | rfl | rfl | rfl <;> rfl
abbrev blX7 : List Value := [.null, .null, .null, .int 0, .int 0, .int 0]
theorem blX7_ok : ∀ j, j < 6 → defaultValue (tyX7 j) = vp_V blX7 j := fun j hj => by
  rcases (show j = 0 ∨ j = 1 ∨ j = 2 ∨ j = 3 ∨ j = 4 ∨ j = 5 by omega) with rfl | rfl | rfl | rfl | rfl | rfl <;> rfl
abbrev blX8 : List Value := [.null, .null, .null, .null, .null, .null, .null, .null, .null, .int 0, .int 0]
theorem blX8_ok : ∀ j, j < 11 → defaultValue (tyX8 j) = vp_V blX8 j := fun j hj => by
  rcases (show j = 0 ∨ j = 1 ∨ j = 2 ∨ j = 3 ∨ j = 4 ∨ j = 5 ∨ j = 6 ∨ j = 7 ∨ j = 8 ∨ j = 9 ∨ j = 10 by omega) with rfl | rfl | rfl | rfl | rfl | rfl | rfl | rfl | rfl | rfl | rfl <;> rfl
abbrev blX9 : List Value := [.null, .null, .int 0, .int 0, .null, .null, .int 0, .null, .null, .null, .int 0, .int 0, .null, .null, .null, .null, .null, .null, .int 0, .int 0, .int 0, .int 0, .null, .null, .null, .null, .null, .null, .null, .null, .int 0, .null, .null, .null, .null, .int 0, .int 0, .null, .null, .int 0, .int 0, .int 0, .int 0, .null]
theorem blX9_ok : ∀ j, j < 44 → defaultValue (tyX9 j) = vp_V blX9 j := fun j hj => by
  rcases (show j = 0 ∨ j = 1 ∨ j = 2 ∨ j = 3 ∨ j = 4 ∨ j = 5 ∨ j = 6 ∨ j = 7 ∨ j = 8 ∨ j = 9 ∨ j = 10 ∨ j = 11 ∨ j = 12 ∨ j = 13 ∨ j = 14 ∨ j = 15 ∨ j = 16 ∨ j = 17 ∨ j = 18 ∨ j = 19 ∨ j = 20 ∨ j = 21 ∨ j = 22 ∨ j = 23 ∨ j = 24 ∨ j = 25 ∨ j = 26 ∨ j = 27 ∨ j = 28 ∨ j = 29 ∨ j = 30 ∨ j = 31 ∨ j = 32 ∨ j = 33 ∨ j = 34 ∨ j = 35 ∨ j = 36 ∨ j = 37 ∨ j = 38 ∨ j = 39 ∨ j = 40 ∨ j = 41 ∨ j = 42 ∨ j = 43 by omega) with rfl | rfl | rfl | rfl | rfl | rfl | rfl | rfl | rfl | rfl | rfl | rfl | rfl | rfl | rfl | rfl | rfl | rfl | rfl | rfl | rfl | rfl | rfl | rfl | rfl | rfl | rfl | rfl | rfl | rfl | rfl | rfl | rfl | rfl | rfl | rfl | rfl | rfl | rfl | rfl | rfl | rfl | rfl | rfl <;> rfl
theorem dX0_init_0 : decode cX0_init 0 = .ok (.aload_n 0, 1) := by decide +kernel
theorem dX0_init_1 : decode cX0_init 1 = .ok (.invokespecial 3, 3) := by decide +kernel
theorem dX0_init_4 : decode cX0_init 4 = .ok (.aload_n 0, 1) := by decide +kernel
theorem dX0_init_5 : decode cX0_init 5 = .ok (.iconst 4, 1) := by decide +kernel
theorem dX0_init_6 : decode cX0_init 6 = .ok (.newarray .int, 2) := by decide +kernel
theorem dX0_init_8 : decode cX0_init 8 = .ok (.putfield 9, 3) := by decide +kernel
theorem dX0_init_11 : decode cX0_init 11 = .ok (.aload_n 0, 1) := by decide +kernel
theorem dX0_init_12 : decode cX0_init 12 = .ok (.bipush 8, 2) := by decide +kernel
theorem dX0_init_14 : decode cX0_init 14 = .ok (.newarray .int, 2) := by decide +kernel
theorem dX0_init_16 : decode cX0_init 16 = .ok (.putfield 15, 3) := by decide +kernel
theorem dX0_init_19 : decode cX0_init 19 = .ok (.aload_n 0, 1) := by decide +kernel
theorem dX0_init_20 : decode cX0_init 20 = .ok (.bipush 8, 2) := by decide +kernel
theorem dX0_init_22 : decode cX0_init 22 = .ok (.newarray .int, 2) := by decide +kernel
theorem dX0_init_24 : decode cX0_init 24 = .ok (.putfield 18, 3) := by decide +kernel
theorem dX0_init_27 : decode cX0_init 27 = .ok (.aload_n 0, 1) := by decide +kernel
theorem dX0_init_28 : decode cX0_init 28 = .ok (.bipush 8, 2) := by decide +kernel
theorem dX0_init_30 : decode cX0_init 30 = .ok (.newarray .int, 2) := by decide +kernel
theorem dX0_init_32 : decode cX0_init 32 = .ok (.putfield 21, 3) := by decide +kernel
theorem dX0_init_35 : decode cX0_init 35 = .ok (.aload_n 0, 1) := by decide +kernel
theorem dX0_init_36 : decode cX0_init 36 = .ok (.iconst 2, 1) := by decide +kernel
theorem dX0_init_37 : decode cX0_init 37 = .ok (.newarray .boolean, 2) := by decide +kernel
theorem dX0_init_39 : decode cX0_init 39 = .ok (.putfield 24, 3) := by decide +kernel
theorem dX0_init_42 : decode cX0_init 42 = .ok (.aload_n 0, 1) := by decide +kernel
theorem dX0_init_43 : decode cX0_init 43 = .ok (.getfield 9, 3) := by decide +kernel
theorem dX0_init_46 : decode cX0_init 46 = .ok (.iconst (-1), 1) := by decide +kernel
theorem dX0_init_47 : decode cX0_init 47 = .ok (.invokestatic 28, 3) := by decide +kernel
theorem dX0_init_50 : decode cX0_init 50 = .ok (.return_, 1) := by decide +kernel
theorem wi_1 : Cond.methodLink RX0 3 objectInit ∈ WL_ := wl_in (tj_1 (List.mem_of_getElem? (i := 150) rfl)) rfl
theorem wi_2 : Cond.instanceMethod objectInit ∈ WL_ := wl_in (tj_1 (List.mem_of_getElem? (i := 25) rfl)) rfl
theorem wi_3 : Cond.code objectInit ⟨#[0xb1]⟩ 1 none ∈ WL_ := wl_in (tj_1 (List.mem_of_getElem? (i := 26) rfl)) rfl
theorem wi_4 : Cond.arrayClass .int ∈ WL_ := wl_in (tj_1 (List.mem_of_getElem? (i := 90) rfl)) rfl
theorem wi_5 : Cond.fieldLink RX0 9 "ShapeFrames$Given" "numbers" "[I" ∈ WL_ := wl_in (tj_1 (List.mem_of_getElem? (i := 154) rfl)) rfl
theorem wi_6 : Cond.fieldLink RX0 15 "ShapeFrames$Given" "undoLetter" "[I" ∈ WL_ := wl_in (tj_1 (List.mem_of_getElem? (i := 155) rfl)) rfl
theorem wi_7 : Cond.fieldLink RX0 18 "ShapeFrames$Given" "undoNumber" "[I" ∈ WL_ := wl_in (tj_1 (List.mem_of_getElem? (i := 156) rfl)) rfl
theorem wi_8 : Cond.fieldLink RX0 21 "ShapeFrames$Given" "stored" "[I" ∈ WL_ := wl_in (tj_1 (List.mem_of_getElem? (i := 157) rfl)) rfl
theorem wi_9 : Cond.arrayClass .boolean ∈ WL_ := wl_in (tj_1 (List.mem_of_getElem? (i := 173) rfl)) rfl
theorem wi_10 : Cond.fieldLink RX0 24 "ShapeFrames$Given" "isStored" "[Z" ∈ WL_ := wl_in (tj_1 (List.mem_of_getElem? (i := 158) rfl)) rfl
theorem wi_11 : Cond.methodLink RX0 28 yJ7_fill_53178 ∈ WL_ := wl_in (tj_1 (List.mem_of_getElem? (i := 151) rfl)) rfl
def wlX0_init : List Cond := .code yX0_init cX0_init 1 none :: WL_
set_option maxHeartbeats 4000000 in
set_option maxRecDepth 100000 in
theorem c_X0_init {l : Launch} {D : va_G} {aC : Nat → ClassId} (h0 : Nat) : M_I l yX0_init wlX0_init 1 23 5 30 D aC [.ref h0] [(h0, .inr (0, blX0))] (fun w => ∃ a : Nat → Nat, a 0 = h0 ∧ w = wd_X0 aC a (p_A ob_0 0 (fl_ (fun _ => 0) 0 4 (-1)))) := by
  refine k_entI (cc := cX0_init) (maxL := 1) (own := RX0) (by decide) rfl rfl rfl rfl ?_
  intro p e s m below meth c A ls hN hX hnm hr hZ hl
  have hl : lv_has ls 1 [(0, .ref h0)] := hl
  generalize ([.ref h0] : List Value).toArray = args at hX ⊢
  obtain ⟨hx, hb, hml, hown, hts, hK, hA, hlk⟩ := id hX
  generalize hH : s.heap = H at hZ ⊢
  generalize ([] : List Loc) = locs at hZ ⊢
  refine lv_aload_n hx hb dX0_init_0 rfl (lv_at hl 0 rfl) ?_
  refine k_objI hX hl.1 wi_1 wi_2 wi_3 rfl rfl dX0_init_1 ?_
  refine lv_aload_n hx hb dX0_init_4 rfl (lv_at hl 0 rfl) ?_
  refine lv_iconst (v := 4) hx hb dX0_init_5 (by decide) ?_
  refine k_newa (i := 0) (a0 := (4, .inl (fun _ => 0))) (N' := 4) hX hZ wi_4 rfl rfl (Or.inl rfl) (fun _ => rfl) (by decide) (by decide) rfl rfl rfl dX0_init_6 (fun q1 H hZ => ?_)
  refine k_putI (ty := tyX0 0) hX hnm hZ (C := RX0) (T := TX0) (N := 6) rfl iw_X0 tyX0 tyX0_ok nmX0 0 rfl (wi_5) rfl rfl (tyX0_ok 0 (by decide)) rfl rfl rfl dX0_init_8 (fun H locs hZ => ?_)
  refine lv_aload_n hx hb dX0_init_11 rfl (lv_at hl 0 rfl) ?_
  refine lv_bipush (v := 8) hx hb dX0_init_12 (by decide) ?_
  refine k_newa (i := 0) (a0 := (8, .inl (fun _ => 0))) (N' := 8) hX hZ wi_4 rfl rfl (Or.inl rfl) (fun _ => rfl) (by decide) (by decide) rfl rfl rfl dX0_init_14 (fun q2 H hZ => ?_)
  refine k_putI (ty := tyX0 1) hX hnm hZ (C := RX0) (T := TX0) (N := 6) rfl iw_X0 tyX0 tyX0_ok nmX0 1 rfl (wi_6) rfl rfl (tyX0_ok 1 (by decide)) rfl rfl rfl dX0_init_16 (fun H locs hZ => ?_)
  refine lv_aload_n hx hb dX0_init_19 rfl (lv_at hl 0 rfl) ?_
  refine lv_bipush (v := 8) hx hb dX0_init_20 (by decide) ?_
  refine k_newa (i := 0) (a0 := (8, .inl (fun _ => 0))) (N' := 8) hX hZ wi_4 rfl rfl (Or.inl rfl) (fun _ => rfl) (by decide) (by decide) rfl rfl rfl dX0_init_22 (fun q3 H hZ => ?_)
  refine k_putI (ty := tyX0 2) hX hnm hZ (C := RX0) (T := TX0) (N := 6) rfl iw_X0 tyX0 tyX0_ok nmX0 2 rfl (wi_7) rfl rfl (tyX0_ok 2 (by decide)) rfl rfl rfl dX0_init_24 (fun H locs hZ => ?_)
  refine lv_aload_n hx hb dX0_init_27 rfl (lv_at hl 0 rfl) ?_
  refine lv_bipush (v := 8) hx hb dX0_init_28 (by decide) ?_
  refine k_newa (i := 0) (a0 := (8, .inl (fun _ => 0))) (N' := 8) hX hZ wi_4 rfl rfl (Or.inl rfl) (fun _ => rfl) (by decide) (by decide) rfl rfl rfl dX0_init_30 (fun q4 H hZ => ?_)
  refine k_putI (ty := tyX0 3) hX hnm hZ (C := RX0) (T := TX0) (N := 6) rfl iw_X0 tyX0 tyX0_ok nmX0 3 rfl (wi_8) rfl rfl (tyX0_ok 3 (by decide)) rfl rfl rfl dX0_init_32 (fun H locs hZ => ?_)
  refine lv_aload_n hx hb dX0_init_35 rfl (lv_at hl 0 rfl) ?_
  refine lv_iconst (v := 2) hx hb dX0_init_36 (by decide) ?_
  refine k_newa (i := 1) (a0 := (2, .inl (fun _ => 0))) (N' := 2) hX hZ wi_9 rfl rfl (Or.inr (Or.inl rfl)) (fun _ => rfl) (by decide) (by decide) rfl rfl rfl dX0_init_37 (fun q5 H hZ => ?_)
  refine k_putI (ty := tyX0 4) hX hnm hZ (C := RX0) (T := TX0) (N := 6) rfl iw_X0 tyX0 tyX0_ok nmX0 4 rfl (wi_10) rfl rfl (tyX0_ok 4 (by decide)) rfl rfl rfl dX0_init_39 (fun H locs hZ => ?_)
  refine lv_aload_n hx hb dX0_init_42 rfl (lv_at hl 0 rfl) ?_
  refine k_get hX hZ.1 0 0 rfl rfl iw_X0 0 rfl (wi_5) (v := .ref q1) rfl dX0_init_43 ?_
  refine lv_iconst (v := -1) hx hb dX0_init_46 (by decide) ?_
  refine k_sW (As := [.ref q1, .int (-1 : Int32)]) (rest := []) (wc := wd_AR aC (fun _ => q1) 4 (p_A ob_0 0 (fun _ => 0))) (v := none) (st1 := []) (w1 := wd_AR aC (fun _ => q1) 4 (p_A (p_A ob_0 0 (fun _ => 0)) 0 (fl_ (fun _ => 0) 0 4 (-1)))) (w' := wd_X0 aC (fun k => [h0, q1, q2, q3, q4, q5].getD k 0) (p_A ob_0 0 (fl_ (fun _ => 0) 0 4 (-1)))) hX hl.1 hZ (c_J7_fill_53178 (a_ar := (fun _ => q1)) (z_ar := 4) (p_A ob_0 0 (fun _ => 0)) (-1 : Int32) (j_fill0 _ _ (by decide))) (gs_ wi_11 wm_295 wm_4 wm_294) rfl hd_J7_fill_53178 ⟨rfl, rfl⟩ [1] rfl rfl rfl rfl rfl dX0_init_47 rfl ⟨rfl, rfl⟩ rfl rfl rfl (fun H locs hZ => ?_)
  exact k_retI hX hr hZ ⟨fun k => [h0, q1, q2, q3, q4, q5].getD k 0, rfl, rfl⟩ rfl rfl dX0_init_50
theorem dX1_init_0 : decode cX1_init 0 = .ok (.aload_n 0, 1) := by decide +kernel
theorem dX1_init_1 : decode cX1_init 1 = .ok (.invokespecial 3, 3) := by decide +kernel
theorem dX1_init_4 : decode cX1_init 4 = .ok (.aload_n 0, 1) := by decide +kernel
theorem dX1_init_5 : decode cX1_init 5 = .ok (.bipush 10, 2) := by decide +kernel
theorem dX1_init_7 : decode cX1_init 7 = .ok (.newarray .int, 2) := by decide +kernel
theorem dX1_init_9 : decode cX1_init 9 = .ok (.putfield 9, 3) := by decide +kernel
theorem dX1_init_12 : decode cX1_init 12 = .ok (.aload_n 0, 1) := by decide +kernel
theorem dX1_init_13 : decode cX1_init 13 = .ok (.bipush 10, 2) := by decide +kernel
theorem dX1_init_15 : decode cX1_init 15 = .ok (.newarray .int, 2) := by decide +kernel
theorem dX1_init_17 : decode cX1_init 17 = .ok (.putfield 15, 3) := by decide +kernel
theorem dX1_init_20 : decode cX1_init 20 = .ok (.aload_n 0, 1) := by decide +kernel
theorem dX1_init_21 : decode cX1_init 21 = .ok (.bipush 10, 2) := by decide +kernel
theorem dX1_init_23 : decode cX1_init 23 = .ok (.newarray .int, 2) := by decide +kernel
theorem dX1_init_25 : decode cX1_init 25 = .ok (.putfield 18, 3) := by decide +kernel
theorem dX1_init_28 : decode cX1_init 28 = .ok (.aload_n 0, 1) := by decide +kernel
theorem dX1_init_29 : decode cX1_init 29 = .ok (.bipush 10, 2) := by decide +kernel
theorem dX1_init_31 : decode cX1_init 31 = .ok (.newarray .int, 2) := by decide +kernel
theorem dX1_init_33 : decode cX1_init 33 = .ok (.putfield 21, 3) := by decide +kernel
theorem dX1_init_36 : decode cX1_init 36 = .ok (.aload_n 0, 1) := by decide +kernel
theorem dX1_init_37 : decode cX1_init 37 = .ok (.bipush 10, 2) := by decide +kernel
theorem dX1_init_39 : decode cX1_init 39 = .ok (.newarray .int, 2) := by decide +kernel
theorem dX1_init_41 : decode cX1_init 41 = .ok (.putfield 24, 3) := by decide +kernel
theorem dX1_init_44 : decode cX1_init 44 = .ok (.aload_n 0, 1) := by decide +kernel
theorem dX1_init_45 : decode cX1_init 45 = .ok (.bipush 60, 2) := by decide +kernel
theorem dX1_init_47 : decode cX1_init 47 = .ok (.newarray .int, 2) := by decide +kernel
theorem dX1_init_49 : decode cX1_init 49 = .ok (.putfield 27, 3) := by decide +kernel
theorem dX1_init_52 : decode cX1_init 52 = .ok (.return_, 1) := by decide +kernel
theorem wi_12 : Cond.methodLink RX1 3 objectInit ∈ WL_ := wl_in (tj_1 (List.mem_of_getElem? (i := 67) rfl)) rfl
theorem wi_13 : Cond.fieldLink RX1 9 "ShapeFrames$Nodes" "kind" "[I" ∈ WL_ := wl_in (tj_1 (List.mem_of_getElem? (i := 68) rfl)) rfl
theorem wi_14 : Cond.fieldLink RX1 15 "ShapeFrames$Nodes" "first" "[I" ∈ WL_ := wl_in (tj_1 (List.mem_of_getElem? (i := 69) rfl)) rfl
theorem wi_15 : Cond.fieldLink RX1 18 "ShapeFrames$Nodes" "second" "[I" ∈ WL_ := wl_in (tj_1 (List.mem_of_getElem? (i := 70) rfl)) rfl
theorem wi_16 : Cond.fieldLink RX1 21 "ShapeFrames$Nodes" "rank" "[I" ∈ WL_ := wl_in (tj_1 (List.mem_of_getElem? (i := 71) rfl)) rfl
theorem wi_17 : Cond.fieldLink RX1 24 "ShapeFrames$Nodes" "axes" "[I" ∈ WL_ := wl_in (tj_1 (List.mem_of_getElem? (i := 72) rfl)) rfl
theorem wi_18 : Cond.fieldLink RX1 27 "ShapeFrames$Nodes" "extents" "[I" ∈ WL_ := wl_in (tj_1 (List.mem_of_getElem? (i := 73) rfl)) rfl
def wlX1_init : List Cond := .code yX1_init cX1_init 1 none :: WL_
set_option maxHeartbeats 4000000 in
set_option maxRecDepth 100000 in
theorem c_X1_init {l : Launch} {D : va_G} {aC : Nat → ClassId} (h0 : Nat) : M_I l yX1_init wlX1_init 1 12 6 110 D aC [.ref h0] [(h0, .inr (1, blX1))] (fun w => ∃ a : Nat → Nat, a 0 = h0 ∧ w = wd_X1 aC a ob_0) := by
  refine k_entI (cc := cX1_init) (maxL := 1) (own := RX1) (by decide) rfl rfl rfl rfl ?_
  intro p e s m below meth c A ls hN hX hnm hr hZ hl
  have hl : lv_has ls 1 [(0, .ref h0)] := hl
  generalize ([.ref h0] : List Value).toArray = args at hX ⊢
  obtain ⟨hx, hb, hml, hown, hts, hK, hA, hlk⟩ := id hX
  generalize hH : s.heap = H at hZ ⊢
  generalize ([] : List Loc) = locs at hZ ⊢
  refine lv_aload_n hx hb dX1_init_0 rfl (lv_at hl 0 rfl) ?_
  refine k_objI hX hl.1 wi_12 wi_2 wi_3 rfl rfl dX1_init_1 ?_
  refine lv_aload_n hx hb dX1_init_4 rfl (lv_at hl 0 rfl) ?_
  refine lv_bipush (v := 10) hx hb dX1_init_5 (by decide) ?_
  refine k_newa (i := 0) (a0 := (10, .inl (fun _ => 0))) (N' := 10) hX hZ wi_4 rfl rfl (Or.inl rfl) (fun _ => rfl) (by decide) (by decide) rfl rfl rfl dX1_init_7 (fun q1 H hZ => ?_)
  refine k_putI (ty := tyX1 0) hX hnm hZ (C := RX1) (T := TX1) (N := 7) rfl iw_X1 tyX1 tyX1_ok nmX1 0 rfl (wi_13) rfl rfl (tyX1_ok 0 (by decide)) rfl rfl rfl dX1_init_9 (fun H locs hZ => ?_)
  refine lv_aload_n hx hb dX1_init_12 rfl (lv_at hl 0 rfl) ?_
  refine lv_bipush (v := 10) hx hb dX1_init_13 (by decide) ?_
  refine k_newa (i := 0) (a0 := (10, .inl (fun _ => 0))) (N' := 10) hX hZ wi_4 rfl rfl (Or.inl rfl) (fun _ => rfl) (by decide) (by decide) rfl rfl rfl dX1_init_15 (fun q2 H hZ => ?_)
  refine k_putI (ty := tyX1 1) hX hnm hZ (C := RX1) (T := TX1) (N := 7) rfl iw_X1 tyX1 tyX1_ok nmX1 1 rfl (wi_14) rfl rfl (tyX1_ok 1 (by decide)) rfl rfl rfl dX1_init_17 (fun H locs hZ => ?_)
  refine lv_aload_n hx hb dX1_init_20 rfl (lv_at hl 0 rfl) ?_
  refine lv_bipush (v := 10) hx hb dX1_init_21 (by decide) ?_
  refine k_newa (i := 0) (a0 := (10, .inl (fun _ => 0))) (N' := 10) hX hZ wi_4 rfl rfl (Or.inl rfl) (fun _ => rfl) (by decide) (by decide) rfl rfl rfl dX1_init_23 (fun q3 H hZ => ?_)
  refine k_putI (ty := tyX1 2) hX hnm hZ (C := RX1) (T := TX1) (N := 7) rfl iw_X1 tyX1 tyX1_ok nmX1 2 rfl (wi_15) rfl rfl (tyX1_ok 2 (by decide)) rfl rfl rfl dX1_init_25 (fun H locs hZ => ?_)
  refine lv_aload_n hx hb dX1_init_28 rfl (lv_at hl 0 rfl) ?_
  refine lv_bipush (v := 10) hx hb dX1_init_29 (by decide) ?_
  refine k_newa (i := 0) (a0 := (10, .inl (fun _ => 0))) (N' := 10) hX hZ wi_4 rfl rfl (Or.inl rfl) (fun _ => rfl) (by decide) (by decide) rfl rfl rfl dX1_init_31 (fun q4 H hZ => ?_)
  refine k_putI (ty := tyX1 3) hX hnm hZ (C := RX1) (T := TX1) (N := 7) rfl iw_X1 tyX1 tyX1_ok nmX1 3 rfl (wi_16) rfl rfl (tyX1_ok 3 (by decide)) rfl rfl rfl dX1_init_33 (fun H locs hZ => ?_)
  refine lv_aload_n hx hb dX1_init_36 rfl (lv_at hl 0 rfl) ?_
  refine lv_bipush (v := 10) hx hb dX1_init_37 (by decide) ?_
  refine k_newa (i := 0) (a0 := (10, .inl (fun _ => 0))) (N' := 10) hX hZ wi_4 rfl rfl (Or.inl rfl) (fun _ => rfl) (by decide) (by decide) rfl rfl rfl dX1_init_39 (fun q5 H hZ => ?_)
  refine k_putI (ty := tyX1 4) hX hnm hZ (C := RX1) (T := TX1) (N := 7) rfl iw_X1 tyX1 tyX1_ok nmX1 4 rfl (wi_17) rfl rfl (tyX1_ok 4 (by decide)) rfl rfl rfl dX1_init_41 (fun H locs hZ => ?_)
  refine lv_aload_n hx hb dX1_init_44 rfl (lv_at hl 0 rfl) ?_
  refine lv_bipush (v := 60) hx hb dX1_init_45 (by decide) ?_
  refine k_newa (i := 0) (a0 := (60, .inl (fun _ => 0))) (N' := 60) hX hZ wi_4 rfl rfl (Or.inl rfl) (fun _ => rfl) (by decide) (by decide) rfl rfl rfl dX1_init_47 (fun q6 H hZ => ?_)
  refine k_putI (ty := tyX1 5) hX hnm hZ (C := RX1) (T := TX1) (N := 7) rfl iw_X1 tyX1 tyX1_ok nmX1 5 rfl (wi_18) rfl rfl (tyX1_ok 5 (by decide)) rfl rfl rfl dX1_init_49 (fun H locs hZ => ?_)
  exact k_retI hX hr hZ ⟨fun k => [h0, q1, q2, q3, q4, q5, q6].getD k 0, rfl, rfl⟩ rfl rfl dX1_init_52
theorem dX2_init_0 : decode cX2_init 0 = .ok (.aload_n 0, 1) := by decide +kernel
theorem dX2_init_1 : decode cX2_init 1 = .ok (.invokespecial 3, 3) := by decide +kernel
theorem dX2_init_4 : decode cX2_init 4 = .ok (.aload_n 0, 1) := by decide +kernel
theorem dX2_init_5 : decode cX2_init 5 = .ok (.bipush 30, 2) := by decide +kernel
theorem dX2_init_7 : decode cX2_init 7 = .ok (.newarray .int, 2) := by decide +kernel
theorem dX2_init_9 : decode cX2_init 9 = .ok (.putfield 9, 3) := by decide +kernel
theorem dX2_init_12 : decode cX2_init 12 = .ok (.aload_n 0, 1) := by decide +kernel
theorem dX2_init_13 : decode cX2_init 13 = .ok (.iconst 3, 1) := by decide +kernel
theorem dX2_init_14 : decode cX2_init 14 = .ok (.newarray .int, 2) := by decide +kernel
theorem dX2_init_16 : decode cX2_init 16 = .ok (.putfield 15, 3) := by decide +kernel
theorem dX2_init_19 : decode cX2_init 19 = .ok (.aload_n 0, 1) := by decide +kernel
theorem dX2_init_20 : decode cX2_init 20 = .ok (.iconst 3, 1) := by decide +kernel
theorem dX2_init_21 : decode cX2_init 21 = .ok (.newarray .int, 2) := by decide +kernel
theorem dX2_init_23 : decode cX2_init 23 = .ok (.putfield 18, 3) := by decide +kernel
theorem dX2_init_26 : decode cX2_init 26 = .ok (.aload_n 0, 1) := by decide +kernel
theorem dX2_init_27 : decode cX2_init 27 = .ok (.getfield 15, 3) := by decide +kernel
theorem dX2_init_30 : decode cX2_init 30 = .ok (.iconst (-1), 1) := by decide +kernel
theorem dX2_init_31 : decode cX2_init 31 = .ok (.invokestatic 21, 3) := by decide +kernel
theorem dX2_init_34 : decode cX2_init 34 = .ok (.return_, 1) := by decide +kernel
theorem wi_19 : Cond.methodLink RX2 3 objectInit ∈ WL_ := wl_in (tj_1 (List.mem_of_getElem? (i := 220) rfl)) rfl
theorem wi_20 : Cond.fieldLink RX2 9 "ShapeFrames$Rows" "places" "[I" ∈ WL_ := wl_in (tj_1 (List.mem_of_getElem? (i := 222) rfl)) rfl
theorem wi_21 : Cond.fieldLink RX2 15 "ShapeFrames$Rows" "sizes" "[I" ∈ WL_ := wl_in (tj_1 (List.mem_of_getElem? (i := 223) rfl)) rfl
theorem wi_22 : Cond.fieldLink RX2 18 "ShapeFrames$Rows" "sorts" "[I" ∈ WL_ := wl_in (tj_1 (List.mem_of_getElem? (i := 224) rfl)) rfl
theorem wi_23 : Cond.methodLink RX2 21 yJ7_fill_53178 ∈ WL_ := wl_in (tj_1 (List.mem_of_getElem? (i := 221) rfl)) rfl
def wlX2_init : List Cond := .code yX2_init cX2_init 1 none :: WL_
set_option maxHeartbeats 4000000 in
set_option maxRecDepth 100000 in
theorem c_X2_init {l : Launch} {D : va_G} {aC : Nat → ClassId} (h0 : Nat) : M_I l yX2_init wlX2_init 1 23 3 36 D aC [.ref h0] [(h0, .inr (2, blX2))] (fun w => ∃ a : Nat → Nat, a 0 = h0 ∧ w = wd_X2 aC a (p_A ob_0 1 (fl_ (fun _ => 0) 0 3 (-1)))) := by
  refine k_entI (cc := cX2_init) (maxL := 1) (own := RX2) (by decide) rfl rfl rfl rfl ?_
  intro p e s m below meth c A ls hN hX hnm hr hZ hl
  have hl : lv_has ls 1 [(0, .ref h0)] := hl
  generalize ([.ref h0] : List Value).toArray = args at hX ⊢
  obtain ⟨hx, hb, hml, hown, hts, hK, hA, hlk⟩ := id hX
  generalize hH : s.heap = H at hZ ⊢
  generalize ([] : List Loc) = locs at hZ ⊢
  refine lv_aload_n hx hb dX2_init_0 rfl (lv_at hl 0 rfl) ?_
  refine k_objI hX hl.1 wi_19 wi_2 wi_3 rfl rfl dX2_init_1 ?_
  refine lv_aload_n hx hb dX2_init_4 rfl (lv_at hl 0 rfl) ?_
  refine lv_bipush (v := 30) hx hb dX2_init_5 (by decide) ?_
  refine k_newa (i := 0) (a0 := (30, .inl (fun _ => 0))) (N' := 30) hX hZ wi_4 rfl rfl (Or.inl rfl) (fun _ => rfl) (by decide) (by decide) rfl rfl rfl dX2_init_7 (fun q1 H hZ => ?_)
  refine k_putI (ty := tyX2 0) hX hnm hZ (C := RX2) (T := TX2) (N := 3) rfl iw_X2 tyX2 tyX2_ok nmX2 0 rfl (wi_20) rfl rfl (tyX2_ok 0 (by decide)) rfl rfl rfl dX2_init_9 (fun H locs hZ => ?_)
  refine lv_aload_n hx hb dX2_init_12 rfl (lv_at hl 0 rfl) ?_
  refine lv_iconst (v := 3) hx hb dX2_init_13 (by decide) ?_
  refine k_newa (i := 0) (a0 := (3, .inl (fun _ => 0))) (N' := 3) hX hZ wi_4 rfl rfl (Or.inl rfl) (fun _ => rfl) (by decide) (by decide) rfl rfl rfl dX2_init_14 (fun q2 H hZ => ?_)
  refine k_putI (ty := tyX2 1) hX hnm hZ (C := RX2) (T := TX2) (N := 3) rfl iw_X2 tyX2 tyX2_ok nmX2 1 rfl (wi_21) rfl rfl (tyX2_ok 1 (by decide)) rfl rfl rfl dX2_init_16 (fun H locs hZ => ?_)
  refine lv_aload_n hx hb dX2_init_19 rfl (lv_at hl 0 rfl) ?_
  refine lv_iconst (v := 3) hx hb dX2_init_20 (by decide) ?_
  refine k_newa (i := 0) (a0 := (3, .inl (fun _ => 0))) (N' := 3) hX hZ wi_4 rfl rfl (Or.inl rfl) (fun _ => rfl) (by decide) (by decide) rfl rfl rfl dX2_init_21 (fun q3 H hZ => ?_)
  refine k_putI (ty := tyX2 2) hX hnm hZ (C := RX2) (T := TX2) (N := 3) rfl iw_X2 tyX2 tyX2_ok nmX2 2 rfl (wi_22) rfl rfl (tyX2_ok 2 (by decide)) rfl rfl rfl dX2_init_23 (fun H locs hZ => ?_)
  refine lv_aload_n hx hb dX2_init_26 rfl (lv_at hl 0 rfl) ?_
  refine k_get hX hZ.1 0 2 rfl rfl iw_X2 1 rfl (wi_21) (v := .ref q2) rfl dX2_init_27 ?_
  refine lv_iconst (v := -1) hx hb dX2_init_30 (by decide) ?_
  refine k_sW (As := [.ref q2, .int (-1 : Int32)]) (rest := []) (wc := wd_AR aC (fun _ => q2) 3 (p_A ob_0 0 (fun _ => 0))) (v := none) (st1 := []) (w1 := wd_AR aC (fun _ => q2) 3 (p_A (p_A ob_0 0 (fun _ => 0)) 0 (fl_ (fun _ => 0) 0 3 (-1)))) (w' := wd_X2 aC (fun k => [h0, q1, q2, q3].getD k 0) (p_A ob_0 1 (fl_ (fun _ => 0) 0 3 (-1)))) hX hl.1 hZ (c_J7_fill_53178 (a_ar := (fun _ => q2)) (z_ar := 3) (p_A ob_0 0 (fun _ => 0)) (-1 : Int32) (j_fill0 _ _ (by decide))) (gs_ wi_23 wm_295 wm_4 wm_294) rfl hd_J7_fill_53178 ⟨rfl, rfl⟩ [2] rfl rfl rfl rfl rfl dX2_init_31 rfl ⟨rfl, rfl⟩ rfl rfl rfl (fun H locs hZ => ?_)
  exact k_retI hX hr hZ ⟨fun k => [h0, q1, q2, q3].getD k 0, rfl, rfl⟩ rfl rfl dX2_init_34
theorem dX3_init_0 : decode cX3_init 0 = .ok (.aload_n 0, 1) := by decide +kernel
theorem dX3_init_1 : decode cX3_init 1 = .ok (.invokespecial 3, 3) := by decide +kernel
theorem dX3_init_4 : decode cX3_init 4 = .ok (.aload_n 0, 1) := by decide +kernel
theorem dX3_init_5 : decode cX3_init 5 = .ok (.bipush 6, 2) := by decide +kernel
theorem dX3_init_7 : decode cX3_init 7 = .ok (.newarray .int, 2) := by decide +kernel
theorem dX3_init_9 : decode cX3_init 9 = .ok (.putfield 9, 3) := by decide +kernel
theorem dX3_init_12 : decode cX3_init 12 = .ok (.aload_n 0, 1) := by decide +kernel
theorem dX3_init_13 : decode cX3_init 13 = .ok (.bipush 6, 2) := by decide +kernel
theorem dX3_init_15 : decode cX3_init 15 = .ok (.newarray .int, 2) := by decide +kernel
theorem dX3_init_17 : decode cX3_init 17 = .ok (.putfield 15, 3) := by decide +kernel
theorem dX3_init_20 : decode cX3_init 20 = .ok (.return_, 1) := by decide +kernel
theorem wi_24 : Cond.methodLink RX3 3 objectInit ∈ WL_ := wl_in (tj_1 (List.mem_of_getElem? (i := 204) rfl)) rfl
theorem wi_25 : Cond.fieldLink RX3 9 "ShapeFrames$Seen" "asked" "[I" ∈ WL_ := wl_in (tj_1 (List.mem_of_getElem? (i := 205) rfl)) rfl
theorem wi_26 : Cond.fieldLink RX3 15 "ShapeFrames$Seen" "answered" "[I" ∈ WL_ := wl_in (tj_1 (List.mem_of_getElem? (i := 206) rfl)) rfl
def wlX3_init : List Cond := .code yX3_init cX3_init 1 none :: WL_
set_option maxHeartbeats 4000000 in
set_option maxRecDepth 100000 in
theorem c_X3_init {l : Launch} {D : va_G} {aC : Nat → ClassId} (h0 : Nat) : M_I l yX3_init wlX3_init 1 12 2 12 D aC [.ref h0] [(h0, .inr (3, blX3))] (fun w => ∃ a : Nat → Nat, a 0 = h0 ∧ w = wd_X3 aC a ob_0) := by
  refine k_entI (cc := cX3_init) (maxL := 1) (own := RX3) (by decide) rfl rfl rfl rfl ?_
  intro p e s m below meth c A ls hN hX hnm hr hZ hl
  have hl : lv_has ls 1 [(0, .ref h0)] := hl
  generalize ([.ref h0] : List Value).toArray = args at hX ⊢
  obtain ⟨hx, hb, hml, hown, hts, hK, hA, hlk⟩ := id hX
  generalize hH : s.heap = H at hZ ⊢
  generalize ([] : List Loc) = locs at hZ ⊢
  refine lv_aload_n hx hb dX3_init_0 rfl (lv_at hl 0 rfl) ?_
  refine k_objI hX hl.1 wi_24 wi_2 wi_3 rfl rfl dX3_init_1 ?_
  refine lv_aload_n hx hb dX3_init_4 rfl (lv_at hl 0 rfl) ?_
  refine lv_bipush (v := 6) hx hb dX3_init_5 (by decide) ?_
  refine k_newa (i := 0) (a0 := (6, .inl (fun _ => 0))) (N' := 6) hX hZ wi_4 rfl rfl (Or.inl rfl) (fun _ => rfl) (by decide) (by decide) rfl rfl rfl dX3_init_7 (fun q1 H hZ => ?_)
  refine k_putI (ty := tyX3 0) hX hnm hZ (C := RX3) (T := TX3) (N := 3) rfl iw_X3 tyX3 tyX3_ok nmX3 0 rfl (wi_25) rfl rfl (tyX3_ok 0 (by decide)) rfl rfl rfl dX3_init_9 (fun H locs hZ => ?_)
  refine lv_aload_n hx hb dX3_init_12 rfl (lv_at hl 0 rfl) ?_
  refine lv_bipush (v := 6) hx hb dX3_init_13 (by decide) ?_
  refine k_newa (i := 0) (a0 := (6, .inl (fun _ => 0))) (N' := 6) hX hZ wi_4 rfl rfl (Or.inl rfl) (fun _ => rfl) (by decide) (by decide) rfl rfl rfl dX3_init_15 (fun q2 H hZ => ?_)
  refine k_putI (ty := tyX3 1) hX hnm hZ (C := RX3) (T := TX3) (N := 3) rfl iw_X3 tyX3 tyX3_ok nmX3 1 rfl (wi_26) rfl rfl (tyX3_ok 1 (by decide)) rfl rfl rfl dX3_init_17 (fun H locs hZ => ?_)
  exact k_retI hX hr hZ ⟨fun k => [h0, q1, q2].getD k 0, rfl, rfl⟩ rfl rfl dX3_init_20
theorem dX4_init_0 : decode cX4_init 0 = .ok (.aload_n 0, 1) := by decide +kernel
theorem dX4_init_1 : decode cX4_init 1 = .ok (.invokespecial 3, 3) := by decide +kernel
theorem dX4_init_4 : decode cX4_init 4 = .ok (.aload_n 0, 1) := by decide +kernel
theorem dX4_init_5 : decode cX4_init 5 = .ok (.iconst 2, 1) := by decide +kernel
theorem dX4_init_6 : decode cX4_init 6 = .ok (.newarray .long, 2) := by decide +kernel
theorem dX4_init_8 : decode cX4_init 8 = .ok (.putfield 9, 3) := by decide +kernel
theorem dX4_init_11 : decode cX4_init 11 = .ok (.aload_n 0, 1) := by decide +kernel
theorem dX4_init_12 : decode cX4_init 12 = .ok (.iconst 2, 1) := by decide +kernel
theorem dX4_init_13 : decode cX4_init 13 = .ok (.newarray .long, 2) := by decide +kernel
theorem dX4_init_15 : decode cX4_init 15 = .ok (.putfield 15, 3) := by decide +kernel
theorem dX4_init_18 : decode cX4_init 18 = .ok (.return_, 1) := by decide +kernel
theorem wi_27 : Cond.methodLink RX4 3 objectInit ∈ WL_ := wl_in (tj_1 (List.mem_of_getElem? (i := 102) rfl)) rfl
theorem wi_28 : Cond.arrayClass .long ∈ WL_ := wl_in (tj_1 (List.mem_of_getElem? (i := 122) rfl)) rfl
theorem wi_29 : Cond.fieldLink RX4 9 "ShapeFrames$Sides" "sums" "[J" ∈ WL_ := wl_in (tj_1 (List.mem_of_getElem? (i := 103) rfl)) rfl
theorem wi_30 : Cond.fieldLink RX4 15 "ShapeFrames$Sides" "products" "[J" ∈ WL_ := wl_in (tj_1 (List.mem_of_getElem? (i := 104) rfl)) rfl
def wlX4_init : List Cond := .code yX4_init cX4_init 1 none :: WL_
set_option maxHeartbeats 4000000 in
set_option maxRecDepth 100000 in
theorem c_X4_init {l : Launch} {D : va_G} {aC : Nat → ClassId} (h0 : Nat) : M_I l yX4_init wlX4_init 1 12 2 4 D aC [.ref h0] [(h0, .inr (4, blX4))] (fun w => ∃ a : Nat → Nat, a 0 = h0 ∧ w = wd_X4 aC a ob_0) := by
  refine k_entI (cc := cX4_init) (maxL := 1) (own := RX4) (by decide) rfl rfl rfl rfl ?_
  intro p e s m below meth c A ls hN hX hnm hr hZ hl
  have hl : lv_has ls 1 [(0, .ref h0)] := hl
  generalize ([.ref h0] : List Value).toArray = args at hX ⊢
  obtain ⟨hx, hb, hml, hown, hts, hK, hA, hlk⟩ := id hX
  generalize hH : s.heap = H at hZ ⊢
  generalize ([] : List Loc) = locs at hZ ⊢
  refine lv_aload_n hx hb dX4_init_0 rfl (lv_at hl 0 rfl) ?_
  refine k_objI hX hl.1 wi_27 wi_2 wi_3 rfl rfl dX4_init_1 ?_
  refine lv_aload_n hx hb dX4_init_4 rfl (lv_at hl 0 rfl) ?_
  refine lv_iconst (v := 2) hx hb dX4_init_5 (by decide) ?_
  refine k_newa (i := 2) (a0 := (2, .inr (.inl (fun _ => 0)))) (N' := 2) hX hZ wi_28 rfl rfl (Or.inr (Or.inr (Or.inl rfl))) (fun _ => rfl) (by decide) (by decide) rfl rfl rfl dX4_init_6 (fun q1 H hZ => ?_)
  refine k_putI (ty := tyX4 0) hX hnm hZ (C := RX4) (T := TX4) (N := 6) rfl iw_X4 tyX4 tyX4_ok nmX4 0 rfl (wi_29) rfl rfl (tyX4_ok 0 (by decide)) rfl rfl rfl dX4_init_8 (fun H locs hZ => ?_)
  refine lv_aload_n hx hb dX4_init_11 rfl (lv_at hl 0 rfl) ?_
  refine lv_iconst (v := 2) hx hb dX4_init_12 (by decide) ?_
  refine k_newa (i := 2) (a0 := (2, .inr (.inl (fun _ => 0)))) (N' := 2) hX hZ wi_28 rfl rfl (Or.inr (Or.inr (Or.inl rfl))) (fun _ => rfl) (by decide) (by decide) rfl rfl rfl dX4_init_13 (fun q2 H hZ => ?_)
  refine k_putI (ty := tyX4 1) hX hnm hZ (C := RX4) (T := TX4) (N := 6) rfl iw_X4 tyX4 tyX4_ok nmX4 1 rfl (wi_30) rfl rfl (tyX4_ok 1 (by decide)) rfl rfl rfl dX4_init_15 (fun H locs hZ => ?_)
  exact k_retI hX hr hZ ⟨fun k => [h0, q1, q2].getD k 0, rfl, rfl⟩ rfl rfl dX4_init_18
theorem dX6_init_0 : decode cX6_init 0 = .ok (.aload_n 0, 1) := by decide +kernel
theorem dX6_init_1 : decode cX6_init 1 = .ok (.invokespecial 3, 3) := by decide +kernel
theorem dX6_init_4 : decode cX6_init 4 = .ok (.aload_n 0, 1) := by decide +kernel
theorem dX6_init_5 : decode cX6_init 5 = .ok (.sipush 200, 3) := by decide +kernel
theorem dX6_init_8 : decode cX6_init 8 = .ok (.newarray .char, 2) := by decide +kernel
theorem dX6_init_10 : decode cX6_init 10 = .ok (.putfield 9, 3) := by decide +kernel
theorem dX6_init_13 : decode cX6_init 13 = .ok (.return_, 1) := by decide +kernel
theorem wi_31 : Cond.methodLink RX6 3 objectInit ∈ WL_ := wl_in (tj_1 (List.mem_of_getElem? (i := 32) rfl)) rfl
theorem wi_32 : Cond.arrayClass .char ∈ WL_ := wl_in (tj_1 (List.mem_of_getElem? (i := 61) rfl)) rfl
theorem wi_33 : Cond.fieldLink RX6 9 "ShapeFrames$Text" "letters" "[C" ∈ WL_ := wl_in (tj_1 (List.mem_of_getElem? (i := 33) rfl)) rfl
def wlX6_init : List Cond := .code yX6_init cX6_init 1 none :: WL_
set_option maxHeartbeats 4000000 in
set_option maxRecDepth 100000 in
theorem c_X6_init {l : Launch} {D : va_G} {aC : Nat → ClassId} (h0 : Nat) : M_I l yX6_init wlX6_init 1 12 1 200 D aC [.ref h0] [(h0, .inr (6, blX6))] (fun w => ∃ a : Nat → Nat, a 0 = h0 ∧ w = wd_X6 aC a ob_0) := by
  refine k_entI (cc := cX6_init) (maxL := 1) (own := RX6) (by decide) rfl rfl rfl rfl ?_
  intro p e s m below meth c A ls hN hX hnm hr hZ hl
  have hl : lv_has ls 1 [(0, .ref h0)] := hl
  generalize ([.ref h0] : List Value).toArray = args at hX ⊢
  obtain ⟨hx, hb, hml, hown, hts, hK, hA, hlk⟩ := id hX
  generalize hH : s.heap = H at hZ ⊢
  generalize ([] : List Loc) = locs at hZ ⊢
  refine lv_aload_n hx hb dX6_init_0 rfl (lv_at hl 0 rfl) ?_
  refine k_objI hX hl.1 wi_31 wi_2 wi_3 rfl rfl dX6_init_1 ?_
  refine lv_aload_n hx hb dX6_init_4 rfl (lv_at hl 0 rfl) ?_
  refine lv_sipush (v := 200) hx hb dX6_init_5 (by decide) ?_
  refine k_newa (i := 3) (a0 := (200, .inl (fun _ => 0))) (N' := 200) hX hZ wi_32 rfl rfl (Or.inr (Or.inr (Or.inr rfl))) (fun _ => rfl) (by decide) (by decide) rfl rfl rfl dX6_init_8 (fun q1 H hZ => ?_)
  refine k_putI (ty := tyX6 0) hX hnm hZ (C := RX6) (T := TX6) (N := 9) rfl iw_X6 tyX6 tyX6_ok nmX6 0 rfl (wi_33) rfl rfl (tyX6_ok 0 (by decide)) rfl rfl rfl dX6_init_10 (fun H locs hZ => ?_)
  exact k_retI hX hr hZ ⟨fun k => [h0, q1].getD k 0, rfl, rfl⟩ rfl rfl dX6_init_13
theorem dX7_init_0 : decode cX7_init 0 = .ok (.aload_n 0, 1) := by decide +kernel
theorem dX7_init_1 : decode cX7_init 1 = .ok (.invokespecial 3, 3) := by decide +kernel
theorem dX7_init_4 : decode cX7_init 4 = .ok (.aload_n 0, 1) := by decide +kernel
theorem dX7_init_5 : decode cX7_init 5 = .ok (.iconst 4, 1) := by decide +kernel
theorem dX7_init_6 : decode cX7_init 6 = .ok (.newarray .int, 2) := by decide +kernel
theorem dX7_init_8 : decode cX7_init 8 = .ok (.putfield 9, 3) := by decide +kernel
theorem dX7_init_11 : decode cX7_init 11 = .ok (.aload_n 0, 1) := by decide +kernel
theorem dX7_init_12 : decode cX7_init 12 = .ok (.iconst 4, 1) := by decide +kernel
theorem dX7_init_13 : decode cX7_init 13 = .ok (.newarray .int, 2) := by decide +kernel
theorem dX7_init_15 : decode cX7_init 15 = .ok (.putfield 15, 3) := by decide +kernel
theorem dX7_init_18 : decode cX7_init 18 = .ok (.aload_n 0, 1) := by decide +kernel
theorem dX7_init_19 : decode cX7_init 19 = .ok (.aload_n 1, 1) := by decide +kernel
theorem dX7_init_20 : decode cX7_init 20 = .ok (.putfield 18, 3) := by decide +kernel
theorem dX7_init_23 : decode cX7_init 23 = .ok (.return_, 1) := by decide +kernel
theorem wi_34 : Cond.methodLink RX7 3 objectInit ∈ WL_ := wl_in (tj_1 (List.mem_of_getElem? (i := 179) rfl)) rfl
theorem wi_35 : Cond.fieldLink RX7 9 "ShapeFrames$Ways" "chosen" "[I" ∈ WL_ := wl_in (tj_1 (List.mem_of_getElem? (i := 181) rfl)) rfl
theorem wi_36 : Cond.fieldLink RX7 15 "ShapeFrames$Ways" "firstWay" "[I" ∈ WL_ := wl_in (tj_1 (List.mem_of_getElem? (i := 182) rfl)) rfl
theorem wi_37 : Cond.fieldLink RX7 18 "ShapeFrames$Ways" "solver" "LShapeFrames$Solver;" ∈ WL_ := wl_in (tj_1 (List.mem_of_getElem? (i := 180) rfl)) rfl
def wlX7_init : List Cond := .code yX7_init cX7_init 2 none :: WL_
set_option maxHeartbeats 4000000 in
set_option maxRecDepth 100000 in
theorem c_X7_init {l : Launch} {D : va_G} {aC : Nat → ClassId} (h0 : Nat) (r0 : Nat) : M_I l yX7_init wlX7_init 1 12 2 8 D aC [.ref h0, .ref r0] [(h0, .inr (7, blX7))] (fun w => ∃ a : Nat → Nat, a 0 = h0 ∧ w = wd_X7 aC a r0 ob_0) := by
  refine k_entI (cc := cX7_init) (maxL := 2) (own := RX7) (by decide) rfl rfl rfl rfl ?_
  intro p e s m below meth c A ls hN hX hnm hr hZ hl
  have hl : lv_has ls 2 [(0, .ref h0), (1, .ref r0)] := hl
  generalize ([.ref h0, .ref r0] : List Value).toArray = args at hX ⊢
  obtain ⟨hx, hb, hml, hown, hts, hK, hA, hlk⟩ := id hX
  generalize hH : s.heap = H at hZ ⊢
  generalize ([] : List Loc) = locs at hZ ⊢
  refine lv_aload_n hx hb dX7_init_0 rfl (lv_at hl 0 rfl) ?_
  refine k_objI hX hl.1 wi_34 wi_2 wi_3 rfl rfl dX7_init_1 ?_
  refine lv_aload_n hx hb dX7_init_4 rfl (lv_at hl 0 rfl) ?_
  refine lv_iconst (v := 4) hx hb dX7_init_5 (by decide) ?_
  refine k_newa (i := 0) (a0 := (4, .inl (fun _ => 0))) (N' := 4) hX hZ wi_4 rfl rfl (Or.inl rfl) (fun _ => rfl) (by decide) (by decide) rfl rfl rfl dX7_init_6 (fun q1 H hZ => ?_)
  refine k_putI (ty := tyX7 1) hX hnm hZ (C := RX7) (T := TX7) (N := 6) rfl iw_X7 tyX7 tyX7_ok nmX7 1 rfl (wi_35) rfl rfl (tyX7_ok 1 (by decide)) rfl rfl rfl dX7_init_8 (fun H locs hZ => ?_)
  refine lv_aload_n hx hb dX7_init_11 rfl (lv_at hl 0 rfl) ?_
  refine lv_iconst (v := 4) hx hb dX7_init_12 (by decide) ?_
  refine k_newa (i := 0) (a0 := (4, .inl (fun _ => 0))) (N' := 4) hX hZ wi_4 rfl rfl (Or.inl rfl) (fun _ => rfl) (by decide) (by decide) rfl rfl rfl dX7_init_13 (fun q2 H hZ => ?_)
  refine k_putI (ty := tyX7 2) hX hnm hZ (C := RX7) (T := TX7) (N := 6) rfl iw_X7 tyX7 tyX7_ok nmX7 2 rfl (wi_36) rfl rfl (tyX7_ok 2 (by decide)) rfl rfl rfl dX7_init_15 (fun H locs hZ => ?_)
  refine lv_aload_n hx hb dX7_init_18 rfl (lv_at hl 0 rfl) ?_
  refine lv_aload_n hx hb dX7_init_19 rfl (lv_at hl 1 rfl) ?_
  refine k_putI (ty := tyX7 0) hX hnm hZ (C := RX7) (T := TX7) (N := 6) rfl iw_X7 tyX7 tyX7_ok nmX7 0 rfl (wi_37) rfl rfl (tyX7_ok 0 (by decide)) rfl rfl rfl dX7_init_20 (fun H locs hZ => ?_)
  exact k_retI hX hr hZ ⟨fun k => [h0, q1, q2].getD k 0, rfl, rfl⟩ rfl rfl dX7_init_23
