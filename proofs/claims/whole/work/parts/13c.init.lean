section
variable {D : va_G} {A : Nat → Prop} {s : State} {w w' : va_W} {H : Heap} {locs : List Loc}
theorem p_rot {α : Type} (a b w z : List α) : (a ++ (b ++ (w ++ z))).Perm (w ++ (a ++ (b ++ z))) := by
  have h := (List.perm_append_comm (l₁ := a ++ b) (l₂ := w)).append_right z
  simpa only [List.append_assoc] using h
theorem k_Ssub (hZ : K_S D A s w H locs) (is : List Nat) (hn : va_nd is = true) (hs : is.map (fun i => w[i]?) = w'.map some) : K_S D A s w' H locs := ⟨k_P0 hZ.1 is hs, hZ.2.1.sub is hn hs, hZ.2.2⟩
end
theorem hdI_X0 : yX0_init.cls ≠ "java/lang/invoke/MethodHandle" ∧ yX0_init.cls ≠ "java/lang/invoke/VarHandle" ∧ (parseMethodDescriptor yX0_init.desc).map (fun d => d.parameters.length) = some 0 := by decide +kernel
theorem hdI_X1 : yX1_init.cls ≠ "java/lang/invoke/MethodHandle" ∧ yX1_init.cls ≠ "java/lang/invoke/VarHandle" ∧ (parseMethodDescriptor yX1_init.desc).map (fun d => d.parameters.length) = some 0 := by decide +kernel
theorem hdI_X2 : yX2_init.cls ≠ "java/lang/invoke/MethodHandle" ∧ yX2_init.cls ≠ "java/lang/invoke/VarHandle" ∧ (parseMethodDescriptor yX2_init.desc).map (fun d => d.parameters.length) = some 0 := by decide +kernel
theorem hdI_X3 : yX3_init.cls ≠ "java/lang/invoke/MethodHandle" ∧ yX3_init.cls ≠ "java/lang/invoke/VarHandle" ∧ (parseMethodDescriptor yX3_init.desc).map (fun d => d.parameters.length) = some 0 := by decide +kernel
theorem hdI_X4 : yX4_init.cls ≠ "java/lang/invoke/MethodHandle" ∧ yX4_init.cls ≠ "java/lang/invoke/VarHandle" ∧ (parseMethodDescriptor yX4_init.desc).map (fun d => d.parameters.length) = some 0 := by decide +kernel
theorem hdI_X5 : yX5_init.cls ≠ "java/lang/invoke/MethodHandle" ∧ yX5_init.cls ≠ "java/lang/invoke/VarHandle" ∧ (parseMethodDescriptor yX5_init.desc).map (fun d => d.parameters.length) = some 1 := by decide +kernel
theorem hdI_X6 : yX6_init.cls ≠ "java/lang/invoke/MethodHandle" ∧ yX6_init.cls ≠ "java/lang/invoke/VarHandle" ∧ (parseMethodDescriptor yX6_init.desc).map (fun d => d.parameters.length) = some 0 := by decide +kernel
theorem hdI_X7 : yX7_init.cls ≠ "java/lang/invoke/MethodHandle" ∧ yX7_init.cls ≠ "java/lang/invoke/VarHandle" ∧ (parseMethodDescriptor yX7_init.desc).map (fun d => d.parameters.length) = some 1 := by decide +kernel
theorem hdI_X8 : yX8_init.cls ≠ "java/lang/invoke/MethodHandle" ∧ yX8_init.cls ≠ "java/lang/invoke/VarHandle" ∧ (parseMethodDescriptor yX8_init.desc).map (fun d => d.parameters.length) = some 0 := by decide +kernel
theorem hdI_X9 : yX9_init.cls ≠ "java/lang/invoke/MethodHandle" ∧ yX9_init.cls ≠ "java/lang/invoke/VarHandle" ∧ (parseMethodDescriptor yX9_init.desc).map (fun d => d.parameters.length) = some 0 := by decide +kernel
theorem dX5_init_0 : decode cX5_init 0 = .ok (.aload_n 0, 1) := by decide +kernel
theorem dX5_init_1 : decode cX5_init 1 = .ok (.invokespecial 3, 3) := by decide +kernel
theorem dX5_init_4 : decode cX5_init 4 = .ok (.aload_n 0, 1) := by decide +kernel
theorem dX5_init_5 : decode cX5_init 5 = .ok (.new 9, 3) := by decide +kernel
theorem dX5_init_8 : decode cX5_init 8 = .ok (.dup, 1) := by decide +kernel
theorem dX5_init_9 : decode cX5_init 9 = .ok (.invokespecial 11, 3) := by decide +kernel
theorem dX5_init_12 : decode cX5_init 12 = .ok (.putfield 12, 3) := by decide +kernel
theorem dX5_init_15 : decode cX5_init 15 = .ok (.aload_n 0, 1) := by decide +kernel
theorem dX5_init_16 : decode cX5_init 16 = .ok (.bipush 14, 2) := by decide +kernel
theorem dX5_init_18 : decode cX5_init 18 = .ok (.newarray .int, 2) := by decide +kernel
theorem dX5_init_20 : decode cX5_init 20 = .ok (.putfield 18, 3) := by decide +kernel
theorem dX5_init_23 : decode cX5_init 23 = .ok (.aload_n 0, 1) := by decide +kernel
theorem dX5_init_24 : decode cX5_init 24 = .ok (.bipush 14, 2) := by decide +kernel
theorem dX5_init_26 : decode cX5_init 26 = .ok (.newarray .int, 2) := by decide +kernel
theorem dX5_init_28 : decode cX5_init 28 = .ok (.putfield 22, 3) := by decide +kernel
theorem dX5_init_31 : decode cX5_init 31 = .ok (.aload_n 0, 1) := by decide +kernel
theorem dX5_init_32 : decode cX5_init 32 = .ok (.bipush 14, 2) := by decide +kernel
theorem dX5_init_34 : decode cX5_init 34 = .ok (.newarray .int, 2) := by decide +kernel
theorem dX5_init_36 : decode cX5_init 36 = .ok (.putfield 25, 3) := by decide +kernel
theorem dX5_init_39 : decode cX5_init 39 = .ok (.aload_n 0, 1) := by decide +kernel
theorem dX5_init_40 : decode cX5_init 40 = .ok (.iconst 5, 1) := by decide +kernel
theorem dX5_init_41 : decode cX5_init 41 = .ok (.newarray .int, 2) := by decide +kernel
theorem dX5_init_43 : decode cX5_init 43 = .ok (.putfield 28, 3) := by decide +kernel
theorem dX5_init_46 : decode cX5_init 46 = .ok (.aload_n 0, 1) := by decide +kernel
theorem dX5_init_47 : decode cX5_init 47 = .ok (.aload_n 1, 1) := by decide +kernel
theorem dX5_init_48 : decode cX5_init 48 = .ok (.putfield 31, 3) := by decide +kernel
theorem dX5_init_51 : decode cX5_init 51 = .ok (.return_, 1) := by decide +kernel
theorem wjn_1 : Cond.methodLink RX5 3 objectInit ∈ WL_ := wl_in (tj_1 (List.mem_of_getElem? (i := 96) rfl)) rfl
theorem wjn_2 : Cond.instanceMethod objectInit ∈ WL_ := wl_in (tj_1 (List.mem_of_getElem? (i := 25) rfl)) rfl
theorem wjn_3 : Cond.code objectInit ⟨#[0xb1]⟩ 1 none ∈ WL_ := wl_in (tj_1 (List.mem_of_getElem? (i := 26) rfl)) rfl
theorem wjn_4 : Cond.classLink RX5 9 RX4 ∈ WL_ := wl_in (tj_1 (List.mem_of_getElem? (i := 97) rfl)) rfl
theorem wjn_5 : Cond.instantiable RX4 6 ∈ WL_ := wl_in (tj_1 (List.mem_of_getElem? (i := 98) rfl)) rfl
theorem wjn_6 : Cond.initialized RX4 ∈ WL_ := wl_in (tj_1 (List.mem_of_getElem? (i := 5) rfl)) rfl
theorem wjn_7 : Cond.code yX4_init cX4_init 1 none ∈ WL_ := wl_in (tj_1 (List.mem_of_getElem? (i := 101) rfl)) rfl
theorem wjn_8 : Cond.instanceMethod yX4_init ∈ WL_ := wl_in (tj_1 (List.mem_of_getElem? (i := 100) rfl)) rfl
theorem wjn_9 : Cond.fieldLink RX5 12 "ShapeFrames$Solver" "sides" "LShapeFrames$Sides;" ∈ WL_ := wl_in (tj_1 (List.mem_of_getElem? (i := 124) rfl)) rfl
theorem wjn_10 : Cond.arrayClass .int ∈ WL_ := wl_in (tj_1 (List.mem_of_getElem? (i := 90) rfl)) rfl
theorem wjn_11 : Cond.fieldLink RX5 18 "ShapeFrames$Solver" "least" "[I" ∈ WL_ := wl_in (tj_1 (List.mem_of_getElem? (i := 125) rfl)) rfl
theorem wjn_12 : Cond.fieldLink RX5 22 "ShapeFrames$Solver" "number" "[I" ∈ WL_ := wl_in (tj_1 (List.mem_of_getElem? (i := 126) rfl)) rfl
theorem wjn_13 : Cond.fieldLink RX5 25 "ShapeFrames$Solver" "numberMet" "[I" ∈ WL_ := wl_in (tj_1 (List.mem_of_getElem? (i := 127) rfl)) rfl
theorem wjn_14 : Cond.fieldLink RX5 28 "ShapeFrames$Solver" "fail" "[I" ∈ WL_ := wl_in (tj_1 (List.mem_of_getElem? (i := 128) rfl)) rfl
theorem wjn_15 : Cond.fieldLink RX5 31 "ShapeFrames$Solver" "nodes" "LShapeFrames$Nodes;" ∈ WL_ := wl_in (tj_1 (List.mem_of_getElem? (i := 123) rfl)) rfl
def wlX5_init : List Cond := .code yX5_init cX5_init 2 none :: WL_
set_option maxHeartbeats 4000000 in
set_option maxRecDepth 100000 in
theorem c_X5_init {l : Launch} {D : va_G} {aC : Nat → ClassId} (h0 : Nat) (r0 : Nat) : M_I l yX5_init wlX5_init 2 32 7 57 D aC [.ref h0, .ref r0] [(h0, .inr (5, blX5))] (fun w => ∃ a a_d : Nat → Nat, a 0 = h0 ∧ w = wd_X5 aC a r0 (a_d 0) ob_0 ++ wd_X4 aC a_d ob_0) := by
  refine k_entI (cc := cX5_init) (maxL := 2) (own := RX5) (by decide) rfl rfl rfl rfl ?_
  intro p e s m below meth c A ls hN hX hnm hr hZ hl
  have hl : lv_has ls 2 [(0, .ref h0), (1, .ref r0)] := hl
  generalize ([.ref h0, .ref r0] : List Value).toArray = args at hX ⊢
  obtain ⟨hx, hb, hml, hown, hts, hK, hA, hlk⟩ := id hX
  generalize hH : s.heap = H at hZ ⊢
  generalize ([] : List Loc) = locs at hZ ⊢
  refine lv_aload_n hx hb dX5_init_0 rfl (lv_at hl 0 rfl) ?_
  refine k_objI hX hl.1 wjn_1 wjn_2 wjn_3 rfl rfl dX5_init_1 ?_
  refine lv_aload_n hx hb dX5_init_4 rfl (lv_at hl 0 rfl) ?_
  refine k_newI (ci := 4) (fs := blX4) (C := RX4) (T := TX4) (N := 6) hX hZ rfl iw_X4 tyX4 tyX4_ok wjn_4 wjn_5 wjn_6 blX4_ok rfl rfl dX5_init_5 (fun q1 H hZ => ?_)
  refine lv_dup hx hb dX5_init_8 rfl ?_
  refine k_cI (k_runIN (Qc := fun sz => Q_I D (va_A [(q1, .inr (4, blX4))] sz) _) (free := fun sz => va_A [(q1, .inr (4, blX4))] sz) (As := []) (rest := [.ref q1, .ref h0]) hN hX hl.1 (c_X4_init (aC := aC) q1) (gi_ wjn_7) rfl wjn_6 hN.2.2.1 wjn_8 rfl hdI_X4 ⟨rfl, rfl⟩ (k_PL hZ.1) (k_DL hZ.2.1) rfl rfl rfl dX5_init_9 ⟨rfl, rfl⟩) hX hZ (fun w1 H locs hw hZ => ?_)
  obtain ⟨a_d, rfl, rfl⟩ := hw
  have hZ : K_S D A s ((h0, .inr (5, blX5)) :: wd_X4 aC a_d ob_0) H locs := hZ
  refine k_putI (ty := tyX5 1) hX hnm hZ (C := RX5) (T := TX5) (N := 7) rfl iw_X5 tyX5 tyX5_ok nmX5 1 rfl (wjn_9) rfl rfl (tyX5_ok 1 (by decide)) rfl rfl rfl dX5_init_12 (fun H locs hZ => ?_)
  refine lv_aload_n hx hb dX5_init_15 rfl (lv_at hl 0 rfl) ?_
  refine lv_bipush (v := 14) hx hb dX5_init_16 (by decide) ?_
  refine k_newa (i := 0) (a0 := (14, .inl (fun _ => 0))) (N' := 14) hX hZ wjn_10 rfl rfl (Or.inl rfl) (fun _ => rfl) (by decide) (by decide) rfl rfl rfl dX5_init_18 (fun q2 H hZ => ?_)
  refine k_putI (ty := tyX5 2) hX hnm hZ (C := RX5) (T := TX5) (N := 7) rfl iw_X5 tyX5 tyX5_ok nmX5 2 rfl (wjn_11) rfl rfl (tyX5_ok 2 (by decide)) rfl rfl rfl dX5_init_20 (fun H locs hZ => ?_)
  refine lv_aload_n hx hb dX5_init_23 rfl (lv_at hl 0 rfl) ?_
  refine lv_bipush (v := 14) hx hb dX5_init_24 (by decide) ?_
  refine k_newa (i := 0) (a0 := (14, .inl (fun _ => 0))) (N' := 14) hX hZ wjn_10 rfl rfl (Or.inl rfl) (fun _ => rfl) (by decide) (by decide) rfl rfl rfl dX5_init_26 (fun q3 H hZ => ?_)
  refine k_putI (ty := tyX5 3) hX hnm hZ (C := RX5) (T := TX5) (N := 7) rfl iw_X5 tyX5 tyX5_ok nmX5 3 rfl (wjn_12) rfl rfl (tyX5_ok 3 (by decide)) rfl rfl rfl dX5_init_28 (fun H locs hZ => ?_)
  refine lv_aload_n hx hb dX5_init_31 rfl (lv_at hl 0 rfl) ?_
  refine lv_bipush (v := 14) hx hb dX5_init_32 (by decide) ?_
  refine k_newa (i := 0) (a0 := (14, .inl (fun _ => 0))) (N' := 14) hX hZ wjn_10 rfl rfl (Or.inl rfl) (fun _ => rfl) (by decide) (by decide) rfl rfl rfl dX5_init_34 (fun q4 H hZ => ?_)
  refine k_putI (ty := tyX5 4) hX hnm hZ (C := RX5) (T := TX5) (N := 7) rfl iw_X5 tyX5 tyX5_ok nmX5 4 rfl (wjn_13) rfl rfl (tyX5_ok 4 (by decide)) rfl rfl rfl dX5_init_36 (fun H locs hZ => ?_)
  refine lv_aload_n hx hb dX5_init_39 rfl (lv_at hl 0 rfl) ?_
  refine lv_iconst (v := 5) hx hb dX5_init_40 (by decide) ?_
  refine k_newa (i := 0) (a0 := (5, .inl (fun _ => 0))) (N' := 5) hX hZ wjn_10 rfl rfl (Or.inl rfl) (fun _ => rfl) (by decide) (by decide) rfl rfl rfl dX5_init_41 (fun q5 H hZ => ?_)
  refine k_putI (ty := tyX5 5) hX hnm hZ (C := RX5) (T := TX5) (N := 7) rfl iw_X5 tyX5 tyX5_ok nmX5 5 rfl (wjn_14) rfl rfl (tyX5_ok 5 (by decide)) rfl rfl rfl dX5_init_43 (fun H locs hZ => ?_)
  refine lv_aload_n hx hb dX5_init_46 rfl (lv_at hl 0 rfl) ?_
  refine lv_aload_n hx hb dX5_init_47 rfl (lv_at hl 1 rfl) ?_
  refine k_putI (ty := tyX5 0) hX hnm hZ (C := RX5) (T := TX5) (N := 7) rfl iw_X5 tyX5 tyX5_ok nmX5 0 rfl (wjn_15) rfl rfl (tyX5_ok 0 (by decide)) rfl rfl rfl dX5_init_48 (fun H locs hZ => ?_)
  have hZ := k_Ssub (w' := wd_X5 aC (fun k => [h0, q2, q3, q4, q5].getD k 0) r0 (a_d 0) ob_0 ++ wd_X4 aC a_d ob_0) hZ [0, 4, 5, 6, 7, 1, 2, 3] rfl rfl
  exact k_retI hX hr hZ ⟨_, _, rfl, rfl⟩ rfl rfl dX5_init_51
def WX_ (aC : Nat → ClassId) (a : Nat → Nat → Nat) (x t n n2 v d v2 d2 g w v3 d3 q r : Ob_T) : va_W := wd_X8 aC (a 0) (a 1 0) (a 2 0) (a 3 0) (a 4 0) (a 6 0) (a 8 0) (a 9 0) (a 12 0) (a 13 0) x ++ (wd_X6 aC (a 1) t ++ (wd_X1 aC (a 2) n ++ (wd_X1 aC (a 3) n2 ++ (wd_X5 aC (a 4) (a 2 0) (a 5 0) v ++ (wd_X4 aC (a 5) d ++ (wd_X5 aC (a 6) (a 3 0) (a 7 0) v2 ++ (wd_X4 aC (a 7) d2 ++ (wd_X0 aC (a 8) g ++ (wd_X7 aC (a 9) (a 10 0) w ++ (wd_X5 aC (a 10) (a 2 0) (a 11 0) v3 ++ (wd_X4 aC (a 11) d3 ++ (wd_X3 aC (a 12) q ++ wd_X2 aC (a 13) r))))))))))))
theorem dX8_init_0 : decode cX8_init 0 = .ok (.aload_n 0, 1) := by decide +kernel
theorem dX8_init_1 : decode cX8_init 1 = .ok (.invokespecial 3, 3) := by decide +kernel
theorem dX8_init_4 : decode cX8_init 4 = .ok (.aload_n 0, 1) := by decide +kernel
theorem dX8_init_5 : decode cX8_init 5 = .ok (.new 9, 3) := by decide +kernel
theorem dX8_init_8 : decode cX8_init 8 = .ok (.dup, 1) := by decide +kernel
theorem dX8_init_9 : decode cX8_init 9 = .ok (.invokespecial 11, 3) := by decide +kernel
theorem dX8_init_12 : decode cX8_init 12 = .ok (.putfield 12, 3) := by decide +kernel
theorem dX8_init_15 : decode cX8_init 15 = .ok (.aload_n 0, 1) := by decide +kernel
theorem dX8_init_16 : decode cX8_init 16 = .ok (.new 16, 3) := by decide +kernel
theorem dX8_init_19 : decode cX8_init 19 = .ok (.dup, 1) := by decide +kernel
theorem dX8_init_20 : decode cX8_init 20 = .ok (.invokespecial 18, 3) := by decide +kernel
theorem dX8_init_23 : decode cX8_init 23 = .ok (.putfield 19, 3) := by decide +kernel
theorem dX8_init_26 : decode cX8_init 26 = .ok (.aload_n 0, 1) := by decide +kernel
theorem dX8_init_27 : decode cX8_init 27 = .ok (.new 16, 3) := by decide +kernel
theorem dX8_init_30 : decode cX8_init 30 = .ok (.dup, 1) := by decide +kernel
theorem dX8_init_31 : decode cX8_init 31 = .ok (.invokespecial 18, 3) := by decide +kernel
theorem dX8_init_34 : decode cX8_init 34 = .ok (.putfield 23, 3) := by decide +kernel
theorem dX8_init_37 : decode cX8_init 37 = .ok (.aload_n 0, 1) := by decide +kernel
theorem dX8_init_38 : decode cX8_init 38 = .ok (.new 26, 3) := by decide +kernel
theorem dX8_init_41 : decode cX8_init 41 = .ok (.dup, 1) := by decide +kernel
theorem dX8_init_42 : decode cX8_init 42 = .ok (.aload_n 0, 1) := by decide +kernel
theorem dX8_init_43 : decode cX8_init 43 = .ok (.getfield 19, 3) := by decide +kernel
theorem dX8_init_46 : decode cX8_init 46 = .ok (.invokespecial 28, 3) := by decide +kernel
theorem dX8_init_49 : decode cX8_init 49 = .ok (.putfield 31, 3) := by decide +kernel
theorem dX8_init_52 : decode cX8_init 52 = .ok (.aload_n 0, 1) := by decide +kernel
theorem dX8_init_53 : decode cX8_init 53 = .ok (.new 26, 3) := by decide +kernel
theorem dX8_init_56 : decode cX8_init 56 = .ok (.dup, 1) := by decide +kernel
theorem dX8_init_57 : decode cX8_init 57 = .ok (.aload_n 0, 1) := by decide +kernel
theorem dX8_init_58 : decode cX8_init 58 = .ok (.getfield 23, 3) := by decide +kernel
theorem dX8_init_61 : decode cX8_init 61 = .ok (.invokespecial 28, 3) := by decide +kernel
theorem dX8_init_64 : decode cX8_init 64 = .ok (.putfield 35, 3) := by decide +kernel
theorem dX8_init_67 : decode cX8_init 67 = .ok (.aload_n 0, 1) := by decide +kernel
theorem dX8_init_68 : decode cX8_init 68 = .ok (.new 38, 3) := by decide +kernel
theorem dX8_init_71 : decode cX8_init 71 = .ok (.dup, 1) := by decide +kernel
theorem dX8_init_72 : decode cX8_init 72 = .ok (.invokespecial 40, 3) := by decide +kernel
theorem dX8_init_75 : decode cX8_init 75 = .ok (.putfield 41, 3) := by decide +kernel
theorem dX8_init_78 : decode cX8_init 78 = .ok (.aload_n 0, 1) := by decide +kernel
theorem dX8_init_79 : decode cX8_init 79 = .ok (.new 45, 3) := by decide +kernel
theorem dX8_init_82 : decode cX8_init 82 = .ok (.dup, 1) := by decide +kernel
theorem dX8_init_83 : decode cX8_init 83 = .ok (.new 26, 3) := by decide +kernel
theorem dX8_init_86 : decode cX8_init 86 = .ok (.dup, 1) := by decide +kernel
theorem dX8_init_87 : decode cX8_init 87 = .ok (.aload_n 0, 1) := by decide +kernel
theorem dX8_init_88 : decode cX8_init 88 = .ok (.getfield 19, 3) := by decide +kernel
theorem dX8_init_91 : decode cX8_init 91 = .ok (.invokespecial 28, 3) := by decide +kernel
theorem dX8_init_94 : decode cX8_init 94 = .ok (.invokespecial 47, 3) := by decide +kernel
theorem dX8_init_97 : decode cX8_init 97 = .ok (.putfield 50, 3) := by decide +kernel
theorem dX8_init_100 : decode cX8_init 100 = .ok (.aload_n 0, 1) := by decide +kernel
theorem dX8_init_101 : decode cX8_init 101 = .ok (.new 54, 3) := by decide +kernel
theorem dX8_init_104 : decode cX8_init 104 = .ok (.dup, 1) := by decide +kernel
theorem dX8_init_105 : decode cX8_init 105 = .ok (.invokespecial 56, 3) := by decide +kernel
theorem dX8_init_108 : decode cX8_init 108 = .ok (.putfield 57, 3) := by decide +kernel
theorem dX8_init_111 : decode cX8_init 111 = .ok (.aload_n 0, 1) := by decide +kernel
theorem dX8_init_112 : decode cX8_init 112 = .ok (.new 61, 3) := by decide +kernel
theorem dX8_init_115 : decode cX8_init 115 = .ok (.dup, 1) := by decide +kernel
theorem dX8_init_116 : decode cX8_init 116 = .ok (.invokespecial 63, 3) := by decide +kernel
theorem dX8_init_119 : decode cX8_init 119 = .ok (.putfield 64, 3) := by decide +kernel
theorem dX8_init_122 : decode cX8_init 122 = .ok (.aload_n 0, 1) := by decide +kernel
theorem dX8_init_123 : decode cX8_init 123 = .ok (.iconst 0, 1) := by decide +kernel
theorem dX8_init_124 : decode cX8_init 124 = .ok (.putfield 68, 3) := by decide +kernel
theorem dX8_init_127 : decode cX8_init 127 = .ok (.aload_n 0, 1) := by decide +kernel
theorem dX8_init_128 : decode cX8_init 128 = .ok (.iconst 0, 1) := by decide +kernel
theorem dX8_init_129 : decode cX8_init 129 = .ok (.putfield 72, 3) := by decide +kernel
theorem dX8_init_132 : decode cX8_init 132 = .ok (.return_, 1) := by decide +kernel
theorem wjn_16 : Cond.methodLink RX8 3 objectInit ∈ WL_ := wl_in (tj_1 (List.mem_of_getElem? (i := 24) rfl)) rfl
theorem wjn_17 : Cond.classLink RX8 9 RX6 ∈ WL_ := wl_in (tj_1 (List.mem_of_getElem? (i := 27) rfl)) rfl
theorem wjn_18 : Cond.instantiable RX6 9 ∈ WL_ := wl_in (tj_1 (List.mem_of_getElem? (i := 28) rfl)) rfl
theorem wjn_19 : Cond.initialized RX6 ∈ WL_ := wl_in (tj_1 (List.mem_of_getElem? (i := 2) rfl)) rfl
theorem wjn_20 : Cond.code yX6_init cX6_init 1 none ∈ WL_ := wl_in (tj_1 (List.mem_of_getElem? (i := 31) rfl)) rfl
theorem wjn_21 : Cond.instanceMethod yX6_init ∈ WL_ := wl_in (tj_1 (List.mem_of_getElem? (i := 30) rfl)) rfl
theorem wjn_22 : Cond.fieldLink RX8 12 "ShapeFrames" "text" "LShapeFrames$Text;" ∈ WL_ := wl_in (tj_1 (List.mem_of_getElem? (i := 232) rfl)) rfl
theorem wjn_23 : Cond.classLink RX8 16 RX1 ∈ WL_ := wl_in (tj_1 (List.mem_of_getElem? (i := 62) rfl)) rfl
theorem wjn_24 : Cond.instantiable RX1 7 ∈ WL_ := wl_in (tj_1 (List.mem_of_getElem? (i := 63) rfl)) rfl
theorem wjn_25 : Cond.initialized RX1 ∈ WL_ := wl_in (tj_1 (List.mem_of_getElem? (i := 3) rfl)) rfl
theorem wjn_26 : Cond.code yX1_init cX1_init 1 none ∈ WL_ := wl_in (tj_1 (List.mem_of_getElem? (i := 66) rfl)) rfl
theorem wjn_27 : Cond.instanceMethod yX1_init ∈ WL_ := wl_in (tj_1 (List.mem_of_getElem? (i := 65) rfl)) rfl
theorem wjn_28 : Cond.fieldLink RX8 19 "ShapeFrames" "nodes" "LShapeFrames$Nodes;" ∈ WL_ := wl_in (tj_1 (List.mem_of_getElem? (i := 233) rfl)) rfl
theorem wjn_29 : Cond.fieldLink RX8 23 "ShapeFrames" "trial" "LShapeFrames$Nodes;" ∈ WL_ := wl_in (tj_1 (List.mem_of_getElem? (i := 234) rfl)) rfl
theorem wjn_30 : Cond.classLink RX8 26 RX5 ∈ WL_ := wl_in (tj_1 (List.mem_of_getElem? (i := 91) rfl)) rfl
theorem wjn_31 : Cond.instantiable RX5 7 ∈ WL_ := wl_in (tj_1 (List.mem_of_getElem? (i := 92) rfl)) rfl
theorem wjn_32 : Cond.initialized RX5 ∈ WL_ := wl_in (tj_1 (List.mem_of_getElem? (i := 4) rfl)) rfl
theorem wjn_33 : Cond.code yX5_init cX5_init 2 none ∈ WL_ := wl_in (tj_1 (List.mem_of_getElem? (i := 95) rfl)) rfl
theorem wjn_34 : Cond.instanceMethod yX5_init ∈ WL_ := wl_in (tj_1 (List.mem_of_getElem? (i := 94) rfl)) rfl
theorem wjn_35 : Cond.methodLink RX8 28 yX5_init ∈ WL_ := wl_in (tj_1 (List.mem_of_getElem? (i := 93) rfl)) rfl
theorem wjn_36 : Cond.fieldLink RX8 31 "ShapeFrames" "solver" "LShapeFrames$Solver;" ∈ WL_ := wl_in (tj_1 (List.mem_of_getElem? (i := 235) rfl)) rfl
theorem wjn_37 : Cond.fieldLink RX8 35 "ShapeFrames" "trialSolver" "LShapeFrames$Solver;" ∈ WL_ := wl_in (tj_1 (List.mem_of_getElem? (i := 236) rfl)) rfl
theorem wjn_38 : Cond.classLink RX8 38 RX0 ∈ WL_ := wl_in (tj_1 (List.mem_of_getElem? (i := 145) rfl)) rfl
theorem wjn_39 : Cond.instantiable RX0 6 ∈ WL_ := wl_in (tj_1 (List.mem_of_getElem? (i := 146) rfl)) rfl
theorem wjn_40 : Cond.initialized RX0 ∈ WL_ := wl_in (tj_1 (List.mem_of_getElem? (i := 6) rfl)) rfl
theorem wjn_41 : Cond.code yX0_init cX0_init 1 none ∈ WL_ := wl_in (tj_1 (List.mem_of_getElem? (i := 149) rfl)) rfl
theorem wjn_42 : Cond.instanceMethod yX0_init ∈ WL_ := wl_in (tj_1 (List.mem_of_getElem? (i := 148) rfl)) rfl
theorem wjn_43 : Cond.methodLink RX8 40 yX0_init ∈ WL_ := wl_in (tj_1 (List.mem_of_getElem? (i := 147) rfl)) rfl
theorem wjn_44 : Cond.fieldLink RX8 41 "ShapeFrames" "given" "LShapeFrames$Given;" ∈ WL_ := wl_in (tj_1 (List.mem_of_getElem? (i := 237) rfl)) rfl
theorem wjn_45 : Cond.classLink RX8 45 RX7 ∈ WL_ := wl_in (tj_1 (List.mem_of_getElem? (i := 174) rfl)) rfl
theorem wjn_46 : Cond.instantiable RX7 6 ∈ WL_ := wl_in (tj_1 (List.mem_of_getElem? (i := 175) rfl)) rfl
theorem wjn_47 : Cond.initialized RX7 ∈ WL_ := wl_in (tj_1 (List.mem_of_getElem? (i := 8) rfl)) rfl
theorem wjn_48 : Cond.code yX7_init cX7_init 2 none ∈ WL_ := wl_in (tj_1 (List.mem_of_getElem? (i := 178) rfl)) rfl
theorem wjn_49 : Cond.instanceMethod yX7_init ∈ WL_ := wl_in (tj_1 (List.mem_of_getElem? (i := 177) rfl)) rfl
theorem wjn_50 : Cond.methodLink RX8 47 yX7_init ∈ WL_ := wl_in (tj_1 (List.mem_of_getElem? (i := 176) rfl)) rfl
theorem wjn_51 : Cond.fieldLink RX8 50 "ShapeFrames" "found" "LShapeFrames$Ways;" ∈ WL_ := wl_in (tj_1 (List.mem_of_getElem? (i := 238) rfl)) rfl
theorem wjn_52 : Cond.classLink RX8 54 RX3 ∈ WL_ := wl_in (tj_1 (List.mem_of_getElem? (i := 199) rfl)) rfl
theorem wjn_53 : Cond.instantiable RX3 3 ∈ WL_ := wl_in (tj_1 (List.mem_of_getElem? (i := 200) rfl)) rfl
theorem wjn_54 : Cond.initialized RX3 ∈ WL_ := wl_in (tj_1 (List.mem_of_getElem? (i := 9) rfl)) rfl
theorem wjn_55 : Cond.code yX3_init cX3_init 1 none ∈ WL_ := wl_in (tj_1 (List.mem_of_getElem? (i := 203) rfl)) rfl
theorem wjn_56 : Cond.instanceMethod yX3_init ∈ WL_ := wl_in (tj_1 (List.mem_of_getElem? (i := 202) rfl)) rfl
theorem wjn_57 : Cond.fieldLink RX8 57 "ShapeFrames" "shapesSeen" "LShapeFrames$Seen;" ∈ WL_ := wl_in (tj_1 (List.mem_of_getElem? (i := 239) rfl)) rfl
theorem wjn_58 : Cond.classLink RX8 61 RX2 ∈ WL_ := wl_in (tj_1 (List.mem_of_getElem? (i := 215) rfl)) rfl
theorem wjn_59 : Cond.instantiable RX2 3 ∈ WL_ := wl_in (tj_1 (List.mem_of_getElem? (i := 216) rfl)) rfl
theorem wjn_60 : Cond.initialized RX2 ∈ WL_ := wl_in (tj_1 (List.mem_of_getElem? (i := 10) rfl)) rfl
theorem wjn_61 : Cond.code yX2_init cX2_init 1 none ∈ WL_ := wl_in (tj_1 (List.mem_of_getElem? (i := 219) rfl)) rfl
theorem wjn_62 : Cond.instanceMethod yX2_init ∈ WL_ := wl_in (tj_1 (List.mem_of_getElem? (i := 218) rfl)) rfl
theorem wjn_63 : Cond.methodLink RX8 63 yX2_init ∈ WL_ := wl_in (tj_1 (List.mem_of_getElem? (i := 217) rfl)) rfl
theorem wjn_64 : Cond.fieldLink RX8 64 "ShapeFrames" "rows" "LShapeFrames$Rows;" ∈ WL_ := wl_in (tj_2 (List.mem_of_getElem? (i := 0) rfl)) rfl
theorem wjn_65 : Cond.fieldLink RX8 68 "ShapeFrames" "solved" "Z" ∈ WL_ := wl_in (tj_2 (List.mem_of_getElem? (i := 1) rfl)) rfl
theorem wjn_66 : Cond.fieldLink RX8 72 "ShapeFrames" "counted" "Z" ∈ WL_ := wl_in (tj_2 (List.mem_of_getElem? (i := 2) rfl)) rfl
def wlX8_init : List Cond := .code yX8_init cX8_init 1 none :: WL_
set_option maxHeartbeats 4000000 in
set_option maxRecDepth 100000 in
theorem c_X8_init {l : Launch} {D : va_G} {aC : Nat → ClassId} (h0 : Nat) : M_I l yX8_init wlX8_init 3 53 56 739 D aC [.ref h0] [(h0, .inr (8, blX8))] (fun w => ∃ a : Nat → Nat → Nat, a 0 0 = h0 ∧ w = WX_ aC a ob_0 ob_0 ob_0 ob_0 ob_0 ob_0 ob_0 ob_0 (p_A ob_0 0 (fl_ (fun _ => 0) 0 4 (-1))) ob_0 ob_0 ob_0 ob_0 (p_A ob_0 1 (fl_ (fun _ => 0) 0 3 (-1)))) := by
  refine k_entI (cc := cX8_init) (maxL := 1) (own := RX8) (by decide) rfl rfl rfl rfl ?_
  intro p e s m below meth c A ls hN hX hnm hr hZ hl
  have hl : lv_has ls 1 [(0, .ref h0)] := hl
  generalize ([.ref h0] : List Value).toArray = args at hX ⊢
  obtain ⟨hx, hb, hml, hown, hts, hK, hA, hlk⟩ := id hX
  generalize hH : s.heap = H at hZ ⊢
  generalize ([] : List Loc) = locs at hZ ⊢
  refine lv_aload_n hx hb dX8_init_0 rfl (lv_at hl 0 rfl) ?_
  refine k_objI hX hl.1 wjn_16 wjn_2 wjn_3 rfl rfl dX8_init_1 ?_
  obtain ⟨r0, er0⟩ : ∃ r0 : va_W, r0 = [] := ⟨_, rfl⟩
  have hZ : K_S D A s ((h0, .inr (8, [.null, .null, .null, .null, .null, .null, .null, .null, .null, .int 0, .int 0])) :: r0) H locs := by rw [er0]; exact hZ
  refine lv_aload_n hx hb dX8_init_4 rfl (lv_at hl 0 rfl) ?_
  refine k_newI (ci := 6) (fs := blX6) (C := RX6) (T := TX6) (N := 9) hX hZ rfl iw_X6 tyX6 tyX6_ok wjn_17 wjn_18 wjn_19 blX6_ok rfl rfl dX8_init_5 (fun q0 H hZ => ?_)
  refine lv_dup hx hb dX8_init_8 rfl ?_
  refine k_cI (k_runIN (Qc := fun sz => Q_I D (va_A [(q0, .inr (6, blX6))] sz) _) (free := fun sz => va_A [(q0, .inr (6, blX6))] sz) (As := []) (rest := [.ref q0, .ref h0]) hN hX hl.1 (c_X6_init (aC := aC) q0) (gi_ wjn_20) rfl wjn_19 hN.1 wjn_21 rfl hdI_X6 ⟨rfl, rfl⟩ (k_PL hZ.1) (k_DL hZ.2.1) rfl rfl rfl dX8_init_9 ⟨rfl, rfl⟩) hX hZ (fun w1 H locs hw hZ => ?_)
  obtain ⟨a_t, rfl, rfl⟩ := hw
  obtain ⟨r1, er1⟩ : ∃ z : va_W, z = r0 ++ wd_X6 aC a_t ob_0 := ⟨_, rfl⟩
  have hZ : K_S D A s ((h0, .inr (8, [.null, .null, .null, .null, .null, .null, .null, .null, .null, .int 0, .int 0])) :: r1) H locs := by rw [er1]; exact hZ
  refine k_putI (ty := tyX8 0) hX hnm hZ (C := RX8) (T := TX8) (N := 11) rfl iw_X8 tyX8 tyX8_ok nmX8 0 rfl (wjn_22) rfl rfl (tyX8_ok 0 (by decide)) rfl rfl rfl dX8_init_12 (fun H locs hZ => ?_)
  have hZ : K_S D A s ((h0, .inr (8, [.ref (a_t 0), .null, .null, .null, .null, .null, .null, .null, .null, .int 0, .int 0])) :: r1) H locs := hZ
  refine lv_aload_n hx hb dX8_init_15 rfl (lv_at hl 0 rfl) ?_
  refine k_newI (ci := 1) (fs := blX1) (C := RX1) (T := TX1) (N := 7) hX hZ rfl iw_X1 tyX1 tyX1_ok wjn_23 wjn_24 wjn_25 blX1_ok rfl rfl dX8_init_16 (fun q1 H hZ => ?_)
  refine lv_dup hx hb dX8_init_19 rfl ?_
  refine k_cI (k_runIN (Qc := fun sz => Q_I D (va_A [(q1, .inr (1, blX1))] sz) _) (free := fun sz => va_A [(q1, .inr (1, blX1))] sz) (As := []) (rest := [.ref q1, .ref h0]) hN hX hl.1 (c_X1_init (aC := aC) q1) (gi_ wjn_26) rfl wjn_25 hN.2.1 wjn_27 rfl hdI_X1 ⟨rfl, rfl⟩ (k_PL hZ.1) (k_DL hZ.2.1) rfl rfl rfl dX8_init_20 ⟨rfl, rfl⟩) hX hZ (fun w1 H locs hw hZ => ?_)
  obtain ⟨a_n, rfl, rfl⟩ := hw
  obtain ⟨r2, er2⟩ : ∃ z : va_W, z = r1 ++ wd_X1 aC a_n ob_0 := ⟨_, rfl⟩
  have hZ : K_S D A s ((h0, .inr (8, [.ref (a_t 0), .null, .null, .null, .null, .null, .null, .null, .null, .int 0, .int 0])) :: r2) H locs := by rw [er2]; exact hZ
  refine k_putI (ty := tyX8 1) hX hnm hZ (C := RX8) (T := TX8) (N := 11) rfl iw_X8 tyX8 tyX8_ok nmX8 1 rfl (wjn_28) rfl rfl (tyX8_ok 1 (by decide)) rfl rfl rfl dX8_init_23 (fun H locs hZ => ?_)
  have hZ : K_S D A s ((h0, .inr (8, [.ref (a_t 0), .ref (a_n 0), .null, .null, .null, .null, .null, .null, .null, .int 0, .int 0])) :: r2) H locs := hZ
  refine lv_aload_n hx hb dX8_init_26 rfl (lv_at hl 0 rfl) ?_
  refine k_newI (ci := 1) (fs := blX1) (C := RX1) (T := TX1) (N := 7) hX hZ rfl iw_X1 tyX1 tyX1_ok wjn_23 wjn_24 wjn_25 blX1_ok rfl rfl dX8_init_27 (fun q2 H hZ => ?_)
  refine lv_dup hx hb dX8_init_30 rfl ?_
  refine k_cI (k_runIN (Qc := fun sz => Q_I D (va_A [(q2, .inr (1, blX1))] sz) _) (free := fun sz => va_A [(q2, .inr (1, blX1))] sz) (As := []) (rest := [.ref q2, .ref h0]) hN hX hl.1 (c_X1_init (aC := aC) q2) (gi_ wjn_26) rfl wjn_25 hN.2.1 wjn_27 rfl hdI_X1 ⟨rfl, rfl⟩ (k_PL hZ.1) (k_DL hZ.2.1) rfl rfl rfl dX8_init_31 ⟨rfl, rfl⟩) hX hZ (fun w1 H locs hw hZ => ?_)
  obtain ⟨a_n2, rfl, rfl⟩ := hw
  obtain ⟨r3, er3⟩ : ∃ z : va_W, z = r2 ++ wd_X1 aC a_n2 ob_0 := ⟨_, rfl⟩
  have hZ : K_S D A s ((h0, .inr (8, [.ref (a_t 0), .ref (a_n 0), .null, .null, .null, .null, .null, .null, .null, .int 0, .int 0])) :: r3) H locs := by rw [er3]; exact hZ
  refine k_putI (ty := tyX8 2) hX hnm hZ (C := RX8) (T := TX8) (N := 11) rfl iw_X8 tyX8 tyX8_ok nmX8 2 rfl (wjn_29) rfl rfl (tyX8_ok 2 (by decide)) rfl rfl rfl dX8_init_34 (fun H locs hZ => ?_)
  have hZ : K_S D A s ((h0, .inr (8, [.ref (a_t 0), .ref (a_n 0), .ref (a_n2 0), .null, .null, .null, .null, .null, .null, .int 0, .int 0])) :: r3) H locs := hZ
  refine lv_aload_n hx hb dX8_init_37 rfl (lv_at hl 0 rfl) ?_
  refine k_newI (ci := 5) (fs := blX5) (C := RX5) (T := TX5) (N := 7) hX hZ rfl iw_X5 tyX5 tyX5_ok wjn_30 wjn_31 wjn_32 blX5_ok rfl rfl dX8_init_38 (fun q3 H hZ => ?_)
  refine lv_dup hx hb dX8_init_41 rfl ?_
  refine lv_aload_n hx hb dX8_init_42 rfl (lv_at hl 0 rfl) ?_
  refine k_get hX hZ.1 0 8 rfl rfl iw_X8 1 rfl (wjn_28) (v := .ref (a_n 0)) rfl dX8_init_43 ?_
  refine k_cI (k_runI (Qc := fun sz => Q_I D (va_A [(q3, .inr (5, blX5))] sz) _) (free := fun sz => va_A [(q3, .inr (5, blX5))] sz) (As := [.ref (a_n 0)]) (rest := [.ref q3, .ref h0]) hN hX hl.1 (c_X5_init (aC := aC) q3 (a_n 0)) (gi_ wjn_33) rfl wjn_32 wjn_35 wjn_34 rfl hdI_X5 ⟨rfl, rfl⟩ (k_PL hZ.1) (k_DL hZ.2.1) rfl rfl rfl dX8_init_46 ⟨rfl, rfl⟩) hX hZ (fun w1 H locs hw hZ => ?_)
  obtain ⟨a_v, a_d, rfl, rfl⟩ := hw
  obtain ⟨r4, er4⟩ : ∃ z : va_W, z = r3 ++ (wd_X5 aC a_v (a_n 0) (a_d 0) ob_0 ++ wd_X4 aC a_d ob_0) := ⟨_, rfl⟩
  have hZ : K_S D A s ((h0, .inr (8, [.ref (a_t 0), .ref (a_n 0), .ref (a_n2 0), .null, .null, .null, .null, .null, .null, .int 0, .int 0])) :: r4) H locs := by rw [er4]; exact hZ
  refine k_putI (ty := tyX8 3) hX hnm hZ (C := RX8) (T := TX8) (N := 11) rfl iw_X8 tyX8 tyX8_ok nmX8 3 rfl (wjn_36) rfl rfl (tyX8_ok 3 (by decide)) rfl rfl rfl dX8_init_49 (fun H locs hZ => ?_)
  have hZ : K_S D A s ((h0, .inr (8, [.ref (a_t 0), .ref (a_n 0), .ref (a_n2 0), .ref (a_v 0), .null, .null, .null, .null, .null, .int 0, .int 0])) :: r4) H locs := hZ
  refine lv_aload_n hx hb dX8_init_52 rfl (lv_at hl 0 rfl) ?_
  refine k_newI (ci := 5) (fs := blX5) (C := RX5) (T := TX5) (N := 7) hX hZ rfl iw_X5 tyX5 tyX5_ok wjn_30 wjn_31 wjn_32 blX5_ok rfl rfl dX8_init_53 (fun q4 H hZ => ?_)
  refine lv_dup hx hb dX8_init_56 rfl ?_
  refine lv_aload_n hx hb dX8_init_57 rfl (lv_at hl 0 rfl) ?_
  refine k_get hX hZ.1 0 8 rfl rfl iw_X8 2 rfl (wjn_29) (v := .ref (a_n2 0)) rfl dX8_init_58 ?_
  refine k_cI (k_runI (Qc := fun sz => Q_I D (va_A [(q4, .inr (5, blX5))] sz) _) (free := fun sz => va_A [(q4, .inr (5, blX5))] sz) (As := [.ref (a_n2 0)]) (rest := [.ref q4, .ref h0]) hN hX hl.1 (c_X5_init (aC := aC) q4 (a_n2 0)) (gi_ wjn_33) rfl wjn_32 wjn_35 wjn_34 rfl hdI_X5 ⟨rfl, rfl⟩ (k_PL hZ.1) (k_DL hZ.2.1) rfl rfl rfl dX8_init_61 ⟨rfl, rfl⟩) hX hZ (fun w1 H locs hw hZ => ?_)
  obtain ⟨a_v2, a_d2, rfl, rfl⟩ := hw
  obtain ⟨r5, er5⟩ : ∃ z : va_W, z = r4 ++ (wd_X5 aC a_v2 (a_n2 0) (a_d2 0) ob_0 ++ wd_X4 aC a_d2 ob_0) := ⟨_, rfl⟩
  have hZ : K_S D A s ((h0, .inr (8, [.ref (a_t 0), .ref (a_n 0), .ref (a_n2 0), .ref (a_v 0), .null, .null, .null, .null, .null, .int 0, .int 0])) :: r5) H locs := by rw [er5]; exact hZ
  refine k_putI (ty := tyX8 4) hX hnm hZ (C := RX8) (T := TX8) (N := 11) rfl iw_X8 tyX8 tyX8_ok nmX8 4 rfl (wjn_37) rfl rfl (tyX8_ok 4 (by decide)) rfl rfl rfl dX8_init_64 (fun H locs hZ => ?_)
  have hZ : K_S D A s ((h0, .inr (8, [.ref (a_t 0), .ref (a_n 0), .ref (a_n2 0), .ref (a_v 0), .ref (a_v2 0), .null, .null, .null, .null, .int 0, .int 0])) :: r5) H locs := hZ
  refine lv_aload_n hx hb dX8_init_67 rfl (lv_at hl 0 rfl) ?_
  refine k_newI (ci := 0) (fs := blX0) (C := RX0) (T := TX0) (N := 6) hX hZ rfl iw_X0 tyX0 tyX0_ok wjn_38 wjn_39 wjn_40 blX0_ok rfl rfl dX8_init_68 (fun q5 H hZ => ?_)
  refine lv_dup hx hb dX8_init_71 rfl ?_
  refine k_cI (k_runI (Qc := fun sz => Q_I D (va_A [(q5, .inr (0, blX0))] sz) _) (free := fun sz => va_A [(q5, .inr (0, blX0))] sz) (As := []) (rest := [.ref q5, .ref h0]) hN hX hl.1 (c_X0_init (aC := aC) q5) (gi_ wjn_41) rfl wjn_40 wjn_43 wjn_42 rfl hdI_X0 ⟨rfl, rfl⟩ (k_PL hZ.1) (k_DL hZ.2.1) rfl rfl rfl dX8_init_72 ⟨rfl, rfl⟩) hX hZ (fun w1 H locs hw hZ => ?_)
  obtain ⟨a_g, rfl, rfl⟩ := hw
  obtain ⟨r6, er6⟩ : ∃ z : va_W, z = r5 ++ wd_X0 aC a_g (p_A ob_0 0 (fl_ (fun _ => 0) 0 4 (-1))) := ⟨_, rfl⟩
  have hZ : K_S D A s ((h0, .inr (8, [.ref (a_t 0), .ref (a_n 0), .ref (a_n2 0), .ref (a_v 0), .ref (a_v2 0), .null, .null, .null, .null, .int 0, .int 0])) :: r6) H locs := by rw [er6]; exact hZ
  refine k_putI (ty := tyX8 5) hX hnm hZ (C := RX8) (T := TX8) (N := 11) rfl iw_X8 tyX8 tyX8_ok nmX8 5 rfl (wjn_44) rfl rfl (tyX8_ok 5 (by decide)) rfl rfl rfl dX8_init_75 (fun H locs hZ => ?_)
  have hZ : K_S D A s ((h0, .inr (8, [.ref (a_t 0), .ref (a_n 0), .ref (a_n2 0), .ref (a_v 0), .ref (a_v2 0), .ref (a_g 0), .null, .null, .null, .int 0, .int 0])) :: r6) H locs := hZ
  refine lv_aload_n hx hb dX8_init_78 rfl (lv_at hl 0 rfl) ?_
  refine k_newI (ci := 7) (fs := blX7) (C := RX7) (T := TX7) (N := 6) hX hZ rfl iw_X7 tyX7 tyX7_ok wjn_45 wjn_46 wjn_47 blX7_ok rfl rfl dX8_init_79 (fun qw H hZ => ?_)
  refine lv_dup hx hb dX8_init_82 rfl ?_
  refine k_newI (ci := 5) (fs := blX5) (C := RX5) (T := TX5) (N := 7) hX hZ rfl iw_X5 tyX5 tyX5_ok wjn_30 wjn_31 wjn_32 blX5_ok rfl rfl dX8_init_83 (fun qs H hZ => ?_)
  refine lv_dup hx hb dX8_init_86 rfl ?_
  refine lv_aload_n hx hb dX8_init_87 rfl (lv_at hl 0 rfl) ?_
  refine k_get hX hZ.1 0 8 rfl rfl iw_X8 1 rfl (wjn_28) (v := .ref (a_n 0)) rfl dX8_init_88 ?_
  refine k_cI (k_runI (Qc := fun sz => Q_I D (va_A [(qs, .inr (5, blX5))] sz) _) (free := fun sz => va_A [(qs, .inr (5, blX5))] sz) (As := [.ref (a_n 0)]) (rest := [.ref qs, .ref qw, .ref qw, .ref h0]) hN hX hl.1 (c_X5_init (aC := aC) qs (a_n 0)) (gi_ wjn_33) rfl wjn_32 wjn_35 wjn_34 rfl hdI_X5 ⟨rfl, rfl⟩ (k_PL hZ.1) (k_DL hZ.2.1) rfl rfl rfl dX8_init_91 ⟨rfl, rfl⟩) hX hZ (fun w1 H locs hw hZ => ?_)
  obtain ⟨a_v3, a_d3, rfl, rfl⟩ := hw
  have hZ := S_perm (w' := (((h0, .inr (8, [.ref (a_t 0), .ref (a_n 0), .ref (a_n2 0), .ref (a_v 0), .ref (a_v2 0), .ref (a_g 0), .null, .null, .null, .int 0, .int 0])) :: r6) ++ (wd_X5 aC a_v3 (a_n 0) (a_d3 0) ob_0 ++ wd_X4 aC a_d3 ob_0)) ++ [(qw, .inr (7, blX7))]) (by rw [List.append_assoc, List.append_assoc]; exact List.Perm.append_left _ List.perm_append_comm) hZ
  refine k_cI (k_runI (Qc := fun sz => Q_I D (va_A [(qw, .inr (7, blX7))] sz) _) (free := fun sz => va_A [(qw, .inr (7, blX7))] sz) (As := [.ref (a_v3 0)]) (rest := [.ref qw, .ref h0]) hN hX hl.1 (c_X7_init (aC := aC) qw (a_v3 0)) (gi_ wjn_48) rfl wjn_47 wjn_50 wjn_49 rfl hdI_X7 ⟨rfl, rfl⟩ (k_PL hZ.1) (k_DL hZ.2.1) rfl rfl rfl dX8_init_94 ⟨rfl, rfl⟩) hX hZ (fun w1 H locs hw hZ => ?_)
  obtain ⟨a_w, rfl, rfl⟩ := hw
  obtain ⟨r7, er7⟩ : ∃ z : va_W, z = r6 ++ ((wd_X5 aC a_v3 (a_n 0) (a_d3 0) ob_0 ++ wd_X4 aC a_d3 ob_0) ++ wd_X7 aC a_w (a_v3 0) ob_0) := ⟨_, rfl⟩
  have hZ : K_S D A s ((h0, .inr (8, [.ref (a_t 0), .ref (a_n 0), .ref (a_n2 0), .ref (a_v 0), .ref (a_v2 0), .ref (a_g 0), .null, .null, .null, .int 0, .int 0])) :: r7) H locs := by rw [er7, ← List.append_assoc]; exact hZ
  refine k_putI (ty := tyX8 6) hX hnm hZ (C := RX8) (T := TX8) (N := 11) rfl iw_X8 tyX8 tyX8_ok nmX8 6 rfl (wjn_51) rfl rfl (tyX8_ok 6 (by decide)) rfl rfl rfl dX8_init_97 (fun H locs hZ => ?_)
  have hZ : K_S D A s ((h0, .inr (8, [.ref (a_t 0), .ref (a_n 0), .ref (a_n2 0), .ref (a_v 0), .ref (a_v2 0), .ref (a_g 0), .ref (a_w 0), .null, .null, .int 0, .int 0])) :: r7) H locs := hZ
  refine lv_aload_n hx hb dX8_init_100 rfl (lv_at hl 0 rfl) ?_
  refine k_newI (ci := 3) (fs := blX3) (C := RX3) (T := TX3) (N := 3) hX hZ rfl iw_X3 tyX3 tyX3_ok wjn_52 wjn_53 wjn_54 blX3_ok rfl rfl dX8_init_101 (fun q7 H hZ => ?_)
  refine lv_dup hx hb dX8_init_104 rfl ?_
  refine k_cI (k_runIN (Qc := fun sz => Q_I D (va_A [(q7, .inr (3, blX3))] sz) _) (free := fun sz => va_A [(q7, .inr (3, blX3))] sz) (As := []) (rest := [.ref q7, .ref h0]) hN hX hl.1 (c_X3_init (aC := aC) q7) (gi_ wjn_55) rfl wjn_54 hN.2.2.2 wjn_56 rfl hdI_X3 ⟨rfl, rfl⟩ (k_PL hZ.1) (k_DL hZ.2.1) rfl rfl rfl dX8_init_105 ⟨rfl, rfl⟩) hX hZ (fun w1 H locs hw hZ => ?_)
  obtain ⟨a_q, rfl, rfl⟩ := hw
  obtain ⟨r8, er8⟩ : ∃ z : va_W, z = r7 ++ wd_X3 aC a_q ob_0 := ⟨_, rfl⟩
  have hZ : K_S D A s ((h0, .inr (8, [.ref (a_t 0), .ref (a_n 0), .ref (a_n2 0), .ref (a_v 0), .ref (a_v2 0), .ref (a_g 0), .ref (a_w 0), .null, .null, .int 0, .int 0])) :: r8) H locs := by rw [er8]; exact hZ
  refine k_putI (ty := tyX8 7) hX hnm hZ (C := RX8) (T := TX8) (N := 11) rfl iw_X8 tyX8 tyX8_ok nmX8 7 rfl (wjn_57) rfl rfl (tyX8_ok 7 (by decide)) rfl rfl rfl dX8_init_108 (fun H locs hZ => ?_)
  have hZ : K_S D A s ((h0, .inr (8, [.ref (a_t 0), .ref (a_n 0), .ref (a_n2 0), .ref (a_v 0), .ref (a_v2 0), .ref (a_g 0), .ref (a_w 0), .ref (a_q 0), .null, .int 0, .int 0])) :: r8) H locs := hZ
  refine lv_aload_n hx hb dX8_init_111 rfl (lv_at hl 0 rfl) ?_
  refine k_newI (ci := 2) (fs := blX2) (C := RX2) (T := TX2) (N := 3) hX hZ rfl iw_X2 tyX2 tyX2_ok wjn_58 wjn_59 wjn_60 blX2_ok rfl rfl dX8_init_112 (fun q8 H hZ => ?_)
  refine lv_dup hx hb dX8_init_115 rfl ?_
  refine k_cI (k_runI (Qc := fun sz => Q_I D (va_A [(q8, .inr (2, blX2))] sz) _) (free := fun sz => va_A [(q8, .inr (2, blX2))] sz) (As := []) (rest := [.ref q8, .ref h0]) hN hX hl.1 (c_X2_init (aC := aC) q8) (gi_ wjn_61) rfl wjn_60 wjn_63 wjn_62 rfl hdI_X2 ⟨rfl, rfl⟩ (k_PL hZ.1) (k_DL hZ.2.1) rfl rfl rfl dX8_init_116 ⟨rfl, rfl⟩) hX hZ (fun w1 H locs hw hZ => ?_)
  obtain ⟨a_r, rfl, rfl⟩ := hw
  obtain ⟨r9, er9⟩ : ∃ z : va_W, z = r8 ++ wd_X2 aC a_r (p_A ob_0 1 (fl_ (fun _ => 0) 0 3 (-1))) := ⟨_, rfl⟩
  have hZ : K_S D A s ((h0, .inr (8, [.ref (a_t 0), .ref (a_n 0), .ref (a_n2 0), .ref (a_v 0), .ref (a_v2 0), .ref (a_g 0), .ref (a_w 0), .ref (a_q 0), .null, .int 0, .int 0])) :: r9) H locs := by rw [er9]; exact hZ
  refine k_putI (ty := tyX8 8) hX hnm hZ (C := RX8) (T := TX8) (N := 11) rfl iw_X8 tyX8 tyX8_ok nmX8 8 rfl (wjn_64) rfl rfl (tyX8_ok 8 (by decide)) rfl rfl rfl dX8_init_119 (fun H locs hZ => ?_)
  have hZ : K_S D A s ((h0, .inr (8, [.ref (a_t 0), .ref (a_n 0), .ref (a_n2 0), .ref (a_v 0), .ref (a_v2 0), .ref (a_g 0), .ref (a_w 0), .ref (a_q 0), .ref (a_r 0), .int 0, .int 0])) :: r9) H locs := hZ
  refine lv_aload_n hx hb dX8_init_122 rfl (lv_at hl 0 rfl) ?_
  refine lv_iconst (v := 0) hx hb dX8_init_123 (by decide) ?_
  refine k_putJ (ty := tyX8 9) hX hZ (C := RX8) (T := TX8) (N := 11) rfl iw_X8 tyX8 tyX8_ok nmX8 9 rfl (wjn_65) rfl (tyX8_ok 9 (by decide)) rfl rfl rfl dX8_init_124 (fun H locs hZ => ?_)
  refine lv_aload_n hx hb dX8_init_127 rfl (lv_at hl 0 rfl) ?_
  refine lv_iconst (v := 0) hx hb dX8_init_128 (by decide) ?_
  refine k_putJ (ty := tyX8 10) hX hZ (C := RX8) (T := TX8) (N := 11) rfl iw_X8 tyX8 tyX8_ok nmX8 10 rfl (wjn_66) rfl (tyX8_ok 10 (by decide)) rfl rfl rfl dX8_init_129 (fun H locs hZ => ?_)
  have hZ : K_S D A s ((h0, .inr (8, [.ref (a_t 0), .ref (a_n 0), .ref (a_n2 0), .ref (a_v 0), .ref (a_v2 0), .ref (a_g 0), .ref (a_w 0), .ref (a_q 0), .ref (a_r 0), .int 0, .int 0])) :: r9) H locs := hZ
  have hp : ((h0, (.inr (8, [.ref (a_t 0), .ref (a_n 0), .ref (a_n2 0), .ref (a_v 0), .ref (a_v2 0), .ref (a_g 0), .ref (a_w 0), .ref (a_q 0), .ref (a_r 0), .int 0, .int 0]) : va_E)) :: r9).Perm ((h0, (.inr (8, [.ref (a_t 0), .ref (a_n 0), .ref (a_n2 0), .ref (a_v 0), .ref (a_v2 0), .ref (a_g 0), .ref (a_w 0), .ref (a_q 0), .ref (a_r 0), .int 0, .int 0]) : va_E)) :: (wd_X6 aC a_t ob_0 ++ (wd_X1 aC a_n ob_0 ++ (wd_X1 aC a_n2 ob_0 ++ (wd_X5 aC a_v (a_n 0) (a_d 0) ob_0 ++ (wd_X4 aC a_d ob_0 ++ (wd_X5 aC a_v2 (a_n2 0) (a_d2 0) ob_0 ++ (wd_X4 aC a_d2 ob_0 ++ (wd_X0 aC a_g (p_A ob_0 0 (fl_ (fun _ => 0) 0 4 (-1))) ++ (wd_X7 aC a_w (a_v3 0) ob_0 ++ (wd_X5 aC a_v3 (a_n 0) (a_d3 0) ob_0 ++ (wd_X4 aC a_d3 ob_0 ++ (wd_X3 aC a_q ob_0 ++ wd_X2 aC a_r (p_A ob_0 1 (fl_ (fun _ => 0) 0 3 (-1)))))))))))))))) := by
    refine List.Perm.cons _ ?_
    subst er9 er8 er7 er6 er5 er4 er3 er2 er1 er0
    simp only [List.nil_append, List.append_assoc]
    refine List.Perm.append_left _ (List.Perm.append_left _ (List.Perm.append_left _ (List.Perm.append_left _ (List.Perm.append_left _ (List.Perm.append_left _ (List.Perm.append_left _ (List.Perm.append_left _ ?_)))))))
    exact p_rot _ _ _ _
  exact k_retI hX hr (S_perm hp hZ) ⟨(fun k => [(fun _ => h0), a_t, a_n, a_n2, a_v, a_d, a_v2, a_d2, a_g, a_w, a_v3, a_d3, a_q, a_r].getD k (fun _ => 0)), rfl, rfl⟩ rfl rfl dX8_init_132
