def wlX9_fault : List Cond := .code yX9_fault cX9_fault 1 (some .int) :: WL_
theorem hd_X9_fault : yX9_fault.cls = RX9 ∧ yX9_fault.cls ≠ "java/lang/invoke/MethodHandle" ∧ yX9_fault.cls ≠ "java/lang/invoke/VarHandle" ∧ (parseMethodDescriptor yX9_fault.desc).map (fun d => d.parameters.length) = some 0 := by decide +kernel
theorem dX9_fault_0 : decode cX9_fault 0 = .ok (.aload_n 0, 1) := by decide +kernel
theorem dX9_fault_1 : decode cX9_fault 1 = .ok (.invokevirtual 179, 3) := by decide +kernel
theorem dX9_fault_4 : decode cX9_fault 4 = .ok (.ifCond .eq 7, 3) := by decide +kernel
theorem dX9_fault_7 : decode cX9_fault 7 = .ok (.iconst (-1), 1) := by decide +kernel
theorem dX9_fault_8 : decode cX9_fault 8 = .ok (.goto 7, 3) := by decide +kernel
theorem dX9_fault_11 : decode cX9_fault 11 = .ok (.aload_n 0, 1) := by decide +kernel
theorem dX9_fault_12 : decode cX9_fault 12 = .ok (.getfield 116, 3) := by decide +kernel
theorem dX9_fault_15 : decode cX9_fault 15 = .ok (.ireturn, 1) := by decide +kernel
set_option maxHeartbeats 4000000 in
set_option maxRecDepth 100000 in
theorem c_X9_fault {l : Launch} {D : va_G} {aC : Nat → ClassId} {a_o : Nat → Nat} (s_o : Ob_T) {out : Int32 × Ob_T} (h : f_X9_fault s_o = some out) : M_W l yX9_fault wlX9_fault 8 180 D aC [.ref (a_o 0)] (wd_X9 aC a_o s_o) (some (.int out.1)) (wd_X9 aC a_o out.2) := by
  refine k_entW (cc := cX9_fault) (ret := (some .int)) (maxL := 1) (own := RX9) (by decide) rfl rfl rfl ?_
  intro p e s m below meth c A ls hX hr hZ hl
  have hl : lv_has ls 1 [(0, .ref (a_o 0))] := hl
  generalize ([.ref (a_o 0)] : List Value).toArray = args at hX ⊢
  obtain ⟨hx, hb, hml, hown, hts, hK, hA, hlk⟩ := id hX
  unfold f_X9_fault at h
  generalize s.heap = H at hZ ⊢
  generalize ([] : List Loc) = locs at hZ ⊢
  refine lv_aload_n hx hb dX9_fault_0 rfl (lv_at hl 0 rfl) ?_
  obtain ⟨u1, hu, h⟩ := k_bd h
  refine k_vWs (As := []) (rest := []) (v := some (.int u1.1)) (st1 := [.int u1.1]) hX hl.1 hZ (c_X9_reads (a_o := a_o) s_o hu) (gv_ wm_114 wm_116 wm_117 wm_11 wm_115) rfl hd_X9_reads ⟨rfl, rfl⟩ 9 0 rfl rfl rfl rfl rfl dX9_fault_1 rfl ⟨rfl, rfl⟩ rfl (fun H locs hZ => ?_)
  clear hu
  refine lv_if_eq (tgt := 11) hx hb dX9_fault_4 (by decide) (fun cd => ?_) (fun cd => ?_)
  · replace h := k_t cd h
    clear cd
    refine lv_aload_n hx hb dX9_fault_11 rfl (lv_at hl 0 rfl) ?_
    refine k_get hX hZ.1 0 9 rfl rfl iw_X9 18 rfl (wm_19) (v := .int (o_F u1.2 18)) rfl dX9_fault_12 ?_
    cases h
    exact k_iretW hX hr hZ dX9_fault_15
  · replace h := k_f cd h
    clear cd
    refine lv_iconst (v := -1) hx hb dX9_fault_7 (by decide) ?_
    refine lv_goto (tgt := 15) hx hb dX9_fault_8 (by decide) ?_
    cases h
    exact k_iretW hX hr hZ dX9_fault_15
