theorem dJ0_charAt_5068e_0 : decode cJ0_charAt_5068e 0 = .ok (.aload_n 0, 1) := by decide +kernel
theorem dJ0_charAt_5068e_1 : decode cJ0_charAt_5068e 1 = .ok (.invokevirtual 492, 3) := by decide +kernel
theorem dJ0_charAt_5068e_4 : decode cJ0_charAt_5068e 4 = .ok (.ifCond .eq 12, 3) := by decide +kernel
theorem dJ0_charAt_5068e_7 : decode cJ0_charAt_5068e 7 = .ok (.aload_n 0, 1) := by decide +kernel
theorem dJ0_charAt_5068e_8 : decode cJ0_charAt_5068e 8 = .ok (.getfield 9, 3) := by decide +kernel
theorem dJ0_charAt_5068e_11 : decode cJ0_charAt_5068e 11 = .ok (.iload_n 1, 1) := by decide +kernel
theorem dJ0_charAt_5068e_12 : decode cJ0_charAt_5068e 12 = .ok (.invokestatic 495, 3) := by decide +kernel
theorem dJ0_charAt_5068e_15 : decode cJ0_charAt_5068e 15 = .ok (.ireturn, 1) := by decide +kernel
theorem dJ0_charAt_5068e_16 : decode cJ0_charAt_5068e 16 = .ok (.aload_n 0, 1) := by decide +kernel
theorem dJ0_charAt_5068e_17 : decode cJ0_charAt_5068e 17 = .ok (.getfield 9, 3) := by decide +kernel
theorem dJ0_charAt_5068e_20 : decode cJ0_charAt_5068e 20 = .ok (.iload_n 1, 1) := by decide +kernel
theorem dJ0_charAt_5068e_21 : decode cJ0_charAt_5068e 21 = .ok (.invokestatic 498, 3) := by decide +kernel
theorem dJ0_charAt_5068e_24 : decode cJ0_charAt_5068e 24 = .ok (.ireturn, 1) := by decide +kernel
theorem wj_d1 : Cond.methodLink RJ0 492 yJ0_isLatin1_aae02 ∈ WL_ := wl_in (tj_2 (List.mem_of_getElem? (i := 105) rfl)) rfl
theorem wj_d2 : Cond.instanceMethod yJ0_isLatin1_aae02 ∈ WL_ := wl_in (tj_2 (List.mem_of_getElem? (i := 106) rfl)) rfl
theorem wj_d3 : Cond.selects RJ0 yJ0_isLatin1_aae02 yJ0_isLatin1_aae02 ∈ WL_ := wl_in (tj_2 (List.mem_of_getElem? (i := 107) rfl)) rfl
theorem wj_d5 : Cond.code yJ0_isLatin1_aae02 cJ0_isLatin1_aae02 1 (some .boolean) ∈ WL_ := wl_in (tj_2 (List.mem_of_getElem? (i := 108) rfl)) rfl
theorem wj_e1 : Cond.methodLink RJ0 495 yJ1_charAt_3b067 ∈ WL_ := wl_in (tj_2 (List.mem_of_getElem? (i := 109) rfl)) rfl
theorem wj_e2 : Cond.static yJ1_charAt_3b067 ∈ WL_ := wl_in (tj_2 (List.mem_of_getElem? (i := 110) rfl)) rfl
theorem wj_e4 : Cond.initialized RJ1 ∈ WL_ := wl_in (tj_1 (List.mem_of_getElem? (i := 14) rfl)) rfl
theorem wj_e5 : Cond.code yJ1_charAt_3b067 cJ1_charAt_3b067 2 (some .char) ∈ WL_ := wl_in (tj_2 (List.mem_of_getElem? (i := 111) rfl)) rfl
theorem hd_J0_isLatin1 : yJ0_isLatin1_aae02.cls = "java/lang/String" ∧ yJ0_isLatin1_aae02.cls ≠ "java/lang/invoke/MethodHandle" ∧ yJ0_isLatin1_aae02.cls ≠ "java/lang/invoke/VarHandle" ∧ (parseMethodDescriptor yJ0_isLatin1_aae02.desc).map (fun d => d.parameters.length) = some 0 := by decide +kernel
theorem hd_J1_charAt : yJ1_charAt_3b067.cls ≠ "java/lang/invoke/MethodHandle" ∧ yJ1_charAt_3b067.cls ≠ "java/lang/invoke/VarHandle" ∧ (parseMethodDescriptor yJ1_charAt_3b067.desc).map (fun d => d.parameters.length) = some 2 := by decide +kernel
def wlJ0_charAt : List Cond := .code yJ0_charAt_5068e cJ0_charAt_5068e 2 (some .char) :: WL_
section
variable {adK adV : Nat → Nat} {tA : Nat}
theorem c_J0_charAt {l : Launch} {D : va_G} {aC : Nat → ClassId} {w0 : va_W} {i k : Nat} (hi : i < 8) (hk : k < lenT_.getD i 0) : M_RE adK adV tA l yJ0_charAt_5068e wlJ0_charAt 3 64 D aC [.ref (adK i), .int (nI k)] w0 (some (.int (nI (wc_ i k)))) := by
  have h7 := (len_7 i hi).1
  obtain ⟨hch, hlt⟩ := by_ch i hi k (by omega) hk
  refine k_entRE (cc := cJ0_charAt_5068e) (ret := (some .char)) (maxL := 2) (own := RJ0) (by decide) rfl rfl rfl ?_
  intro p e s m below meth c ls hE hX hr hZ hl
  have hl : lv_has ls 2 [(0, .ref (adK i)), (1, .int (nI k))] := hl
  generalize ([.ref (adK i), .int (nI k)] : List Value).toArray = args at hX ⊢
  obtain ⟨hx, hb, hml, hown, hts, hK, hA, hlk⟩ := id hX
  have hF : ∀ q ∈ ([] : List Loc), False := fun _ h => nomatch h
  refine lv_aload_n hx hb dJ0_charAt_5068e_0 rfl (lv_at hl 0 rfl) ?_
  refine k_cRR (v := some (.int 1)) (k_runTE (Bf := fun sz q => sz ≤ q) (Qc := fun _ => Q_R (some (.int 1))) (free := fun _ _ => False) (wc := w0) (As := []) (rest := []) hi va_S.rf hE hE hX hl.1 (c_J0_isLatin1 hi) (gv_ wj_d1 wj_d2 wj_d3 wj_a4 wj_d5) rfl hd_J0_isLatin1 ⟨rfl, rfl⟩ hZ.1 hZ.2 rfl rfl rfl dJ0_charAt_5068e_1 ⟨rfl, rfl⟩) hF (fun locs hF => ?_)
  have hS : va_S (fun q => s.heap.size ≤ q) s.heap s.heap locs := ⟨Nat.le_refl _, fun _ _ _ => rfl, fun q hq => (hF q hq).elim⟩
  refine lv_if_eq (tgt := 16) hx hb dJ0_charAt_5068e_4 (by decide) (fun cd => absurd cd (by decide)) (fun _ => ?_)
  refine lv_aload_n hx hb dJ0_charAt_5068e_7 rfl (lv_at hl 0 rfl) ?_
  refine vk_getf hx hb (hE.1.1 i hi).2.2.1 hS hown (hts _ wj_9) (fun _ h => h) dJ0_charAt_5068e_8 ?_
  refine lv_iload_n hx hb dJ0_charAt_5068e_11 rfl (lv_at hl 1 rfl) ?_
  refine k_cRR (v := some (.int (nI (wc_ i k)))) (k_runSE (Bf := fun sz q => sz ≤ q) (Qc := fun _ => Q_R (some (.int (nI (wc_ i k))))) (free := fun _ _ => False) (wc := w0) (As := [.ref (adV i), .int (nI k)]) (rest := []) hE hX hl.1 (c_J1_charAt hi hk) (gs_ wj_e1 wj_e2 wj_e4 wj_e5) rfl hd_J1_charAt ⟨rfl, rfl⟩ hZ.1 hZ.2 rfl rfl rfl dJ0_charAt_5068e_12 ⟨rfl, rfl⟩) hF (fun locs hF => ?_)
  exact k_nretR hX hr (pk_charN (by omega)).1 hF dJ0_charAt_5068e_15
end
