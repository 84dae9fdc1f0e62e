theorem dJ0_checkIndex_df160_0 : decode cJ0_checkIndex_df160 0 = .ok (.iload_n 0, 1) := by decide +kernel
theorem dJ0_checkIndex_df160_1 : decode cJ0_checkIndex_df160 1 = .ok (.iload_n 1, 1) := by decide +kernel
theorem dJ0_checkIndex_df160_2 : decode cJ0_checkIndex_df160 2 = .ok (.getstatic 1053, 3) := by decide +kernel
theorem dJ0_checkIndex_df160_5 : decode cJ0_checkIndex_df160 5 = .ok (.invokestatic 1059, 3) := by decide +kernel
theorem dJ0_checkIndex_df160_8 : decode cJ0_checkIndex_df160 8 = .ok (.pop, 1) := by decide +kernel
theorem dJ0_checkIndex_df160_9 : decode cJ0_checkIndex_df160 9 = .ok (.return_, 1) := by decide +kernel
theorem dJ1_charAt_3b067_0 : decode cJ1_charAt_3b067 0 = .ok (.iload_n 1, 1) := by decide +kernel
theorem dJ1_charAt_3b067_1 : decode cJ1_charAt_3b067 1 = .ok (.aload_n 0, 1) := by decide +kernel
theorem dJ1_charAt_3b067_2 : decode cJ1_charAt_3b067 2 = .ok (.arraylength, 1) := by decide +kernel
theorem dJ1_charAt_3b067_3 : decode cJ1_charAt_3b067 3 = .ok (.invokestatic 9, 3) := by decide +kernel
theorem dJ1_charAt_3b067_6 : decode cJ1_charAt_3b067 6 = .ok (.aload_n 0, 1) := by decide +kernel
theorem dJ1_charAt_3b067_7 : decode cJ1_charAt_3b067 7 = .ok (.iload_n 1, 1) := by decide +kernel
theorem dJ1_charAt_3b067_8 : decode cJ1_charAt_3b067 8 = .ok (.baload, 1) := by decide +kernel
theorem dJ1_charAt_3b067_9 : decode cJ1_charAt_3b067 9 = .ok (.sipush 255, 3) := by decide +kernel
theorem dJ1_charAt_3b067_12 : decode cJ1_charAt_3b067 12 = .ok (.iand, 1) := by decide +kernel
theorem dJ1_charAt_3b067_13 : decode cJ1_charAt_3b067 13 = .ok (.i2c, 1) := by decide +kernel
theorem dJ1_charAt_3b067_14 : decode cJ1_charAt_3b067 14 = .ok (.ireturn, 1) := by decide +kernel
theorem wj_1053 : Cond.fieldLink RJ0 1053 "jdk/internal/util/Preconditions" "SIOOBE_FORMATTER" "Ljava/util/function/BiFunction;" ∈ WL_ := wl_in (tj_2 (List.mem_of_getElem? (i := 115) rfl)) rfl
theorem wj_b1 : Cond.methodLink RJ0 1059 yJ3_checkIndex_8e157 ∈ WL_ := wl_in (tj_2 (List.mem_of_getElem? (i := 117) rfl)) rfl
theorem wj_b2 : Cond.static yJ3_checkIndex_8e157 ∈ WL_ := wl_in (tj_2 (List.mem_of_getElem? (i := 118) rfl)) rfl
theorem wj_b4 : Cond.initialized RJ3 ∈ WL_ := wl_in (tj_1 (List.mem_of_getElem? (i := 15) rfl)) rfl
theorem wj_b5 : Cond.code yJ3_checkIndex_8e157 cJ3_checkIndex_8e157 3 (some .int) ∈ WL_ := wl_in (tj_2 (List.mem_of_getElem? (i := 119) rfl)) rfl
def wlJ0_checkIndex : List Cond := .code yJ0_checkIndex_df160 cJ0_checkIndex_df160 2 none :: WL_
section
variable {adK adV : Nat → Nat} {tA : Nat}
theorem c_J0_checkIndex {l : Launch} {D : va_G} {aC : Nat → ClassId} {w0 : va_W} {k n : Int32} (h0 : ¬ k < 0) (h1 : k < n) : M_RE adK adV tA l yJ0_checkIndex_df160 wlJ0_checkIndex 1 22 D aC [.int k, .int n] w0 none := by
  refine k_entRE (cc := cJ0_checkIndex_df160) (ret := none) (maxL := 2) (own := RJ0) (by decide) rfl rfl rfl ?_
  intro p e s m below meth c ls hE hX hr hZ hl
  have hl : lv_has ls 2 [(0, .int k), (1, .int n)] := hl
  generalize ([.int k, .int n] : List Value).toArray = args at hX ⊢
  obtain ⟨hx, hb, hml, hown, hts, hK, hA, hlk⟩ := id hX
  have hF : ∀ q ∈ ([] : List Loc), False := fun _ h => nomatch h
  obtain ⟨fF, hf, hz⟩ := hE.2.2.2.2.2
  refine lv_iload_n hx hb dJ0_checkIndex_df160_0 rfl (lv_at hl 0 rfl) ?_
  refine lv_iload_n hx hb dJ0_checkIndex_df160_1 rfl (lv_at hl 1 rfl) ?_
  refine va_gets hx hb hz va_S.rf hown (hts _ wj_1053) (fun _ h => h) dJ0_checkIndex_df160_2 ?_
  refine k_cRR (v := some (.int k)) (k_runSE (Bf := fun sz q => sz ≤ q) (Qc := fun _ => Q_R (some (.int k))) (free := fun _ _ => False) (wc := w0) (As := [.int k, .int n, fF]) (rest := []) hE hX hl.1 (c_J3_checkIndex fF hf h0 h1) (gs_ wj_b1 wj_b2 wj_b4 wj_b5) rfl hd_J3_checkIndex ⟨rfl, rfl⟩ hZ.1 hZ.2 rfl rfl rfl dJ0_checkIndex_df160_5 ⟨rfl, rfl⟩) hF (fun locs hF => ?_)
  refine lv_pop hx hb dJ0_checkIndex_df160_8 rfl ?_
  exact k_vretR hX hr hF dJ0_checkIndex_df160_9
end
