theorem wj_c1 : Cond.methodLink RJ1 9 yJ0_checkIndex_df160 ∈ WL_ := wl_in (tj_2 (List.mem_of_getElem? (i := 112) rfl)) rfl
theorem wj_c2 : Cond.static yJ0_checkIndex_df160 ∈ WL_ := wl_in (tj_2 (List.mem_of_getElem? (i := 113) rfl)) rfl
theorem wj_c5 : Cond.code yJ0_checkIndex_df160 cJ0_checkIndex_df160 2 none ∈ WL_ := wl_in (tj_2 (List.mem_of_getElem? (i := 114) rfl)) rfl
theorem hd_J0_checkIndex : yJ0_checkIndex_df160.cls ≠ "java/lang/invoke/MethodHandle" ∧ yJ0_checkIndex_df160.cls ≠ "java/lang/invoke/VarHandle" ∧ (parseMethodDescriptor yJ0_checkIndex_df160.desc).map (fun d => d.parameters.length) = some 2 := by decide +kernel
def wlJ1_charAt : List Cond := .code yJ1_charAt_3b067 cJ1_charAt_3b067 2 (some .char) :: WL_
theorem by_ch : ∀ i, i < 8 → ∀ k, k < 7 → k < lenT_.getD i 0 → ((((bytT_.getD i []).getD k 0) &&& 255).toUInt32 % 65536).toInt32 = nI (wc_ i k) ∧ wc_ i k < 256 := by decide +kernel
theorem len_7 : ∀ i, i < 8 → lenT_.getD i 0 ≤ 7 ∧ lenT_.getD i 0 = wz_ i := by decide +kernel
section
variable {adK adV : Nat → Nat} {tA : Nat}
theorem c_J1_charAt {l : Launch} {D : va_G} {aC : Nat → ClassId} {w0 : va_W} {i k : Nat} (hi : i < 8) (hk : k < lenT_.getD i 0) : M_RE adK adV tA l yJ1_charAt_3b067 wlJ1_charAt 2 43 D aC [.ref (adV i), .int (nI k)] w0 (some (.int (nI (wc_ i k)))) := by
  have h7 := (len_7 i hi).1
  obtain ⟨hch, hlt⟩ := by_ch i hi k (by omega) hk
  refine k_entRE (cc := cJ1_charAt_3b067) (ret := (some .char)) (maxL := 2) (own := RJ1) (by decide) rfl rfl rfl ?_
  intro p e s m below meth c ls hE hX hr hZ hl
  have hl : lv_has ls 2 [(0, .ref (adV i)), (1, .int (nI k))] := hl
  generalize ([.ref (adV i), .int (nI k)] : List Value).toArray = args at hX ⊢
  obtain ⟨hx, hb, hml, hown, hts, hK, hA, hlk⟩ := id hX
  have hF : ∀ q ∈ ([] : List Loc), False := fun _ h => nomatch h
  have hT := (hE.1.1 i hi).2.2.2
  have tn : (nI k).toNatClampNeg = k := by
    show (nI k).toInt.toNat = k
    rw [nI_toInt (by omega)]
    omega
  refine lv_iload_n hx hb dJ1_charAt_3b067_0 rfl (lv_at hl 1 rfl) ?_
  refine lv_aload_n hx hb dJ1_charAt_3b067_1 rfl (lv_at hl 0 rfl) ?_
  refine va_tlen hx hb hT va_S.rf rfl dJ1_charAt_3b067_2 ?_
  refine k_cRR (v := none) (k_runSE (Bf := fun sz q => sz ≤ q) (Qc := fun _ => Q_R none) (free := fun _ _ => False) (wc := w0) (As := [.int (nI k), .int (Int32.ofNat (lenT_.getD i 0))]) (rest := []) hE hX hl.1 (c_J0_checkIndex (nI_pos (by omega)) (nI_lt hk (by omega))) (gs_ wj_c1 wj_c2 wj_a4 wj_c5) rfl hd_J0_checkIndex ⟨rfl, rfl⟩ hZ.1 hZ.2 rfl rfl rfl dJ1_charAt_3b067_3 ⟨rfl, rfl⟩) hF (fun locs hF => ?_)
  have hS : va_S (fun q => s.heap.size ≤ q) s.heap s.heap locs := ⟨Nat.le_refl _, fun _ _ _ => rfl, fun q hq => (hF q hq).elim⟩
  refine lv_aload_n hx hb dJ1_charAt_3b067_6 rfl (lv_at hl 0 rfl) ?_
  refine lv_iload_n hx hb dJ1_charAt_3b067_7 rfl (lv_at hl 1 rfl) ?_
  refine va_tb hx hb hT hS (i := nI k) (fun z => by rcases z with z | z; exact nI_pos (by omega) z; rw [tn] at z; omega) (v := .int ((bytT_.getD i []).getD k 0)) (by rw [tn]) dJ1_charAt_3b067_8 ?_
  refine lv_sipush (v := 255) hx hb dJ1_charAt_3b067_9 (by decide) ?_
  refine lv_iand hx hb dJ1_charAt_3b067_12 ?_
  refine lv_i2c hx hb dJ1_charAt_3b067_13 hch ?_
  exact k_nretR hX hr (pk_charN (by omega)).1 hF dJ1_charAt_3b067_14
end
