theorem dJ0_length_8abf5_0 : decode cJ0_length_8abf5 0 = .ok (.aload_n 0, 1) := by decide +kernel
theorem dJ0_length_8abf5_1 : decode cJ0_length_8abf5 1 = .ok (.getfield 9, 3) := by decide +kernel
theorem dJ0_length_8abf5_4 : decode cJ0_length_8abf5 4 = .ok (.arraylength, 1) := by decide +kernel
theorem dJ0_length_8abf5_5 : decode cJ0_length_8abf5 5 = .ok (.aload_n 0, 1) := by decide +kernel
theorem dJ0_length_8abf5_6 : decode cJ0_length_8abf5 6 = .ok (.invokevirtual 335, 3) := by decide +kernel
theorem dJ0_length_8abf5_9 : decode cJ0_length_8abf5 9 = .ok (.ishr, 1) := by decide +kernel
theorem dJ0_length_8abf5_10 : decode cJ0_length_8abf5 10 = .ok (.ireturn, 1) := by decide +kernel
theorem wj_9 : Cond.fieldLink RJ0 9 "java/lang/String" "value" "[B" ∈ WL_ := wl_in (tj_7 (List.mem_of_getElem? (i := 52) rfl)) rfl
theorem wj_a1 : Cond.methodLink RJ0 335 yJ0_coder_7d493 ∈ WL_ := wl_in (tj_2 (List.mem_of_getElem? (i := 95) rfl)) rfl
theorem wj_a2 : Cond.instanceMethod yJ0_coder_7d493 ∈ WL_ := wl_in (tj_2 (List.mem_of_getElem? (i := 96) rfl)) rfl
theorem wj_a3 : Cond.selects RJ0 yJ0_coder_7d493 yJ0_coder_7d493 ∈ WL_ := wl_in (tj_2 (List.mem_of_getElem? (i := 97) rfl)) rfl
theorem wj_a4 : Cond.initialized RJ0 ∈ WL_ := wl_in (tj_1 (List.mem_of_getElem? (i := 13) rfl)) rfl
theorem wj_a5 : Cond.code yJ0_coder_7d493 cJ0_coder_7d493 1 (some .byte) ∈ WL_ := wl_in (tj_2 (List.mem_of_getElem? (i := 98) rfl)) rfl
theorem hd_J0_coder : yJ0_coder_7d493.cls = "java/lang/String" ∧ yJ0_coder_7d493.cls ≠ "java/lang/invoke/MethodHandle" ∧ yJ0_coder_7d493.cls ≠ "java/lang/invoke/VarHandle" ∧ (parseMethodDescriptor yJ0_coder_7d493.desc).map (fun d => d.parameters.length) = some 0 := by decide +kernel
def wlJ0_length : List Cond := .code yJ0_length_8abf5 cJ0_length_8abf5 1 (some .int) :: WL_
section
variable {adK adV : Nat → Nat} {tA : Nat}
theorem len_sh : ∀ i, i < 8 → (Int32.ofNat (lenT_.getD i 0)) >>> ((0 : Int32) &&& 31) = Int32.ofNat (lenT_.getD i 0) := by decide +kernel
theorem c_J0_length {l : Launch} {D : va_G} {aC : Nat → ClassId} {w0 : va_W} {i : Nat} (hi : i < 8) : M_RE adK adV tA l yJ0_length_8abf5 wlJ0_length 1 20 D aC [.ref (adK i)] w0 (some (.int (Int32.ofNat (lenT_.getD i 0)))) := by
  refine k_entRE (cc := cJ0_length_8abf5) (ret := (some .int)) (maxL := 1) (own := RJ0) (by decide) rfl rfl rfl ?_
  intro p e s m below meth c ls hE hX hr hZ hl
  have hl : lv_has ls 1 [(0, .ref (adK i))] := hl
  generalize ([.ref (adK i)] : List Value).toArray = args at hX ⊢
  obtain ⟨hx, hb, hml, hown, hts, hK, hA, hlk⟩ := id hX
  have hF : ∀ q ∈ ([] : List Loc), False := fun _ h => nomatch h
  refine lv_aload_n hx hb dJ0_length_8abf5_0 rfl (lv_at hl 0 rfl) ?_
  refine vk_getf hx hb (hE.1.1 i hi).2.2.1 va_S.rf hown (hts _ wj_9) (fun _ h => h) dJ0_length_8abf5_1 ?_
  refine va_tlen hx hb (hE.1.1 i hi).2.2.2 va_S.rf rfl dJ0_length_8abf5_4 ?_
  refine lv_aload_n hx hb dJ0_length_8abf5_5 rfl (lv_at hl 0 rfl) ?_
  refine k_cRR (v := some (.int 0)) (k_runTE (Bf := fun sz q => sz ≤ q) (Qc := fun _ => Q_R (some (.int 0))) (free := fun _ _ => False) (wc := w0) (As := []) (rest := [.int (Int32.ofNat (lenT_.getD i 0))]) hi va_S.rf hE hE hX hl.1 (c_J0_coder hi) (gv_ wj_a1 wj_a2 wj_a3 wj_a4 wj_a5) rfl hd_J0_coder ⟨rfl, rfl⟩ hZ.1 hZ.2 rfl rfl rfl dJ0_length_8abf5_6 ⟨rfl, rfl⟩) hF (fun locs hF => ?_)
  refine lv_ishr hx hb dJ0_length_8abf5_9 ?_
  rw [len_sh i hi]
  exact k_iretR hX hr hF dJ0_length_8abf5_10
end
