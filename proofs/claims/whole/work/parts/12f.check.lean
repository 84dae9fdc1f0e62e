theorem hd_J3_checkIndex : yJ3_checkIndex_8e157.cls ≠ "java/lang/invoke/MethodHandle" ∧ yJ3_checkIndex_8e157.cls ≠ "java/lang/invoke/VarHandle" ∧ (parseMethodDescriptor yJ3_checkIndex_8e157.desc).map (fun d => d.parameters.length) = some 3 := by decide +kernel
section
variable {adK adV : Nat → Nat} {tA : Nat}
theorem c_J3_checkIndex {l : Launch} {D : va_G} {aC : Nat → ClassId} {w0 : va_W} {k n : Int32} (fF : Value) (hf : fF = .null ∨ ∃ a, fF = .ref a) (h0 : ¬ k < 0) (h1 : k < n) : M_RE adK adV tA l yJ3_checkIndex_8e157 wlJ3_checkIndex 0 0 D aC [.int k, .int n, fF] w0 (some (.int k)) := by
  rcases hf with rfl | ⟨a, rfl⟩
  · refine k_entRE (cc := cJ3_checkIndex_8e157) (ret := (some .int)) (maxL := 3) (own := RJ3) (by decide) rfl rfl rfl ?_
    intro p e s m below meth c ls hE hX hr hZ hl
    have hl : lv_has ls 3 [(0, .int k), (1, .int n), (2, .null)] := hl
    generalize ([.int k, .int n, .null] : List Value).toArray = args at hX ⊢
    obtain ⟨hx, hb, hml, hown, hts, hK, hA, hlk⟩ := id hX
    have hF : ∀ q ∈ ([] : List Loc), False := fun _ h => nomatch h
    refine lv_iload_n hx hb dJ3_checkIndex_8e157_0 rfl (lv_at hl 0 rfl) ?_
    refine lv_if_lt (tgt := 9) hx hb dJ3_checkIndex_8e157_1 (by decide) (fun cd => absurd cd h0) (fun _ => ?_)
    refine lv_iload_n hx hb dJ3_checkIndex_8e157_4 rfl (lv_at hl 0 rfl) ?_
    refine lv_iload_n hx hb dJ3_checkIndex_8e157_5 rfl (lv_at hl 1 rfl) ?_
    refine lv_icmp_lt (tgt := 16) hx hb dJ3_checkIndex_8e157_6 (by decide) (fun _ => ?_) (fun cd => absurd h1 cd)
    refine lv_iload_n hx hb dJ3_checkIndex_8e157_16 rfl (lv_at hl 0 rfl) ?_
    exact k_iretR hX hr hF dJ3_checkIndex_8e157_17
  · refine k_entRE (cc := cJ3_checkIndex_8e157) (ret := (some .int)) (maxL := 3) (own := RJ3) (by decide) rfl rfl rfl ?_
    intro p e s m below meth c ls hE hX hr hZ hl
    have hl : lv_has ls 3 [(0, .int k), (1, .int n), (2, .ref a)] := hl
    generalize ([.int k, .int n, .ref a] : List Value).toArray = args at hX ⊢
    obtain ⟨hx, hb, hml, hown, hts, hK, hA, hlk⟩ := id hX
    have hF : ∀ q ∈ ([] : List Loc), False := fun _ h => nomatch h
    refine lv_iload_n hx hb dJ3_checkIndex_8e157_0 rfl (lv_at hl 0 rfl) ?_
    refine lv_if_lt (tgt := 9) hx hb dJ3_checkIndex_8e157_1 (by decide) (fun cd => absurd cd h0) (fun _ => ?_)
    refine lv_iload_n hx hb dJ3_checkIndex_8e157_4 rfl (lv_at hl 0 rfl) ?_
    refine lv_iload_n hx hb dJ3_checkIndex_8e157_5 rfl (lv_at hl 1 rfl) ?_
    refine lv_icmp_lt (tgt := 16) hx hb dJ3_checkIndex_8e157_6 (by decide) (fun _ => ?_) (fun cd => absurd h1 cd)
    refine lv_iload_n hx hb dJ3_checkIndex_8e157_16 rfl (lv_at hl 0 rfl) ?_
    exact k_iretR hX hr hF dJ3_checkIndex_8e157_17
end
