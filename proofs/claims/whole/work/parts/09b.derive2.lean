section
variable {n : Ob_T} {P : Pg_} {i : Nat}
/-- the nodes ahead of i lie in n -/
def Ra_ (n : Ob_T) (P : Pg_) (i : Nat) : Prop := ∀ m, m < i → g_L P m ≤ 6 ∧ o_A n 4 m = nI (g_L P m) ∧ ∀ j, j < g_L P m → o_A n 5 (6 * m + j) = nI (g_E P m j)
/-- node i's arguments are of a verb -/
def Va_ (P : Pg_) (i : Nat) : Prop := vb_ P i ∧ g_R P i ∈ rks_ ∧ g_A P i < i ∧ ((g_K P i = 1 ∨ g_K P i = 2) → g_B P i < i)
theorem kv_ {P : Pg_} {i : Nat} (h : vb_ P i) : g_K P i = 1 ∨ g_K P i = 2 ∨ g_K P i = 3 ∨ g_K P i = 4 ∨ g_K P i = 5 := by
  unfold vb_ at h
  omega
theorem x_axes (hi : i < 10) (hv : Va_ P i) (ha : Ra_ n P i) (x3 : Int32) (h3 : (g_K P i = 1 ∨ g_K P i = 2) → x3 = nI (g_B P i)) : f_X1_axesOfVerb n (nI (g_K P i)) (nI (g_A P i)) x3 (g_R P i) = some (nI (dv_L P i)) := by
  obtain ⟨v1, v2, v3, v4⟩ := hv
  obtain ⟨a1, a2, a3⟩ := ha _ v3
  have fa := fr_le (g_R P i) (g_L P (g_A P i))
  unfold f_X1_axesOfVerb dv_L
  rcases kv_ v1 with k | k | k | k | k
  · have hb := v4 (Or.inl k)
    obtain ⟨b1, b2, b3⟩ := ha _ hb
    have fb := fr_le (g_R P i) (g_L P (g_B P i))
    rw [h3 (Or.inl k), k, if_pos (show nI 1 = 1 from rfl), if_pos rfl, y_fr (by omega) v2 a2 a1, Option.bind_some, y_fr (by omega) v2 b2 b1, Option.bind_some, y_ce (by omega) v2 a2 a1, Option.bind_some, y_ce (by omega) v2 b2 b1, Option.bind_some, mx_nI (by omega) (by omega), mx_nI (by omega) (by omega), nI_add]
    rfl
  · have hb := v4 (Or.inr k)
    obtain ⟨b1, b2, b3⟩ := ha _ hb
    have fb := fr_le (g_R P i) (g_L P (g_B P i))
    rw [h3 (Or.inr k), k, if_neg (show ¬ nI 2 = 1 by decide), if_pos (show nI 2 = 2 from rfl), if_neg (show ¬ 2 = 1 by decide), if_pos rfl, y_fr (by omega) v2 a2 a1, Option.bind_some, y_fr (by omega) v2 b2 b1, Option.bind_some, y_ce (by omega) v2 a2 a1, Option.bind_some, y_ce (by omega) v2 b2 b1, Option.bind_some, mx_nI (by omega) (by omega), mx_nI (by omega) (by omega), show (1 : Int32) = nI 1 from rfl, mx_nI (by omega) (by omega), nI_add]
    rfl
  · rw [k, if_neg (show ¬ nI 3 = 1 by decide), if_neg (show ¬ nI 3 = 2 by decide), if_pos (show nI 3 = 3 from rfl), if_neg (show ¬ 3 = 1 by decide), if_neg (show ¬ 3 = 2 by decide), if_pos rfl, ld_nI (by omega) (by omega), Option.bind_some, a2]
  · rw [k, if_neg (show ¬ nI 4 = 1 by decide), if_neg (show ¬ nI 4 = 2 by decide), if_neg (show ¬ nI 4 = 3 by decide), if_pos (show nI 4 = 4 from rfl), if_neg (show ¬ 4 = 1 by decide), if_neg (show ¬ 4 = 2 by decide), if_neg (show ¬ 4 = 3 by decide), if_pos rfl, y_fr (by omega) v2 a2 a1, Option.bind_some, y_ce (by omega) v2 a2 a1, Option.bind_some]
    have e : ∀ c, c ≤ 6 → (if (0 : Int32) < nI c - 1 then nI c - 1 else 0) = nI (c - 1) := by decide +kernel
    rw [e _ (by omega), nI_add]
    rfl
  · rw [k, if_neg (show ¬ nI 5 = 1 by decide), if_neg (show ¬ nI 5 = 2 by decide), if_neg (show ¬ nI 5 = 3 by decide), if_neg (show ¬ nI 5 = 4 by decide), if_pos (show nI 5 = 5 from rfl), if_neg (show ¬ 5 = 1 by decide), if_neg (show ¬ 5 = 2 by decide), if_neg (show ¬ 5 = 3 by decide), if_neg (show ¬ 5 = 4 by decide), y_fr (by omega) v2 a2 a1, Option.bind_some, nI_1]
    rfl
theorem x_derive (hi : i < 10) (hv : Va_ P i) (ha : Ra_ n P i) (e0 : o_A n 0 i = nI (g_K P i)) (e1 : o_A n 1 i = nI (g_A P i)) (e2 : (g_K P i = 1 ∨ g_K P i = 2) → o_A n 2 i = nI (g_B P i)) (e3 : o_A n 3 i = g_R P i) (hL : dv_L P i ≤ 6) : ∃ f, f_X1_derive n (nI i) = some (p_A n 5 f) ∧ (∀ l, (l < 6 * i ∨ 6 * i + 6 ≤ l) → f l = o_A n 5 l) ∧ ∀ j, j < dv_L P i → f (6 * i + j) = nI (dv_E P i j) := by
  obtain ⟨v1, v2, v3, v4⟩ := hv
  obtain ⟨a1, a2, a3⟩ := ha _ v3
  have fa := fr_le (g_R P i) (g_L P (g_A P i))
  unfold f_X1_derive
  rw [ld_nI (by omega) (by omega), Option.bind_some, ld_nI (by omega) (by omega), Option.bind_some, e0, e1]
  have red : ∀ f, o_A (p_A n 5 f) 5 = f := fun _ => rfl
  rcases kv_ v1 with k | k | k | k | k
  · have hb := v4 (Or.inl k)
    obtain ⟨b1, b2, b3⟩ := ha _ hb
    have fb := fr_le (g_R P i) (g_L P (g_B P i))
    have hL2 := hL
    unfold dv_L at hL2
    rw [if_pos k] at hL2
    unfold cA_ cB_ fA_ fB_ at hL2
    rw [k, if_pos (show nI 1 = 1 from rfl), y_lframe hi v3 hb v2 e1 (e2 (Or.inl k)) e3 a2 b2 a1 b1, Option.bind_some]
    dsimp only
    rw [show (0 : Int32) = nI 0 from rfl, y_lcell (n := p_A n 5 _) (w := 0) hi v3 hb v2 e1 (e2 (Or.inl k)) e3 a2 b2 a1 b1 (by omega) (by omega), Option.bind_some, pA_pA, red]
    refine ⟨_, rfl, fun l hl => ?_, fun j hj => ?_⟩
    · rw [cpy_out (by omega), cpy_out (by omega)]
    · unfold dv_L at hj
      rw [if_pos k] at hj
      unfold dv_E lF_ lC_ fC_
      unfold cA_ cB_ at *
      unfold fA_ fB_ at *
      rw [if_pos k]
      by_cases cj : j < max (fr_ (g_R P i) (g_L P (g_A P i))) (fr_ (g_R P i) (g_L P (g_B P i)))
      · rw [cpy_out (by omega), cpy_in cj, if_pos cj]
        by_cases c : fr_ (g_R P i) (g_L P (g_A P i)) < fr_ (g_R P i) (g_L P (g_B P i))
        · simp only [if_pos c]; exact b3 j (by omega)
        · simp only [if_neg c]; exact a3 j (by omega)
      · obtain ⟨j', rfl⟩ : ∃ j', j = max (fr_ (g_R P i) (g_L P (g_A P i))) (fr_ (g_R P i) (g_L P (g_B P i))) + j' := ⟨j - max (fr_ (g_R P i) (g_L P (g_A P i))) (fr_ (g_R P i) (g_L P (g_B P i))), by omega⟩
        rw [← Nat.add_assoc (6 * i) _ j', cpy_in (by omega), if_neg cj]
        by_cases c : g_L P (g_A P i) - fr_ (g_R P i) (g_L P (g_A P i)) < g_L P (g_B P i) - fr_ (g_R P i) (g_L P (g_B P i))
        · simp only [if_pos c]; rw [cpy_out (by omega)]; exact (congrArg (o_A n 5) (by omega)).trans ((b3 (fr_ (g_R P i) (g_L P (g_B P i)) + j') (by omega)).trans (congrArg (fun z => nI (g_E P (g_B P i) z)) (by omega)))
        · simp only [if_neg c]; rw [cpy_out (by omega)]; exact (congrArg (o_A n 5) (by omega)).trans ((a3 (fr_ (g_R P i) (g_L P (g_A P i)) + j') (by omega)).trans (congrArg (fun z => nI (g_E P (g_A P i) z)) (by omega)))
  · have hb := v4 (Or.inr k)
    obtain ⟨b1, b2, b3⟩ := ha _ hb
    have fb := fr_le (g_R P i) (g_L P (g_B P i))
    have hL2 := hL
    unfold dv_L at hL2
    rw [if_neg (show ¬ g_K P i = 1 by omega), if_pos k] at hL2
    unfold cA_ cB_ fA_ fB_ at hL2
    rw [k, if_neg (show ¬ nI 2 = 1 by decide), if_pos (show nI 2 = 2 from rfl), y_lframe hi v3 hb v2 e1 (e2 (Or.inr k)) e3 a2 b2 a1 b1, Option.bind_some]
    dsimp only
    unfold f_X1_ownLetter
    rw [Option.bind_some, show (20004 : Int32) + nI i = nI (20004 + i) from nI_add 20004 i, y_one (by omega) (by omega), Option.bind_some, pA_pA, red]
    dsimp only
    rw [show (1 : Int32) = nI 1 from rfl, y_lcell (n := p_A n 5 _) (w := 1) hi v3 hb v2 e1 (e2 (Or.inr k)) e3 a2 b2 a1 b1 (by omega) (by omega), Option.bind_some, pA_pA, red]
    refine ⟨_, rfl, fun l hl => ?_, fun j hj => ?_⟩
    · rw [cpy_out (by omega), updE, if_neg (by omega), cpy_out (by omega)]
    · unfold dv_L at hj
      rw [if_neg (show ¬ g_K P i = 1 by omega), if_pos k] at hj
      unfold dv_E lF_ lC_ fC_
      unfold cA_ cB_ at *
      unfold fA_ fB_ at *
      rw [if_neg (show ¬ g_K P i = 1 by omega), if_pos k]
      by_cases cj : j < max (fr_ (g_R P i) (g_L P (g_A P i))) (fr_ (g_R P i) (g_L P (g_B P i)))
      · rw [cpy_out (by omega), updE, if_neg (by omega), cpy_in cj, if_pos cj]
        by_cases c : fr_ (g_R P i) (g_L P (g_A P i)) < fr_ (g_R P i) (g_L P (g_B P i))
        · simp only [if_pos c]; exact b3 j (by omega)
        · simp only [if_neg c]; exact a3 j (by omega)
      · rw [if_neg cj]
        by_cases ce : j = max (fr_ (g_R P i) (g_L P (g_A P i))) (fr_ (g_R P i) (g_L P (g_B P i)))
        · rw [if_pos ce, cpy_out (by omega), updE, if_pos (by omega)]
        · obtain ⟨j', rfl⟩ : ∃ j', j = max (fr_ (g_R P i) (g_L P (g_A P i))) (fr_ (g_R P i) (g_L P (g_B P i))) + 1 + j' := ⟨j - max (fr_ (g_R P i) (g_L P (g_A P i))) (fr_ (g_R P i) (g_L P (g_B P i))) - 1, by omega⟩
          rw [← Nat.add_assoc (6 * i) _ j', ← Nat.add_assoc (6 * i) _ 1, cpy_in (by omega), if_neg ce]
          by_cases c : g_L P (g_A P i) - fr_ (g_R P i) (g_L P (g_A P i)) < g_L P (g_B P i) - fr_ (g_R P i) (g_L P (g_B P i))
          · simp only [if_pos c]; rw [updE, if_neg (by omega), cpy_out (by omega)]; exact (congrArg (o_A n 5) (by omega)).trans ((b3 (fr_ (g_R P i) (g_L P (g_B P i)) + 1 + j') (by omega)).trans (congrArg (fun z => nI (g_E P (g_B P i) z)) (by omega)))
          · simp only [if_neg c]; rw [updE, if_neg (by omega), cpy_out (by omega)]; exact (congrArg (o_A n 5) (by omega)).trans ((a3 (fr_ (g_R P i) (g_L P (g_A P i)) + 1 + j') (by omega)).trans (congrArg (fun z => nI (g_E P (g_A P i) z)) (by omega)))
  · have hL2 := hL
    unfold dv_L at hL2
    rw [k, if_neg (show ¬ 3 = 1 by decide), if_neg (show ¬ 3 = 2 by decide), if_pos rfl] at hL2
    rw [k, if_neg (show ¬ nI 3 = 1 by decide), if_neg (show ¬ nI 3 = 2 by decide), if_pos (show nI 3 = 3 from rfl), show (0 : Int32) = nI 0 from rfl, y_part hi v3 a2 a1 (by omega) (by omega), Option.bind_some]
    refine ⟨_, rfl, fun l hl => cpy_out (by omega), fun j hj => ?_⟩
    unfold dv_L at hj
    unfold dv_E
    rw [k, if_neg (show ¬ 3 = 1 by decide), if_neg (show ¬ 3 = 2 by decide), if_pos rfl] at hj
    rw [k, if_neg (show ¬ 3 = 1 by decide), if_neg (show ¬ 3 = 2 by decide), if_pos rfl, Nat.add_zero, Nat.add_zero, cpy_in (by omega)]
    exact a3 j hj
  · have hL2 := hL
    unfold dv_L at hL2
    rw [k, if_neg (show ¬ 4 = 1 by decide), if_neg (show ¬ 4 = 2 by decide), if_neg (show ¬ 4 = 3 by decide), if_pos rfl] at hL2
    unfold cA_ fA_ at hL2
    rw [k, if_neg (show ¬ nI 4 = 1 by decide), if_neg (show ¬ nI 4 = 2 by decide), if_neg (show ¬ nI 4 = 3 by decide), if_pos (show nI 4 = 4 from rfl), y_frame hi v3 v2 e3 a2 a1, Option.bind_some]
    dsimp only
    rw [ld_nI (by omega) (by omega), Option.bind_some, show o_A (p_A n 5 (va_cpy (o_A n 5) (o_A n 5) (6 * g_A P i) (6 * i) (fr_ (g_R P i) (g_L P (g_A P i))))) 3 = o_A n 3 from rfl, e3, y_fr (n := p_A n 5 _) (by omega) v2 a2 a1, Option.bind_some, nI_1, y_part (n := p_A n 5 _) hi v3 a2 a1 (by omega) (by omega), Option.bind_some, pA_pA, red]
    refine ⟨_, rfl, fun l hl => by rw [cpy_out (by omega), cpy_out (by omega)], fun j hj => ?_⟩
    unfold dv_L at hj
    unfold dv_E
    rw [k, if_neg (show ¬ 4 = 1 by decide), if_neg (show ¬ 4 = 2 by decide), if_neg (show ¬ 4 = 3 by decide), if_pos rfl] at hj
    rw [k, if_neg (show ¬ 4 = 1 by decide), if_neg (show ¬ 4 = 2 by decide), if_neg (show ¬ 4 = 3 by decide), if_pos rfl]
    unfold cA_ at hj
    unfold fA_ at *
    by_cases cj : j < fr_ (g_R P i) (g_L P (g_A P i))
    · rw [cpy_out (by omega), cpy_in cj, if_pos cj]
      exact a3 j (by omega)
    · obtain ⟨j', rfl⟩ : ∃ j', j = fr_ (g_R P i) (g_L P (g_A P i)) + j' := ⟨j - fr_ (g_R P i) (g_L P (g_A P i)), by omega⟩
      rw [← Nat.add_assoc (6 * i) _ j', cpy_in (by omega), cpy_out (by omega), if_neg cj]
      exact (congrArg (o_A n 5) (by omega)).trans ((a3 (fr_ (g_R P i) (g_L P (g_A P i)) + 1 + j') (by omega)).trans (congrArg (fun z => nI (g_E P (g_A P i) z)) (by omega)))
  · have hL2 := hL
    unfold dv_L at hL2
    rw [k, if_neg (show ¬ 5 = 1 by decide), if_neg (show ¬ 5 = 2 by decide), if_neg (show ¬ 5 = 3 by decide), if_neg (show ¬ 5 = 4 by decide)] at hL2
    unfold fA_ at hL2
    rw [k, if_neg (show ¬ nI 5 = 1 by decide), if_neg (show ¬ nI 5 = 2 by decide), if_neg (show ¬ nI 5 = 3 by decide), if_neg (show ¬ nI 5 = 4 by decide), if_pos (show nI 5 = 5 from rfl), y_frame hi v3 v2 e3 a2 a1, Option.bind_some]
    dsimp only
    unfold f_X1_ownLetter
    rw [Option.bind_some, show (20004 : Int32) + nI i = nI (20004 + i) from nI_add 20004 i, y_one (by omega) (by omega), Option.bind_some, pA_pA, red]
    refine ⟨_, rfl, fun l hl => by rw [updE, if_neg (by omega), cpy_out (by omega)], fun j hj => ?_⟩
    unfold dv_L at hj
    unfold dv_E
    rw [k, if_neg (show ¬ 5 = 1 by decide), if_neg (show ¬ 5 = 2 by decide), if_neg (show ¬ 5 = 3 by decide), if_neg (show ¬ 5 = 4 by decide)] at hj
    rw [k, if_neg (show ¬ 5 = 1 by decide), if_neg (show ¬ 5 = 2 by decide), if_neg (show ¬ 5 = 3 by decide), if_neg (show ¬ 5 = 4 by decide), updE]
    unfold fA_ at *
    by_cases cj : j < fr_ (g_R P i) (g_L P (g_A P i))
    · rw [if_neg (by omega), cpy_in cj, if_pos cj]
      exact a3 j (by omega)
    · rw [if_pos (by omega), if_neg cj]
theorem x_derive0 (hi : i < 10) (ht : td_ P i) (e0 : o_A n 0 i = nI (g_K P i)) : f_X1_derive n (nI i) = some n := by
  unfold f_X1_derive
  rw [ld_nI (by omega) (by omega), Option.bind_some, ld_nI (by omega) (by omega), Option.bind_some, e0]
  rcases ht with k | k
  · rw [k]; rfl
  · rw [k]; rfl
end
