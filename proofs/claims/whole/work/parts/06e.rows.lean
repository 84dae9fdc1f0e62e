theorem x_isRow (x : Int32) : f_X8_isRow x = some (if 0 ≤ x.toInt ∧ x.toInt ≤ 2 then 1 else 0) := by
  unfold f_X8_isRow
  have l0 : (0 : Int32).toInt = 0 := rfl
  have l3 : (3 : Int32).toInt = 3 := rfl
  by_cases h1 : x < 0
  · rw [if_pos h1]
    rw [i_lt, l0] at h1
    rw [if_neg (by omega)]
  · rw [if_neg h1]
    rw [i_lt, l0] at h1
    by_cases h2 : 3 ≤ x
    · rw [if_pos h2]
      rw [i_le, l3] at h2
      rw [if_neg (by omega)]
    · rw [if_neg h2]
      rw [i_le, l3] at h2
      rw [if_pos (by omega)]
theorem x_isPlain (x : Int32) : f_X8_isPlain x = some (if 0 ≤ x.toInt ∧ x.toInt ≤ 3 then 1 else 0) := by
  unfold f_X8_isPlain
  have l0 : (0 : Int32).toInt = 0 := rfl
  have l4 : (4 : Int32).toInt = 4 := rfl
  by_cases h1 : x < 0
  · rw [if_pos h1]
    rw [i_lt, l0] at h1
    rw [if_neg (by omega)]
  · rw [if_neg h1]
    rw [i_lt, l0] at h1
    by_cases h2 : 4 ≤ x
    · rw [if_pos h2]
      rw [i_le, l4] at h2
      rw [if_neg (by omega)]
    · rw [if_neg h2]
      rw [i_le, l4] at h2
      rw [if_pos (by omega)]
theorem zb_if (c : Prop) [Decidable c] : zb_ (if c then (1 : Int32) else 0) = some (if c then 1 else 0) := by
  by_cases h : c
  · rw [if_pos h]; rfl
  · rw [if_neg h]; rfl
theorem m_isRow (x : Int32) : f_X9_isRow x = some (if 0 ≤ x.toInt ∧ x.toInt ≤ 2 then 1 else 0) := by
  unfold f_X9_isRow
  rw [f_in, i_wide]
  show (zb_ (if (0 : Int) ≤ x.toInt ∧ x.toInt ≤ 2 then (1 : Int32) else 0)).bind _ = _
  rw [zb_if]
  rfl
theorem m_isTold (x : Int32) : f_X9_isTold x = some (if 0 ≤ x.toInt ∧ x.toInt ≤ 3 then 1 else 0) := by
  unfold f_X9_isTold
  rw [f_in, i_wide]
  show (zb_ (if (0 : Int) ≤ x.toInt ∧ x.toInt ≤ 3 then (1 : Int32) else 0)).bind _ = _
  rw [zb_if]
  rfl
theorem x_isSort (x : Int32) : f_X8_isSort x = some (if 0 ≤ x.toInt ∧ x.toInt ≤ 1 then 1 else 0) := by
  unfold f_X8_isSort
  have l0 : (0 : Int32).toInt = 0 := rfl
  have l1 : (1 : Int32).toInt = 1 := rfl
  by_cases h1 : x = 0
  · rw [if_pos h1]
    rw [i_eq, l0] at h1
    rw [if_pos (by omega)]
  · rw [if_neg h1]
    rw [i_eq, l0] at h1
    by_cases h2 : x = 1
    · rw [if_pos h2]
      rw [i_eq, l1] at h2
      rw [if_pos (by omega)]
    · rw [if_neg h2]
      rw [i_eq, l1] at h2
      rw [if_neg (by omega)]
/-- the rows: missing, or of so many places, of a sort -/
def R_rk (r o : Ob_T) (k : Nat) : Prop := (o_A r 1 k = -1 ∧ o_A o 16 k = -1) ∨ ∃ z st, z ≤ 10 ∧ st ≤ 1 ∧ o_A r 1 k = nI z ∧ o_A o 16 k = nI z ∧ o_A r 2 k = nI st ∧ o_A o 15 k = nI st ∧ ∀ j, j < z → o_A r 0 (10 * k + j) = o_A o 17 (10 * k + j)
def R_rw (r o : Ob_T) : Prop := ∀ k, k < 3 → R_rk r o k
theorem R_rw_fr {r o o' : Ob_T} {S : List Nat} (h : R_rw r o) (hf : Fr_ S o o') (hs : 15 ∉ S ∧ 16 ∉ S ∧ 17 ∉ S) : R_rw r o' := by
  intro k hk
  have h1 := h k hk
  unfold R_rk at h1 ⊢
  rw [(hf 15 hs.1).2, (hf 16 hs.2.1).2, (hf 17 hs.2.2).2]
  exact h1
theorem nI_nm1 {z : Nat} (h : z < 2 ^ 31) : ¬ nI z = -1 := by
  intro w
  have := congrArg Int32.toInt w
  rw [nI_toInt h] at this
  have e : (-1 : Int32).toInt = -1 := rfl
  omega
theorem sm_drop (x r o : Ob_T) (x1 : Int32) (h : R_rw r o) : Tr_ (f_X8_drop x r x1) (fun u => Tr_ (f_X9_drop o x1) (fun w => u.1 = w.1 ∧ R_rw u.2 w.2 ∧ Fr_ [15, 16, 17] o w.2)) := by
  unfold f_X8_drop f_X9_drop
  rw [bind_eq _ (x_isRow x1), bind_eq _ (m_isRow x1)]
  by_cases c1 : 0 ≤ x1.toInt ∧ x1.toInt ≤ 2
  · rw [if_pos c1, if_neg (by decide), if_neg (by decide)]
    obtain ⟨k, hk, rfl⟩ := i_of (x := x1) (n := 2) c1.1 c1.2
    have hk3 : k < 3 := by omega
    unfold f_X2_isMissing f_X2_sizeOf f_X2_remove
    simp only [ld_nI hk3 (show 3 < 2 ^ 31 by omega), st_nI hk3 (show 3 < 2 ^ 31 by omega), Option.bind_some]
    have nw : ∀ (v w : Int32), R_rw (p_A r 1 (upd (o_A r 1) k (-1))) (p_A o 16 (upd (o_A o 16) k (-1))) := by
      intro _ _ j hj
      by_cases hjk : j = k
      · subst hjk
        exact Or.inl ⟨by simp [oA_pA, updE], by simp [oA_pA, updE]⟩
      · have h1 := h j hj
        unfold R_rk at h1 ⊢
        simpa [oA_pA, updE, hjk] using h1
    rcases h k hk3 with ⟨e1, e2⟩ | ⟨z, st, hz, hst, e1, e2, e3, e4, e5⟩
    · rw [e1, e2, if_pos rfl, if_neg (show ¬ (0 : Int32) ≤ -1 by decide)]
      rw [Option.bind_some, if_neg (show ¬ (1 : Int32) = 0 by decide)]
      refine tr_some (tr_some ⟨rfl, ?_, fr_pA (by decide)⟩)
      intro j hj
      by_cases hjk : j = k
      · subst hjk
        exact Or.inl ⟨e1, by simp [oA_pA, updE]⟩
      · have h1 := h j hj
        unfold R_rk at h1 ⊢
        simpa [oA_pA, updE, hjk] using h1
    · rw [e1, e2, if_neg (nI_nm1 (by omega)), if_pos (nI_pos' (by omega))]
      rw [Option.bind_some, if_pos rfl]
      exact tr_some (tr_some ⟨rfl, nw 0 0, fr_pA (by decide)⟩)
  · rw [if_neg c1, if_pos rfl, if_pos rfl]
    exact tr_some (tr_some ⟨rfl, h, fr_rf _ _⟩)
