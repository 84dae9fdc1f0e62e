theorem ld15 {f : Nat → Int32} {i k : Nat} {j : Int32} (e : j = nI k) (hi : i < 10) (hk : k < 15) : ld_I f 150 (15 * nI i + j) = some (f (15 * i + k)) := by
  subst e
  rw [show (15 : Int32) * nI i + nI k = nI (15 * i + k) from by rw [show (15 : Int32) = nI 15 from rfl, pk_mul, nI_add]]
  exact ld_nI (by omega) (by omega)
section
variable {f : Nat → Int32} {P : Pg_} {i : Nat}
theorem l_K (hm : Rm_ f P) (hN : g_N P ≤ 10) (hi : i < g_N P) : ld_I f 150 (15 * nI i + 0) = some (nI (g_K P i)) := by
  rw [ld15 (j := 0) (k := 0) rfl (by omega) (by omega)]
  exact congrArg some (hm i hi).1
theorem l_A (hm : Rm_ f P) (hN : g_N P ≤ 10) (hi : i < g_N P) (hk : g_K P i ≠ 0) : ld_I f 150 (15 * nI i + 1) = some (nI (g_A P i)) := by
  rw [ld15 (j := 1) (k := 1) rfl (by omega) (by omega)]
  exact congrArg some ((hm i hi).2.1 hk)
theorem l_B (hm : Rm_ f P) (hN : g_N P ≤ 10) (hi : i < g_N P) (hk : g_K P i = 1 ∨ g_K P i = 2) : ld_I f 150 (15 * nI i + 2) = some (nI (g_B P i)) := by
  rw [ld15 (j := 2) (k := 2) rfl (by omega) (by omega)]
  exact congrArg some ((hm i hi).2.2.2.1 hk)
theorem l_R (hm : Rm_ f P) (hN : g_N P ≤ 10) (hi : i < g_N P) (hk : vb_ P i) : ld_I f 150 (15 * nI i + 3) = some (g_R P i) := by
  rw [ld15 (j := 3) (k := 3) rfl (by omega) (by omega)]
  exact congrArg some ((hm i hi).2.2.2.2.2.1 hk)
end
section
variable {n : Ob_T} {P : Pg_} {i : Nat}
theorem x_K (hn : Rn_ n P) (hN : g_N P ≤ 10) (hi : i < g_N P) : f_X1_kindOf n (nI i) = some (nI (g_K P i)) := by
  unfold f_X1_kindOf
  rw [ld_nI (by omega) (by omega), Option.bind_some, (hn.2 i hi).1]
theorem x_A (hn : Rn_ n P) (hN : g_N P ≤ 10) (hi : i < g_N P) (hk : g_K P i ≠ 0) : f_X1_firstOf n (nI i) = some (nI (g_A P i)) := by
  unfold f_X1_firstOf
  rw [ld_nI (by omega) (by omega), Option.bind_some, (hn.2 i hi).2.1 hk]
theorem x_B (hn : Rn_ n P) (hN : g_N P ≤ 10) (hi : i < g_N P) (hk : g_K P i = 1 ∨ g_K P i = 2) : f_X1_secondOf n (nI i) = some (nI (g_B P i)) := by
  unfold f_X1_secondOf
  rw [ld_nI (by omega) (by omega), Option.bind_some, (hn.2 i hi).2.2.2.1 hk]
theorem x_R (hn : Rn_ n P) (hN : g_N P ≤ 10) (hi : i < g_N P) (hk : vb_ P i) : f_X1_rankOf n (nI i) = some (g_R P i) := by
  unfold f_X1_rankOf
  rw [ld_nI (by omega) (by omega), Option.bind_some, (hn.2 i hi).2.2.2.2.2.1 hk]
theorem x_L (hn : Rn_ n P) (hN : g_N P ≤ 10) (hi : i < g_N P) : f_X1_axesOf n (nI i) = some (nI (g_L P i)) := by
  unfold f_X1_axesOf
  rw [ld_nI (by omega) (by omega), Option.bind_some, (hn.2 i hi).2.2.2.2.2.2.2.1]
end
theorem nI_min {a b : Nat} (ha : a < 2 ^ 31) (hb : b < 2 ^ 31) : (if nI b < nI a then nI b else nI a) = nI (min a b) := by
  by_cases h : b < a
  · rw [if_pos (nI_lt h ha), show min a b = b by omega]
  · rw [if_neg (nI_nlt (by omega) hb), show min a b = a by omega]
theorem nI_max {a b : Nat} (ha : a < 2 ^ 31) (hb : b < 2 ^ 31) : (if nI a < nI b then nI b else nI a) = nI (max a b) := by
  by_cases h : a < b
  · rw [if_pos (nI_lt h hb), show max a b = b by omega]
  · rw [if_neg (nI_nlt (by omega) ha), show max a b = a by omega]
theorem two_k {P : Pg_} {i : Nat} (h : Two_ P i) : g_K P i ≠ 0 ∧ vb_ P i := by
  rcases h.2 with z | z <;> exact ⟨by omega, by unfold vb_; omega⟩
theorem m_meetBoth {P : Pg_} (hW : Wf_ P) {i : Nat} (h2 : Two_ P i) {o : Ob_T} (hm : Rm_ (o_A o 1) P) {S : Sv_} (hR : Rso_ o S) : ∃ o', f_X9_meetBoth o (nI i) = some o' ∧ Rso_ o' (mnd_ P i S) ∧ Fr_ SF_ o o' := by
  obtain ⟨⟨a1, a2, a3⟩, ⟨b1, b2, b3⟩, hr, hN⟩ := two_at hW h2
  obtain ⟨hk0, hv⟩ := two_k h2
  have hi := h2.1
  unfold f_X9_meetBoth
  rw [l_A hm hN hi hk0, Option.bind_some, l_B hm hN hi h2.2, Option.bind_some, m_long hm hN a1, Option.bind_some, l_R hm hN hi hv, Option.bind_some, m_fr hr a2, Option.bind_some, m_long hm hN b1, Option.bind_some, Option.bind_some, m_fr hr b2, Option.bind_some]
  obtain ⟨o1, e1, hR1, hF1⟩ := m_mbF hW h2 hm hR (15 * nI i) (fun y1 y2 y3 y4 y5 y6 t_o => f_X9_meetBoth_J114 y1 y2 y3 y4 y5 y6 t_o)
  have hm1 : Rm_ (o_A o1 1) P := by rw [(hF1 1 (by decide)).2]; exact hm
  unfold mnd_
  rw [if_pos h2.2]
  have e2 : Lp_ (fun (rec : (Int32 × Int32 × Int32 × Int32 × Int32 × Int32 × Int32 × Ob_T) → Option Ob_T) x => f_X9_meetBoth_L64 (fun y1 y2 y3 y4 y5 y6 t_o => f_X9_meetBoth_J114 y1 y2 y3 y4 y5 y6 t_o) rec x.1 x.2.1 x.2.2.1 x.2.2.2.1 x.2.2.2.2.1 x.2.2.2.2.2.1 x.2.2.2.2.2.2.1 x.2.2.2.2.2.2.2) FU_ (nI i, 15 * nI i, nI (g_A P i), nI (g_B P i), nI (fr_ (g_R P i) (g_L P (g_A P i))), nI (fr_ (g_R P i) (g_L P (g_B P i))), 0, o) = f_X9_meetBoth_J131 (nI i) (nI (g_A P i)) (nI (g_B P i)) (nI (fA_ P i)) (nI (fB_ P i)) (nI (g_K P i - 1)) o1 := by
    refine e1.trans ?_
    show f_X9_meetBoth_J114 (nI i) (15 * nI i) (nI (g_A P i)) (nI (g_B P i)) (nI (fA_ P i)) (nI (fB_ P i)) o1 = _
    unfold f_X9_meetBoth_J114
    rw [l_K hm1 hN hi, Option.bind_some]
    rcases h2.2 with z | z
    · rw [z, if_neg (by decide)]
      rfl
    · rw [z, if_pos (by decide)]
      rfl
  rw [e2]
  obtain ⟨o2, e3, hR2, hF2⟩ := m_mbC hW h2 (c0 := g_K P i - 1) hm1 hR1 (by rcases h2.2 with z | z <;> omega)
  exact ⟨o2, e3, hR2, fr_tr hF1 hF2⟩
abbrev SG_ : List Nat := [2, 3, 5]
theorem x_mbF {P : Pg_} (hW : Wf_ P) {i : Nat} (h2 : Two_ P i) {v n : Ob_T} (hn : Rn_ n P) {S : Sv_} (hR : Rsv_ v S) : ∃ v', f_X5_meetFrames v n (nI i) = some v' ∧ Rsv_ v' (mlp_ (gF_ P i) i 1 (min (fA_ P i) (fB_ P i)) 0 S) ∧ Fr_ SG_ v v' := by
  obtain ⟨⟨a1, a2, a3⟩, ⟨b1, b2, b3⟩, hr, hN⟩ := two_at hW h2
  obtain ⟨hk0, hv⟩ := two_k h2
  have hi := h2.1
  unfold f_X5_meetFrames
  rw [x_A hn hN hi hk0, Option.bind_some, x_B hn hN hi h2.2, Option.bind_some, x_R hn hN hi hv, Option.bind_some, x_fr hn hN a1 hr a2, Option.bind_some, x_fr hn hN b1 hr b2, Option.bind_some]
  show ∃ v', Lp_ _ FU_ (nI i, nI (g_A P i), nI (g_B P i), (if nI (fB_ P i) < nI (fA_ P i) then nI (fB_ P i) else nI (fA_ P i)), 0, v) = some v' ∧ _
  rw [nI_min (by omega) (by omega)]
  refine lp_fu (P := fun r => ∃ v', r = some v' ∧ Rsv_ v' (mlp_ (gF_ P i) i 1 (min (fA_ P i) (fB_ P i)) 0 S) ∧ Fr_ SG_ v v')
    (fun n x => ∃ c k v1 S1, n = c + 1 ∧ k + c = min (fA_ P i) (fB_ P i) ∧ x = (nI i, nI (g_A P i), nI (g_B P i), nI (min (fA_ P i) (fB_ P i)), nI k, v1) ∧ Rsv_ v1 S1 ∧ mlp_ (gF_ P i) i 1 c k S1 = mlp_ (gF_ P i) i 1 (min (fA_ P i) (fB_ P i)) 0 S ∧ Fr_ SG_ v v1) ?_ ?_ (min (fA_ P i) (fB_ P i) + 1) _ ⟨min (fA_ P i) (fB_ P i), 0, v, S, rfl, by omega, rfl, hR, rfl, fr_rf _ _⟩ (by omega)
  · rintro x ⟨c, k, o1, S1, z, -⟩
    omega
  · rintro n' x rec ⟨c, k, v1, S1, hn', hk, rfl, hR1, hS1, hF1⟩ hr'
    unfold f_X5_meetFrames_L56
    dsimp only
    match c, hn', hk, hS1 with
    | 0, hn', hk, hS1 =>
      rw [if_pos (nI_le (by omega) (by omega))]
      exact ⟨v1, rfl, by rw [← hS1]; exact hR1, hF1⟩
    | c + 1, hn', hk, hS1 =>
      rw [if_neg (nI_ge (by omega) (by omega)), x_failed hR1, Option.bind_some]
      by_cases hf : S1.2 = []
      · rw [if_pos (by rw [if_pos hf]), x_ext hn hN a1 (by omega) a2, Option.bind_some, x_ext hn hN b1 (by omega) b2, Option.bind_some]
        obtain ⟨v2, e2, hR2, hF2⟩ := x_meet hR1 hf (nd := i) (by_ := 1) (ax := k) ⟨by omega, by omega, by omega⟩ (wf_e hW _ a1 k (by omega)) (wf_e hW _ b1 k (by omega))
        rw [show f_X5_meet v1 (nI (g_E P (g_A P i) k)) (nI (g_E P (g_B P i) k)) (nI i) 1 (nI k) = some v2 from e2, Option.bind_some]
        exact hr' _ ⟨c, k + 1, v2, _, by omega, by omega, by rw [nI_1], hR2, hS1, fr_tr hF1 hF2⟩
      · rw [if_neg (by rw [if_neg hf]; decide)]
        exact ⟨v1, rfl, by rw [← hS1, mlp_f _ _ _ _ _ hf]; exact hR1, hF1⟩
theorem x_mbC {P : Pg_} (hW : Wf_ P) {i c0 : Nat} (h2 : Two_ P i) {v n : Ob_T} (hn : Rn_ n P) {S : Sv_} (hR : Rsv_ v S) (hc0 : c0 ≤ 1) : ∃ v', f_X5_meetCells v n (nI i) (nI c0) = some v' ∧ Rsv_ v' (mlp_ (gC_ P i) i 2 (min (cA_ P i) (cB_ P i) - c0) c0 S) ∧ Fr_ SG_ v v' := by
  obtain ⟨⟨a1, a2, a3⟩, ⟨b1, b2, b3⟩, hr, hN⟩ := two_at hW h2
  obtain ⟨hk0, hv⟩ := two_k h2
  have hi := h2.1
  have hcA : cA_ P i = g_L P (g_A P i) - fA_ P i := rfl
  have hcB : cB_ P i = g_L P (g_B P i) - fB_ P i := rfl
  unfold f_X5_meetCells
  rw [x_A hn hN hi hk0, Option.bind_some, x_B hn hN hi h2.2, Option.bind_some, x_R hn hN hi hv, Option.bind_some, x_ce hn hN a1 hr a2, Option.bind_some, x_ce hn hN b1 hr b2, Option.bind_some, x_fr hn hN a1 hr a2, Option.bind_some, x_fr hn hN b1 hr b2, Option.bind_some]
  show ∃ v', Lp_ _ FU_ (nI i, nI (g_A P i), nI (g_B P i), (if nI (cB_ P i) < nI (cA_ P i) then nI (cB_ P i) else nI (cA_ P i)), nI (fA_ P i), nI (fB_ P i), nI c0, v) = some v' ∧ _
  rw [nI_min (by omega) (by omega)]
  refine lp_fu (P := fun r => ∃ v', r = some v' ∧ Rsv_ v' (mlp_ (gC_ P i) i 2 (min (cA_ P i) (cB_ P i) - c0) c0 S) ∧ Fr_ SG_ v v')
    (fun n x => ∃ c k v1 S1, n = c + 1 ∧ k ≤ 7 ∧ c = min (cA_ P i) (cB_ P i) - k ∧ x = (nI i, nI (g_A P i), nI (g_B P i), nI (min (cA_ P i) (cB_ P i)), nI (fA_ P i), nI (fB_ P i), nI k, v1) ∧ Rsv_ v1 S1 ∧ mlp_ (gC_ P i) i 2 c k S1 = mlp_ (gC_ P i) i 2 (min (cA_ P i) (cB_ P i) - c0) c0 S ∧ Fr_ SG_ v v1) ?_ ?_ (min (cA_ P i) (cB_ P i) - c0 + 1) _ ⟨_, c0, v, S, rfl, by omega, rfl, rfl, hR, rfl, fr_rf _ _⟩ (by omega)
  · rintro x ⟨c, k, o1, S1, z, -⟩
    omega
  · rintro n' x rec ⟨c, k, v1, S1, hn', hk7, hk, rfl, hR1, hS1, hF1⟩ hr'
    unfold f_X5_meetCells_L83
    dsimp only
    match c, hn', hk, hS1 with
    | 0, hn', hk, hS1 =>
      rw [if_pos (nI_le (by omega) (by omega))]
      exact ⟨v1, rfl, by rw [← hS1]; exact hR1, hF1⟩
    | c + 1, hn', hk, hS1 =>
      rw [if_neg (nI_ge (by omega) (by omega)), x_failed hR1, Option.bind_some]
      by_cases hf : S1.2 = []
      · rw [if_pos (by rw [if_pos hf]), nI_add, nI_add, x_ext hn hN a1 (by omega) a2, Option.bind_some, x_ext hn hN b1 (by omega) b2, Option.bind_some]
        obtain ⟨v2, e2, hR2, hF2⟩ := x_meet hR1 hf (nd := i) (by_ := 2) (ax := k) ⟨by omega, by omega, by omega⟩ (wf_e hW _ a1 (fA_ P i + k) (by omega)) (wf_e hW _ b1 (fB_ P i + k) (by omega))
        rw [show f_X5_meet v1 (nI (g_E P (g_A P i) (fA_ P i + k))) (nI (g_E P (g_B P i) (fB_ P i + k))) (nI i) 2 (nI k) = some v2 from e2, Option.bind_some]
        exact hr' _ ⟨c, k + 1, v2, _, by omega, by omega, by omega, by rw [nI_1], hR2, hS1, fr_tr hF1 hF2⟩
      · rw [if_neg (by rw [if_neg hf]; decide)]
        exact ⟨v1, rfl, by rw [← hS1, mlp_f _ _ _ _ _ hf]; exact hR1, hF1⟩
