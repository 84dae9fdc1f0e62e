/-- extents met, axis by axis: so many from one on -/
def mlp_ (g : Nat → Nat × Nat) (nd by_ : Nat) : Nat → Nat → Sv_ → Sv_
  | 0, _, S => S
  | c + 1, k, S => mlp_ g nd by_ c (k + 1) (mt_ S nd by_ k (g k).1 (g k).2)
theorem mlp_f (g : Nat → Nat × Nat) (nd by_ : Nat) : ∀ (c k : Nat) {S : Sv_}, ¬ S.2 = [] → mlp_ g nd by_ c k S = S
  | 0, _, _, _ => rfl
  | c + 1, k, S, h => by
    show mlp_ g nd by_ c (k + 1) (mt_ S nd by_ k (g k).1 (g k).2) = S
    rw [mt_f h]
    exact mlp_f g nd by_ c (k + 1) h
def gF_ (P : Pg_) (i k : Nat) : Nat × Nat := (g_E P (g_A P i) k, g_E P (g_B P i) k)
def gC_ (P : Pg_) (i k : Nat) : Nat × Nat := (g_E P (g_A P i) (fA_ P i + k), g_E P (g_B P i) (fB_ P i + k))
def mnd_ (P : Pg_) (i : Nat) (S : Sv_) : Sv_ := if g_K P i = 1 ∨ g_K P i = 2 then mlp_ (gC_ P i) i 2 (min (cA_ P i) (cB_ P i) - (g_K P i - 1)) (g_K P i - 1) (mlp_ (gF_ P i) i 1 (min (fA_ P i) (fB_ P i)) 0 S) else S
def mal_ (P : Pg_) : Nat → Nat → Sv_ → Sv_
  | 0, _, S => S
  | c + 1, i, S => mal_ P c (i + 1) (mnd_ P i S)
theorem mnd_f (P : Pg_) (i : Nat) {S : Sv_} (h : ¬ S.2 = []) : mnd_ P i S = S := by
  unfold mnd_
  by_cases c : g_K P i = 1 ∨ g_K P i = 2
  · rw [if_pos c, mlp_f _ _ _ _ _ h, mlp_f _ _ _ _ _ h]
  · rw [if_neg c]
theorem mal_f (P : Pg_) : ∀ (c i : Nat) {S : Sv_}, ¬ S.2 = [] → mal_ P c i S = S
  | 0, _, _, _ => rfl
  | c + 1, i, S, h => by
    show mal_ P c (i + 1) (mnd_ P i S) = S
    rw [mnd_f P i h]
    exact mal_f P c (i + 1) h
/-- every extent of a good program is a number up to 9 or a letter -/
theorem wf_e {P : Pg_} (hW : Wf_ P) : ∀ i, i < g_N P → ∀ j, j < g_L P i → e_ok (g_E P i j) := by
  intro i
  induction i using Nat.strongRecOn with
  | ind i ih =>
    intro hi j hj
    obtain ⟨w1, w2, w3, w4, w5, w6⟩ := hW.2 i hi
    by_cases ht : td_ P i
    · rcases (w6 ht).2 j hj with h | h
      · exact Or.inl h
      · exact Or.inr ⟨h.1, by omega⟩
    · have hv : vb_ P i := by
        unfold vb_
        unfold td_ at ht
        omega
      obtain ⟨-, hL, hE⟩ := w5 hv
      have ha : g_A P i < i := w3 (by unfold vb_ at hv; omega)
      have iha := ih (g_A P i) ha (by omega)
      have own : e_ok (20004 + i) := Or.inr ⟨by omega, by have := hW.1; omega⟩
      have fa := fr_le (g_R P i) (g_L P (g_A P i))
      have hj2 := hj
      rw [hL] at hj2
      rw [hE j hj]
      unfold dv_E
      unfold dv_L at hj2
      by_cases k1 : g_K P i = 1
      · have ihb := ih (g_B P i) (w4 (Or.inl k1)) (by have := w4 (Or.inl k1); omega)
        have fb := fr_le (g_R P i) (g_L P (g_B P i))
        rw [if_pos k1] at hj2 ⊢
        unfold lF_ lC_ fC_ fA_ fB_ cA_ cB_ at *
        unfold fA_ fB_ at *
        by_cases c1 : j < max (fr_ (g_R P i) (g_L P (g_A P i))) (fr_ (g_R P i) (g_L P (g_B P i)))
        · rw [if_pos c1]
          by_cases c2 : fr_ (g_R P i) (g_L P (g_A P i)) < fr_ (g_R P i) (g_L P (g_B P i))
          · rw [if_pos c2]; exact ihb j (by omega)
          · rw [if_neg c2]; exact iha j (by omega)
        · rw [if_neg c1]
          by_cases c2 : g_L P (g_A P i) - fr_ (g_R P i) (g_L P (g_A P i)) < g_L P (g_B P i) - fr_ (g_R P i) (g_L P (g_B P i))
          · rw [if_pos c2, if_pos c2]; exact ihb _ (by omega)
          · rw [if_neg c2, if_neg c2]; exact iha _ (by omega)
      · rw [if_neg k1] at hj2 ⊢
        by_cases k2 : g_K P i = 2
        · have ihb := ih (g_B P i) (w4 (Or.inr k2)) (by have := w4 (Or.inr k2); omega)
          have fb := fr_le (g_R P i) (g_L P (g_B P i))
          rw [if_pos k2] at hj2 ⊢
          unfold lF_ lC_ fC_ fA_ fB_ cA_ cB_ at *
          unfold fA_ fB_ at *
          by_cases c1 : j < max (fr_ (g_R P i) (g_L P (g_A P i))) (fr_ (g_R P i) (g_L P (g_B P i)))
          · rw [if_pos c1]
            by_cases c2 : fr_ (g_R P i) (g_L P (g_A P i)) < fr_ (g_R P i) (g_L P (g_B P i))
            · rw [if_pos c2]; exact ihb j (by omega)
            · rw [if_neg c2]; exact iha j (by omega)
          · rw [if_neg c1]
            by_cases c3 : j = max (fr_ (g_R P i) (g_L P (g_A P i))) (fr_ (g_R P i) (g_L P (g_B P i)))
            · rw [if_pos c3]; exact own
            · rw [if_neg c3]
              by_cases c2 : g_L P (g_A P i) - fr_ (g_R P i) (g_L P (g_A P i)) < g_L P (g_B P i) - fr_ (g_R P i) (g_L P (g_B P i))
              · rw [if_pos c2, if_pos c2]; exact ihb _ (by omega)
              · rw [if_neg c2, if_neg c2]; exact iha _ (by omega)
        · rw [if_neg k2] at hj2 ⊢
          unfold cA_ fA_ at *
          by_cases k3 : g_K P i = 3
          · rw [if_pos k3] at hj2 ⊢; exact iha j hj2
          · rw [if_neg k3] at hj2 ⊢
            by_cases k4 : g_K P i = 4
            · rw [if_pos k4] at hj2 ⊢
              by_cases c1 : j < fr_ (g_R P i) (g_L P (g_A P i))
              · rw [if_pos c1]; exact iha j (by omega)
              · rw [if_neg c1]; exact iha _ (by omega)
            · rw [if_neg k4] at hj2 ⊢
              by_cases c1 : j < fr_ (g_R P i) (g_L P (g_A P i))
              · rw [if_pos c1]; exact iha j (by omega)
              · rw [if_neg c1]; exact own
/-- what a node of two arguments needs -/
def Two_ (P : Pg_) (i : Nat) : Prop := i < g_N P ∧ (g_K P i = 1 ∨ g_K P i = 2)
theorem two_at {P : Pg_} (hW : Wf_ P) {i : Nat} (h : Two_ P i) : (g_A P i < g_N P ∧ g_L P (g_A P i) ≤ 6 ∧ fA_ P i ≤ g_L P (g_A P i)) ∧ (g_B P i < g_N P ∧ g_L P (g_B P i) ≤ 6 ∧ fB_ P i ≤ g_L P (g_B P i)) ∧ g_R P i ∈ rks_ ∧ g_N P ≤ 10 := by
  obtain ⟨w1, w2, w3, w4, w5, w6⟩ := hW.2 i h.1
  have a1 := w3 (by rcases h.2 with z | z <;> omega)
  have b1 := w4 h.2
  have hi := h.1
  refine ⟨⟨by omega, (hW.2 _ (by omega)).2.1, fr_le _ _⟩, ⟨by omega, (hW.2 _ (by omega)).2.1, fr_le _ _⟩, (w5 (by unfold vb_; rcases h.2 with z | z <;> omega)).1, hW.1⟩
abbrev SF_ : List Nat := [31, 32, 34, 35]
theorem m_mbF {P : Pg_} (hW : Wf_ P) {i : Nat} (h2 : Two_ P i) {o : Ob_T} (hm : Rm_ (o_A o 1) P) {S : Sv_} (hR : Rso_ o S) (x2 : Int32) (k114 : Int32 → Int32 → Int32 → Int32 → Int32 → Int32 → Ob_T → Option Ob_T) :
    ∃ o', Lp_ (fun (rec : (Int32 × Int32 × Int32 × Int32 × Int32 × Int32 × Int32 × Ob_T) → Option Ob_T) x => f_X9_meetBoth_L64 k114 rec x.1 x.2.1 x.2.2.1 x.2.2.2.1 x.2.2.2.2.1 x.2.2.2.2.2.1 x.2.2.2.2.2.2.1 x.2.2.2.2.2.2.2) FU_ (nI i, x2, nI (g_A P i), nI (g_B P i), nI (fA_ P i), nI (fB_ P i), 0, o) = k114 (nI i) x2 (nI (g_A P i)) (nI (g_B P i)) (nI (fA_ P i)) (nI (fB_ P i)) o' ∧ Rso_ o' (mlp_ (gF_ P i) i 1 (min (fA_ P i) (fB_ P i)) 0 S) ∧ Fr_ SF_ o o' := by
  obtain ⟨⟨a1, a2, a3⟩, ⟨b1, b2, b3⟩, hr, hN⟩ := two_at hW h2
  have hi := h2.1
  refine lp_fu (P := fun r => ∃ o', r = k114 (nI i) x2 (nI (g_A P i)) (nI (g_B P i)) (nI (fA_ P i)) (nI (fB_ P i)) o' ∧ Rso_ o' (mlp_ (gF_ P i) i 1 (min (fA_ P i) (fB_ P i)) 0 S) ∧ Fr_ SF_ o o')
    (fun n x => ∃ c k o1 S1, n = c + 1 ∧ k + c = min (fA_ P i) (fB_ P i) ∧ x = (nI i, x2, nI (g_A P i), nI (g_B P i), nI (fA_ P i), nI (fB_ P i), nI k, o1) ∧ Rso_ o1 S1 ∧ mlp_ (gF_ P i) i 1 c k S1 = mlp_ (gF_ P i) i 1 (min (fA_ P i) (fB_ P i)) 0 S ∧ Fr_ SF_ o o1) ?_ ?_ (min (fA_ P i) (fB_ P i) + 1) _ ⟨min (fA_ P i) (fB_ P i), 0, o, S, rfl, by omega, rfl, hR, rfl, fr_rf _ _⟩ (by omega)
  · rintro x ⟨c, k, o1, S1, z, -⟩
    omega
  · rintro n x rec ⟨c, k, o1, S1, hn, hk, rfl, hR1, hS1, hF1⟩ hr'
    unfold f_X9_meetBoth_L64
    dsimp only
    have hm1 : Rm_ (o_A o1 1) P := by rw [(hF1 1 (by decide)).2]; exact hm
    match c, hn, hk, hS1 with
    | 0, hn, hk, hS1 =>
      have fin : ∃ o', k114 (nI i) x2 (nI (g_A P i)) (nI (g_B P i)) (nI (fA_ P i)) (nI (fB_ P i)) o1 = k114 (nI i) x2 (nI (g_A P i)) (nI (g_B P i)) (nI (fA_ P i)) (nI (fB_ P i)) o' ∧ Rso_ o' (mlp_ (gF_ P i) i 1 (min (fA_ P i) (fB_ P i)) 0 S) ∧ Fr_ SF_ o o' := ⟨o1, rfl, by rw [← hS1]; exact hR1, hF1⟩
      by_cases q1 : fA_ P i ≤ k
      · rw [if_pos (nI_le q1 (by omega))]; exact fin
      · rw [if_neg (nI_ge (by omega) (by omega)), if_pos (nI_le (by omega) (by omega))]; exact fin
    | c + 1, hn, hk, hS1 =>
      rw [if_neg (nI_ge (by omega) (by omega)), if_neg (nI_ge (by omega) (by omega))]
      by_cases hf : S1.2 = []
      · rw [if_pos (rso_f0 hR1 hf), m_ext hm1 hN a1 (by omega) a2, Option.bind_some, m_ext hm1 hN b1 (by omega) b2, Option.bind_some]
        obtain ⟨o2, e2, hR2, hF2⟩ := m_meet hR1 hf (nd := i) (by_ := 1) (ax := k) ⟨by omega, by omega, by omega⟩ (wf_e hW _ a1 k (by omega)) (wf_e hW _ b1 k (by omega))
        rw [show f_X9_meet o1 (nI i) 1 (nI k) (nI (g_E P (g_A P i) k)) (nI (g_E P (g_B P i) k)) = some o2 from e2, Option.bind_some]
        exact hr' _ ⟨c, k + 1, o2, _, by omega, by omega, by rw [nI_1], hR2, hS1, fr_tr hF1 hF2⟩
      · rw [if_neg (by rw [rso_f1 hR1 hf]; decide)]
        exact ⟨o1, rfl, by rw [← hS1, mlp_f _ _ _ _ _ hf]; exact hR1, hF1⟩
theorem m_mbC {P : Pg_} (hW : Wf_ P) {i c0 : Nat} (h2 : Two_ P i) {o : Ob_T} (hm : Rm_ (o_A o 1) P) {S : Sv_} (hR : Rso_ o S) (hc0 : c0 ≤ 1) :
    ∃ o', f_X9_meetBoth_J131 (nI i) (nI (g_A P i)) (nI (g_B P i)) (nI (fA_ P i)) (nI (fB_ P i)) (nI c0) o = some o' ∧ Rso_ o' (mlp_ (gC_ P i) i 2 (min (cA_ P i) (cB_ P i) - c0) c0 S) ∧ Fr_ SF_ o o' := by
  obtain ⟨⟨a1, a2, a3⟩, ⟨b1, b2, b3⟩, hr, hN⟩ := two_at hW h2
  have hi := h2.1
  have hcA : cA_ P i = g_L P (g_A P i) - fA_ P i := rfl
  have hcB : cB_ P i = g_L P (g_B P i) - fB_ P i := rfl
  unfold f_X9_meetBoth_J131
  refine lp_fu (P := fun r => ∃ o', r = some o' ∧ Rso_ o' (mlp_ (gC_ P i) i 2 (min (cA_ P i) (cB_ P i) - c0) c0 S) ∧ Fr_ SF_ o o')
    (fun n x => ∃ c k o1 S1, n = c + 1 ∧ k ≤ 7 ∧ c = min (cA_ P i) (cB_ P i) - k ∧ x = (nI i, nI (g_A P i), nI (g_B P i), nI (fA_ P i), nI (fB_ P i), nI k, o1) ∧ Rso_ o1 S1 ∧ mlp_ (gC_ P i) i 2 c k S1 = mlp_ (gC_ P i) i 2 (min (cA_ P i) (cB_ P i) - c0) c0 S ∧ Fr_ SF_ o o1) ?_ ?_ (min (cA_ P i) (cB_ P i) - c0 + 1) _ ⟨_, c0, o, S, rfl, by omega, rfl, rfl, hR, rfl, fr_rf _ _⟩ (by omega)
  · rintro x ⟨c, k, o1, S1, z, -⟩
    omega
  · rintro n x rec ⟨c, k, o1, S1, hn, hk7, hk, rfl, hR1, hS1, hF1⟩ hr'
    unfold f_X9_meetBoth_L133
    dsimp only
    have hm1 : Rm_ (o_A o1 1) P := by rw [(hF1 1 (by decide)).2]; exact hm
    rw [m_long hm1 hN a1, Option.bind_some, nI_add, nI_add]
    match c, hn, hk, hS1 with
    | 0, hn, hk, hS1 =>
      have fin : ∃ o', some o1 = some o' ∧ Rso_ o' (mlp_ (gC_ P i) i 2 (min (cA_ P i) (cB_ P i) - c0) c0 S) ∧ Fr_ SF_ o o' := ⟨o1, rfl, by rw [← hS1]; exact hR1, hF1⟩
      by_cases q1 : g_L P (g_A P i) ≤ fA_ P i + k
      · rw [if_pos (nI_le q1 (by omega))]; exact fin
      · rw [if_neg (nI_ge (by omega) (by omega)), m_long hm1 hN b1, Option.bind_some, if_pos (nI_le (by omega) (by omega))]; exact fin
    | c + 1, hn, hk, hS1 =>
      rw [if_neg (nI_ge (by omega) (by omega)), m_long hm1 hN b1, Option.bind_some, if_neg (nI_ge (by omega) (by omega))]
      by_cases hf : S1.2 = []
      · rw [if_pos (rso_f0 hR1 hf), m_ext hm1 hN a1 (by omega) a2, Option.bind_some, m_ext hm1 hN b1 (by omega) b2, Option.bind_some]
        obtain ⟨o2, e2, hR2, hF2⟩ := m_meet hR1 hf (nd := i) (by_ := 2) (ax := k) ⟨by omega, by omega, by omega⟩ (wf_e hW _ a1 (fA_ P i + k) (by omega)) (wf_e hW _ b1 (fB_ P i + k) (by omega))
        rw [show f_X9_meet o1 (nI i) 2 (nI k) (nI (g_E P (g_A P i) (fA_ P i + k))) (nI (g_E P (g_B P i) (fB_ P i + k))) = some o2 from e2, Option.bind_some]
        exact hr' _ ⟨c, k + 1, o2, _, by omega, by omega, by omega, by rw [nI_1], hR2, hS1, fr_tr hF1 hF2⟩
      · rw [if_neg (by rw [rso_f1 hR1 hf]; decide)]
        exact ⟨o1, rfl, by rw [← hS1, mlp_f _ _ _ _ _ hf]; exact hR1, hF1⟩
