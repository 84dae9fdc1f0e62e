/-- the sort of a letter: 1 of a word, 2 of a number, 3 a sign -/
def so_ (ch : Nat) : Nat := if 97 ≤ ch ∧ ch ≤ 122 then 1 else if 48 ≤ ch ∧ ch ≤ 57 then 2 else 3
theorem x_sort : ∀ ch, ch < 256 → f_X6_sortOf (nI ch) = some (nI (so_ ch)) := by decide +kernel
theorem m_letter : ∀ ch, ch < 256 → f_X9_isLetter (nI ch) = some (if so_ ch = 1 then 1 else 0) := by decide +kernel
theorem m_digit1 : ∀ ch, ch < 256 → f_X9_isDigit (nI ch) = some (if so_ ch = 2 then 1 else 0) := by decide +kernel
/-- the text lies in both -/
def Tx_ (t o : Ob_T) (c : Nat → Nat) (L : Nat) : Prop := L ≤ 200 ∧ o_F t 1 = nI L ∧ o_F o 10 = nI L ∧ ∀ i, i < L → c i < 256 ∧ o_A t 0 i = nI (c i) ∧ o_A o 9 i = nI (c i)
theorem tx_of {t o : Ob_T} (h : R_tx t o) : ∃ c L, Tx_ t o c L := by
  obtain ⟨L, h1, h2, h3, h4⟩ := h
  refine ⟨fun i => (o_A t 0 i).toInt.toNat, L, h1, h2, h3, fun i hi => ?_⟩
  obtain ⟨ch, q1, q2, q3⟩ := h4 i hi
  have e : (o_A t 0 i).toInt.toNat = ch := by rw [q2, nI_toInt (by omega)]; omega
  dsimp only
  rw [e]
  exact ⟨q1, q2, q3⟩
theorem tx_fr {t o t' o' : Ob_T} {c : Nat → Nat} {L : Nat} (h : Tx_ t o c L) (e1 : o_F t' 1 = o_F t 1) (e2 : o_A t' 0 = o_A t 0) (e3 : o_F o' 10 = o_F o 10) (e4 : o_A o' 9 = o_A o 9) : Tx_ t' o' c L := by
  obtain ⟨h1, h2, h3, h4⟩ := h
  exact ⟨h1, by rw [e1]; exact h2, by rw [e3]; exact h3, fun i hi => by rw [e2, e4]; exact h4 i hi⟩
/-- the spaces from e on end at s -/
def Sp_ (c : Nat → Nat) (L e s : Nat) : Prop := e ≤ s ∧ s ≤ L ∧ (∀ i, e ≤ i → i < s → c i = 32) ∧ (s < L → ¬ c s = 32)
theorem sp_u {c : Nat → Nat} {L e s s' : Nat} (h : Sp_ c L e s) (h' : Sp_ c L e s') : s = s' := by
  obtain ⟨a1, a2, a3, a4⟩ := h
  obtain ⟨b1, b2, b3, b4⟩ := h'
  rcases Nat.lt_trichotomy s s' with z | z | z
  · exact absurd (b3 s a1 z) (a4 (by omega))
  · exact z
  · exact absurd (a3 s' b1 z) (b4 (by omega))
/-- the token that begins at s ends at e -/
def En_ (c : Nat → Nat) (L s e : Nat) : Prop := s < e ∧ e ≤ L ∧ (so_ (c s) = 3 → e = s + 1) ∧ (¬ so_ (c s) = 3 → (∀ i, s ≤ i → i < e → so_ (c i) = so_ (c s)) ∧ (e < L → ¬ so_ (c e) = so_ (c s)))
theorem en_u {c : Nat → Nat} {L s e e' : Nat} (h : En_ c L s e) (h' : En_ c L s e') : e = e' := by
  obtain ⟨a1, a2, a3, a4⟩ := h
  obtain ⟨b1, b2, b3, b4⟩ := h'
  by_cases q : so_ (c s) = 3
  · rw [a3 q, b3 q]
  · obtain ⟨a5, a6⟩ := a4 q
    obtain ⟨b5, b6⟩ := b4 q
    rcases Nat.lt_trichotomy e e' with z | z | z
    · exact absurd (b5 e (by omega) z) (a6 (by omega))
    · exact z
    · exact absurd (a5 e' (by omega) z) (b6 (by omega))
def Tk_ (c : Nat → Nat) (L s e : Nat) : Prop := (s = L ∧ e = L) ∨ (s < L ∧ En_ c L s e ∧ ¬ c s = 32)
/-- what a token's sort is -/
def ts_ (c : Nat → Nat) (L s : Nat) : Nat := if s < L then so_ (c s) else 0
theorem fF_ (t : Ob_T) (k : Nat) (v : Int32) : o_F (p_F t k v) k = v := by rw [oF_pF, if_pos rfl]
theorem fFn_ (t : Ob_T) (k j : Nat) (v : Int32) (h : ¬ j = k) : o_F (p_F t k v) j = o_F t j := by rw [oF_pF, if_neg h]
theorem x_step {t o : Ob_T} {c : Nat → Nat} {L : Nat} (h : Tx_ t o c L) {e : Nat} (he : e ≤ L) (h5 : o_F t 5 = nI e) : ∃ t' s e', f_X6_step t = some t' ∧ Fr_ [3, 4, 5] t t' ∧ o_F t' 4 = nI s ∧ o_F t' 5 = nI e' ∧ o_F t' 3 = nI (ts_ c L s) ∧ Sp_ c L e s ∧ Tk_ c L s e' := by
  obtain ⟨hL, h1, -, hc⟩ := h
  unfold f_X6_step
  refine lp_fu (P := fun r => ∃ t' s e', r = some t' ∧ Fr_ [3, 4, 5] t t' ∧ o_F t' 4 = nI s ∧ o_F t' 5 = nI e' ∧ o_F t' 3 = nI (ts_ c L s) ∧ Sp_ c L e s ∧ Tk_ c L s e') (fun m x => ∃ k, e ≤ k ∧ k ≤ L ∧ m = L - k + 1 ∧ Fr_ [3, 4, 5] t x ∧ o_F x 5 = nI k ∧ ∀ i, e ≤ i → i < k → c i = 32) ?_ ?_ (L - e + 1) _ ⟨e, by omega, he, rfl, fr_rf _ _, h5, fun i h1 h2 => by omega⟩ (by omega)
  · rintro x ⟨k, h1, h2, h3, -⟩
    omega
  · rintro m x rec ⟨k, hk1, hk2, hm, F, x5, hsp⟩ hr
    have x1 : o_F x 1 = nI L := by rw [(F 1 (by decide)).1, h1]
    have x0 : o_A x 0 = o_A t 0 := (F 0 (by decide)).2
    unfold f_X6_step_L0
    rw [x1, x5]
    -- the token begins at k
    have tok : (k < L → ¬ c k = 32) → ∃ t' s e', f_X6_step_J38 x = some t' ∧ Fr_ [3, 4, 5] t t' ∧ o_F t' 4 = nI s ∧ o_F t' 5 = nI e' ∧ o_F t' 3 = nI (ts_ c L s) ∧ Sp_ c L e s ∧ Tk_ c L s e' := by
      intro hns
      unfold f_X6_step_J38
      rw [Lt_E, fFn_ _ _ _ _ (by decide), fFn_ _ _ _ _ (by decide), x5, x1]
      by_cases c2 : k < L
      · rw [if_pos (nI_lt c2 (by omega)), show o_A (p_F x 4 (nI k)) 0 = o_A t 0 from x0, ld_nI (by omega) (by omega), Option.bind_some, (hc k c2).2.1, x_sort _ (hc k c2).1, Option.bind_some, Lt_E, Lt_E]
        have F7 : Fr_ [3, 4, 5] t (p_F (p_F (p_F x 4 (nI k)) 3 (nI (so_ (c k)))) 5 (o_F (p_F (p_F x 4 (nI k)) 3 (nI (so_ (c k)))) 5 + 1)) := fr_tr F (fr_tr (fr_pF (by decide)) (fr_tr (fr_pF (by decide)) (fr_pF (by decide))))
        have y5 : o_F (p_F (p_F (p_F x 4 (nI k)) 3 (nI (so_ (c k)))) 5 (o_F (p_F (p_F x 4 (nI k)) 3 (nI (so_ (c k)))) 5 + 1)) 5 = nI (k + 1) := by rw [fF_, fFn_ _ _ _ _ (by decide), fFn_ _ _ _ _ (by decide), x5, nI_1]
        have y4 : o_F (p_F (p_F (p_F x 4 (nI k)) 3 (nI (so_ (c k)))) 5 (o_F (p_F (p_F x 4 (nI k)) 3 (nI (so_ (c k)))) 5 + 1)) 4 = nI k := by rw [fFn_ _ _ _ _ (by decide), fFn_ _ _ _ _ (by decide), fF_]
        have y3 : o_F (p_F (p_F (p_F x 4 (nI k)) 3 (nI (so_ (c k)))) 5 (o_F (p_F (p_F x 4 (nI k)) 3 (nI (so_ (c k)))) 5 + 1)) 3 = nI (so_ (c k)) := by rw [fFn_ _ _ _ _ (by decide), fF_]
        generalize p_F (p_F (p_F x 4 (nI k)) 3 (nI (so_ (c k)))) 5 (o_F (p_F (p_F x 4 (nI k)) 3 (nI (so_ (c k)))) 5 + 1) = y at F7 y5 y4 y3 ⊢
        have hts : ts_ c L k = so_ (c k) := by unfold ts_; rw [if_pos c2]
        have hso : so_ (c k) ≤ 3 := by
          unfold so_
          by_cases q : 97 ≤ c k ∧ c k ≤ 122
          · rw [if_pos q]; omega
          · rw [if_neg q]
            by_cases q : 48 ≤ c k ∧ c k ≤ 57
            · rw [if_pos q]; omega
            · rw [if_neg q]; omega
        refine lp_fu (P := fun r => ∃ t' s e', r = some t' ∧ Fr_ [3, 4, 5] t t' ∧ o_F t' 4 = nI s ∧ o_F t' 5 = nI e' ∧ o_F t' 3 = nI (ts_ c L s) ∧ Sp_ c L e s ∧ Tk_ c L s e') (fun m z => ∃ j, k < j ∧ j ≤ L ∧ m = L - j + 1 ∧ Fr_ [3, 4, 5] t z ∧ o_F z 4 = nI k ∧ o_F z 3 = nI (so_ (c k)) ∧ o_F z 5 = nI j ∧ (so_ (c k) = 3 → j = k + 1) ∧ ∀ i, k ≤ i → i < j → so_ (c i) = so_ (c k)) ?_ ?_ (L - (k + 1) + 1) _ ⟨k + 1, by omega, by omega, rfl, F7, y4, y3, y5, fun _ => rfl, fun i h1 h2 => by rw [show i = k by omega]⟩ (by omega)
        · rintro z ⟨j, h1, h2, h3, -⟩
          omega
        · rintro m' z rec' ⟨j, hj1, hj2, hm', Fz, z4, z3, z5, hz3, hz⟩ hr'
          have z1 : o_F z 1 = nI L := by rw [(Fz 1 (by decide)).1, h1]
          have z0 : o_A z 0 = o_A t 0 := (Fz 0 (by decide)).2
          have stop : (so_ (c k) = 3 ∨ (j < L → ¬ so_ (c j) = so_ (c k))) → ∃ t' s e', (some z : Option Ob_T) = some t' ∧ Fr_ [3, 4, 5] t t' ∧ o_F t' 4 = nI s ∧ o_F t' 5 = nI e' ∧ o_F t' 3 = nI (ts_ c L s) ∧ Sp_ c L e s ∧ Tk_ c L s e' := fun w => ⟨z, k, j, rfl, Fz, z4, z5, by rw [hts]; exact z3, ⟨hk1, hk2, hsp, hns⟩, Or.inr ⟨c2, ⟨hj1, hj2, hz3, fun q => ⟨hz, by rcases w with w | w; exact absurd w q; exact w⟩⟩, hns c2⟩⟩
          unfold f_X6_step_L89
          rw [z3, z1, z5]
          by_cases s3 : so_ (c k) = 3
          · rw [s3, if_pos (show nI 3 = 3 from rfl)]
            exact stop (Or.inl s3)
          · rw [if_neg (show ¬ nI (so_ (c k)) = 3 from fun w => s3 ((nI_eq (b := 3) (by omega) (by omega)).mp w))]
            by_cases jl : j = L
            · subst jl
              rw [if_pos (Int32.le_refl _)]
              exact stop (Or.inr (fun w => by omega))
            · have jl : j < L := by omega
              rw [if_neg (nI_ge jl (by omega)), z0, ld_nI (by omega) (by omega), Option.bind_some, (hc j jl).2.1, x_sort _ (hc j jl).1, Option.bind_some]
              have hso' : so_ (c j) ≤ 3 := by
                unfold so_
                by_cases q : 97 ≤ c j ∧ c j ≤ 122
                · rw [if_pos q]; omega
                · rw [if_neg q]
                  by_cases q : 48 ≤ c j ∧ c j ≤ 57
                  · rw [if_pos q]; omega
                  · rw [if_neg q]; omega
              by_cases same : so_ (c j) = so_ (c k)
              · rw [same, if_pos rfl, Lt_E]
                exact hr' _ ⟨j + 1, by omega, by omega, by omega, fr_tr Fz (fr_pF (by decide)), by rw [fFn_ _ _ _ _ (by decide)]; exact z4, by rw [fFn_ _ _ _ _ (by decide)]; exact z3, by rw [fF_, nI_1], fun w => absurd w s3, fun i h1 h2 => by
                  by_cases ei : i = j
                  · rw [ei]; exact same
                  · exact hz i h1 (by omega)⟩
              · rw [if_neg (fun w => same ((nI_eq (by omega) (by omega)).mp w))]
                exact stop (Or.inr (fun _ => same))
      · have kl : k = L := by omega
        rw [if_neg (fun w => c2 ((nI_ltI (by omega) (by omega)).mp w)), Lt_E]
        refine ⟨_, k, k, rfl, fr_tr F (fr_tr (fr_pF (by decide)) (fr_pF (by decide))), by rw [fFn_ _ _ _ _ (by decide), fF_], by rw [fFn_ _ _ _ _ (by decide), fFn_ _ _ _ _ (by decide)]; exact x5, ?_, ⟨hk1, hk2, hsp, hns⟩, Or.inl ⟨kl, kl⟩⟩
        rw [fF_]
        unfold ts_
        rw [if_neg c2]
        rfl
    by_cases c1 : k = L
    · subst c1
      rw [if_pos (Int32.le_refl _)]
      exact tok (fun w => by omega)
    · have kl : k < L := by omega
      rw [if_neg (nI_ge kl (by omega)), x0, ld_nI (by omega) (by omega), Option.bind_some, (hc k kl).2.1]
      by_cases c3 : c k = 32
      · rw [c3, if_pos (show nI 32 = 32 from rfl), Lt_E]
        exact hr _ ⟨k + 1, by omega, by omega, by omega, fr_tr F (fr_pF (by decide)), by rw [fF_, nI_1], fun i h1 h2 => by
          by_cases ei : i = k
          · rw [ei]; exact c3
          · exact hsp i h1 (by omega)⟩
      · have := (hc k kl).1
        rw [if_neg (show ¬ nI (c k) = 32 from fun w => c3 ((nI_eq (b := 32) (by omega) (by omega)).mp w))]
        exact tok (fun _ => c3)
