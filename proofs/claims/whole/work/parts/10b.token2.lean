section
variable {t o : Ob_T} {c : Nat → Nat} {L : Nat}
theorem m_run1 (h : Tx_ t o c L) {k : Nat} (hk : k < L) (s1 : so_ (c k) = 1) {o1 : Ob_T} (F : Fr_ [18, 19] o o1) (h18 : o_F o1 18 = nI k) (h19 : o_F o1 19 = nI (k + 1)) : ∃ o' e', Lp_ (fun (rec : Ob_T → Option Ob_T) x => f_X9_nextToken_L100 rec x) FU_ o1 = some o' ∧ Fr_ [18, 19] o o' ∧ o_F o' 18 = nI k ∧ o_F o' 19 = nI e' ∧ En_ c L k e' := by
  obtain ⟨hL, -, h1, hc⟩ := h
  refine lp_fu (P := fun r => ∃ o' e', r = some o' ∧ Fr_ [18, 19] o o' ∧ o_F o' 18 = nI k ∧ o_F o' 19 = nI e' ∧ En_ c L k e') (fun m z => ∃ j, k < j ∧ j ≤ L ∧ m = L - j + 1 ∧ Fr_ [18, 19] o z ∧ o_F z 18 = nI k ∧ o_F z 19 = nI j ∧ ∀ i, k ≤ i → i < j → so_ (c i) = so_ (c k)) ?_ ?_ (L - (k + 1) + 1) _ ⟨k + 1, by omega, by omega, rfl, F, h18, h19, fun i h1 h2 => by rw [show i = k by omega]⟩ (by omega)
  · rintro z ⟨j, h1, h2, h3, -⟩
    omega
  · rintro m' z rec' ⟨j, hj1, hj2, hm', Fz, z4, z5, hz⟩ hr'
    have z1 : o_F z 10 = nI L := by rw [(Fz 10 (by decide)).1, h1]
    have z0 : o_A z 9 = o_A o 9 := (Fz 9 (by decide)).2
    have stop : (j < L → ¬ so_ (c j) = so_ (c k)) → ∃ o' e', (some z : Option Ob_T) = some o' ∧ Fr_ [18, 19] o o' ∧ o_F o' 18 = nI k ∧ o_F o' 19 = nI e' ∧ En_ c L k e' := fun w => ⟨z, j, rfl, Fz, z4, z5, hj1, hj2, fun q => by omega, fun _ => ⟨hz, w⟩⟩
    unfold f_X9_nextToken_L100
    rw [z1, z5]
    by_cases jl : j = L
    · subst jl
      rw [if_pos (Int32.le_refl _)]
      exact stop (fun w => by omega)
    · have jl : j < L := by omega
      rw [if_neg (nI_ge jl (by omega)), z0, ld_nI (by omega) (by omega), Option.bind_some, (hc j jl).2.2, m_letter _ (hc j jl).1, Option.bind_some]
      by_cases same : so_ (c j) = 1
      · rw [if_pos same, if_neg n_10, Lt_E]
        exact hr' _ ⟨j + 1, by omega, by omega, by omega, fr_tr Fz (fr_pF (by decide)), by rw [fFn_ _ _ _ _ (by decide)]; exact z4, by rw [fF_, nI_1], fun i h1 h2 => by
          by_cases ei : i = j
          · rw [ei, same, s1]
          · exact hz i h1 (by omega)⟩
      · rw [if_neg same, if_pos rfl]
        exact stop (fun _ => by rw [s1]; exact same)
theorem m_run2 (h : Tx_ t o c L) {k : Nat} (hk : k < L) (s1 : so_ (c k) = 2) {o1 : Ob_T} (F : Fr_ [18, 19] o o1) (h18 : o_F o1 18 = nI k) (h19 : o_F o1 19 = nI (k + 1)) : ∃ o' e', Lp_ (fun (rec : Ob_T → Option Ob_T) x => f_X9_nextToken_L165 rec x) FU_ o1 = some o' ∧ Fr_ [18, 19] o o' ∧ o_F o' 18 = nI k ∧ o_F o' 19 = nI e' ∧ En_ c L k e' := by
  obtain ⟨hL, -, h1, hc⟩ := h
  refine lp_fu (P := fun r => ∃ o' e', r = some o' ∧ Fr_ [18, 19] o o' ∧ o_F o' 18 = nI k ∧ o_F o' 19 = nI e' ∧ En_ c L k e') (fun m z => ∃ j, k < j ∧ j ≤ L ∧ m = L - j + 1 ∧ Fr_ [18, 19] o z ∧ o_F z 18 = nI k ∧ o_F z 19 = nI j ∧ ∀ i, k ≤ i → i < j → so_ (c i) = so_ (c k)) ?_ ?_ (L - (k + 1) + 1) _ ⟨k + 1, by omega, by omega, rfl, F, h18, h19, fun i h1 h2 => by rw [show i = k by omega]⟩ (by omega)
  · rintro z ⟨j, h1, h2, h3, -⟩
    omega
  · rintro m' z rec' ⟨j, hj1, hj2, hm', Fz, z4, z5, hz⟩ hr'
    have z1 : o_F z 10 = nI L := by rw [(Fz 10 (by decide)).1, h1]
    have z0 : o_A z 9 = o_A o 9 := (Fz 9 (by decide)).2
    have stop : (j < L → ¬ so_ (c j) = so_ (c k)) → ∃ o' e', (some z : Option Ob_T) = some o' ∧ Fr_ [18, 19] o o' ∧ o_F o' 18 = nI k ∧ o_F o' 19 = nI e' ∧ En_ c L k e' := fun w => ⟨z, j, rfl, Fz, z4, z5, hj1, hj2, fun q => by omega, fun _ => ⟨hz, w⟩⟩
    unfold f_X9_nextToken_L165
    rw [z1, z5]
    by_cases jl : j = L
    · subst jl
      rw [if_pos (Int32.le_refl _)]
      exact stop (fun w => by omega)
    · have jl : j < L := by omega
      rw [if_neg (nI_ge jl (by omega)), z0, ld_nI (by omega) (by omega), Option.bind_some, (hc j jl).2.2, m_digit1 _ (hc j jl).1, Option.bind_some]
      by_cases same : so_ (c j) = 2
      · rw [if_pos same, if_neg n_10, Lt_E]
        exact hr' _ ⟨j + 1, by omega, by omega, by omega, fr_tr Fz (fr_pF (by decide)), by rw [fFn_ _ _ _ _ (by decide)]; exact z4, by rw [fF_, nI_1], fun i h1 h2 => by
          by_cases ei : i = j
          · rw [ei, same, s1]
          · exact hz i h1 (by omega)⟩
      · rw [if_neg same, if_pos rfl]
        exact stop (fun _ => by rw [s1]; exact same)
theorem so_123 (ch : Nat) : so_ ch = 1 ∨ so_ ch = 2 ∨ so_ ch = 3 := by
  unfold so_
  by_cases q : 97 ≤ ch ∧ ch ≤ 122
  · rw [if_pos q]; omega
  · rw [if_neg q]
    by_cases q : 48 ≤ ch ∧ ch ≤ 57
    · rw [if_pos q]; omega
    · rw [if_neg q]; omega
theorem m_next (h : Tx_ t o c L) {e : Nat} (he : e ≤ L) (h19 : o_F o 19 = nI e) : ∃ o' s e', f_X9_nextToken o = some o' ∧ Fr_ [18, 19] o o' ∧ o_F o' 18 = nI s ∧ o_F o' 19 = nI e' ∧ Sp_ c L e s ∧ Tk_ c L s e' := by
  have h' := h
  obtain ⟨hL, -, h1, hc⟩ := h
  unfold f_X9_nextToken
  rw [Lt_E, h19]
  refine lp_fu (P := fun r => ∃ o' s e', r = some o' ∧ Fr_ [18, 19] o o' ∧ o_F o' 18 = nI s ∧ o_F o' 19 = nI e' ∧ Sp_ c L e s ∧ Tk_ c L s e') (fun m x => ∃ k, e ≤ k ∧ k ≤ L ∧ m = L - k + 1 ∧ Fr_ [18, 19] o x ∧ o_F x 18 = nI k ∧ ∀ i, e ≤ i → i < k → c i = 32) ?_ ?_ (L - e + 1) _ ⟨e, by omega, he, rfl, fr_pF (by decide), fF_ _ _ _, fun i h1 h2 => by omega⟩ (by omega)
  · rintro x ⟨k, h1, h2, h3, -⟩
    omega
  · rintro m x rec ⟨k, hk1, hk2, hm, F, x5, hsp⟩ hr
    have x1 : o_F x 10 = nI L := by rw [(F 10 (by decide)).1, h1]
    have x0 : o_A x 9 = o_A o 9 := (F 9 (by decide)).2
    unfold f_X9_nextToken_L8
    rw [x1, x5]
    have tok : (k < L → ¬ c k = 32) → ∃ o' s e', f_X9_nextToken_J46 x = some o' ∧ Fr_ [18, 19] o o' ∧ o_F o' 18 = nI s ∧ o_F o' 19 = nI e' ∧ Sp_ c L e s ∧ Tk_ c L s e' := by
      intro hns
      unfold f_X9_nextToken_J46 f_X9_nextToken_J71 f_X9_nextToken_J139
      simp only [Lt_E]
      by_cases c2 : k < L
      · rw [x1, x5, if_neg (nI_ge c2 (by omega)), nI_1]
        have F4 : Fr_ [18, 19] o (p_F x 19 (nI (k + 1))) := fr_tr F (fr_pF (by decide))
        have y18 : o_F (p_F x 19 (nI (k + 1))) 18 = nI k := by rw [fFn_ _ _ _ _ (by decide)]; exact x5
        have y19 : o_F (p_F x 19 (nI (k + 1))) 19 = nI (k + 1) := fF_ _ _ _
        have y10 : o_F (p_F x 19 (nI (k + 1))) 10 = nI L := by rw [fFn_ _ _ _ _ (by decide)]; exact x1
        have y9 : o_A (p_F x 19 (nI (k + 1))) 9 = o_A o 9 := x0
        rw [y18, y10, if_neg (nI_ge c2 (by omega)), if_neg (nI_ge c2 (by omega)), y9, ld_nI (by omega) (by omega), Option.bind_some, Option.bind_some, (hc k c2).2.2, m_letter _ (hc k c2).1, Option.bind_some, m_digit1 _ (hc k c2).1, Option.bind_some]
        generalize p_F x 19 (nI (k + 1)) = y at F4 y18 y19 y10 y9 ⊢
        rcases so_123 (c k) with s | s | s
        · rw [if_pos s, if_neg n_10]
          obtain ⟨o', e', e1, f1, f2, f3, f4⟩ := m_run1 h' c2 s F4 y18 y19
          exact ⟨o', k, e', e1, f1, f2, f3, ⟨hk1, hk2, hsp, hns⟩, Or.inr ⟨c2, f4, hns c2⟩⟩
        · rw [if_neg (show ¬ so_ (c k) = 1 by omega), if_pos rfl, if_pos s, if_neg n_10]
          obtain ⟨o', e', e1, f1, f2, f3, f4⟩ := m_run2 h' c2 s F4 y18 y19
          exact ⟨o', k, e', e1, f1, f2, f3, ⟨hk1, hk2, hsp, hns⟩, Or.inr ⟨c2, f4, hns c2⟩⟩
        · rw [if_neg (show ¬ so_ (c k) = 1 by omega), if_pos rfl, if_neg (show ¬ so_ (c k) = 2 by omega), if_pos rfl]
          exact ⟨y, k, k + 1, rfl, F4, y18, y19, ⟨hk1, hk2, hsp, hns⟩, Or.inr ⟨c2, ⟨by omega, by omega, fun _ => rfl, fun q => absurd s q⟩, hns c2⟩⟩
      · have kl : k = L := by omega
        subst kl
        rw [x1, x5, if_pos (Int32.le_refl _)]
        have y18 : o_F (p_F x 19 (nI k)) 18 = nI k := by rw [fFn_ _ _ _ _ (by decide)]; exact x5
        have y10 : o_F (p_F x 19 (nI k)) 10 = nI k := by rw [fFn_ _ _ _ _ (by decide)]; exact x1
        rw [y18, y10, if_pos (Int32.le_refl _), if_pos (Int32.le_refl _)]
        exact ⟨_, k, k, rfl, fr_tr F (fr_pF (by decide)), y18, fF_ _ _ _, ⟨hk1, hk2, hsp, hns⟩, Or.inl ⟨rfl, rfl⟩⟩
    by_cases c1 : k = L
    · subst c1
      rw [if_pos (Int32.le_refl _)]
      exact tok (fun w => by omega)
    · have kl : k < L := by omega
      rw [if_neg (nI_ge kl (by omega)), x0, ld_nI (by omega) (by omega), Option.bind_some, (hc k kl).2.2]
      by_cases c3 : c k = 32
      · rw [c3, if_pos (show nI 32 = 32 from rfl), Lt_E]
        exact hr _ ⟨k + 1, by omega, by omega, by omega, fr_tr F (fr_pF (by decide)), by rw [fF_, nI_1], fun i h1 h2 => by
          by_cases ei : i = k
          · rw [ei]; exact c3
          · exact hsp i h1 (by omega)⟩
      · have := (hc k kl).1
        rw [if_neg (show ¬ nI (c k) = 32 from fun w => c3 ((nI_eq (b := 32) (by omega) (by omega)).mp w))]
        exact tok (fun _ => c3)
/-- both look at the token from s to e -/
def To2_ (t o : Ob_T) (c : Nat → Nat) (L s e : Nat) : Prop := Tx_ t o c L ∧ Tk_ c L s e ∧ o_F t 3 = nI (ts_ c L s) ∧ o_F t 4 = nI s ∧ o_F t 5 = nI e ∧ o_F o 18 = nI s ∧ o_F o 19 = nI e
theorem tk_le {s e : Nat} (h : Tk_ c L s e) : s ≤ e ∧ e ≤ L := by
  rcases h with ⟨h1, h2⟩ | ⟨h1, ⟨h2, h3, -⟩, -⟩
  · omega
  · omega
/-- both step on -/
theorem sm_step (h : Tx_ t o c L) {e : Nat} (he : e ≤ L) (h5 : o_F t 5 = nI e) (h19 : o_F o 19 = nI e) : ∃ t' o' s e', f_X6_step t = some t' ∧ f_X9_nextToken o = some o' ∧ Fr_ [3, 4, 5] t t' ∧ Fr_ [18, 19] o o' ∧ To2_ t' o' c L s e' := by
  obtain ⟨t', s, e', a1, a2, a3, a4, a5, a6, a7⟩ := x_step h he h5
  obtain ⟨o', s2, e2, b1, b2, b3, b4, b6, b7⟩ := m_next h he h19
  have es := sp_u a6 b6
  subst es
  have ee : e' = e2 := by
    rcases a7 with ⟨q1, q2⟩ | ⟨q1, q2, -⟩
    · rcases b7 with ⟨r1, r2⟩ | ⟨r1, r2, -⟩
      · omega
      · omega
    · rcases b7 with ⟨r1, r2⟩ | ⟨r1, r2, -⟩
      · omega
      · exact en_u q2 r2
  subst ee
  exact ⟨t', o', s, e', a1, b1, a2, b2, tx_fr h (a2 1 (by decide)).1 (a2 0 (by decide)).2 (b2 10 (by decide)).1 (b2 9 (by decide)).2, a7, a5, a3, a4, b3, b4⟩
end
