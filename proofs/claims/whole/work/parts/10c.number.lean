section
variable {t o : Ob_T} {c : Nat → Nat} {L s e : Nat}
/-- the number that the token tells -/
def nv_ (c : Nat → Nat) (s e : Nat) : Nat := if e - s = 1 then c s - 48 else 10 * (c s - 48) + (c (s + 1) - 48)
def Nm_ (c : Nat → Nat) (L s e : Nat) (lo hi : Int) : Prop := s < L ∧ so_ (c s) = 2 ∧ e - s ≤ 2 ∧ lo ≤ nv_ c s e ∧ (nv_ c s e : Int) ≤ hi
theorem so_2 {ch : Nat} (h : so_ ch = 2) : 48 ≤ ch ∧ ch ≤ 57 := by
  unfold so_ at h
  by_cases q : 97 ≤ ch ∧ ch ≤ 122
  · rw [if_pos q] at h; omega
  · rw [if_neg q] at h
    by_cases q : 48 ≤ ch ∧ ch ≤ 57
    · exact q
    · rw [if_neg q] at h; omega
theorem tk_2 (h : Tk_ c L s e) (hs : s < L) (h2 : so_ (c s) = 2) (he : e - s ≤ 2) : (e = s + 1 ∨ (e = s + 2 ∧ s + 1 < L ∧ so_ (c (s + 1)) = 2)) := by
  rcases h with ⟨h1, -⟩ | ⟨-, ⟨a1, a2, a3, a4⟩, -⟩
  · omega
  · by_cases q : e = s + 1
    · exact Or.inl q
    · exact Or.inr ⟨by omega, by omega, by rw [(a4 (by omega)).1 (s + 1) (by omega) (by omega), h2]⟩
theorem x_here (h : To2_ t o c L s e) (hs : s < L) (h2 : so_ (c s) = 2) (he : e - s ≤ 2) : f_X6_numberHere t = some (nI (nv_ c s e)) := by
  obtain ⟨⟨hL, t1, -, hc⟩, htk, t3, t4, t5, -, -⟩ := h
  have d0 := so_2 h2
  unfold f_X6_numberHere
  rw [t4]
  show Lp_ _ (19997 + 3) (nI 0, nI s) = _
  generalize 19997 = f
  have step : ∀ rec x j, s ≤ j → j < e → j < L → 48 ≤ c j → f_X6_numberHere_L7 rec (nI x) (nI j) t = rec (nI (x * 10 + (c j - 48)), nI (j + 1)) := by
    intro rec x j h1 h2 h3 h4
    unfold f_X6_numberHere_L7
    rw [t5, if_neg (nI_ge h2 (by omega)), ld_nI (by omega) (by omega), Option.bind_some, (hc j h3).2.1, Lt_E, nI_1, show (48 : Int32) = nI 48 from rfl, pk_sub h4, show (10 : Int32) = nI 10 from rfl, pk_mul, nI_add]
  have stop : ∀ rec x, f_X6_numberHere_L7 rec x (nI e) t = some x := by
    intro rec x
    unfold f_X6_numberHere_L7
    rw [t5, if_pos (Int32.le_refl _)]
  unfold nv_
  rcases tk_2 htk hs h2 he with q | ⟨q, q2, q3⟩
  · subst q
    rw [Lp_s, step _ _ _ (by omega) (by omega) hs (by omega), Lp_s, stop, if_pos (by omega)]
    exact congrArg (fun z => some (nI z)) (by omega)
  · subst q
    have d1 := so_2 q3
    rw [Lp_s, step _ _ _ (by omega) (by omega) hs (by omega), Lp_s, step _ _ _ (by omega) (by omega) q2 (by omega), Lp_s, stop, if_neg (by omega)]
    exact congrArg (fun z => some (nI z)) (by omega)
theorem nv_le (h : Tk_ c L s e) (hs : s < L) (h2 : so_ (c s) = 2) (he : e - s ≤ 2) : nv_ c s e ≤ 99 := by
  have d0 := so_2 h2
  unfold nv_
  rcases tk_2 h hs h2 he with q | ⟨q, q2, q3⟩
  · rw [if_pos (by omega)]; omega
  · have d1 := so_2 q3
    rw [if_neg (by omega)]; omega
theorem sm_num (h : To2_ t o c L s e) (x1 x2 : Int32) : (Nm_ c L s e x1.toInt x2.toInt ∧ nv_ c s e ≤ 99 ∧ f_X6_isNumber t x1 x2 = some 1 ∧ f_X6_numberHere t = some (nI (nv_ c s e)) ∧ f_X9_readsNumber o x1 x2 = (f_X9_nextToken (p_F o 21 (nI (nv_ c s e)))).bind (fun u => some (1, u))) ∨ (¬ Nm_ c L s e x1.toInt x2.toInt ∧ f_X6_isNumber t x1 x2 = some 0 ∧ f_X9_readsNumber o x1 x2 = some (0, o)) := by
  have h' := h
  obtain ⟨⟨hL, t1, o1, hc⟩, htk, t3, t4, t5, o18, o19⟩ := h
  have hle := tk_le htk
  unfold f_X6_isNumber f_X9_readsNumber f_X9_readsNumber_J90
  rw [t3, t4, t5, o18, o19, o1]
  unfold ts_
  by_cases hs : s < L
  · rw [if_pos hs, if_neg (show ¬ nI s = nI L from fun z => by have := (nI_eq (by omega) (by omega)).mp z; omega), ld_nI (by omega) (by omega), Option.bind_some, (hc s hs).2.2, m_digit1 _ (hc s hs).1, Option.bind_some]
    by_cases s2 : so_ (c s) = 2
    · have d0 := so_2 s2
      rw [s2, if_pos (show nI 2 = 2 from rfl), if_pos rfl, if_neg n_10, pk_sub hle.1]
      by_cases e2 : e - s ≤ 2
      · rw [if_pos (show nI (e - s) ≤ 2 from nI_le (b := 2) e2 (by omega)), if_pos (show nI (e - s) ≤ 2 from nI_le (b := 2) e2 (by omega)), x_here h' hs s2 e2, Option.bind_some]
        have hv := nv_le htk hs s2 e2
        have tv : (nI (nv_ c s e)).toInt = (nv_ c s e : Int) := nI_toInt (by omega)
        -- what the reference reads
        have eo : (if nI (e - s) = 2 then (ld_I (o_A o 9) 200 (nI s + 1)).bind fun v9 => f_X9_readsNumber_J90 x1 x2 ((((10 : Int32) * (nI (c s) - (48 : Int32))) + v9) - (48 : Int32)) o else f_X9_readsNumber_J90 x1 x2 (nI (c s) - (48 : Int32)) o) = f_X9_readsNumber_J90 x1 x2 (nI (nv_ c s e)) o := by
          rw [show (48 : Int32) = nI 48 from rfl, pk_sub d0.1]
          unfold nv_
          rcases tk_2 htk hs s2 e2 with q | ⟨q, q2, q3⟩
          · rw [if_neg (show ¬ nI (e - s) = 2 from fun z => by have := (nI_eq (b := 2) (by omega) (by omega)).mp z; omega), if_pos (by omega)]
          · have d1 := so_2 q3
            rw [if_pos (show nI (e - s) = 2 by rw [show e - s = 2 by omega]; rfl), if_neg (by omega), nI_1, ld_nI (by omega) (by omega), Option.bind_some, (hc (s + 1) q2).2.2, show (10 : Int32) = nI 10 from rfl, pk_mul, nI_add, pk_sub (by omega), show 10 * (c s - 48) + c (s + 1) - 48 = 10 * (c s - 48) + (c (s + 1) - 48) by omega]
        unfold f_X9_readsNumber_J90 at eo
        rw [Option.bind_some]
        rw [eo, f_in, i_wide, i_wide, i_wide, tv, Option.bind_some]
        by_cases a1 : x1.toInt ≤ nv_ c s e
        · by_cases a2 : (nv_ c s e : Int) ≤ x2.toInt
          · rw [if_pos (show x1.toInt ≤ (nv_ c s e : Int) ∧ (nv_ c s e : Int) ≤ x2.toInt from ⟨a1, a2⟩), if_neg n_10, Lt_E, if_neg (show ¬ nI (nv_ c s e) < x1 by rw [i_lt, tv]; omega), if_neg (show ¬ x2 < nI (nv_ c s e) by rw [i_lt, tv]; omega)]
            exact Or.inl ⟨⟨hs, s2, e2, a1, a2⟩, hv, rfl, rfl, rfl⟩
          · rw [if_neg (show ¬ (x1.toInt ≤ (nv_ c s e : Int) ∧ (nv_ c s e : Int) ≤ x2.toInt) from fun z => a2 z.2), if_pos rfl, if_neg (show ¬ nI (nv_ c s e) < x1 by rw [i_lt, tv]; omega), if_pos (show x2 < nI (nv_ c s e) by rw [i_lt, tv]; omega)]
            exact Or.inr ⟨fun z => a2 z.2.2.2.2, rfl, rfl⟩
        · rw [if_neg (show ¬ (x1.toInt ≤ (nv_ c s e : Int) ∧ (nv_ c s e : Int) ≤ x2.toInt) from fun z => a1 z.1), if_pos rfl, if_pos (show nI (nv_ c s e) < x1 by rw [i_lt, tv]; omega)]
          exact Or.inr ⟨fun z => a1 z.2.2.2.1, rfl, rfl⟩
      · rw [if_neg (show ¬ nI (e - s) ≤ 2 from nI_ge (a := 2) (by omega) (by omega)), if_neg (show ¬ nI (e - s) ≤ 2 from nI_ge (a := 2) (by omega) (by omega))]
        exact Or.inr ⟨fun z => e2 z.2.2.1, rfl, rfl⟩
    · rw [if_neg (show ¬ nI (so_ (c s)) = 2 from fun z => s2 ((nI_eq (b := 2) (by rcases so_123 (c s) with q | q | q <;> omega) (by omega)).mp z)), if_neg s2, if_pos rfl]
      exact Or.inr ⟨fun z => s2 z.2.1, rfl, rfl⟩
  · have : s = L := by omega
    subst this
    rw [if_neg hs, if_neg (show ¬ nI 0 = 2 by decide), if_pos rfl]
    exact Or.inr ⟨fun z => hs z.1, rfl, rfl⟩
/-- a sign that both look at -/
theorem x_sign (h : To2_ t o c L s e) {g : Nat} (hg : g < 256) (h3 : so_ g = 3) : f_X6_isSign t (nI g) = some (if s < L ∧ c s = g then 1 else 0) := by
  obtain ⟨⟨hL, t1, o1, hc⟩, htk, t3, t4, t5, o18, o19⟩ := h
  unfold f_X6_isSign
  rw [t3, t4]
  unfold ts_
  by_cases hs : s < L
  · rw [if_pos hs, ld_nI (by omega) (by omega), Option.bind_some, (hc s hs).2.1]
    have := (hc s hs).1
    by_cases q : c s = g
    · rw [if_pos (show nI (so_ (c s)) = 3 by rw [q, h3]; rfl), if_pos (show nI (c s) = nI g by rw [q]), if_pos (show s < L ∧ c s = g from ⟨hs, q⟩)]
    · rw [if_neg (show ¬ nI (c s) = nI g from fun z => q ((nI_eq (by omega) (by omega)).mp z)), if_neg (show ¬ (s < L ∧ c s = g) from fun z => q z.2)]
      by_cases r : nI (so_ (c s)) = 3
      · rw [if_pos r]
      · rw [if_neg r]
  · rw [if_neg hs, if_neg (show ¬ nI 0 = 3 by decide), if_neg (show ¬ (s < L ∧ c s = g) from fun z => hs z.1)]
end
