/-- nothing is changed, or what was solved is forgotten -/
def Fg_ (x x' g g' o o' : Ob_T) : Prop := (x' = x ∧ g' = g ∧ o' = o) ∨ (o_F x' 9 = 0 ∧ o_F x' 10 = 0)
theorem x_forget (x : Ob_T) : f_X8_forgetSolved x = some (p_F (p_F x 9 0) 10 0) := rfl
theorem fg_new (x g g' o o' : Ob_T) : Fg_ x (p_F (p_F x 9 0) 10 0) g g' o o' := Or.inr ⟨rfl, rfl⟩
theorem x_restore (g : Ob_T) {k : Nat} (hk : k < 2) : f_X0_restore g (nI k) = some (p_F (p_A g 0 (va_cpy (o_A g 3) (o_A g 0) (4 * k) 0 4)) 5 0) := by
  unfold f_X0_restore
  rw [x4_ix, show cp_I (o_A g 3) (o_A g 0) 8 4 (nI (4 * k)) 0 4 = some (va_cpy (o_A g 3) (o_A g 0) (4 * k) 0 4) from cp_nI (b := 0) (c := 4) (by omega) (by omega) (by omega) (by omega), Option.bind_some]
  rfl
theorem sm_back (x g o : Ob_T) (x1 : Int32) (h : R_gv g o) : Tr_ (f_X8_back x g x1) (fun u => Tr_ (f_X9_back o x1) (fun w => u.1 = w.1 ∧ R_gv u.2.2 w.2 ∧ Fr_ [4, 5, 6, 7, 8] o w.2 ∧ Fg_ x u.2.1 g u.2.2 o w.2)) := by
  have l0 : (0 : Int32).toInt = 0 := rfl
  have l2 : (2 : Int32).toInt = 2 := rfl
  unfold f_X8_back f_X9_back
  by_cases c1 : 0 ≤ x1.toInt ∧ x1.toInt ≤ 1
  · rw [bind_eq _ (f_in1 (a := 0) (b := 1) c1), if_neg n_10, if_neg (by rw [i_lt, l0]; omega), if_pos (by rw [i_lt, l2]; omega)]
    obtain ⟨k, hk, rfl⟩ := i_of (x := x1) (n := 1) c1.1 c1.2
    have hk2 : k < 2 := by omega
    have h' := h
    obtain ⟨h1, ⟨u, hu⟩, h3⟩ := h
    unfold f_X0_isStored
    rw [ld_nI hk2 (by omega), ld_nI hk2 (by omega), Option.bind_some, Option.bind_some]
    rcases h3 k hk2 with ⟨e1, e2⟩ | ⟨e1, e2, e3⟩
    · rw [e1, e2, if_pos rfl]
      exact tr_some (tr_some ⟨rfl, h', fr_rf _ _, Or.inl ⟨rfl, rfl, rfl⟩⟩)
    · rw [e1, e2, if_neg n_10, m_backL o hk2]
      show Tr_ ((f_X0_restore g (nI k)).bind _) _
      rw [bind_eq _ (x_restore g hk2), bind_eq _ (x_forget x), bind_eq _ (x_howMany _)]
      refine tr_some ?_
      have q1 : ∀ l, l < 4 → va_cpy (o_A g 3) (o_A g 0) (4 * k) 0 4 l = va_cpy (o_A o 7) (o_A o 4) (4 * k) 0 4 l ∧ gv_ok (va_cpy (o_A o 7) (o_A o 4) (4 * k) 0 4 l) := by
        intro l hl
        have a1 := cpy_in (f := o_A g 3) (g := o_A g 0) (a := 4 * k) (b := 0) hl
        have a2 := cpy_in (f := o_A o 7) (g := o_A o 4) (a := 4 * k) (b := 0) hl
        rw [Nat.zero_add] at a1 a2
        rw [a1, a2]
        exact e3 l hl
      unfold f_X9_back_J54
      refine tr_let (tr_bind (tr_eq (m_givenMany (p_F (p_A o 4 (va_cpy (o_A o 7) (o_A o 4) (4 * k) 0 4)) 6 0) (fun l hl => (q1 l hl).2)) (tr_some ⟨ct_cong (fun l hl => (q1 l hl).1), ⟨q1, ⟨0, by omega, rfl, rfl, fun i hi => absurd hi (by omega)⟩, h3⟩, fr_tr (fr_pA (by decide)) (fr_pF (by decide)), fg_new _ _ _ _ _⟩)))
  · rw [bind_eq _ (f_in0 (a := 0) (b := 1) c1), if_pos rfl]
    refine tr_if (fun _ => tr_some (tr_some ⟨rfl, h, fr_rf _ _, Or.inl ⟨rfl, rfl, rfl⟩⟩)) (fun n1 => tr_if (fun p1 => ?_) (fun _ => tr_some (tr_some ⟨rfl, h, fr_rf _ _, Or.inl ⟨rfl, rfl, rfl⟩⟩)))
    rw [i_lt, l0] at n1
    rw [i_lt, l2] at p1
    exact absurd ⟨by omega, by omega⟩ c1
