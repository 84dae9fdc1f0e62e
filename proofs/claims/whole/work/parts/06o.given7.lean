theorem m_becomeL (o : Ob_T) (l v : Int32) : Lp_ (fun (rec : (Int32 × Int32 × Int32 × Ob_T) → Option Ob_T) x => f_X9_become_L11 (fun y1 y2 t_o => f_X9_become_J37 y1 y2 t_o) rec x.1 x.2.1 x.2.2.1 x.2.2.2) FU_ (l, v, 0, o) = f_X9_become_J37 l v (p_A o 5 (va_cpy (o_A o 5) (o_A o 5) 4 0 28)) := by
  refine lp_fu (P := fun r => r = f_X9_become_J37 l v (p_A o 5 (va_cpy (o_A o 5) (o_A o 5) 4 0 28))) (fun n x => ∃ i, i ≤ 28 ∧ n = 28 - i + 1 ∧ x = (l, v, nI i, p_A o 5 (va_cpy (o_A o 5) (o_A o 5) 4 0 i))) ?_ ?_ (28 - 0 + 1) _ ⟨0, by omega, rfl, by rw [cpy_0, pA_self]; rfl⟩ (by omega)
  · rintro x ⟨i, h1, h2, -⟩
    omega
  · rintro n x rec ⟨i, h1, h2, rfl⟩ hr
    unfold f_X9_become_L11
    by_cases he : i = 28
    · subst he
      rw [if_pos (show (28 : Int32) ≤ nI 28 from Int32.le_refl _)]
    · rw [if_neg (show ¬ (28 : Int32) ≤ nI i from nI_ge (b := 28) (by omega) (by omega))]
      show (ld_I (va_cpy (o_A o 5) (o_A o 5) 4 0 i) 32 (nI i + nI 4)).bind _ = _
      rw [nI_add, ld_nI (by omega) (by omega), Option.bind_some, cpy_out (by omega)]
      show (st_A (p_A o 5 (va_cpy (o_A o 5) (o_A o 5) 4 0 i)) 5 32 (nI i) (o_A o 5 (i + 4))).bind _ = _
      rw [st_nI (by omega) (by omega), Option.bind_some]
      refine hr _ ⟨i + 1, by omega, by omega, ?_⟩
      have e := cpy_s (f := o_A o 5) (g := o_A o 5) (a := 4) (b := 0) (i := i)
      rw [Nat.zero_add, Nat.add_comm 4 i] at e
      rw [pA_pA, oA_pA, if_pos rfl, e, nI_1]
theorem sm_change {g o : Ob_T} {l : Nat} {v : Int32} (hl : l < 4) (hv : gv_ok v) (h : R_gv g o) : Tr_ (f_X0_change g (nI l) v) (fun u => Tr_ (f_X9_become o (nI l) v) (fun w => R_gv u w ∧ Fr_ [4, 5, 6, 7, 8] o w)) := by
  obtain ⟨h1, ⟨u, hu, e1, e2, hc⟩, h3⟩ := h
  unfold f_X0_change f_X9_become
  by_cases c8 : u = 8
  · subst c8
    rw [e1, e2, if_neg (show ¬ nI 8 < 8 by decide), if_pos (show nI 8 = 8 from rfl), m_becomeL]
    rw [show cp_I (o_A g 1) (o_A g 1) 8 8 1 0 7 = some (va_cpy (o_A g 1) (o_A g 1) 1 0 7) from cp_nI (a := 1) (b := 0) (c := 7) (by omega) (by omega) (by omega) (by omega), Option.bind_some, Lt_E, oA_pA, if_neg (by decide)]
    rw [show cp_I (o_A g 2) (o_A g 2) 8 8 1 0 7 = some (va_cpy (o_A g 2) (o_A g 2) 1 0 7) from cp_nI (a := 1) (b := 0) (c := 7) (by omega) (by omega) (by omega) (by omega), Option.bind_some, Lt_E, Lt_E]
    unfold f_X9_become_J37
    rw [Lt_E, oF_pA, e2, show nI 8 - 1 = nI 7 from nI_pred 7]
    have x1 := x_changeJ (p_F (p_A (p_A g 1 (va_cpy (o_A g 1) (o_A g 1) 1 0 7)) 2 (va_cpy (o_A g 2) (o_A g 2) 1 0 7)) 5 (nI 7)) (u := 7) (l := l) (by omega) hl rfl v
    have x2 := m_becomeJ (p_F (p_A o 5 (va_cpy (o_A o 5) (o_A o 5) 4 0 28)) 6 (nI 7)) (u := 7) (l := l) (by omega) hl rfl v
    refine tr_eq x1 (tr_eq x2 ⟨?_, ?_⟩)
    · refine ch_R (by omega) hl hv h1 (fun i hi => ?_) h3
      obtain ⟨l', hl', b1, b2, b3⟩ := hc (i + 1) (by omega)
      have w1 : ∀ f : Nat → Int32, va_cpy f f 1 0 7 i = f (i + 1) := fun f => by
        have := cpy_in (f := f) (g := f) (a := 1) (b := 0) (c := 7) (j := i) hi
        rw [Nat.zero_add, Nat.add_comm 1 i] at this
        exact this
      have w2 : ∀ k j, k ≤ 7 → j < 4 → sp_ (p_F (p_A o 5 (va_cpy (o_A o 5) (o_A o 5) 4 0 28)) 6 (nI 7)) 7 k j = sp_ o 8 (k + 1) j := by
        intro k j hk hj
        unfold sp_
        by_cases hk7 : k = 7
        · rw [if_pos hk7, if_pos (by omega)]
          rfl
        · rw [if_neg hk7, if_neg (by omega)]
          show va_cpy (o_A o 5) (o_A o 5) 4 0 28 (4 * k + j) = _
          have := cpy_in (f := o_A o 5) (g := o_A o 5) (a := 4) (b := 0) (c := 28) (j := 4 * k + j) (by omega)
          rw [Nat.zero_add] at this
          rw [this]
          exact congrArg _ (by omega)
      refine ⟨l', hl', ?_, ?_, fun j hj => ?_⟩
      · show va_cpy (o_A g 1) (o_A g 1) 1 0 7 i = nI l'
        rw [w1]; exact b1
      · show gv_ok (va_cpy (o_A g 2) (o_A g 2) 1 0 7 i)
        rw [w1]; exact b2
      · rw [w2 i j (by omega) hj, w2 (i + 1) j (by omega) hj]
        show _ = if j = l' then va_cpy (o_A g 2) (o_A g 2) 1 0 7 i else _
        rw [w1]
        exact b3 j hj
    · exact fr_tr (fr_pA (by decide)) (fr_tr (fr_pF (by decide)) (fr_tr (fr_pA (by decide)) (fr_tr (fr_pF (by decide)) (fr_pA (by decide)))))
  · rw [e1, e2, if_pos (show nI u < 8 from nI_lt (b := 8) (by omega) (by omega)), if_neg (show ¬ nI u = 8 from fun z => c8 ((nI_eq (b := 8) (by omega) (by omega)).mp z))]
    refine tr_eq (x_changeJ g (by omega) hl e1 v) (tr_eq (m_becomeJ o (by omega) hl e2 v) ⟨ch_R (by omega) hl hv h1 hc h3, ?_⟩)
    exact fr_tr (fr_pA (by decide)) (fr_tr (fr_pF (by decide)) (fr_pA (by decide)))
theorem sm_give (x g o : Ob_T) (x1 x2 : Int32) (h : R_gv g o) : Tr_ (f_X8_give x g x1 x2) (fun u => Tr_ (f_X9_give o x1 x2) (fun w => u.1 = w.1 ∧ R_gv u.2.2 w.2 ∧ Fr_ [4, 5, 6, 7, 8] o w.2 ∧ Fg_ x u.2.1 g u.2.2 o w.2)) := by
  have l0 : (0 : Int32).toInt = 0 := rfl
  have l9 : (9 : Int32).toInt = 9 := rfl
  unfold f_X8_give f_X9_give
  rw [bind_eq _ (x_isPlain x1), bind_eq _ (m_isTold x1)]
  by_cases c1 : 0 ≤ x1.toInt ∧ x1.toInt ≤ 3
  · rw [if_pos c1, if_neg n_10, if_neg n_10]
    obtain ⟨l, hl, rfl⟩ := i_of (x := x1) (n := 3) c1.1 c1.2
    have hl4 : l < 4 := by omega
    by_cases c2 : 0 ≤ x2.toInt ∧ x2.toInt ≤ 9
    · rw [bind_eq _ (f_in1 (a := 0) (b := 9) c2), if_neg n_10, if_neg (by rw [i_lt, l0]; omega), if_pos (by rw [i_le, l9]; omega)]
      unfold f_X0_numberOf
      rw [ld_nI hl4 (by omega), ld_nI hl4 (by omega), Option.bind_some, Option.bind_some, Option.bind_some, (h.1 l hl4).1]
      by_cases c3 : o_A o 4 l = x2
      · rw [if_pos c3, if_pos c3]
        exact tr_some (tr_some ⟨rfl, h, fr_rf _ _, Or.inl ⟨rfl, rfl, rfl⟩⟩)
      · rw [if_neg c3, if_neg c3]
        obtain ⟨v, hv, rfl⟩ := i_of (x := x2) (n := 9) c2.1 c2.2
        obtain ⟨g', eg, o', eo, hR, hF⟩ := sm_change hl4 (Or.inr ⟨v, hv, rfl⟩) h
        rw [bind_eq _ eg, bind_eq _ (x_forget x), bind_eq _ (x_howMany _), bind_eq _ eo, bind_eq _ (m_givenMany o' (fun j hj => (hR.1 j hj).2))]
        exact tr_some (tr_some ⟨ct_cong (fun j hj => (hR.1 j hj).1), hR, hF, fg_new _ _ _ _ _⟩)
    · rw [bind_eq _ (f_in0 (a := 0) (b := 9) c2), if_pos rfl]
      refine tr_if (fun _ => tr_some (tr_some ⟨rfl, h, fr_rf _ _, Or.inl ⟨rfl, rfl, rfl⟩⟩)) (fun n1 => tr_if (fun p1 => ?_) (fun _ => tr_some (tr_some ⟨rfl, h, fr_rf _ _, Or.inl ⟨rfl, rfl, rfl⟩⟩)))
      rw [i_lt, l0] at n1
      rw [i_le, l9] at p1
      exact absurd ⟨by omega, by omega⟩ c2
  · rw [if_neg c1, if_pos rfl, if_pos rfl]
    exact tr_some (tr_some ⟨rfl, h, fr_rf _ _, Or.inl ⟨rfl, rfl, rfl⟩⟩)
theorem sm_free (x g o : Ob_T) (x1 : Int32) (h : R_gv g o) : Tr_ (f_X8_free x g x1) (fun u => Tr_ (f_X9_free o x1) (fun w => u.1 = w.1 ∧ R_gv u.2.2 w.2 ∧ Fr_ [4, 5, 6, 7, 8] o w.2 ∧ Fg_ x u.2.1 g u.2.2 o w.2)) := by
  unfold f_X8_free f_X9_free
  rw [bind_eq _ (x_isPlain x1), bind_eq _ (m_isTold x1)]
  by_cases c1 : 0 ≤ x1.toInt ∧ x1.toInt ≤ 3
  · rw [if_pos c1, if_neg n_10, if_neg n_10]
    obtain ⟨l, hl, rfl⟩ := i_of (x := x1) (n := 3) c1.1 c1.2
    have hl4 : l < 4 := by omega
    unfold f_X0_numberOf
    rw [ld_nI hl4 (by omega), ld_nI hl4 (by omega), Option.bind_some, Option.bind_some, Option.bind_some, (h.1 l hl4).1]
    have g0 := gv_neg (h.1 l hl4).2
    by_cases c3 : o_A o 4 l = -1
    · rw [if_pos c3, if_neg (fun z => (g0.mp z) c3)]
      exact tr_some (tr_some ⟨rfl, h, fr_rf _ _, Or.inl ⟨rfl, rfl, rfl⟩⟩)
    · rw [if_neg c3, if_pos (g0.mpr c3)]
      obtain ⟨g', eg, o', eo, hR, hF⟩ := sm_change hl4 (v := -1) (Or.inl rfl) h
      rw [bind_eq _ eg, bind_eq _ (x_forget x), bind_eq _ (x_howMany _), bind_eq _ eo, bind_eq _ (m_givenMany o' (fun j hj => (hR.1 j hj).2))]
      exact tr_some (tr_some ⟨ct_cong (fun j hj => (hR.1 j hj).1), hR, hF, fg_new _ _ _ _ _⟩)
  · rw [if_neg c1, if_pos rfl, if_pos rfl]
    exact tr_some (tr_some ⟨rfl, h, fr_rf _ _, Or.inl ⟨rfl, rfl, rfl⟩⟩)
