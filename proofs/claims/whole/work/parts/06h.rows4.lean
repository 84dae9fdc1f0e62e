theorem x_make (r : Ob_T) {k : Nat} (hk : k < 3) (st z : Int32) : f_X2_make r (nI k) st z = some (p_A (p_A (p_A r 1 (upd (o_A r 1) k z)) 2 (upd (o_A r 2) k st)) 0 (fl_ (o_A r 0) (10 * k) (10 * k + 10) 0)) := by
  unfold f_X2_make
  have e1 : nI k * 10 = nI (10 * k) := by show nI k * nI 10 = _; rw [pk_mul, Nat.mul_comm]
  have e2 : (nI k + 1) * 10 = nI (10 * k + 10) := by rw [nI_1]; show nI (k + 1) * nI 10 = _; rw [pk_mul, show (k + 1) * 10 = 10 * k + 10 by omega]
  rw [st_nI hk (by omega), Option.bind_some, st_nI hk (by omega), Option.bind_some, e1, e2, j_fill _ _ (by omega) (by omega) (by omega), Option.bind_some]
  rfl
theorem sm_row (x r o : Ob_T) (x1 x2 x3 : Int32) (h : R_rw r o) : Tr_ (f_X8_row x r x1 x2 x3) (fun u => Tr_ (f_X9_row o x1 x2 x3) (fun w => u.1 = w.1 ∧ R_rw u.2 w.2 ∧ Fr_ [15, 16, 17] o w.2)) := by
  unfold f_X8_row f_X9_row
  rw [bind_eq _ (x_isRow x1), bind_eq _ (m_isRow x1)]
  by_cases c1 : 0 ≤ x1.toInt ∧ x1.toInt ≤ 2
  · rw [if_pos c1, if_neg n_10, if_neg n_10, bind_eq _ (x_isSort x2)]
    by_cases c2 : 0 ≤ x2.toInt ∧ x2.toInt ≤ 1
    · rw [if_pos c2, if_neg n_10, bind_eq _ (f_in1 (a := 0) (b := 1) c2), if_neg n_10]
      by_cases c3 : x3 ≤ 10
      · rw [if_pos c3, if_pos c3]
        by_cases c4 : 0 ≤ x3
        · rw [if_pos c4, if_pos c4]
          obtain ⟨k, hk, rfl⟩ := i_of (x := x1) (n := 2) c1.1 c1.2
          obtain ⟨st, hst, rfl⟩ := i_of (x := x2) (n := 1) c2.1 c2.2
          obtain ⟨z, hz, rfl⟩ := i_of (x := x3) (n := 10) ((i_le _ _).mp c4) ((i_le _ _).mp c3)
          have hk3 : k < 3 := by omega
          rw [bind_eq _ (x_make r hk3 _ _), st_nI hk3 (by omega), Option.bind_some, st_nI hk3 (by omega), Option.bind_some, m_rowL _ hk3]
          refine tr_some (tr_some ⟨rfl, ?_, fr_tr (fr_tr (fr_pA (by decide)) (fr_pA (by decide))) (fr_pA (by decide))⟩)
          intro j hj
          by_cases hjk : j = k
          · subst hjk
            refine Or.inr ⟨z, st, hz, hst, by simp [oA_pA, updE], by simp [oA_pA, updE], by simp [oA_pA, updE], by simp [oA_pA, updE], fun l hl => ?_⟩
            simp only [oA_pA]
            show fl_ (o_A r 0) (10 * j) (10 * j + 10) 0 (10 * j + l) = fl_ (o_A o 17) (10 * j) (10 * j + 10) 0 (10 * j + l)
            unfold fl_
            rw [if_pos (by omega), if_pos (by omega)]
          · have h1 := h j hj
            unfold R_rk at h1 ⊢
            rcases h1 with e | ⟨z', st', hz', hst', e1, e2, e3, e4, e5⟩
            · exact Or.inl (by simpa [oA_pA, updE, hjk] using e)
            · refine Or.inr ⟨z', st', hz', hst', by simpa [oA_pA, updE, hjk] using e1, by simpa [oA_pA, updE, hjk] using e2, by simpa [oA_pA, updE, hjk] using e3, by simpa [oA_pA, updE, hjk] using e4, fun l hl => ?_⟩
              simp only [oA_pA]
              show fl_ (o_A r 0) (10 * k) (10 * k + 10) 0 (10 * j + l) = fl_ (o_A o 17) (10 * k) (10 * k + 10) 0 (10 * j + l)
              unfold fl_
              rw [if_neg (by omega), if_neg (by omega)]
              exact e5 l hl
        · rw [if_neg c4, if_neg c4]
          exact tr_some (tr_some ⟨rfl, h, fr_rf _ _⟩)
      · rw [if_neg c3, if_neg c3]
        exact tr_some (tr_some ⟨rfl, h, fr_rf _ _⟩)
    · rw [if_neg c2, if_pos rfl, bind_eq _ (f_in0 (a := 0) (b := 1) c2), if_pos rfl]
      exact tr_some (tr_some ⟨rfl, h, fr_rf _ _⟩)
  · rw [if_neg c1, if_pos rfl, if_pos rfl]
    exact tr_some (tr_some ⟨rfl, h, fr_rf _ _⟩)
