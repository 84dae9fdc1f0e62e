theorem pt_np {r o : Ob_T} {k : Nat} (hk : k < 3) (h : R_rk r o k) (x2 x3 : Int32) : (f_X2_placeTrouble r (nI k) x2 x3 = some (-1) ∧ f_X9_noPlace o (nI k) x2 x3 = some 0 ∧ ∃ z i, z ≤ 10 ∧ i < z ∧ x3 = nI i ∧ o_A r 1 k = nI z ∧ o_A o 16 k = nI z) ∨ ∃ c, (¬ c = -1 ∧ ¬ c = 0) ∧ f_X2_placeTrouble r (nI k) x2 x3 = some c ∧ f_X9_noPlace o (nI k) x2 x3 = some c := by
  unfold f_X2_placeTrouble f_X9_noPlace f_X2_isMissing
  simp only [ld_nI hk (show 3 < 2 ^ 31 by omega), Option.bind_some]
  rcases h with ⟨e1, e2⟩ | ⟨z, st, hz, hst, e1, e2, e3, e4, e5⟩
  · refine Or.inr ⟨-11, ⟨by decide, by decide⟩, ?_, ?_⟩
    · rw [e1, if_pos rfl, Option.bind_some, if_neg (by decide)]
    · rw [e2, if_neg (by decide)]
  · rw [e1, e2, if_neg (nI_nm1 (by omega)), if_pos (nI_pos' (by omega)), Option.bind_some, if_pos rfl, e3, e4]
    by_cases c1 : nI st = x2
    · rw [if_pos c1, if_pos c1]
      have e6 : (nI z - 1).toInt = (z : Int) - 1 := pk_sub_toInt (a := z) (b := 1) (by omega) (by omega)
      have j0 : (0 : Int64).toInt = 0 := rfl
      have l0 : (0 : Int32).toInt = 0 := rfl
      by_cases c2 : 0 ≤ x3.toInt ∧ x3.toInt < z
      · have n1 : ¬ x3 < 0 := by rw [i_lt, l0]; omega
        have n2 : x3 < nI z := by rw [i_lt, nI_toInt (by omega)]; omega
        refine Or.inl ⟨?_, ?_, z, x3.toInt.toNat, hz, by omega, i_nat c2.1, rfl, rfl⟩
        · rw [if_neg n1, if_pos n2]
        · rw [bind_eq _ (f_in1 (by rw [j0, i_wide, e6]; omega)), if_neg (by decide)]
      · refine Or.inr ⟨-14, ⟨by decide, by decide⟩, ?_, ?_⟩
        · by_cases n1 : x3 < 0
          · rw [if_pos n1]
          · rw [if_neg n1]
            rw [i_lt, l0] at n1
            rw [if_neg (by rw [i_lt, nI_toInt (by omega)]; omega)]
        · rw [bind_eq _ (f_in0 (by rw [j0, i_wide, e6]; omega)), if_pos rfl]
    · rw [if_neg c1, if_neg c1]
      exact Or.inr ⟨-13, ⟨by decide, by decide⟩, rfl, rfl⟩
theorem ix_x {k i : Nat} : nI k * 10 + nI i = nI (10 * k + i) := by
  show nI k * nI 10 + nI i = _
  rw [pk_mul, nI_add, Nat.mul_comm]
theorem ix_m {k i : Nat} : (10 : Int32) * nI k + nI i = nI (10 * k + i) := by
  show nI 10 * nI k + nI i = _
  rw [pk_mul, nI_add]
theorem n_10 : ¬ (1 : Int32) = 0 := by decide
theorem R_rk_ct {r o : Ob_T} {k z : Nat} (h : R_rk r o k) (e : o_A r 1 k = nI z) (hz : z ≤ 10) : ∀ j, j < z → o_A r 0 (10 * k + j) = o_A o 17 (10 * k + j) := by
  rcases h with ⟨e1, -⟩ | ⟨z', st, hz', hst, e1, e2, e3, e4, e5⟩
  · exact absurd (e.symm.trans e1) (nI_nm1 (by omega))
  · have : z = z' := (nI_eq (by omega) (by omega)).mp (e.symm.trans e1)
    subst this
    exact e5
theorem sm_get (x r o : Ob_T) (x1 x2 x3 : Int32) (h : R_rw r o) : Tr_ (f_X8_get x r x1 x2 x3) (fun u => Tr_ (f_X9_get o x1 x2 x3) (fun w => u = w)) := by
  unfold f_X8_get f_X9_get
  rw [bind_eq _ (x_isRow x1), bind_eq _ (m_isRow x1)]
  by_cases c1 : 0 ≤ x1.toInt ∧ x1.toInt ≤ 2
  · rw [if_pos c1, if_neg n_10, if_neg n_10, bind_eq _ (x_isSort x2)]
    by_cases c2 : 0 ≤ x2.toInt ∧ x2.toInt ≤ 1
    · rw [if_pos c2, if_neg n_10, bind_eq _ (f_in1 (a := 0) (b := 1) c2), if_neg n_10]
      obtain ⟨k, hk, rfl⟩ := i_of (x := x1) (n := 2) c1.1 c1.2
      have hk3 : k < 3 := by omega
      rcases pt_np hk3 (h k hk3) x2 x3 with ⟨a1, a2, z, i, hz, hi, rfl, e1, e2⟩ | ⟨c, hc, a1, a2⟩
      · rw [bind_eq _ a1, bind_eq _ a2, if_pos rfl, if_pos rfl]
        unfold f_X2_at
        rw [ix_x, ix_m, ld_nI (by omega) (by omega), ld_nI (by omega) (by omega)]
        refine tr_bind (tr_bind (tr_some (tr_some (tr_some (tr_bind (tr_some (tr_some ?_)))))))
        rw [R_rk_ct (h k hk3) e1 hz i hi]
      · rw [bind_eq _ a1, bind_eq _ a2, if_neg hc.1, if_neg hc.2]
        exact tr_some (tr_some rfl)
    · rw [if_neg c2, if_pos rfl, bind_eq _ (f_in0 (a := 0) (b := 1) c2), if_pos rfl]
      exact tr_some (tr_some rfl)
  · rw [if_neg c1, if_pos rfl, if_pos rfl]
    exact tr_some (tr_some rfl)
theorem R_rw_set {r o : Ob_T} (h : R_rw r o) {k i : Nat} (hi : i < 10) (v : Int32) : R_rw (p_A r 0 (upd (o_A r 0) (10 * k + i) v)) (p_A o 17 (upd (o_A o 17) (10 * k + i) v)) := by
  intro j hj
  have h1 := h j hj
  unfold R_rk at h1 ⊢
  simp only [oA_pA, updE]
  rcases h1 with e | ⟨z, st, hz, hst, e1, e2, e3, e4, e5⟩
  · exact Or.inl e
  · refine Or.inr ⟨z, st, hz, hst, e1, e2, e3, e4, fun l hl => ?_⟩
    show (if 10 * j + l = 10 * k + i then v else o_A r 0 (10 * j + l)) = (if 10 * j + l = 10 * k + i then v else o_A o 17 (10 * j + l))
    rw [e5 l hl]
theorem sm_set (x r o : Ob_T) (x1 x2 x3 x4 : Int32) (h : R_rw r o) : Tr_ (f_X8_set x r x1 x2 x3 x4) (fun u => Tr_ (f_X9_set o x1 x2 x3 x4) (fun w => u.1 = w.1 ∧ R_rw u.2 w.2 ∧ Fr_ [15, 16, 17] o w.2)) := by
  unfold f_X8_set f_X9_set
  rw [bind_eq _ (x_isRow x1), bind_eq _ (m_isRow x1)]
  by_cases c1 : 0 ≤ x1.toInt ∧ x1.toInt ≤ 2
  · rw [if_pos c1, if_neg n_10, if_neg n_10, bind_eq _ (x_isSort x2)]
    by_cases c2 : 0 ≤ x2.toInt ∧ x2.toInt ≤ 1
    · rw [if_pos c2, if_neg n_10, bind_eq _ (f_in1 (a := 0) (b := 1) c2), if_neg n_10]
      have l1 : (-9999 : Int32).toInt = -9999 := rfl
      have l2 : (9999 : Int32).toInt = 9999 := rfl
      by_cases c3 : -9999 ≤ x4.toInt ∧ x4.toInt ≤ 9999
      · rw [bind_eq _ (f_in1 (a := -9999) (b := 9999) c3), if_neg n_10, if_neg (by rw [i_lt, l1]; omega), if_pos (by rw [i_le, l2]; omega)]
        obtain ⟨k, hk, rfl⟩ := i_of (x := x1) (n := 2) c1.1 c1.2
        have hk3 : k < 3 := by omega
        rcases pt_np hk3 (h k hk3) x2 x3 with ⟨a1, a2, z, i, hz, hi, rfl, e1, e2⟩ | ⟨c, hc, a1, a2⟩
        · rw [bind_eq _ a1, bind_eq _ a2, if_pos rfl, if_pos rfl]
          unfold f_X2_at f_X2_put
          rw [ix_x, ix_m, ld_nI (by omega) (by omega), ld_nI (by omega) (by omega), st_nI (by omega) (by omega), st_nI (by omega) (by omega)]
          refine tr_bind (tr_bind (tr_some (tr_some (tr_bind (tr_bind (tr_some (tr_some (tr_some (tr_bind (tr_some (tr_bind (tr_some (tr_some ⟨?_, R_rw_set h (by omega) x4, fr_pA (by decide)⟩)))))))))))))
          rw [R_rk_ct (h k hk3) e1 hz i hi]
        · rw [bind_eq _ a1, bind_eq _ a2, if_neg hc.1, if_neg hc.2]
          exact tr_some (tr_some ⟨rfl, h, fr_rf _ _⟩)
      · rw [bind_eq _ (f_in0 (a := -9999) (b := 9999) c3), if_pos rfl]
        refine tr_if (fun _ => tr_some (tr_some ⟨rfl, h, fr_rf _ _⟩)) (fun n1 => tr_if (fun p1 => ?_) (fun _ => tr_some (tr_some ⟨rfl, h, fr_rf _ _⟩)))
        rw [i_lt, l1] at n1
        rw [i_le, l2] at p1
        exact absurd ⟨by omega, p1⟩ c3
    · rw [if_neg c2, if_pos rfl, bind_eq _ (f_in0 (a := 0) (b := 1) c2), if_pos rfl]
      exact tr_some (tr_some ⟨rfl, h, fr_rf _ _⟩)
  · rw [if_neg c1, if_pos rfl, if_pos rfl]
    exact tr_some (tr_some ⟨rfl, h, fr_rf _ _⟩)
