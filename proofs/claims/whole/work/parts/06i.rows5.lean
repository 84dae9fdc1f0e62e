def sm_r (f : Nat → Int32) (b : Nat) : Nat → Int32
  | 0 => 0
  | i + 1 => sm_r f b i + f (b + i)
theorem sm_r_cong {f g : Nat → Int32} {b : Nat} : ∀ {z : Nat}, (∀ j, j < z → f (b + j) = g (b + j)) → sm_r f b z = sm_r g b z
  | 0, _ => rfl
  | z + 1, h => by
    rw [sm_r, sm_r, sm_r_cong (fun j hj => h j (by omega)), h z (by omega)]
theorem x_total (r : Ob_T) {k z : Nat} (hk : k < 3) (hz : z ≤ 10) (e : o_A r 1 k = nI z) : f_X2_total r (nI k) = some (sm_r (o_A r 0) (10 * k) z) := by
  unfold f_X2_total
  refine lp_fu (P := fun t => t = some (sm_r (o_A r 0) (10 * k) z)) (fun n x => ∃ i, i ≤ z ∧ n = z - i + 1 ∧ x = (nI k, sm_r (o_A r 0) (10 * k) i, nI i)) ?_ ?_ (z - 0 + 1) _ ⟨0, by omega, rfl, rfl⟩ (by omega)
  · rintro x ⟨i, h1, h2, -⟩
    omega
  · rintro n x rec ⟨i, h1, h2, rfl⟩ hr
    unfold f_X2_total_L4
    show (ld_I (o_A r 1) 3 (nI k)).bind _ = _
    rw [ld_nI hk (by omega), Option.bind_some, e]
    by_cases he : i = z
    · subst he
      rw [if_pos (show nI i ≤ nI i from Int32.le_refl _)]
    · rw [if_neg (show ¬ nI z ≤ nI i from nI_ge (by omega) (by omega))]
      unfold f_X2_at
      show ((ld_I (o_A r 0) 30 (nI k * 10 + nI i)).bind _).bind _ = _
      rw [ix_x, ld_nI (by omega) (by omega), Option.bind_some, Option.bind_some]
      refine hr _ ⟨i + 1, by omega, by omega, ?_⟩
      rw [← nI_1]
      rfl
theorem sm_sum (x r o : Ob_T) (x1 : Int32) (h : R_rw r o) : Tr_ (f_X8_sum x r x1) (fun u => Tr_ (f_X9_sum o x1) (fun w => u = w)) := by
  unfold f_X8_sum f_X9_sum
  rw [bind_eq _ (x_isRow x1), bind_eq _ (m_isRow x1)]
  by_cases c1 : 0 ≤ x1.toInt ∧ x1.toInt ≤ 2
  · rw [if_pos c1, if_neg n_10, if_neg n_10]
    obtain ⟨k, hk, rfl⟩ := i_of (x := x1) (n := 2) c1.1 c1.2
    have hk3 : k < 3 := by omega
    unfold f_X2_isMissing
    rw [ld_nI hk3 (by omega), Option.bind_some]
    rcases h k hk3 with ⟨e1, e2⟩ | ⟨z, st, hz, hst, e1, e2, e3, e4, e5⟩
    · rw [e1, if_pos rfl, Option.bind_some, if_neg n_10]
      refine tr_some ?_
      rw [lp_u]
      unfold f_X9_sum_L16
      show Tr_ ((ld_I (o_A o 16) 3 (nI k)).bind _) _
      rw [ld_nI hk3 (by omega), Option.bind_some, e2, if_pos (show (-1 : Int32) ≤ 0 by decide)]
      show Tr_ (f_X9_sum_J46 (nI k) 500000 o) _
      unfold f_X9_sum_J46
      rw [ld_nI hk3 (by omega), Option.bind_some, e2, if_neg (by decide)]
      exact tr_some rfl
    · rw [e1, if_neg (nI_nm1 (by omega)), Option.bind_some, if_pos rfl, bind_eq _ (x_total r hk3 hz e1)]
      refine tr_some ?_
      refine lp_fu (P := fun t => Tr_ t (fun w => sm_r (o_A r 0) (10 * k) z + 500000 = w)) (fun n x => ∃ i, i ≤ z ∧ n = z - i + 1 ∧ x = (nI k, 500000 + sm_r (o_A o 17) (10 * k) i, nI i)) ?_ ?_ (z - 0 + 1) _ ⟨0, by omega, rfl, rfl⟩ (by omega)
      · rintro x ⟨i, h1, h2, -⟩
        omega
      · rintro n x rec ⟨i, h1, h2, rfl⟩ hr
        unfold f_X9_sum_L16
        show Tr_ ((ld_I (o_A o 16) 3 (nI k)).bind _) _
        rw [ld_nI hk3 (by omega), Option.bind_some, e2]
        by_cases he : i = z
        · subst he
          rw [if_pos (show nI i ≤ nI i from Int32.le_refl _)]
          show Tr_ (f_X9_sum_J46 (nI k) (500000 + sm_r (o_A o 17) (10 * k) i) o) _
          unfold f_X9_sum_J46
          rw [ld_nI hk3 (by omega), Option.bind_some, e2, if_pos (nI_pos' (by omega))]
          refine tr_some ?_
          rw [sm_r_cong e5, Int32.add_comm]
        · rw [if_neg (show ¬ nI z ≤ nI i from nI_ge (by omega) (by omega))]
          show Tr_ ((ld_I (o_A o 17) 30 (10 * nI k + nI i)).bind _) _
          rw [ix_m, ld_nI (by omega) (by omega), Option.bind_some]
          refine hr _ ⟨i + 1, by omega, by omega, ?_⟩
          rw [← nI_1, sm_r, ← Int32.add_assoc]
  · rw [if_neg c1, if_pos rfl, if_pos rfl]
    exact tr_some (tr_some rfl)
