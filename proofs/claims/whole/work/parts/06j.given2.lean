/-- what is given: the same numbers; the undo pairs of the class against the reference's snapshots; what is kept -/
def sp_ (o : Ob_T) (u k j : Nat) : Int32 := if k = u then o_A o 4 j else o_A o 5 (4 * k + j)
def R_gv (g o : Ob_T) : Prop :=
  (∀ l, l < 4 → o_A g 0 l = o_A o 4 l ∧ gv_ok (o_A o 4 l)) ∧
  (∃ u, u ≤ 8 ∧ o_F g 5 = nI u ∧ o_F o 6 = nI u ∧ ∀ i, i < u → ∃ l, l < 4 ∧ o_A g 1 i = nI l ∧ gv_ok (o_A g 2 i) ∧ ∀ j, j < 4 → sp_ o u i j = if j = l then o_A g 2 i else sp_ o u (i + 1) j) ∧
  ∀ k, k < 2 → (o_A g 4 k = 0 ∧ o_A o 8 k = 0) ∨ (o_A g 4 k = 1 ∧ o_A o 8 k = 1 ∧ ∀ j, j < 4 → o_A g 3 (4 * k + j) = o_A o 7 (4 * k + j) ∧ gv_ok (o_A o 7 (4 * k + j)))
theorem R_gv_fr {g o o' : Ob_T} {S : List Nat} (h : R_gv g o) (hf : Fr_ S o o') (hs : 4 ∉ S ∧ 5 ∉ S ∧ 6 ∉ S ∧ 7 ∉ S ∧ 8 ∉ S) : R_gv g o' := by
  unfold R_gv sp_ at h ⊢
  rw [(hf 4 hs.1).2, (hf 5 hs.2.1).2, (hf 6 hs.2.2.1).1, (hf 7 hs.2.2.2.1).2, (hf 8 hs.2.2.2.2).2]
  exact h
theorem cpy_s {f g : Nat → Int32} {a b i : Nat} : upd (va_cpy f g a b i) (b + i) (f (a + i)) = va_cpy f g a b (i + 1) := by
  funext j
  rw [updE]
  unfold va_cpy
  by_cases hj : j = b + i
  · rw [if_pos hj, if_pos (by omega), show a + (j - b) = a + i by omega]
  · rw [if_neg hj]
    by_cases h2 : b ≤ j ∧ j < b + i
    · rw [if_pos h2, if_pos (by omega)]
    · rw [if_neg h2, if_neg (by omega)]
theorem cpy_0 {f g : Nat → Int32} {a b : Nat} : va_cpy f g a b 0 = g := by
  funext j
  unfold va_cpy
  rw [if_neg (by omega)]
theorem ix_4 {k i : Nat} : (4 : Int32) * nI k + nI i = nI (4 * k + i) := by
  show nI 4 * nI k + nI i = _
  rw [pk_mul, nI_add]
theorem m_keepL (o : Ob_T) {k : Nat} (hk : k < 2) : Lp_ (fun (rec : (Int32 × Int32 × Ob_T) → Option (Int32 × Ob_T)) x => f_X9_keep_L15 (fun y1 t_o => f_X9_keep_J42 y1 t_o) rec x.1 x.2.1 x.2.2) FU_ (nI k, 0, o) = f_X9_keep_J42 (nI k) (p_A o 7 (va_cpy (o_A o 4) (o_A o 7) 0 (4 * k) 4)) := by
  refine lp_fu (P := fun r => r = f_X9_keep_J42 (nI k) (p_A o 7 (va_cpy (o_A o 4) (o_A o 7) 0 (4 * k) 4))) (fun n x => ∃ i, i ≤ 4 ∧ n = 4 - i + 1 ∧ x = (nI k, nI i, p_A o 7 (va_cpy (o_A o 4) (o_A o 7) 0 (4 * k) i))) ?_ ?_ (4 - 0 + 1) _ ⟨0, by omega, rfl, by rw [cpy_0, pA_self]; rfl⟩ (by omega)
  · rintro x ⟨i, h1, h2, -⟩
    omega
  · rintro n x rec ⟨i, h1, h2, rfl⟩ hr
    unfold f_X9_keep_L15
    by_cases he : i = 4
    · subst he
      rw [if_pos (show (4 : Int32) ≤ nI 4 from Int32.le_refl _)]
    · rw [if_neg (show ¬ (4 : Int32) ≤ nI i from nI_ge (b := 4) (by omega) (by omega))]
      show (ld_I (o_A (p_A o 7 (va_cpy (o_A o 4) (o_A o 7) 0 (4 * k) i)) 4) 4 (nI i)).bind _ = _
      rw [ld_nI (by omega) (by omega), Option.bind_some]
      show (st_A (p_A o 7 (va_cpy (o_A o 4) (o_A o 7) 0 (4 * k) i)) 7 8 (4 * nI k + nI i) (o_A o 4 i)).bind _ = _
      rw [ix_4, st_nI (by omega) (by omega), Option.bind_some]
      refine hr _ ⟨i + 1, by omega, by omega, ?_⟩
      rw [pA_pA, oA_pA, if_pos rfl, ← cpy_s, Nat.zero_add, nI_1]
theorem m_backL (o : Ob_T) {k : Nat} (hk : k < 2) : Lp_ (fun (rec : (Int32 × Int32 × Ob_T) → Option (Int32 × Ob_T)) x => f_X9_back_L27 (fun t_o => f_X9_back_J54 t_o) rec x.1 x.2.1 x.2.2) FU_ (nI k, 0, o) = f_X9_back_J54 (p_A o 4 (va_cpy (o_A o 7) (o_A o 4) (4 * k) 0 4)) := by
  refine lp_fu (P := fun r => r = f_X9_back_J54 (p_A o 4 (va_cpy (o_A o 7) (o_A o 4) (4 * k) 0 4))) (fun n x => ∃ i, i ≤ 4 ∧ n = 4 - i + 1 ∧ x = (nI k, nI i, p_A o 4 (va_cpy (o_A o 7) (o_A o 4) (4 * k) 0 i))) ?_ ?_ (4 - 0 + 1) _ ⟨0, by omega, rfl, by rw [cpy_0, pA_self]; rfl⟩ (by omega)
  · rintro x ⟨i, h1, h2, -⟩
    omega
  · rintro n x rec ⟨i, h1, h2, rfl⟩ hr
    unfold f_X9_back_L27
    by_cases he : i = 4
    · subst he
      rw [if_pos (show (4 : Int32) ≤ nI 4 from Int32.le_refl _)]
    · rw [if_neg (show ¬ (4 : Int32) ≤ nI i from nI_ge (b := 4) (by omega) (by omega))]
      show (ld_I (o_A (p_A o 4 (va_cpy (o_A o 7) (o_A o 4) (4 * k) 0 i)) 7) 8 (4 * nI k + nI i)).bind _ = _
      rw [ix_4, ld_nI (by omega) (by omega), Option.bind_some]
      show (st_A (p_A o 4 (va_cpy (o_A o 7) (o_A o 4) (4 * k) 0 i)) 4 4 (nI i) (o_A o 7 (4 * k + i))).bind _ = _
      rw [st_nI (by omega) (by omega), Option.bind_some]
      refine hr _ ⟨i + 1, by omega, by omega, ?_⟩
      rw [pA_pA, oA_pA, if_pos rfl, ← cpy_s, Nat.zero_add, nI_1]
