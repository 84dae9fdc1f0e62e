theorem pA_pA (s : Ob_T) (k : Nat) (f g : Nat → Int32) : p_A (p_A s k f) k g = p_A s k g := by
  unfold p_A
  refine Prod.ext rfl (Prod.ext ?_ rfl)
  funext j
  show (if j = k then g else if j = k then f else s.2.1 j) = if j = k then g else s.2.1 j
  by_cases h : j = k
  · rw [if_pos h, if_pos h]
  · rw [if_neg h, if_neg h, if_neg h]
def fl_ (f : Nat → Int32) (a b : Nat) (v : Int32) : Nat → Int32 := fun j => if a ≤ j ∧ j < b then v else f j
theorem fl_0 (f : Nat → Int32) (a : Nat) (v : Int32) : fl_ f a a v = f := by
  funext j
  unfold fl_
  rw [if_neg (by omega)]
theorem fl_s (f : Nat → Int32) {a i : Nat} (h : a ≤ i) (v : Int32) : upd (fl_ f a i v) i v = fl_ f a (i + 1) v := by
  funext j
  rw [updE]
  unfold fl_
  by_cases hj : j = i
  · rw [if_pos hj, if_pos (by omega)]
  · rw [if_neg hj]
    by_cases h2 : a ≤ j ∧ j < i
    · rw [if_pos h2, if_pos (by omega)]
    · rw [if_neg h2, if_neg (by omega)]
theorem pA_self (s : Ob_T) (k : Nat) : p_A s k (o_A s k) = s := by
  unfold p_A o_A
  refine Prod.ext rfl (Prod.ext ?_ rfl)
  funext j
  show (if j = k then s.2.1 k else s.2.1 j) = s.2.1 j
  by_cases h : j = k
  · rw [if_pos h, h]
  · rw [if_neg h]
theorem j_fill (s : Ob_T) {a b z : Nat} (v : Int32) (hab : a ≤ b) (hb : b ≤ z) (hz : z ≤ 10000) : f_J7_fill_fda19 s (nI a) (nI b) v z = some (p_A s 0 (fl_ (o_A s 0) a b v)) := by
  unfold f_J7_fill_fda19 f_J7_rangeCheck_23922
  rw [if_pos (nI_le hab (by omega)), if_pos (nI_pos' (by omega)), if_pos (show nI b ≤ Int32.ofNat z from nI_le hb (by omega)), Option.bind_some]
  refine lp_fu (P := fun r => r = some (p_A s 0 (fl_ (o_A s 0) a b v))) (fun n x => ∃ i, a ≤ i ∧ i ≤ b ∧ n = b - i + 1 ∧ x = (nI b, v, nI i, p_A s 0 (fl_ (o_A s 0) a i v))) ?_ ?_ (b - a + 1) _ ⟨a, by omega, hab, rfl, by rw [fl_0, pA_self]⟩ (by omega)
  · rintro x ⟨i, h1, h2, h3, -⟩
    omega
  · rintro n x rec ⟨i, h1, h2, h3, rfl⟩ hr
    unfold f_J7_fill_fda19_L10
    by_cases he : i = b
    · subst he
      rw [if_pos (Int32.le_refl _)]
    · rw [if_neg (nI_ge (by omega) (by omega))]
      show (st_A (p_A s 0 (fl_ (o_A s 0) a i v)) 0 z (nI i) v).bind _ = _
      rw [st_nI (by omega) (by omega), Option.bind_some]
      refine hr _ ⟨i + 1, by omega, by omega, by omega, ?_⟩
      rw [pA_pA, oA_pA, if_pos rfl, fl_s _ h1, nI_1]
theorem m_rowL (o : Ob_T) {k z : Nat} (hk : k < 3) : Lp_ (fun (rec : (Int32 × Int32 × Int32 × Ob_T) → Option (Int32 × Ob_T)) x => f_X9_row_L53 rec x.1 x.2.1 x.2.2.1 x.2.2.2) FU_ (nI k, nI z, 0, o) = some (nI z, p_A o 17 (fl_ (o_A o 17) (10 * k) (10 * k + 10) 0)) := by
  refine lp_fu (P := fun r => r = some (nI z, p_A o 17 (fl_ (o_A o 17) (10 * k) (10 * k + 10) 0))) (fun n x => ∃ i, i ≤ 10 ∧ n = 10 - i + 1 ∧ x = (nI k, nI z, nI i, p_A o 17 (fl_ (o_A o 17) (10 * k) (10 * k + i) 0))) ?_ ?_ (10 - 0 + 1) _ ⟨0, by omega, rfl, by rw [Nat.add_zero, fl_0, pA_self]; rfl⟩ (by omega)
  · rintro x ⟨i, h1, h2, -⟩
    omega
  · rintro n x rec ⟨i, h1, h2, rfl⟩ hr
    unfold f_X9_row_L53
    by_cases he : i = 10
    · subst he
      rw [if_pos (show (10 : Int32) ≤ nI 10 from Int32.le_refl _)]
    · rw [if_neg (show ¬ (10 : Int32) ≤ nI i from nI_ge (b := 10) (by omega) (by omega))]
      show (st_A (p_A o 17 (fl_ (o_A o 17) (10 * k) (10 * k + i) 0)) 17 30 (10 * nI k + nI i) 0).bind _ = _
      rw [ix_m, st_nI (by omega) (by omega), Option.bind_some]
      refine hr _ ⟨i + 1, by omega, by omega, ?_⟩
      rw [pA_pA, oA_pA, if_pos rfl, fl_s _ (by omega), nI_1]
      rfl
