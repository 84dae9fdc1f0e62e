section
variable {n : Ob_T} {P : Pg_}
theorem y_fr {m L : Nat} {r : Int32} (hm : m < 10) (hr : r ∈ rks_) (e : o_A n 4 m = nI L) (hL : L ≤ 6) : f_X1_frameOf n (nI m) r = some (nI (fr_ r L)) := by
  unfold f_X1_frameOf
  rw [ld_nI (by omega) (by omega), Option.bind_some, e]
  exact x_fr0 r hr _ (by omega)
theorem y_ce {m L : Nat} {r : Int32} (hm : m < 10) (hr : r ∈ rks_) (e : o_A n 4 m = nI L) (hL : L ≤ 6) : f_X1_cellOf n (nI m) r = some (nI (L - fr_ r L)) := by
  unfold f_X1_cellOf
  rw [ld_nI (by omega) (by omega), Option.bind_some, y_fr hm hr e hL, Option.bind_some, e, pk_sub (fr_le _ _)]
theorem x6_ix {i j : Nat} : nI i * 6 + nI j = nI (6 * i + j) := by
  show nI i * nI 6 + nI j = _
  rw [pk_mul, nI_add, Nat.mul_comm]
theorem y_at {i j : Nat} (hi : i < 10) (hj : j < 6) : f_X1_at n (nI i) (nI j) = some (o_A n 5 (6 * i + j)) := by
  unfold f_X1_at
  rw [x6_ix, ld_nI (by omega) (by omega), Option.bind_some]
theorem y_one {i j : Nat} (hi : i < 10) (hj : j < 6) (v : Int32) : f_X1_putOne n (nI i) (nI j) v = some (nI (j + 1), p_A n 5 (upd (o_A n 5) (6 * i + j) v)) := by
  unfold f_X1_putOne
  rw [if_neg (nI_pos (by omega)), if_neg (show ¬ (6 : Int32) ≤ nI j from nI_ge (b := 6) hj (by omega)), x6_ix, st_nI (by omega) (by omega), Option.bind_some, nI_1]
theorem y_frame {i s L : Nat} {r : Int32} (hi : i < 10) (hs : s < i) (hr : r ∈ rks_) (e3 : o_A n 3 i = r) (e : o_A n 4 s = nI L) (hL : L ≤ 6) : f_X1_putFrame n (nI i) (nI s) = some (nI (fr_ r L), p_A n 5 (va_cpy (o_A n 5) (o_A n 5) (6 * s) (6 * i) (fr_ r L))) := by
  have h0 := fr_le r L
  unfold f_X1_putFrame
  rw [ld_nI (by omega) (by omega), Option.bind_some, e3, y_fr (by omega) hr e hL, Option.bind_some]
  generalize fr_ r L = F at h0 ⊢
  refine lp_fu (P := fun r => r = some (nI F, p_A n 5 (va_cpy (o_A n 5) (o_A n 5) (6 * s) (6 * i) F))) (fun m x => ∃ k, k ≤ F ∧ m = F - k + 1 ∧ x = (nI i, nI s, nI F, nI k, p_A n 5 (va_cpy (o_A n 5) (o_A n 5) (6 * s) (6 * i) k))) ?_ ?_ (F - 0 + 1) _ ⟨0, by omega, rfl, by rw [cpy_0, pA_self]; rfl⟩ (by omega)
  · rintro x ⟨k, h1, h2, -⟩
    omega
  · rintro m x rec ⟨k, hk, hm, rfl⟩ hr
    unfold f_X1_putFrame_L15
    dsimp only
    by_cases he : k = F
    · subst he
      rw [if_pos (Int32.le_refl _)]
    · rw [if_neg (nI_ge (by omega) (by omega)), y_at (by omega) (by omega), Option.bind_some, show o_A (p_A n 5 (va_cpy (o_A n 5) (o_A n 5) (6 * s) (6 * i) k)) 5 = va_cpy (o_A n 5) (o_A n 5) (6 * s) (6 * i) k from rfl, cpy_out (by omega), y_one (by omega) (by omega), Option.bind_some]
      refine hr _ ⟨k + 1, by omega, by omega, ?_⟩
      rw [pA_pA, show o_A (p_A n 5 (va_cpy (o_A n 5) (o_A n 5) (6 * s) (6 * i) k)) 5 = va_cpy (o_A n 5) (o_A n 5) (6 * s) (6 * i) k from rfl, cpy_s, nI_1]
theorem y_part {i s L a b : Nat} (hi : i < 10) (hs : s < i) (e : o_A n 4 s = nI L) (hL : L ≤ 6) (hab : b + (L - a) ≤ 6) (ha : a ≤ 7) : f_X1_putPart n (nI i) (nI b) (nI s) (nI a) = some (p_A n 5 (va_cpy (o_A n 5) (o_A n 5) (6 * s + a) (6 * i + b) (L - a))) := by
  unfold f_X1_putPart
  refine lp_fu (P := fun r => r = some (p_A n 5 (va_cpy (o_A n 5) (o_A n 5) (6 * s + a) (6 * i + b) (L - a)))) (fun m x => ∃ k, k ≤ L - a ∧ m = (L - a) - k + 1 ∧ x = (nI i, nI b, nI s, nI a, nI (a + k), p_A n 5 (va_cpy (o_A n 5) (o_A n 5) (6 * s + a) (6 * i + b) k))) ?_ ?_ ((L - a) - 0 + 1) _ ⟨0, by omega, rfl, by rw [cpy_0, pA_self]; rfl⟩ (by omega)
  · rintro x ⟨k, h1, h2, -⟩
    omega
  · rintro m x rec ⟨k, hk, hm, rfl⟩ hr
    unfold f_X1_putPart_L4
    dsimp only
    rw [ld_nI (by omega) (by omega), Option.bind_some, show o_A (p_A n 5 (va_cpy (o_A n 5) (o_A n 5) (6 * s + a) (6 * i + b) k)) 4 = o_A n 4 from rfl, e]
    by_cases he : k = L - a
    · subst he
      rw [if_pos (nI_le (by omega) (by omega))]
    · rw [if_neg (nI_ge (by omega) (by omega)), y_at (by omega) (by omega), Option.bind_some, show o_A (p_A n 5 (va_cpy (o_A n 5) (o_A n 5) (6 * s + a) (6 * i + b) k)) 5 = va_cpy (o_A n 5) (o_A n 5) (6 * s + a) (6 * i + b) k from rfl, cpy_out (by omega), show nI b + nI (a + k) - nI a = nI (b + k) from by rw [nI_add, pk_sub (by omega)]; exact congrArg nI (by omega), y_one (by omega) (by omega), Option.bind_some]
      refine hr _ ⟨k + 1, by omega, by omega, ?_⟩
      rw [pA_pA, show o_A (p_A n 5 (va_cpy (o_A n 5) (o_A n 5) (6 * s + a) (6 * i + b) k)) 5 = va_cpy (o_A n 5) (o_A n 5) (6 * s + a) (6 * i + b) k from rfl, show 6 * i + (b + k) = 6 * i + b + k by omega, show 6 * s + (a + k) = 6 * s + a + k by omega, cpy_s, nI_1]
      rfl
theorem mx_nI {a b : Nat} (ha : a < 2 ^ 31) (hb : b < 2 ^ 31) : (if nI a < nI b then nI b else nI a) = nI (max a b) := by
  by_cases c : a < b
  · rw [if_pos (nI_lt c hb), show max a b = b by omega]
  · rw [if_neg (fun z => c ((nI_ltI ha hb).mp z)), show max a b = a by omega]
/-- the longer frame, put -/
theorem y_lframe {i a b : Nat} {La Lb : Nat} {r : Int32} (hi : i < 10) (ha : a < i) (hb : b < i) (hr : r ∈ rks_) (e1 : o_A n 1 i = nI a) (e2 : o_A n 2 i = nI b) (e3 : o_A n 3 i = r) (ea : o_A n 4 a = nI La) (eb : o_A n 4 b = nI Lb) (hLa : La ≤ 6) (hLb : Lb ≤ 6) : f_X1_putLongerFrame n (nI i) = some (nI (max (fr_ r La) (fr_ r Lb)), p_A n 5 (va_cpy (o_A n 5) (o_A n 5) (6 * (if fr_ r La < fr_ r Lb then b else a)) (6 * i) (max (fr_ r La) (fr_ r Lb)))) := by
  have h1 := fr_le r La
  have h2 := fr_le r Lb
  unfold f_X1_putLongerFrame
  rw [ld_nI (by omega) (by omega), Option.bind_some, ld_nI (by omega) (by omega), Option.bind_some, ld_nI (by omega) (by omega), Option.bind_some, e1, e2, e3, y_fr (by omega) hr eb hLb, Option.bind_some, Option.bind_some, y_fr (by omega) hr ea hLa, Option.bind_some]
  unfold f_X1_putLongerFrame_J46
  by_cases c : fr_ r La < fr_ r Lb
  · rw [if_neg (nI_ge c (by omega)), if_pos c, y_frame hi hb hr e3 eb hLb, Option.bind_some, show max (fr_ r La) (fr_ r Lb) = fr_ r Lb by omega]
  · rw [if_pos (nI_le (by omega) (by omega)), if_neg c, y_frame hi ha hr e3 ea hLa, Option.bind_some, show max (fr_ r La) (fr_ r Lb) = fr_ r La by omega]
/-- the longer cell, put from w on -/
theorem y_lcell {i a b t w : Nat} {La Lb : Nat} {r : Int32} (hi : i < 10) (ha : a < i) (hb : b < i) (hr : r ∈ rks_) (e1 : o_A n 1 i = nI a) (e2 : o_A n 2 i = nI b) (e3 : o_A n 3 i = r) (ea : o_A n 4 a = nI La) (eb : o_A n 4 b = nI Lb) (hLa : La ≤ 6) (hLb : Lb ≤ 6) (hw : w ≤ 1) (ht : t + (max (La - fr_ r La) (Lb - fr_ r Lb) - w) ≤ 6) : f_X1_putLongerCell n (nI i) (nI t) (nI w) = some (p_A n 5 (va_cpy (o_A n 5) (o_A n 5) (6 * (if La - fr_ r La < Lb - fr_ r Lb then b else a) + ((if La - fr_ r La < Lb - fr_ r Lb then fr_ r Lb else fr_ r La) + w)) (6 * i + t) (max (La - fr_ r La) (Lb - fr_ r Lb) - w))) := by
  have h1 := fr_le r La
  have h2 := fr_le r Lb
  unfold f_X1_putLongerCell
  rw [ld_nI (by omega) (by omega), Option.bind_some, ld_nI (by omega) (by omega), Option.bind_some, ld_nI (by omega) (by omega), Option.bind_some, e1, e2, e3, y_ce (by omega) hr eb hLb, Option.bind_some, Option.bind_some, y_ce (by omega) hr ea hLa, Option.bind_some]
  unfold f_X1_putLongerCell_J50
  by_cases c : La - fr_ r La < Lb - fr_ r Lb
  · rw [if_neg (nI_ge c (by omega)), if_pos c, if_pos c, ld_nI (by omega) (by omega), Option.bind_some, e3, y_fr (by omega) hr eb hLb, Option.bind_some, nI_add, y_part hi hb eb hLb (by omega) (by omega), Option.bind_some, show Lb - (fr_ r Lb + w) = max (La - fr_ r La) (Lb - fr_ r Lb) - w by omega]
  · rw [if_pos (nI_le (by omega) (by omega)), if_neg c, if_neg c, ld_nI (by omega) (by omega), Option.bind_some, e3, y_fr (by omega) hr ea hLa, Option.bind_some, nI_add, y_part hi ha ea hLa (by omega) (by omega), Option.bind_some, show La - (fr_ r La + w) = max (La - fr_ r La) (Lb - fr_ r Lb) - w by omega]
end
