section
variable {o0 o : Ob_T} {P : Pg_} {i k : Nat} {e : Nat → Int32}
/-- k extents of node i are laid, by e -/
def Lay_ (o0 o : Ob_T) (i k : Nat) (e : Nat → Int32) : Prop := Fr_ [1, 30] o0 o ∧ o_F o 30 = (if k ≤ 6 then nI k else -1) ∧ (∀ l, (l < 15 * i + 9 ∨ 15 * i + 15 ≤ l) → o_A o 1 l = o_A o0 1 l) ∧ ∀ t, t < k → t < 6 → o_A o 1 (15 * i + 9 + t) = e t
theorem z_push (hi : i < 10) (h : Lay_ o0 o i k e) (v : Int32) (hv : e k = v) : ∃ o', f_X9_layExtent o (nI i) v = some o' ∧ Lay_ o0 o' i (k + 1) e := by
  obtain ⟨h1, h2, h3, h4⟩ := h
  unfold f_X9_layExtent
  by_cases c : k ≤ 6
  · rw [if_pos c] at h2
    by_cases c6 : k = 6
    · rw [h2, c6, if_pos (show nI 6 = 6 from rfl), Lt_E]
      unfold f_X9_layExtent_J14
      rw [show o_F (p_F o 30 (-1)) 30 = -1 from rfl, if_pos (show (-1 : Int32) < 0 by decide)]
      refine ⟨_, rfl, fr_tr h1 (fr_pF (by decide)), rfl, h3, fun t ht1 ht2 => h4 t (by omega) ht2⟩
    · rw [h2, if_neg (show ¬ nI k = 6 from fun z => c6 ((nI_eq (b := 6) (by omega) (by omega)).mp z))]
      unfold f_X9_layExtent_J14
      rw [h2, if_neg (nI_pos (by omega)), show (15 : Int32) * nI i + 9 + nI k = nI (15 * i + 9 + k) from by rw [show (15 : Int32) = nI 15 from rfl, show (9 : Int32) = nI 9 from rfl, pk_mul, nI_add, nI_add], st_nI (by omega) (by omega), Option.bind_some, Lt_E]
      refine ⟨_, rfl, fr_tr h1 (fr_tr (fr_pA (by decide)) (fr_pF (by decide))), ?_, fun l hl => ?_, fun t ht1 ht2 => ?_⟩
      · rw [if_pos (by omega)]
        show o_F o 30 + 1 = _
        rw [h2, nI_1]
      · show upd (o_A o 1) (15 * i + 9 + k) v l = _
        rw [updE, if_neg (by omega)]
        exact h3 l hl
      · show upd (o_A o 1) (15 * i + 9 + k) v (15 * i + 9 + t) = _
        rw [updE]
        by_cases et : t = k
        · subst et; rw [if_pos rfl, hv]
        · rw [if_neg (by omega)]; exact h4 t (by omega) ht2
  · rw [if_neg c] at h2
    rw [h2, if_neg (show ¬ (-1 : Int32) = 6 by decide)]
    unfold f_X9_layExtent_J14
    rw [h2, if_pos (show (-1 : Int32) < 0 by decide)]
    exact ⟨_, rfl, h1, by rw [if_neg (by omega)]; exact h2, h3, fun t ht1 ht2 => h4 t (by omega) ht2⟩
/-- the nodes ahead of i lie in the reference's rows -/
def Rb_ (f : Nat → Int32) (P : Pg_) (i : Nat) : Prop := ∀ m, m < i → g_L P m ≤ 6 ∧ f (15 * m + 8) = nI (g_L P m) ∧ ∀ j, j < g_L P m → f (15 * m + 9 + j) = nI (g_E P m j)
theorem z_ext (hi : i < 10) (h : Lay_ o0 o i k e) (hb : Rb_ (o_A o0 1) P i) {s j : Nat} (hs : s < i) (hj : j < g_L P s) : f_X9_extentOf o (nI s) (nI j) = some (nI (g_E P s j)) := by
  obtain ⟨a1, a2, a3⟩ := hb s hs
  unfold f_X9_extentOf
  rw [show (15 : Int32) * nI s + 9 + nI j = nI (15 * s + 9 + j) from by rw [show (15 : Int32) = nI 15 from rfl, show (9 : Int32) = nI 9 from rfl, pk_mul, nI_add, nI_add], ld_nI (by omega) (by omega), Option.bind_some, h.2.2.1 _ (by omega), a3 j hj]
theorem z_long (hi : i < 10) (h : Lay_ o0 o i k e) (hb : Rb_ (o_A o0 1) P i) {s : Nat} (hs : s < i) : f_X9_longOf o (nI s) = some (nI (g_L P s)) := by
  obtain ⟨a1, a2, a3⟩ := hb s hs
  unfold f_X9_longOf
  rw [ld15 (j := 8) (k := 8) rfl (by omega) (by omega), Option.bind_some, h.2.2.1 _ (by omega), a2]
theorem z_many (hi : i < 10) (h : Lay_ o0 o i k e) (hb : Rb_ (o_A o0 1) P i) {s a b : Nat} (hs : s < i) (hbL : b ≤ g_L P s) (ha : a ≤ 7) (he : ∀ t, t < b - a → e (k + t) = nI (g_E P s (a + t))) : ∃ o', f_X9_layExtents o (nI i) (nI s) (nI a) (nI b) = some o' ∧ Lay_ o0 o' i (k + (b - a)) e := by
  have hL := (hb s hs).1
  unfold f_X9_layExtents
  refine lp_fu (P := fun r => ∃ o', r = some o' ∧ Lay_ o0 o' i (k + (b - a)) e) (fun m x => ∃ t o1, t ≤ b - a ∧ m = b - a - t + 1 ∧ x = (nI i, nI s, nI b, nI (a + t), o1) ∧ Lay_ o0 o1 i (k + t) e) ?_ ?_ (b - a - 0 + 1) _ ⟨0, o, by omega, rfl, rfl, h⟩ (by omega)
  · rintro x ⟨t, o1, h1, h2, -⟩
    omega
  · rintro m x rec ⟨t, o1, ht, hm, rfl, h1⟩ hr
    unfold f_X9_layExtents_L3
    dsimp only
    by_cases hx : t = b - a
    · subst hx
      rw [if_pos (nI_le (by omega) (by omega))]
      exact ⟨_, rfl, h1⟩
    · rw [if_neg (nI_ge (by omega) (by omega)), z_ext hi h1 hb hs (by omega), Option.bind_some]
      obtain ⟨o2, e2, h2⟩ := z_push hi h1 (nI (g_E P s (a + t))) (he t (by omega))
      rw [e2, Option.bind_some]
      exact hr _ ⟨t + 1, o2, by omega, by omega, by rw [nI_1]; rfl, h2⟩
theorem z_end (hi : i < 10) (h : Lay_ o0 o i k e) : ∃ o', f_X9_laysShape_J104 (nI (15 * i)) o = some (if k ≤ 6 then 1 else 0, o') ∧ Fr_ [1, 30] o0 o' ∧ (∀ l, (l < 15 * i + 8 ∨ 15 * i + 15 ≤ l) → o_A o' 1 l = o_A o0 1 l) ∧ (k ≤ 6 → o_A o' 1 (15 * i + 8) = nI k ∧ ∀ j, j < k → o_A o' 1 (15 * i + 9 + j) = e j) := by
  obtain ⟨h1, h2, h3, h4⟩ := h
  unfold f_X9_laysShape_J104
  rw [show nI (15 * i) + 8 = nI (15 * i + 8) from nI_add (15 * i) 8, st_nI (by omega) (by omega), Option.bind_some, show o_F (p_A o 1 (upd (o_A o 1) (15 * i + 8) (o_F o 30))) 30 = o_F o 30 from rfl]
  have fr2 : Fr_ [1, 30] o0 (p_A o 1 (upd (o_A o 1) (15 * i + 8) (o_F o 30))) := fr_tr h1 (fr_pA (by decide))
  have out : ∀ l, (l < 15 * i + 8 ∨ 15 * i + 15 ≤ l) → o_A (p_A o 1 (upd (o_A o 1) (15 * i + 8) (o_F o 30))) 1 l = o_A o0 1 l := fun l hl => by
    show upd (o_A o 1) (15 * i + 8) (o_F o 30) l = _
    rw [updE, if_neg (by omega)]
    exact h3 l (by omega)
  by_cases c : k ≤ 6
  · rw [if_pos c] at h2 ⊢
    rw [if_neg (by rw [h2]; exact nI_pos (by omega))]
    refine ⟨_, rfl, fr2, out, fun _ => ⟨?_, fun j hj => ?_⟩⟩
    · show upd (o_A o 1) (15 * i + 8) (o_F o 30) (15 * i + 8) = _
      rw [updE, if_pos rfl, h2]
    · show upd (o_A o 1) (15 * i + 8) (o_F o 30) (15 * i + 9 + j) = _
      rw [updE, if_neg (by omega)]
      exact h4 j hj (by omega)
  · rw [if_neg c] at h2 ⊢
    rw [if_pos (by rw [h2]; decide)]
    exact ⟨_, rfl, fr2, out, fun z => absurd z c⟩
theorem z_start (o : Ob_T) (i : Nat) (e : Nat → Int32) : Lay_ o (p_F o 30 0) i 0 e := ⟨fr_pF (by decide), rfl, fun _ _ => rfl, fun t ht => by omega⟩
theorem z_fr {r : Int32} {n : Nat} (hr : r ∈ rks_) (h : n ≤ 6) : f_X9_frameOf (nI n) r = some (nI (fr_ r n)) := m_fr hr h
theorem z_rd (hi : i < 10) (h : Lay_ o0 o i k e) (q : Nat) (hq : q < 9) (j : Int32) (ej : j = nI q) : ld_I (o_A o 1) 150 (15 * nI i + j) = some (o_A o0 1 (15 * i + q)) := by
  rw [ld15 (j := j) (k := q) ej hi (by omega), h.2.2.1 _ (by omega)]
end
