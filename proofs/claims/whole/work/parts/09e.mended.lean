/-- the program with other extents -/
def wE_ (P : Pg_) (E : Nat → Nat → Nat) : Pg_ := (g_N P, g_K P, g_A P, g_B P, g_R P, g_L P, E)
theorem wK_ (P : Pg_) (E : Nat → Nat → Nat) : g_K (wE_ P E) = g_K P := rfl
theorem wA_ (P : Pg_) (E : Nat → Nat → Nat) : g_A (wE_ P E) = g_A P := rfl
theorem wB_ (P : Pg_) (E : Nat → Nat → Nat) : g_B (wE_ P E) = g_B P := rfl
theorem wR_ (P : Pg_) (E : Nat → Nat → Nat) : g_R (wE_ P E) = g_R P := rfl
theorem wL_ (P : Pg_) (E : Nat → Nat → Nat) : g_L (wE_ P E) = g_L P := rfl
theorem wX_ (P : Pg_) (E : Nat → Nat → Nat) : g_E (wE_ P E) = E := rfl
theorem wN_ (P : Pg_) (E : Nat → Nat → Nat) : g_N (wE_ P E) = g_N P := rfl
theorem wdv_ (P : Pg_) (E : Nat → Nat → Nat) (i : Nat) : dv_L (wE_ P E) i = dv_L P i := rfl
theorem dv_cg {P : Pg_} {E E' : Nat → Nat → Nat} {i : Nat} (hv : Va_ P i) (h : ∀ m, m < i → ∀ j, j < g_L P m → E m j = E' m j) {j : Nat} (hj : j < dv_L P i) : dv_E (wE_ P E) i j = dv_E (wE_ P E') i j := by
  obtain ⟨v1, v2, v3, v4⟩ := hv
  have fa := fr_le (g_R P i) (g_L P (g_A P i))
  have fb := fr_le (g_R P i) (g_L P (g_B P i))
  have X : ∀ E : Nat → Nat → Nat, dv_E (wE_ P E) i j = (if g_K P i = 1 then (if j < max (fr_ (g_R P i) (g_L P (g_A P i))) (fr_ (g_R P i) (g_L P (g_B P i))) then E (if fr_ (g_R P i) (g_L P (g_A P i)) < fr_ (g_R P i) (g_L P (g_B P i)) then g_B P i else g_A P i) j else E (if g_L P (g_A P i) - fr_ (g_R P i) (g_L P (g_A P i)) < g_L P (g_B P i) - fr_ (g_R P i) (g_L P (g_B P i)) then g_B P i else g_A P i) ((if g_L P (g_A P i) - fr_ (g_R P i) (g_L P (g_A P i)) < g_L P (g_B P i) - fr_ (g_R P i) (g_L P (g_B P i)) then fr_ (g_R P i) (g_L P (g_B P i)) else fr_ (g_R P i) (g_L P (g_A P i))) + (j - max (fr_ (g_R P i) (g_L P (g_A P i))) (fr_ (g_R P i) (g_L P (g_B P i)))))) else if g_K P i = 2 then (if j < max (fr_ (g_R P i) (g_L P (g_A P i))) (fr_ (g_R P i) (g_L P (g_B P i))) then E (if fr_ (g_R P i) (g_L P (g_A P i)) < fr_ (g_R P i) (g_L P (g_B P i)) then g_B P i else g_A P i) j else if j = max (fr_ (g_R P i) (g_L P (g_A P i))) (fr_ (g_R P i) (g_L P (g_B P i))) then 20004 + i else E (if g_L P (g_A P i) - fr_ (g_R P i) (g_L P (g_A P i)) < g_L P (g_B P i) - fr_ (g_R P i) (g_L P (g_B P i)) then g_B P i else g_A P i) ((if g_L P (g_A P i) - fr_ (g_R P i) (g_L P (g_A P i)) < g_L P (g_B P i) - fr_ (g_R P i) (g_L P (g_B P i)) then fr_ (g_R P i) (g_L P (g_B P i)) else fr_ (g_R P i) (g_L P (g_A P i))) + (j - max (fr_ (g_R P i) (g_L P (g_A P i))) (fr_ (g_R P i) (g_L P (g_B P i)))))) else if g_K P i = 3 then E (g_A P i) j else if g_K P i = 4 then (if j < fr_ (g_R P i) (g_L P (g_A P i)) then E (g_A P i) j else E (g_A P i) (j + 1)) else (if j < fr_ (g_R P i) (g_L P (g_A P i)) then E (g_A P i) j else 20004 + i)) := fun _ => rfl
  rw [X E, X E']
  unfold dv_L cA_ cB_ at hj
  unfold fA_ fB_ at hj
  rcases kv_ v1 with k | k | k | k | k
  · have hB := v4 (Or.inl k)
    rw [if_pos k] at hj ⊢
    rw [if_pos k]
    by_cases cj : j < max (fr_ (g_R P i) (g_L P (g_A P i))) (fr_ (g_R P i) (g_L P (g_B P i)))
    · rw [if_pos cj, if_pos cj]
      by_cases c : fr_ (g_R P i) (g_L P (g_A P i)) < fr_ (g_R P i) (g_L P (g_B P i))
      · rw [if_pos c]; exact h _ hB _ (by omega)
      · rw [if_neg c]; exact h _ v3 _ (by omega)
    · rw [if_neg cj, if_neg cj]
      by_cases c : g_L P (g_A P i) - fr_ (g_R P i) (g_L P (g_A P i)) < g_L P (g_B P i) - fr_ (g_R P i) (g_L P (g_B P i))
      · rw [if_pos c, if_pos c]; exact h _ hB _ (by omega)
      · rw [if_neg c, if_neg c]; exact h _ v3 _ (by omega)
  · have hB := v4 (Or.inr k)
    have k1 : ¬ g_K P i = 1 := by omega
    rw [if_neg k1, if_pos k] at hj ⊢
    rw [if_neg k1, if_pos k]
    by_cases cj : j < max (fr_ (g_R P i) (g_L P (g_A P i))) (fr_ (g_R P i) (g_L P (g_B P i)))
    · rw [if_pos cj, if_pos cj]
      by_cases c : fr_ (g_R P i) (g_L P (g_A P i)) < fr_ (g_R P i) (g_L P (g_B P i))
      · rw [if_pos c]; exact h _ hB _ (by omega)
      · rw [if_neg c]; exact h _ v3 _ (by omega)
    · rw [if_neg cj, if_neg cj]
      by_cases ce : j = max (fr_ (g_R P i) (g_L P (g_A P i))) (fr_ (g_R P i) (g_L P (g_B P i)))
      · rw [if_pos ce, if_pos ce]
      · rw [if_neg ce, if_neg ce]
        by_cases c : g_L P (g_A P i) - fr_ (g_R P i) (g_L P (g_A P i)) < g_L P (g_B P i) - fr_ (g_R P i) (g_L P (g_B P i))
        · rw [if_pos c, if_pos c]; exact h _ hB _ (by omega)
        · rw [if_neg c, if_neg c]; exact h _ v3 _ (by omega)
  · rw [k, if_neg (show ¬ 3 = 1 by decide), if_neg (show ¬ 3 = 2 by decide), if_pos rfl] at hj
    rw [k, if_neg (show ¬ 3 = 1 by decide), if_neg (show ¬ 3 = 2 by decide), if_pos rfl, if_neg (show ¬ 3 = 1 by decide), if_neg (show ¬ 3 = 2 by decide), if_pos rfl]
    exact h _ v3 _ hj
  · rw [k, if_neg (show ¬ 4 = 1 by decide), if_neg (show ¬ 4 = 2 by decide), if_neg (show ¬ 4 = 3 by decide), if_pos rfl] at hj
    rw [k, if_neg (show ¬ 4 = 1 by decide), if_neg (show ¬ 4 = 2 by decide), if_neg (show ¬ 4 = 3 by decide), if_pos rfl, if_neg (show ¬ 4 = 1 by decide), if_neg (show ¬ 4 = 2 by decide), if_neg (show ¬ 4 = 3 by decide), if_pos rfl]
    by_cases cj : j < fr_ (g_R P i) (g_L P (g_A P i))
    · rw [if_pos cj, if_pos cj]; exact h _ v3 _ (by omega)
    · rw [if_neg cj, if_neg cj]; exact h _ v3 _ (by omega)
  · rw [k, if_neg (show ¬ 5 = 1 by decide), if_neg (show ¬ 5 = 2 by decide), if_neg (show ¬ 5 = 3 by decide), if_neg (show ¬ 5 = 4 by decide), if_neg (show ¬ 5 = 1 by decide), if_neg (show ¬ 5 = 2 by decide), if_neg (show ¬ 5 = 3 by decide), if_neg (show ¬ 5 = 4 by decide)]
    by_cases cj : j < fr_ (g_R P i) (g_L P (g_A P i))
    · rw [if_pos cj, if_pos cj]; exact h _ v3 _ (by omega)
    · rw [if_neg cj, if_neg cj]
/-- the extents with (a, b) told otherwise, the first k nodes derived anew -/
def mE_ (P : Pg_) (a b d : Nat) : Nat → Nat → Nat → Nat
  | 0 => fun i j => if i = a ∧ j = b then d else g_E P i j
  | k + 1 => if 1 ≤ g_K P k ∧ g_K P k ≤ 5 then (fun i j => if i = k then dv_E (wE_ P (mE_ P a b d k)) k j else mE_ P a b d k i j) else mE_ P a b d k
def md_ (P : Pg_) (a b d : Nat) : Pg_ := wE_ P (mE_ P a b d (g_N P))
theorem wn_va {P : Pg_} {i : Nat} (h : Wn_ P i) (hv : vb_ P i) : Va_ P i := by
  obtain ⟨h1, h2, h3, h4, h5, h6⟩ := h
  exact ⟨hv, (h5 hv).1, h3 (by unfold vb_ at hv; omega), h4⟩
theorem md_k {P : Pg_} (hW : Wf_ P) {a b d : Nat} (ha : a < g_N P) (ht : td_ P a) (hd : d ≤ 9) : ∀ k, k ≤ g_N P → (∀ i, i < k → Wn_ (wE_ P (mE_ P a b d k)) i) ∧ ∀ m, m < g_N P → (m ≤ a ∨ td_ P m) → ∀ j, j < g_L P m → mE_ P a b d k m j = if m = a ∧ j = b then d else g_E P m j := by
  intro k
  induction k with
  | zero => exact fun _ => ⟨fun i hi => by omega, fun m hm hma j hj => rfl⟩
  | succ k ih =>
    intro hk
    obtain ⟨i1, i2⟩ := ih (by omega)
    have hWk := hW.2 k (by omega)
    by_cases hv : vb_ P k
    · have eE : mE_ P a b d (k + 1) = (fun i j => if i = k then dv_E (wE_ P (mE_ P a b d k)) k j else mE_ P a b d k i j) := by
        show (if 1 ≤ g_K P k ∧ g_K P k ≤ 5 then _ else _) = _
        exact if_pos (show 1 ≤ g_K P k ∧ g_K P k ≤ 5 from hv)
      rw [eE]
      have hva := wn_va hWk hv
      refine ⟨fun i hi => ?_, fun m hm hma j hj => ?_⟩
      · by_cases hik : i = k
        · subst hik
          obtain ⟨h1, h2, h3, h4, h5, h6⟩ := hWk
          refine ⟨h1, h2, h3, h4, fun _ => ⟨(h5 hv).1, (h5 hv).2.1, fun j hj => ?_⟩, fun z => by unfold vb_ at hv; rcases z with z | z; rw [wK_] at z; omega; rw [wK_] at z; omega⟩
          show (if i = i then dv_E (wE_ P (mE_ P a b d i)) i j else mE_ P a b d i i j) = _
          rw [if_pos rfl]
          refine dv_cg hva (fun m hm j hj => ?_) (by have := (h5 hv).2.1; rw [wL_] at hj; omega)
          rw [if_neg (by omega)]
        · obtain ⟨h1, h2, h3, h4, h5, h6⟩ := i1 i (by omega)
          refine ⟨h1, h2, h3, h4, fun z => ⟨(h5 z).1, (h5 z).2.1, fun j hj => ?_⟩, fun z => ⟨(h6 z).1, fun j hj => ?_⟩⟩
          · show (if i = k then dv_E (wE_ P (mE_ P a b d k)) k j else mE_ P a b d k i j) = _
            rw [if_neg hik]
            refine ((h5 z).2.2 j hj).trans (dv_cg (wn_va (hW.2 i (by omega)) z) (fun m hm j hj => ?_) (by have := (h5 z).2.1; rw [wL_] at hj this; rw [wdv_] at this; omega))
            rw [if_neg (by omega)]
          · have := (h6 z).2 j hj
            rw [wX_] at this ⊢
            rw [if_neg hik]
            exact this
      · by_cases hmk : m = k
        · subst hmk
          have hma' : m < a := by
            rcases hma with z | z
            · rcases Nat.lt_or_ge m a with q | q
              · exact q
              · have : m = a := by omega
                subst this
                unfold vb_ at hv; unfold td_ at ht; omega
            · unfold vb_ at hv; unfold td_ at z; omega
          have hL := ((hWk.2.2.2.2.1) hv).2.1
          show (if m = m then dv_E (wE_ P (mE_ P a b d m)) m j else _) = _
          rw [if_pos rfl, if_neg (by omega), (hWk.2.2.2.2.1 hv).2.2 j hj]
          refine dv_cg (E' := g_E P) hva (fun m' hm' j' hj' => ?_) (by omega)
          rw [i2 m' (by omega) (Or.inl (by omega)) j' hj', if_neg (by omega)]
        · show (if m = k then dv_E (wE_ P (mE_ P a b d k)) k j else mE_ P a b d k m j) = _
          rw [if_neg hmk]
          exact i2 m hm hma j hj
    · have eE : mE_ P a b d (k + 1) = mE_ P a b d k := by
        show (if 1 ≤ g_K P k ∧ g_K P k ≤ 5 then _ else _) = _
        exact if_neg (show ¬ (1 ≤ g_K P k ∧ g_K P k ≤ 5) from hv)
      rw [eE]
      refine ⟨fun i hi => ?_, i2⟩
      by_cases hik : i = k
      · subst hik
        obtain ⟨h1, h2, h3, h4, h5, h6⟩ := hWk
        have htd : td_ P i := by unfold vb_ at hv; unfold td_; omega
        refine ⟨h1, h2, h3, h4, fun z => absurd z hv, fun _ => ⟨(h6 htd).1, fun j hj => ?_⟩⟩
        rw [wX_, i2 i (by omega) (Or.inr htd) j hj]
        by_cases c : i = a ∧ j = b
        · rw [if_pos c]; exact Or.inl hd
        · rw [if_neg c]; exact (h6 htd).2 j hj
      · exact i1 i (by omega)
theorem md_wf {P : Pg_} (hW : Wf_ P) {a b d : Nat} (ha : a < g_N P) (ht : td_ P a) (hd : d ≤ 9) : Wf_ (md_ P a b d) := ⟨hW.1, (md_k hW ha ht hd (g_N P) (Nat.le_refl _)).1⟩
theorem md_e {P : Pg_} (hW : Wf_ P) {a b d : Nat} (ha : a < g_N P) (ht : td_ P a) (hd : d ≤ 9) {m : Nat} (hm : m < g_N P) (h : m ≤ a ∨ td_ P m) {j : Nat} (hj : j < g_L P m) : g_E (md_ P a b d) m j = if m = a ∧ j = b then d else g_E P m j := (md_k hW ha ht hd (g_N P) (Nat.le_refl _)).2 m hm h j hj
