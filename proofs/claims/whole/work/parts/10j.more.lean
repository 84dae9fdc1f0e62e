/-- two programs agree on the nodes ahead of i -/
def Aq_ (Q Q' : Pg_) (i : Nat) : Prop := ∀ m, m < i → g_K Q' m = g_K Q m ∧ g_A Q' m = g_A Q m ∧ g_B Q' m = g_B Q m ∧ g_R Q' m = g_R Q m ∧ g_L Q' m = g_L Q m ∧ g_E Q' m = g_E Q m
theorem dv_ag {Q Q' : Pg_} {i : Nat} (h : Aq_ Q Q' i) (hK : g_K Q' i = g_K Q i) (hA : g_A Q' i = g_A Q i) (hB : g_B Q' i = g_B Q i) (hR : g_R Q' i = g_R Q i) (hv : vb_ Q i) (ha : g_A Q i < i) (hb : (g_K Q i = 1 ∨ g_K Q i = 2) → g_B Q i < i) : dv_L Q' i = dv_L Q i ∧ ∀ j, dv_E Q' i j = dv_E Q i j := by
  obtain ⟨-, -, -, -, aL, aE⟩ := h _ ha
  have eA : fA_ Q' i = fA_ Q i := by unfold fA_; rw [hR, hA, aL]
  have ecA : cA_ Q' i = cA_ Q i := by unfold cA_; rw [eA, hA, aL]
  by_cases k12 : g_K Q i = 1 ∨ g_K Q i = 2
  · have hb' := hb k12
    obtain ⟨-, -, -, -, bL, bE⟩ := h _ hb'
    have eB : fB_ Q' i = fB_ Q i := by unfold fB_; rw [hR, hB, bL]
    have ecB : cB_ Q' i = cB_ Q i := by unfold cB_; rw [eB, hB, bL]
    have elF : lF_ Q' i = lF_ Q i := by unfold lF_; rw [eA, eB, hA, hB]
    have elC : lC_ Q' i = lC_ Q i := by unfold lC_; rw [ecA, ecB, hA, hB]
    have efC : fC_ Q' i = fC_ Q i := by unfold fC_; rw [ecA, ecB, eA, eB]
    have lFi : lF_ Q i < i := by
      unfold lF_
      by_cases q : fA_ Q i < fB_ Q i
      · rw [if_pos q]; exact hb'
      · rw [if_neg q]; exact ha
    have lCi : lC_ Q i < i := by
      unfold lC_
      by_cases q : cA_ Q i < cB_ Q i
      · rw [if_pos q]; exact hb'
      · rw [if_neg q]; exact ha
    have gF := (h _ lFi).2.2.2.2.2
    have gC := (h _ lCi).2.2.2.2.2
    refine ⟨?_, fun j => ?_⟩
    · unfold dv_L
      rcases k12 with k | k
      · rw [if_pos (hK.trans k), if_pos k, eA, eB, ecA, ecB]
      · rw [if_neg (show ¬ g_K Q' i = 1 by omega), if_neg (show ¬ g_K Q i = 1 by omega), if_pos (hK.trans k), if_pos k, eA, eB, ecA, ecB]
    · unfold dv_E
      rcases k12 with k | k
      · rw [if_pos (hK.trans k), if_pos k, eA, eB, elF, elC, efC, gF, gC]
      · rw [if_neg (show ¬ g_K Q' i = 1 by omega), if_neg (show ¬ g_K Q i = 1 by omega), if_pos (hK.trans k), if_pos k, eA, eB, elF, elC, efC, gF, gC]
  · have n1 : ¬ g_K Q i = 1 := fun z => k12 (Or.inl z)
    have n2 : ¬ g_K Q i = 2 := fun z => k12 (Or.inr z)
    refine ⟨?_, fun j => ?_⟩
    · unfold dv_L
      rw [if_neg (show ¬ g_K Q' i = 1 by omega), if_neg (show ¬ g_K Q' i = 2 by omega), if_neg n1, if_neg n2, hK, hA, aL, eA, ecA]
    · unfold dv_E
      rw [if_neg (show ¬ g_K Q' i = 1 by omega), if_neg (show ¬ g_K Q' i = 2 by omega), if_neg n1, if_neg n2, hK, hA, aE, eA]
theorem wn_ag {Q Q' : Pg_} {i : Nat} (h : Aq_ Q Q' (i + 1)) (hw : Wn_ Q i) : Wn_ Q' i := by
  obtain ⟨eK, eA, eB, eR, eL, eE⟩ := h i (by omega)
  obtain ⟨w1, w2, w3, w4, w5, w6⟩ := hw
  have hv' : vb_ Q' i → vb_ Q i := fun z => by unfold vb_ at z ⊢; omega
  have ht' : td_ Q' i → td_ Q i := fun z => by unfold td_ at z ⊢; omega
  refine ⟨by omega, by omega, fun z => by rw [eA]; exact w3 (by omega), fun z => by rw [eB]; exact w4 (by omega), fun z => ?_, fun z => ?_⟩
  · have z' := hv' z
    obtain ⟨d1, d2⟩ := dv_ag (fun m hm => h m (by omega)) eK eA eB eR z' (w3 (by unfold vb_ at z'; omega)) w4
    obtain ⟨u1, u2, u3⟩ := w5 z'
    exact ⟨by rw [eR]; exact u1, by rw [eL, d1]; exact u2, fun j hj => by rw [eE, d2 j]; exact u3 j (by omega)⟩
  · obtain ⟨u1, u2⟩ := w6 (ht' z)
    exact ⟨by omega, fun j hj => by rw [eE]; exact u2 j (by omega)⟩
/-- the program with one node more -/
def ex_ (Q : Pg_) (K A B : Nat) (R : Int32) (Lk : Nat) (Ek : Nat → Nat) : Pg_ := (g_N Q + 1, fun i => if i = g_N Q then K else g_K Q i, fun i => if i = g_N Q then A else g_A Q i, fun i => if i = g_N Q then B else g_B Q i, fun i => if i = g_N Q then R else g_R Q i, fun i => if i = g_N Q then Lk else g_L Q i, fun i j => if i = g_N Q then Ek j else g_E Q i j)
section
variable {Q : Pg_} {K A B : Nat} {R : Int32} {Lk : Nat} {Ek : Nat → Nat}
theorem ex_at : g_K (ex_ Q K A B R Lk Ek) (g_N Q) = K ∧ g_A (ex_ Q K A B R Lk Ek) (g_N Q) = A ∧ g_B (ex_ Q K A B R Lk Ek) (g_N Q) = B ∧ g_R (ex_ Q K A B R Lk Ek) (g_N Q) = R ∧ g_L (ex_ Q K A B R Lk Ek) (g_N Q) = Lk ∧ ∀ j, g_E (ex_ Q K A B R Lk Ek) (g_N Q) j = Ek j := ⟨if_pos rfl, if_pos rfl, if_pos rfl, if_pos rfl, if_pos rfl, fun j => if_pos rfl⟩
theorem ex_ag : Aq_ Q (ex_ Q K A B R Lk Ek) (g_N Q) := fun m hm => ⟨if_neg (by omega), if_neg (by omega), if_neg (by omega), if_neg (by omega), if_neg (by omega), by
  funext j
  exact if_neg (by omega)⟩
theorem ex_dv {Lk' : Nat} {Ek' : Nat → Nat} (hA : A < g_N Q) (hB : (K = 1 ∨ K = 2) → B < g_N Q) (hv : 1 ≤ K ∧ K ≤ 5) : dv_L (ex_ Q K A B R Lk Ek) (g_N Q) = dv_L (ex_ Q K A B R Lk' Ek') (g_N Q) ∧ ∀ j, dv_E (ex_ Q K A B R Lk Ek) (g_N Q) j = dv_E (ex_ Q K A B R Lk' Ek') (g_N Q) j := by
  obtain ⟨a1, a2, a3, a4, a5, a6⟩ := ex_at (Q := Q) (K := K) (A := A) (B := B) (R := R) (Lk := Lk) (Ek := Ek)
  obtain ⟨b1, b2, b3, b4, b5, b6⟩ := ex_at (Q := Q) (K := K) (A := A) (B := B) (R := R) (Lk := Lk') (Ek := Ek')
  refine dv_ag (fun m hm => ?_) (by rw [a1, b1]) (by rw [a2, b2]) (by rw [a3, b3]) (by rw [a4, b4]) (by unfold vb_; rw [b1]; exact hv) (by rw [b2]; exact hA) (by rw [b1, b3]; exact hB)
  obtain ⟨c1, c2, c3, c4, c5, c6⟩ := ex_ag (Q := Q) (K := K) (A := A) (B := B) (R := R) (Lk := Lk) (Ek := Ek) m hm
  obtain ⟨d1, d2, d3, d4, d5, d6⟩ := ex_ag (Q := Q) (K := K) (A := A) (B := B) (R := R) (Lk := Lk') (Ek := Ek') m hm
  exact ⟨by rw [c1, d1], by rw [c2, d2], by rw [c3, d3], by rw [c4, d4], by rw [c5, d5], by rw [c6, d6]⟩
theorem ex_wf (hW : Wf_ Q) (hN : g_N Q < 10) (hK : K ≤ 6) (hA : K ≠ 0 → A < g_N Q) (hB : (K = 1 ∨ K = 2) → B < g_N Q) (hv : (1 ≤ K ∧ K ≤ 5) → R ∈ rks_ ∧ Lk = dv_L (ex_ Q K A B R Lk Ek) (g_N Q) ∧ ∀ j, j < Lk → Ek j = dv_E (ex_ Q K A B R Lk Ek) (g_N Q) j) (hL : Lk ≤ 6) (ht : (K = 0 ∨ K = 6) → Lk ≤ 3 ∧ ∀ j, j < Lk → Ev_ (Ek j)) : Wf_ (ex_ Q K A B R Lk Ek) := by
  obtain ⟨a1, a2, a3, a4, a5, a6⟩ := ex_at (Q := Q) (K := K) (A := A) (B := B) (R := R) (Lk := Lk) (Ek := Ek)
  refine ⟨show g_N Q + 1 ≤ 10 by omega, fun i hi => ?_⟩
  have hi' : i < g_N Q + 1 := hi
  by_cases q : i = g_N Q
  · subst q
    refine ⟨by rw [a1]; exact hK, by rw [a5]; exact hL, by rw [a1, a2]; exact hA, by rw [a1, a3]; exact hB, fun z => ?_, fun z => ?_⟩
    · unfold vb_ at z
      rw [a1] at z
      obtain ⟨u1, u2, u3⟩ := hv z
      exact ⟨by rw [a4]; exact u1, by rw [a5]; exact u2, fun j hj => by rw [a6]; exact u3 j (by rw [a5] at hj; exact hj)⟩
    · unfold td_ at z
      rw [a1] at z
      obtain ⟨u1, u2⟩ := ht z
      exact ⟨by rw [a5]; exact u1, fun j hj => by rw [a6]; exact u2 j (by rw [a5] at hj; exact hj)⟩
  · exact wn_ag (fun m hm => ex_ag m (by omega)) (hW.2 i (by omega))
end
