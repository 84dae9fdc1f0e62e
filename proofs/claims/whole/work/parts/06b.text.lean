/-! frames: which fields of an object may have changed -/
def Fr_ (S : List Nat) (o o' : Ob_T) : Prop := ∀ k, k ∉ S → o_F o' k = o_F o k ∧ o_A o' k = o_A o k
theorem fr_rf (S : List Nat) (o : Ob_T) : Fr_ S o o := fun _ _ => ⟨rfl, rfl⟩
theorem fr_tr {S : List Nat} {a b c : Ob_T} (h1 : Fr_ S a b) (h2 : Fr_ S b c) : Fr_ S a c := fun k hk => ⟨(h2 k hk).1.trans (h1 k hk).1, (h2 k hk).2.trans (h1 k hk).2⟩
theorem fr_mono {S T : List Nat} {a b : Ob_T} (h : Fr_ S a b) (hs : ∀ k, k ∈ S → k ∈ T) : Fr_ T a b := fun k hk => h k (fun z => hk (hs k z))
theorem fr_pF {S : List Nat} {o : Ob_T} {k : Nat} {v : Int32} (h : k ∈ S) : Fr_ S o (p_F o k v) := fun j hj => ⟨by rw [oF_pF, if_neg (show ¬ j = k from fun z => hj (by rw [z]; exact h))], rfl⟩
theorem fr_pA {S : List Nat} {o : Ob_T} {k : Nat} {f : Nat → Int32} (h : k ∈ S) : Fr_ S o (p_A o k f) := fun j hj => ⟨rfl, by rw [oA_pA, if_neg (show ¬ j = k from fun z => hj (by rw [z]; exact h))]⟩
theorem i_nat {x : Int32} (h : 0 ≤ x.toInt) : x = nI x.toInt.toNat := by
  rw [i_eq, nI_toInt (by have := x.toInt_lt; omega)]
  omega
theorem i_of {x : Int32} {n : Nat} (h : 0 ≤ x.toInt) (h2 : x.toInt ≤ n) : ∃ c, c ≤ n ∧ x = nI c := ⟨x.toInt.toNat, by omega, i_nat h⟩
/-- the text: so many letters, the same ones -/
def R_tx (t o : Ob_T) : Prop := ∃ L, L ≤ 200 ∧ o_F t 1 = nI L ∧ o_F o 10 = nI L ∧ ∀ i, i < L → ∃ c, c < 256 ∧ o_A t 0 i = nI c ∧ o_A o 9 i = nI c
theorem R_tx_fr {t o o' : Ob_T} (h : R_tx t o) (e1 : o_F o' 10 = o_F o 10) (e2 : o_A o' 9 = o_A o 9) : R_tx t o' := by
  obtain ⟨L, h1, h2, h3, h4⟩ := h
  exact ⟨L, h1, h2, by rw [e1]; exact h3, by rw [e2]; exact h4⟩
theorem nar_c {c : Nat} (h : c < 256) : vp_nar .char (((nI c).toUInt32 % 65536).toInt32) = nI c := by
  have h1 : ((nI c).toUInt32 % 65536).toInt32 = nI c := by
    rw [pk_char, pk_tn (by omega), Nat.mod_eq_of_lt (by omega)]
  rw [h1]
  unfold vp_nar
  rw [(pk_charN (by omega)).1]
theorem sm_write (x t o : Ob_T) (x1 : Int32) (h : R_tx t o) : Tr_ (f_X8_write x t x1) (fun u => Tr_ (f_X9_write o x1) (fun w => u.1 = w.1 ∧ R_tx u.2 w.2 ∧ Fr_ [9, 10] o w.2)) := by
  have h' := h
  obtain ⟨L, hL, e1, e2, hc⟩ := h
  by_cases h0 : 0 ≤ x1.toInt ∧ x1.toInt ≤ 255
  · obtain ⟨c, hc5, rfl⟩ := i_of h0.1 (n := 255) h0.2
    have a1 : ¬ nI c < 0 := nI_pos (by omega)
    have a2 : nI c ≤ 255 := show nI c ≤ nI 255 from nI_le (by omega) (by omega)
    have a3 : f_X9_in (nI c).toInt64 0 255 = some 1 := by
      rw [f_in, i_wide, nI_toInt (by omega), if_pos]
      exact ⟨by show (0 : Int) ≤ _; omega, by show _ ≤ (255 : Int); omega⟩
    unfold f_X8_write f_X9_write
    rw [if_neg a1, if_pos a2, bind_eq _ a3, if_neg (by decide)]
    unfold f_X6_add
    by_cases hf : L = 200
    · subst hf
      rw [e1, e2, if_neg (by decide), if_pos (by decide)]
      exact tr_some (tr_some ⟨rfl, h', fr_rf _ _⟩)
    · have hl : L < 200 := by omega
      have b1 : nI L < 200 := show nI L < nI 200 from nI_lt hl (by omega)
      have b2 : ¬ nI L = 200 := fun z => hf ((nI_eq (by omega) (by omega)).mp (show nI L = nI 200 from z))
      rw [e1, e2, if_pos b1, if_neg b2]
      rw [st_nI hl (by omega), st_nI hl (by omega), nar_c (by omega)]
      refine tr_bind (tr_bind (tr_some (tr_let (tr_some ?_))))
      show Tr_ (if (1 : Int32) = 0 then _ else _) _
      rw [if_neg (by decide)]
      refine tr_bind (tr_some (tr_some (tr_bind (tr_some (tr_let (tr_some ?_))))))
      simp only [oF_pF, oF_pA, oA_pF, oA_pA, e1, e2, if_true]
      refine ⟨trivial, ⟨L + 1, by omega, by simp only [oF_pF, if_true]; exact nI_1 L, by simp only [oF_pF, if_true]; exact nI_1 L, fun i hi => ?_⟩, fr_tr (fr_pA (by decide)) (fr_pF (by decide))⟩
      simp only [oA_pF, oA_pA, if_true, updE]
      by_cases hi2 : i = L
      · rw [if_pos hi2, if_pos hi2]
        exact ⟨c, by omega, rfl, rfl⟩
      · rw [if_neg hi2, if_neg hi2]
        exact hc i (by omega)
  · have a3 : f_X9_in x1.toInt64 0 255 = some 0 := by
      rw [f_in, i_wide, if_neg]
      intro z
      exact h0 ⟨z.1, z.2⟩
    unfold f_X8_write f_X9_write
    rw [bind_eq _ a3, if_pos rfl]
    refine tr_if (fun _ => tr_some (tr_some ⟨rfl, h', fr_rf _ _⟩)) (fun n1 => tr_if (fun p2 => ?_) (fun _ => tr_some (tr_some ⟨rfl, h', fr_rf _ _⟩)))
    rw [i_lt] at n1
    rw [i_le] at p2
    exact absurd ⟨by have e : (0 : Int32).toInt = 0 := rfl; omega, by have e : (255 : Int32).toInt = 255 := rfl; omega⟩ h0
theorem sm_erase (x t o : Ob_T) (h : R_tx t o) : Tr_ (f_X8_erase x t) (fun u => Tr_ (f_X9_erase o) (fun w => u.1 = w.1 ∧ R_tx u.2 w.2 ∧ Fr_ [9, 10] o w.2)) := by
  obtain ⟨L, hL, e1, e2, hc⟩ := h
  refine tr_bind (tr_some (tr_bind (tr_let (tr_some (tr_some (tr_let (tr_some ?_)))))))
  exact ⟨by rw [e1, e2], ⟨0, by omega, rfl, rfl, fun i hi => absurd hi (by omega)⟩, fr_pF (by decide)⟩
