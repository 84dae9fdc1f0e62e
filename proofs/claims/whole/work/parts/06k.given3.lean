theorem cp_nI {f g : Nat → Int32} {n0 n1 a b c : Nat} (h1 : a + c ≤ n0) (h2 : b + c ≤ n1) (h3 : n0 < 2 ^ 31) (h4 : n1 < 2 ^ 31) : cp_I f g n0 n1 (nI a) (nI b) (nI c) = some (va_cpy f g a b c) := by
  unfold cp_I
  rw [nI_clamp (by omega), nI_clamp (by omega), nI_clamp (by omega), if_neg]
  intro w
  rcases w with w | w | w | w | w
  · exact nI_pos (by omega) w
  · exact nI_pos (by omega) w
  · exact nI_pos (by omega) w
  · omega
  · omega
theorem cpy_in {f g : Nat → Int32} {a b c j : Nat} (h : j < c) : va_cpy f g a b c (b + j) = f (a + j) := by
  unfold va_cpy
  rw [if_pos (by omega), show a + (b + j - b) = a + j by omega]
theorem cpy_out {f g : Nat → Int32} {a b c j : Nat} (h : j < b ∨ b + c ≤ j) : va_cpy f g a b c j = g j := by
  unfold va_cpy
  rw [if_neg (by omega)]
theorem x4_ix (k : Nat) : nI k * 4 = nI (4 * k) := by
  show nI k * nI 4 = _
  rw [pk_mul, Nat.mul_comm]
theorem x_store (g : Ob_T) {k : Nat} (hk : k < 2) : f_X0_store g (nI k) = some (p_A (p_A g 3 (va_cpy (o_A g 0) (o_A g 3) 0 (4 * k) 4)) 4 (upd (o_A g 4) k 1)) := by
  unfold f_X0_store
  rw [x4_ix, show cp_I (o_A g 0) (o_A g 3) 4 8 0 (nI (4 * k)) 4 = some (va_cpy (o_A g 0) (o_A g 3) 0 (4 * k) 4) from cp_nI (a := 0) (c := 4) (by omega) (by omega) (by omega) (by omega), Option.bind_some]
  show (st_A (p_A g 3 (va_cpy (o_A g 0) (o_A g 3) 0 (4 * k) 4)) 4 2 (nI k) (vp_nar .boolean 1)).bind _ = _
  rw [st_nI hk (by omega), Option.bind_some]
  rfl
theorem ct_cong {f g : Nat → Int32} (h : ∀ l, l < 4 → f l = g l) : ct_4 f = ct_4 g := by
  unfold ct_4
  rw [h 0 (by omega), h 1 (by omega), h 2 (by omega), h 3 (by omega)]
theorem bt_cong {f g : Nat → Int32} (h : ∀ l, l < 4 → f l = g l) : bt_4 f = bt_4 g := by
  unfold bt_4
  rw [h 0 (by omega), h 1 (by omega), h 2 (by omega), h 3 (by omega)]
theorem sm_keep (x g o : Ob_T) (x1 : Int32) (h : R_gv g o) : Tr_ (f_X8_keep x g x1) (fun u => Tr_ (f_X9_keep o x1) (fun w => u.1 = w.1 ∧ R_gv u.2 w.2 ∧ Fr_ [4, 5, 6, 7, 8] o w.2)) := by
  have l0 : (0 : Int32).toInt = 0 := rfl
  have l2 : (2 : Int32).toInt = 2 := rfl
  unfold f_X8_keep f_X9_keep
  by_cases c1 : 0 ≤ x1.toInt ∧ x1.toInt ≤ 1
  · rw [bind_eq _ (f_in1 (a := 0) (b := 1) c1), if_neg n_10, if_neg (by rw [i_lt, l0]; omega), if_pos (by rw [i_lt, l2]; omega)]
    obtain ⟨k, hk, rfl⟩ := i_of (x := x1) (n := 1) c1.1 c1.2
    have hk2 : k < 2 := by omega
    obtain ⟨h1, h2, h3⟩ := h
    rw [bind_eq _ (x_store g hk2), bind_eq _ (x_howMany _), m_keepL o hk2]
    unfold f_X9_keep_J42
    rw [st_nI hk2 (by omega), Option.bind_some]
    have mg : ∀ O : Ob_T, o_A O 4 = o_A o 4 → f_X9_givenMany O = some (ct_4 (o_A o 4)) := fun O e => by rw [m_givenMany O (by rw [e]; exact fun l hl => (h1 l hl).2), e]
    refine tr_some (tr_bind (tr_eq (mg (p_A (p_A o 7 (va_cpy (o_A o 4) (o_A o 7) 0 (4 * k) 4)) 8 (upd (o_A (p_A o 7 (va_cpy (o_A o 4) (o_A o 7) 0 (4 * k) 4)) 8) k (vp_nar .boolean 1))) rfl) ?_))
    refine (tr_some ⟨ct_cong (fun l hl => (h1 l hl).1), ⟨h1, h2, fun j hj => ?_⟩, fr_tr (fr_pA (by decide)) (fr_pA (by decide))⟩)
    by_cases hjk : j = k
    · subst hjk
      refine Or.inr ⟨by simp [oA_pA, updE], ?_, fun l hl => ?_⟩
      · simp only [oA_pA, updE, if_true]
        rfl
      · show va_cpy (o_A g 0) (o_A g 3) 0 (4 * j) 4 (4 * j + l) = va_cpy (o_A o 4) (o_A o 7) 0 (4 * j) 4 (4 * j + l) ∧ gv_ok (va_cpy (o_A o 4) (o_A o 7) 0 (4 * j) 4 (4 * j + l))
        rw [cpy_in hl, cpy_in hl, Nat.zero_add]
        exact h1 l hl
    · have hd : j < k ∨ k < j := by omega
      rcases h3 j hj with ⟨e1, e2⟩ | ⟨e1, e2, e3⟩
      · exact Or.inl ⟨by simpa [oA_pA, updE, hjk] using e1, by simpa [oA_pA, updE, hjk] using e2⟩
      · refine Or.inr ⟨by simpa [oA_pA, updE, hjk] using e1, by simpa [oA_pA, updE, hjk] using e2, fun l hl => ?_⟩
        show va_cpy (o_A g 0) (o_A g 3) 0 (4 * k) 4 (4 * j + l) = va_cpy (o_A o 4) (o_A o 7) 0 (4 * k) 4 (4 * j + l) ∧ gv_ok (va_cpy (o_A o 4) (o_A o 7) 0 (4 * k) 4 (4 * j + l))
        rw [cpy_out (by omega), cpy_out (by omega)]
        exact e3 l hl
  · rw [bind_eq _ (f_in0 (a := 0) (b := 1) c1), if_pos rfl]
    refine tr_if (fun _ => tr_some (tr_some ⟨rfl, h, fr_rf _ _⟩)) (fun n1 => tr_if (fun p1 => ?_) (fun _ => tr_some (tr_some ⟨rfl, h, fr_rf _ _⟩)))
    rw [i_lt, l0] at n1
    rw [i_lt, l2] at p1
    exact absurd ⟨by omega, by omega⟩ c1
