theorem wf_ind {P : Pg_} (hW : Wf_ P) (Q : Nat → Prop) (ht0 : ∀ i, i < g_N P → td_ P i → ∀ j, j < g_L P i → Q (g_E P i j)) (ho : ∀ i, i < g_N P → Q (20004 + i)) : ∀ i, i < g_N P → ∀ j, j < g_L P i → Q (g_E P i j) := by
  intro i
  induction i using Nat.strongRecOn with
  | ind i ih =>
    intro hi j hj
    obtain ⟨w1, w2, w3, w4, w5, w6⟩ := hW.2 i hi
    by_cases ht : td_ P i
    · exact ht0 i hi ht j hj
    · have hv : vb_ P i := by
        unfold vb_
        unfold td_ at ht
        omega
      obtain ⟨-, hL, hE⟩ := w5 hv
      have ha : g_A P i < i := w3 (by unfold vb_ at hv; omega)
      have iha := ih (g_A P i) ha (by omega)
      have own : Q (20004 + i) := ho i hi
      have fa := fr_le (g_R P i) (g_L P (g_A P i))
      have hj2 := hj
      rw [hL] at hj2
      rw [hE j hj]
      unfold dv_E
      unfold dv_L at hj2
      by_cases k1 : g_K P i = 1
      · have ihb := ih (g_B P i) (w4 (Or.inl k1)) (by have := w4 (Or.inl k1); omega)
        have fb := fr_le (g_R P i) (g_L P (g_B P i))
        rw [if_pos k1] at hj2 ⊢
        unfold lF_ lC_ fC_ fA_ fB_ cA_ cB_ at *
        unfold fA_ fB_ at *
        by_cases c1 : j < max (fr_ (g_R P i) (g_L P (g_A P i))) (fr_ (g_R P i) (g_L P (g_B P i)))
        · rw [if_pos c1]
          by_cases c2 : fr_ (g_R P i) (g_L P (g_A P i)) < fr_ (g_R P i) (g_L P (g_B P i))
          · rw [if_pos c2]; exact ihb j (by omega)
          · rw [if_neg c2]; exact iha j (by omega)
        · rw [if_neg c1]
          by_cases c2 : g_L P (g_A P i) - fr_ (g_R P i) (g_L P (g_A P i)) < g_L P (g_B P i) - fr_ (g_R P i) (g_L P (g_B P i))
          · rw [if_pos c2, if_pos c2]; exact ihb _ (by omega)
          · rw [if_neg c2, if_neg c2]; exact iha _ (by omega)
      · rw [if_neg k1] at hj2 ⊢
        by_cases k2 : g_K P i = 2
        · have ihb := ih (g_B P i) (w4 (Or.inr k2)) (by have := w4 (Or.inr k2); omega)
          have fb := fr_le (g_R P i) (g_L P (g_B P i))
          rw [if_pos k2] at hj2 ⊢
          unfold lF_ lC_ fC_ fA_ fB_ cA_ cB_ at *
          unfold fA_ fB_ at *
          by_cases c1 : j < max (fr_ (g_R P i) (g_L P (g_A P i))) (fr_ (g_R P i) (g_L P (g_B P i)))
          · rw [if_pos c1]
            by_cases c2 : fr_ (g_R P i) (g_L P (g_A P i)) < fr_ (g_R P i) (g_L P (g_B P i))
            · rw [if_pos c2]; exact ihb j (by omega)
            · rw [if_neg c2]; exact iha j (by omega)
          · rw [if_neg c1]
            by_cases c3 : j = max (fr_ (g_R P i) (g_L P (g_A P i))) (fr_ (g_R P i) (g_L P (g_B P i)))
            · rw [if_pos c3]; exact own
            · rw [if_neg c3]
              by_cases c2 : g_L P (g_A P i) - fr_ (g_R P i) (g_L P (g_A P i)) < g_L P (g_B P i) - fr_ (g_R P i) (g_L P (g_B P i))
              · rw [if_pos c2, if_pos c2]; exact ihb _ (by omega)
              · rw [if_neg c2, if_neg c2]; exact iha _ (by omega)
        · rw [if_neg k2] at hj2 ⊢
          unfold cA_ fA_ at *
          by_cases k3 : g_K P i = 3
          · rw [if_pos k3] at hj2 ⊢; exact iha j hj2
          · rw [if_neg k3] at hj2 ⊢
            by_cases k4 : g_K P i = 4
            · rw [if_pos k4] at hj2 ⊢
              by_cases c1 : j < fr_ (g_R P i) (g_L P (g_A P i))
              · rw [if_pos c1]; exact iha j (by omega)
              · rw [if_neg c1]; exact iha _ (by omega)
            · rw [if_neg k4] at hj2 ⊢
              by_cases c1 : j < fr_ (g_R P i) (g_L P (g_A P i))
              · rw [if_pos c1]; exact iha j (by omega)
              · rw [if_neg c1]; exact own
theorem x_has {n : Ob_T} {P : Pg_} (hn : Rn_ n P) (hN : g_N P ≤ 10) (x1 : Int32) : f_X1_has n x1 = some (if 0 ≤ x1.toInt ∧ x1.toInt < g_N P then 1 else 0) := by
  unfold f_X1_has
  have l0 : (0 : Int32).toInt = 0 := rfl
  rw [hn.1]
  by_cases c1 : x1 < 0
  · rw [if_pos c1]
    rw [i_lt, l0] at c1
    rw [if_neg (by omega)]
  · rw [if_neg c1]
    rw [i_lt, l0] at c1
    by_cases c2 : nI (g_N P) ≤ x1
    · rw [if_pos c2]
      rw [i_le, nI_toInt (by omega)] at c2
      rw [if_neg (by omega)]
    · rw [if_neg c2]
      rw [i_le, nI_toInt (by omega)] at c2
      rw [if_pos (by omega)]
theorem m_isNode {o : Ob_T} {N : Nat} (h2 : o_F o 2 = nI N) (hN : N ≤ 10) (x1 : Int32) : f_X9_isNode o x1 = some (if 0 ≤ x1.toInt ∧ x1.toInt < N then 1 else 0) := by
  unfold f_X9_isNode
  rw [f_in, i_wide, i_wide, h2]
  have e : (nI N - 1).toInt = (N : Int) - 1 := pk_sub_toInt (a := N) (b := 1) (by omega) (by omega)
  rw [e]
  have e2 : ((0 : Int64).toInt ≤ x1.toInt ∧ x1.toInt ≤ (N : Int) - 1) ↔ (0 ≤ x1.toInt ∧ x1.toInt < N) := by
    have j0 : (0 : Int64).toInt = 0 := rfl
    rw [j0]; omega
  by_cases c : 0 ≤ x1.toInt ∧ x1.toInt < N
  · rw [if_pos (e2.mpr c), if_pos c]; rfl
  · rw [if_neg (fun z => c (e2.mp z)), if_neg c]; rfl
section
variable {P : Pg_} {x n v d g o : Ob_T}
theorem sm_extent (hW : Wf_ P) (hn : Rn_ n P) (hm : Rm_ (o_A o 0) P) (h2 : o_F o 2 = nI (g_N P)) (hgv : R_gv g o) (hc : Rc_ x v P (o_A g 0)) (x1 x2 : Int32) : Tr_ (f_X8_extent x n v d g x1 x2) (fun u => Tr_ (f_X9_extent o x1 x2) (fun w => u.1 = w.1 ∧ Fr_ WK_ o w.2 ∧ Rc_ u.2.1 u.2.2.1 P (o_A g 0) ∧ o_F u.2.1 10 = o_F x 10)) := by
  have hN := hW.1
  have l0 : (0 : Int32).toInt = 0 := rfl
  have j0 : (0 : Int64).toInt = 0 := rfl
  have hgo : ∀ l, l < 4 → gv_ok (o_A o 4 l) := fun l hl => (hgv.1 l hl).2
  have hgg : ∀ l, l < 4 → gv_ok (o_A g 0 l) := fun l hl => by rw [(hgv.1 l hl).1]; exact hgo l hl
  have eS : SO_ P (o_A g 0) = SO_ P (o_A o 4) := SO_cg (fun l hl => (hgv.1 l hl).1)
  unfold f_X8_extent f_X9_extent
  rw [x_has hn hN, Option.bind_some, m_isNode h2 hN, Option.bind_some]
  by_cases c1 : 0 ≤ x1.toInt ∧ x1.toInt < g_N P
  · rw [if_pos c1, if_neg n_10, if_neg n_10]
    obtain ⟨i, hi, rfl⟩ := i_of (x := x1) (n := 10) c1.1 (by omega)
    have hi : i < g_N P := by have := c1.2; rw [nI_toInt (by omega)] at this; omega
    have hL := (hW.2 i hi).2.1
    rw [x_L hn hN hi, Option.bind_some, ld15 (j := 8) (k := 8) rfl (by omega) (by omega), Option.bind_some, (hm i hi).2.2.2.2.2.2.2.2.2.1]
    have e6 : (nI (g_L P i) - 1).toInt = (g_L P i : Int) - 1 := pk_sub_toInt (a := g_L P i) (b := 1) (by omega) (by omega)
    by_cases c2 : 0 ≤ x2.toInt ∧ x2.toInt < g_L P i
    · rw [if_neg (by rw [i_lt, l0]; omega), if_pos (by rw [i_lt, nI_toInt (by omega)]; omega), f_in1 (by rw [j0, i_wide, e6]; omega), Option.bind_some, if_neg n_10]
      obtain ⟨j, hj, rfl⟩ := i_of (x := x2) (n := 6) c2.1 (by omega)
      have hj : j < g_L P i := by have := c2.2; rw [nI_toInt (by omega)] at this; omega
      obtain ⟨x', v', d', e1, q1, q2, q3⟩ := x_now hW hn (d := d) hgg hc
      obtain ⟨o', e2, p1, p2, p3, p4, p5⟩ := m_now hW hm h2 hgo
      rw [e1, Option.bind_some, x_ext hn hN hi hj hL, Option.bind_some, x_value q3.1 (wf_e hW i hi j hj), Option.bind_some, e2, Option.bind_some, m_ext p2 hN hi hj hL, Option.bind_some, m_solved p1.1 (wf_e hW i hi j hj), Option.bind_some]
      exact tr_some (tr_some ⟨by rw [eS], p5, Or.inr ⟨q1, q3⟩, q2⟩)
    · rw [f_in0 (by rw [j0, i_wide, e6]; omega), Option.bind_some, if_pos rfl]
      refine tr_if (fun _ => tr_some (tr_some ⟨rfl, fr_rf _ _, hc, rfl⟩)) (fun n1 => tr_if (fun p1 => ?_) (fun _ => tr_some (tr_some ⟨rfl, fr_rf _ _, hc, rfl⟩)))
      rw [i_lt, l0] at n1
      rw [i_lt, nI_toInt (by omega)] at p1
      exact absurd ⟨by omega, by omega⟩ c2
  · rw [if_neg c1, if_pos rfl, if_pos rfl]
    exact tr_some (tr_some ⟨rfl, fr_rf _ _, hc, rfl⟩)
theorem sub4 (x1 : Int32) {N : Nat} (hN : N ≤ 10) : (0 ≤ (x1 - 4).toInt ∧ (x1 - 4).toInt < N) ↔ (4 ≤ x1.toInt ∧ x1.toInt < N + 4) := by
  have e : (x1 - 4).toInt = (x1.toInt - 4).bmod (2 ^ 32) := Int32.toInt_sub x1 4
  have b1 := x1.toInt_lt
  have b2 := x1.le_toInt
  rw [e, Int.bmod_def]
  by_cases q : (x1.toInt - 4) % (2 ^ 32 : Nat) < ((2 ^ 32 : Nat) + 1) / 2
  · rw [if_pos q]; omega
  · rw [if_neg q]; omega
theorem own_let {P : Pg_} {i : Nat} (hi : i < g_N P) (hN : g_N P ≤ 10) : e_ok (20000 + (i + 4)) := Or.inr ⟨by omega, by omega⟩
theorem sm_letter (hW : Wf_ P) (hn : Rn_ n P) (hm : Rm_ (o_A o 0) P) (h2 : o_F o 2 = nI (g_N P)) (hgv : R_gv g o) (hc : Rc_ x v P (o_A g 0)) (x1 : Int32) : Tr_ (f_X8_letter x n v d g x1) (fun u => Tr_ (f_X9_letter o x1) (fun w => u.1 = w.1 ∧ Fr_ WK_ o w.2 ∧ Rc_ u.2.1 u.2.2.1 P (o_A g 0) ∧ o_F u.2.1 10 = o_F x 10)) := by
  have hN := hW.1
  have hgo : ∀ l, l < 4 → gv_ok (o_A o 4 l) := fun l hl => (hgv.1 l hl).2
  have hgg : ∀ l, l < 4 → gv_ok (o_A g 0 l) := fun l hl => by rw [(hgv.1 l hl).1]; exact hgo l hl
  have eS : SO_ P (o_A g 0) = SO_ P (o_A o 4) := SO_cg (fun l hl => (hgv.1 l hl).1)
  -- solved, both
  have go : ∀ l, l < 14 → Tr_ (f_X8_letter_J21 (nI l) x v d n g) (fun u => Tr_ (f_X9_letter_J62 (nI l) o) (fun w => u.1 = w.1 ∧ Fr_ WK_ o w.2 ∧ Rc_ u.2.1 u.2.2.1 P (o_A g 0) ∧ o_F u.2.1 10 = o_F x 10)) := by
    intro l hl
    obtain ⟨x', v', d', e1, q1, q2, q3⟩ := x_now hW hn (d := d) hgg hc
    obtain ⟨o', e2, p1, p2, p3, p4, p5⟩ := m_now hW hm h2 hgo
    unfold f_X8_letter_J21 f_X9_letter_J62
    rw [show (20000 : Int32) + nI l = nI (20000 + l) from nI_add 20000 l, e1, Option.bind_some, x_value q3.1 (Or.inr ⟨by omega, by omega⟩), Option.bind_some, e2, Option.bind_some, m_solved p1.1 (Or.inr ⟨by omega, by omega⟩), Option.bind_some]
    exact tr_some (tr_some ⟨by rw [eS], p5, Or.inr ⟨q1, q3⟩, q2⟩)
  -- whether it is a node's own letter
  have own : ∃ b : Int32, (b = 0 ∨ b = 1) ∧ f_X1_hasOwnLetter n x1 = some b ∧ f_X9_letter o x1 = f_X9_letter_J47 x1 b o ∧ (b = 1 → ∃ l, l < 14 ∧ x1 = nI l) := by
    have s4 := sub4 x1 hN
    unfold f_X1_hasOwnLetter f_X9_letter f_X9_letter_J46 f_X9_letter_J42
    rw [m_isNode h2 hN, Option.bind_some, x_has hn hN, Option.bind_some]
    have l4 : (4 : Int32).toInt = 4 := rfl
    by_cases c : 4 ≤ x1.toInt ∧ x1.toInt < g_N P + 4
    · rw [if_pos (s4.mpr c), if_neg n_10, if_neg (by rw [i_lt, l4]; omega), if_neg n_10]
      obtain ⟨l, hl, rfl⟩ := i_of (x := x1) (n := 14) (by omega) (by omega)
      have e := nI_toInt (n := l) (by omega)
      rw [e] at c
      have hi : l - 4 < g_N P := by omega
      have hK := (hW.2 _ hi).1
      rw [show nI l - 4 = nI (l - 4) from pk_sub (b := 4) (by omega), l_K hm hN hi, Option.bind_some, Option.bind_some, ld_nI (by omega) (by omega), Option.bind_some, Option.bind_some, (hn.2 _ hi).1]
      by_cases k2 : nI (g_K P (l - 4)) = 2
      · rw [if_pos k2, if_pos k2]
        exact ⟨1, Or.inr rfl, rfl, rfl, fun _ => ⟨l, by omega, rfl⟩⟩
      · rw [if_neg k2, if_neg k2]
        by_cases k5 : nI (g_K P (l - 4)) = 5
        · rw [if_pos k5, if_pos k5]
          exact ⟨1, Or.inr rfl, rfl, rfl, fun _ => ⟨l, by omega, rfl⟩⟩
        · rw [if_neg k5, if_neg k5]
          exact ⟨0, Or.inl rfl, rfl, rfl, fun z => absurd z (by decide)⟩
    · rw [if_neg (fun z => c (s4.mp z)), if_pos rfl, if_pos rfl]
      refine ⟨0, Or.inl rfl, ?_, rfl, fun z => absurd z (by decide)⟩
      by_cases q : x1 < 4
      · rw [if_pos q]
      · rw [if_neg q]
  obtain ⟨b, hb, eb, eo, hbl⟩ := own
  rw [eo]
  unfold f_X8_letter f_X9_letter_J47
  rw [bind_eq _ (x_isPlain x1), bind_eq _ (m_isTold x1)]
  by_cases c1 : 0 ≤ x1.toInt ∧ x1.toInt ≤ 3
  · rw [if_pos c1, if_neg n_10, if_neg n_10]
    obtain ⟨l, hl, rfl⟩ := i_of (x := x1) (n := 3) c1.1 c1.2
    exact go l (by omega)
  · rw [if_neg c1, if_pos rfl, if_pos rfl, eb, Option.bind_some]
    rcases hb with rfl | rfl
    · rw [if_pos rfl, if_pos rfl]
      exact tr_some (tr_some ⟨rfl, fr_rf _ _, hc, rfl⟩)
    · rw [if_neg n_10, if_neg n_10]
      obtain ⟨l, hl, rfl⟩ := hbl rfl
      exact go l hl
theorem sm_fails (hW : Wf_ P) (hn : Rn_ n P) (hm : Rm_ (o_A o 0) P) (h2 : o_F o 2 = nI (g_N P)) (hgv : R_gv g o) (hc : Rc_ x v P (o_A g 0)) (x1 : Int32) : Tr_ (f_X8_fails x n v d g x1) (fun u => Tr_ (f_X9_fails o x1) (fun w => u.1 = w.1 ∧ Fr_ WK_ o w.2 ∧ Rc_ u.2.1 u.2.2.1 P (o_A g 0) ∧ o_F u.2.1 10 = o_F x 10)) := by
  have l0 : (0 : Int32).toInt = 0 := rfl
  have l5 : (5 : Int32).toInt = 5 := rfl
  have hgo : ∀ l, l < 4 → gv_ok (o_A o 4 l) := fun l hl => (hgv.1 l hl).2
  have hgg : ∀ l, l < 4 → gv_ok (o_A g 0 l) := fun l hl => by rw [(hgv.1 l hl).1]; exact hgo l hl
  have eS : SO_ P (o_A g 0) = SO_ P (o_A o 4) := SO_cg (fun l hl => (hgv.1 l hl).1)
  unfold f_X8_fails f_X9_fails f_X5_failPart
  by_cases c1 : 0 ≤ x1.toInt ∧ x1.toInt ≤ 4
  · rw [bind_eq _ (f_in1 (a := 0) (b := 4) c1), if_neg n_10, if_neg (by rw [i_lt, l0]; omega), if_pos (by rw [i_lt, l5]; omega)]
    obtain ⟨k, hk, rfl⟩ := i_of (x := x1) (n := 4) c1.1 c1.2
    obtain ⟨x', v', d', e1, q1, q2, q3⟩ := x_now hW hn (d := d) hgg hc
    obtain ⟨o', e2, p1, p2, p3, p4, p5⟩ := m_now hW hm h2 hgo
    rw [e1, Option.bind_some, ld_nI (by omega) (by omega), Option.bind_some, Option.bind_some, e2, Option.bind_some]
    refine tr_some ?_
    rw [← eS] at p1
    rcases q3.2 with ⟨z, f⟩ | f
    · rw [rso_f0 p1 z, if_pos rfl]
      exact tr_some ⟨f k (by omega), p5, Or.inr ⟨q1, q3⟩, q2⟩
    · rw [rso_f1 p1 (rf_ne f), if_neg n_10, ld_nI (by omega) (by omega), Option.bind_some]
      rcases p1.2 with ⟨z, -⟩ | ⟨f', -⟩
      · exact absurd z (rf_ne f)
      · exact tr_some ⟨by rw [(f.2 k (by omega)).2, (f'.2 k (by omega)).2], p5, Or.inr ⟨q1, q3⟩, q2⟩
  · rw [bind_eq _ (f_in0 (a := 0) (b := 4) c1), if_pos rfl]
    refine tr_if (fun _ => tr_some (tr_some ⟨rfl, fr_rf _ _, hc, rfl⟩)) (fun n1 => tr_if (fun p1 => ?_) (fun _ => tr_some (tr_some ⟨rfl, fr_rf _ _, hc, rfl⟩)))
    rw [i_lt, l0] at n1
    rw [i_lt, l5] at p1
    exact absurd ⟨by omega, by omega⟩ c1
theorem sm_node (hW : Wf_ P) (hn : Rn_ n P) (hm : Rm_ (o_A o 0) P) (h2 : o_F o 2 = nI (g_N P)) (x1 x2 : Int32) : Tr_ (f_X8_node x n x1 x2) (fun u => Tr_ (f_X9_node o x1 x2) (fun w => u = w)) := by
  have hN := hW.1
  unfold f_X8_node f_X9_node
  rw [x_has hn hN, Option.bind_some, m_isNode h2 hN, Option.bind_some]
  by_cases c1 : 0 ≤ x1.toInt ∧ x1.toInt < g_N P
  · rw [if_pos c1, if_neg n_10, if_neg n_10]
    obtain ⟨i, hi, rfl⟩ := i_of (x := x1) (n := 10) c1.1 (by omega)
    have hi : i < g_N P := by have := c1.2; rw [nI_toInt (by omega)] at this; omega
    have hK := (hW.2 i hi).1
    obtain ⟨a0, a1, a2, a3, a4, a5, a6, a7, a8, a9, a10⟩ := hm i hi
    obtain ⟨b0, b1, b2, b3, b4, b5, b6, b7, b8⟩ := hn.2 i hi
    by_cases s0 : x2 = 0
    · rw [if_pos s0, if_pos s0, x_K hn hN hi, l_K hm hN hi]
      exact tr_some (tr_some rfl)
    · rw [if_neg s0, if_neg s0]
      by_cases s1 : x2 = 1
      · rw [if_pos s1, if_pos s1, x_L hn hN hi, ld15 (j := 8) (k := 8) rfl (by omega) (by omega), a9]
        exact tr_some (tr_some rfl)
      · rw [if_neg s1, if_neg s1]
        by_cases s2 : x2 = 2
        · rw [if_pos s2, if_pos s2, ld15 (j := 1) (k := 1) rfl (by omega) (by omega)]
          unfold f_X1_firstOf
          rw [ld_nI (by omega) (by omega)]
          refine tr_some (tr_some ?_)
          by_cases k0 : g_K P i = 0
          · rw [b2 k0, a2 k0]
          · rw [b1 k0, a1 k0]
        · rw [if_neg s2, if_neg s2]
          by_cases s3 : x2 = 3
          · rw [if_pos s3, if_pos s3, ld15 (j := 2) (k := 2) rfl (by omega) (by omega)]
            unfold f_X1_secondOf
            rw [ld_nI (by omega) (by omega)]
            refine tr_some (tr_some ?_)
            by_cases k0 : g_K P i = 1 ∨ g_K P i = 2
            · rw [b3 k0, a3 k0]
            · rw [b4 k0, a4 k0]
          · rw [if_neg s3, if_neg s3]
            by_cases s4 : x2 = 4
            · rw [if_pos s4, if_pos s4, l_K hm hN hi, Option.bind_some]
              unfold f_X1_rankOf
              rw [ld_nI (by omega) (by omega), Option.bind_some, Option.bind_some]
              by_cases k0 : vb_ P i
              · have hr := ((hW.2 i hi).2.2.2.2.1 k0).1
                have nr : ∀ r ∈ rks_, ¬ r = -11 := by decide +kernel
                rw [b5 k0, if_neg (nr _ hr), f_in1 (a := 1) (b := 5) (by rw [nI_toInt (by omega)]; have e1 : (1 : Int64).toInt = 1 := rfl; have e5 : (5 : Int64).toInt = 5 := rfl; unfold vb_ at k0; omega), Option.bind_some, if_neg n_10, l_R hm hN hi k0, Option.bind_some]
                exact tr_some (tr_some rfl)
              · rw [b6 k0, if_pos rfl, f_in0 (a := 1) (b := 5) (by rw [nI_toInt (by omega)]; have e1 : (1 : Int64).toInt = 1 := rfl; have e5 : (5 : Int64).toInt = 5 := rfl; unfold vb_ at k0; omega), Option.bind_some, if_pos rfl]
                exact tr_some (tr_some rfl)
            · rw [if_neg s4, if_neg s4]
              exact tr_some (tr_some rfl)
  · rw [if_neg c1, if_pos rfl, if_pos rfl]
    exact tr_some (tr_some rfl)
end
