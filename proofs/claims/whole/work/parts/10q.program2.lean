theorem x_rclear (r : Ob_T) : f_X2_clear r = some (p_A r 1 (fl_ (o_A r 1) 0 3 (-1))) := by
  unfold f_X2_clear
  rw [j_fill0 _ _ (by omega), Option.bind_some, Lt_E]
  rfl
section
variable {t o n : Ob_T} {P : Pg_}
/-- all of the class and of the reference that the calls tell of -/
def RR_ (x t n v w g q r o : Ob_T) : Prop := ∃ P, Wf_ P ∧ Rn_ n P ∧ o_F o 2 = nI (g_N P) ∧ Rm_ (o_A o 0) P ∧ R_tx t o ∧ R_gv g o ∧ R_sn q o ∧ R_rw r o ∧ Wd_ o ∧ Rc_ x v P (o_A g 0) ∧ Rw_ x w P (o_A g 0)
theorem sm_program {x v w g q r : Ob_T} (n2 : Ob_T) (h : RR_ x t n v w g q r o) : Tr_ (f_X8_program x t n n2 g q r) (fun u => Tr_ (f_X9_program o) (fun y => u.1 = y.1 ∧ RR_ u.2.1 u.2.2.1 u.2.2.2.1 v w u.2.2.2.2.2.1 u.2.2.2.2.2.2.1 u.2.2.2.2.2.2.2 y.2)) := by
  obtain ⟨P, hW, hn, h2, hm, ht, hgv, hq, hr, hw, hc, hwy⟩ := h
  obtain ⟨n1, e1, e6, h4, h5⟩ := x_take n2 n
  unfold f_X8_program f_X9_program
  rw [e1, Option.bind_some]
  obtain ⟨t', n', o', F, G, out⟩ := sm_read ht hW (rn_take hW hn e6 h4 h5) hm h2 hw
  have wd' : Wd_ o' := wd_fr hw G (by
    intro k h1 h2 h3
    simp at h3
    omega)
  rcases out with ⟨p, hp, a1, a2, a3⟩ | ⟨a1, a2, a3, Q, hWQ, hnQ, hmQ, h3Q⟩
  · rw [a1, a2, Option.bind_some, Option.bind_some, if_neg (nI_nm1 (by omega)), if_pos rfl]
    have tx : R_tx t' o' := by
      obtain ⟨L, q1, q2, q3, q4⟩ := ht
      exact ⟨L, q1, by rw [(F 1 (by decide)).1]; exact q2, by rw [(G 10 (by decide)).1]; exact q3, by rw [(F 0 (by decide)).2, (G 9 (by decide)).2]; exact q4⟩
    refine tr_some (tr_some ⟨rfl, P, hW, hn, by rw [(G 2 (by decide)).1]; exact h2, by rw [(G 0 (by decide)).2]; exact hm, tx, ?_, R_sn_fr hq G (by decide), R_rw_fr hr G (by decide), wd', hc, hwy⟩)
    unfold R_gv sp_ at hgv ⊢
    rw [(G 4 (by decide)).2, (G 5 (by decide)).2, (G 6 (by decide)).1, (G 7 (by decide)).2, (G 8 (by decide)).2]
    exact hgv
  · rw [a1, a2, Option.bind_some, Option.bind_some, if_pos rfl, if_neg n_10]
    obtain ⟨n3, b1, b6, b4, b5⟩ := x_take n n'
    obtain ⟨g', c1, c2, c3, c4⟩ := x_gclear g
    obtain ⟨f1, f2, f3, o3, d1, G3, ⟨e0, d2⟩, e2, e10, ⟨e4, x2⟩, e66, e8, e11, e16, y2⟩ := m_prog o'
    have ec : f_X2_clear r = some (p_A r 1 (fl_ (o_A r 1) 0 3 (-1))) := x_rclear r
    dsimp only
    rw [d1, b1, Option.bind_some]
    unfold f_X6_clear
    rw [Lt_E, Option.bind_some, c1, Option.bind_some]
    unfold f_X3_clear
    rw [Lt_E, Option.bind_some, ec, Option.bind_some]
    unfold f_X8_forgetSolved
    rw [Lt_E, Lt_E, Option.bind_some]
    unfold f_X6_clausesRead
    rw [Option.bind_some]
    have wd2 : Wd_ o3 := wd_fr wd' G3 (by
      intro k h1 h2 h3
      simp at h3
      omega)
    refine tr_some (tr_some ⟨?_, Q, hWQ, rn_take hWQ hnQ b6 b4 b5, e2.trans h3Q, ?_, ⟨0, by omega, fF_ _ _ _, e10, fun i hi => by omega⟩, ⟨fun l hl => ?_, ⟨0, by omega, c3, e66, fun i hi => by omega⟩, fun k hk => Or.inl ⟨c4 k hk, e8 k hk⟩⟩, ⟨0, by omega, fF_ _ _ _, e11, fun i hi => by omega⟩, fun k hk => Or.inl ⟨?_, by rw [e16]; exact y2 k hk⟩, wd2, Or.inl ?_, Or.inl ?_⟩)
    · dsimp only
      rw [← a3]
      exact fFn_ _ _ _ _ (by decide)
    · rw [e0]
      exact rm_cg hWQ d2 hmQ
    · rw [e4]
      exact ⟨(c2 l hl).trans (x2 l hl).symm, Or.inl (x2 l hl)⟩
    · show fl_ (o_A r 1) 0 3 (-1) k = -1
      unfold fl_
      rw [if_pos (by omega)]
    · dsimp only
      rw [fFn_ _ _ _ _ (by decide), fF_]
    · dsimp only
      rw [fF_]
end
