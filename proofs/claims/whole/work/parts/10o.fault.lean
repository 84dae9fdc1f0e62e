def f_X8_fault (s_x : Ob_T) (s_t : Ob_T) (s_n : Ob_T) (s_n2 : Ob_T) : Option (Int32 × Ob_T × Ob_T) :=
  (f_X1_takeAll s_n2 s_n).bind fun u1 =>
  (f_X6_read s_t u1).bind fun u2 =>
  some (u2.1, u2.2.1, u2.2.2)
section
variable {t o n : Ob_T} {P : Pg_}
theorem re_fr {t t3 o o6 : Ob_T} {rx : Option (Int32 × Ob_T × Ob_T)} {rm : Option (Int32 × Ob_T)} (F : Fr_ TR_ t t3) (G : Fr_ OR_ o o6) (h : Re_ t3 o6 rx rm) : Re_ t o rx rm := by
  obtain ⟨t', n', o', h1, h2, h3⟩ := h
  exact ⟨t', n', o', fr_tr F h1, fr_tr G h2, h3⟩
theorem rn_take (hW : Wf_ P) (hn : Rn_ n P) {n1 : Ob_T} (e6 : o_F n1 6 = o_F n 6) (h4 : ∀ k, k < 5 → ∀ l, l < 10 → o_A n1 k l = o_A n k l) (h5 : ∀ l, l < 60 → o_A n1 5 l = o_A n 5 l) : Rn_ n1 P := by
  have hN := hW.1
  refine ⟨by rw [e6]; exact hn.1, fun i hi => ?_⟩
  have hL := (hW.2 i hi).2.1
  obtain ⟨r1, r2, r3, r4, r5, r6, r7, r8, r9⟩ := hn.2 i hi
  rw [h4 0 (by omega) i (by omega), h4 1 (by omega) i (by omega), h4 2 (by omega) i (by omega), h4 3 (by omega) i (by omega), h4 4 (by omega) i (by omega)]
  exact ⟨r1, r2, r3, r4, r5, r6, r7, r8, fun j hj => by rw [h5 _ (by omega)]; exact r9 j hj⟩
theorem m_copyRows (o : Ob_T) (k27 : Ob_T → Option (Int32 × Ob_T)) : ∃ f, Lp_ (fun (rec : (Int32 × Ob_T) → Option (Int32 × Ob_T)) x => f_X9_reads_L2 k27 rec x.1 x.2) FU_ (0, o) = k27 (p_A o 1 f) ∧ ∀ l, l < 150 → f l = o_A o 0 l := by
  refine lp_fu (P := fun r => ∃ f, r = k27 (p_A o 1 f) ∧ ∀ l, l < 150 → f l = o_A o 0 l) (fun m x => ∃ i f, i ≤ 150 ∧ m = 150 - i + 1 ∧ x = (nI i, p_A o 1 f) ∧ ∀ l, l < i → f l = o_A o 0 l) ?_ ?_ (150 - 0 + 1) _ ⟨0, o_A o 1, by omega, rfl, by rw [pA_self]; rfl, fun l hl => by omega⟩ (by omega)
  · rintro x ⟨i, f, h1, h2, -⟩
    omega
  · rintro m x rec ⟨i, f, hi, hm, rfl, hf⟩ hr
    unfold f_X9_reads_L2
    dsimp only
    by_cases e : i = 150
    · subst e
      rw [if_pos (show (150 : Int32) ≤ nI 150 by decide)]
      exact ⟨f, rfl, hf⟩
    · rw [if_neg (show ¬ (150 : Int32) ≤ nI i from nI_ge (b := 150) (by omega) (by omega)), ld_nI (by omega) (by omega), Option.bind_some, st_nI (by omega) (by omega), Option.bind_some, nI_1]
      refine hr _ ⟨i + 1, upd f i (o_A o 0 i), by omega, by omega, by rw [pA_pA]; rfl, fun l hl => ?_⟩
      rw [updE]
      by_cases q : l = i
      · rw [if_pos q, q]
      · rw [if_neg q]; exact hf l (by omega)
theorem sm_read (ht : R_tx t o) (hW : Wf_ P) (hn : Rn_ n P) (hm : Rm_ (o_A o 0) P) (h2 : o_F o 2 = nI (g_N P)) (hw : Wd_ o) : Re_ t o (f_X6_read t n) (f_X9_reads o) := by
  obtain ⟨c, L, hT⟩ := tx_of ht
  obtain ⟨f, e1, hf⟩ := m_copyRows o (fun t_o => f_X9_reads_J27 t_o)
  unfold f_X9_reads f_X6_read
  rw [e1]
  unfold f_X9_reads_J27
  simp only [Lt_E]
  have G5 : Fr_ OR_ o (p_F (p_F (p_F (p_A o 1 f) 3 (o_F (p_A o 1 f) 2)) 19 0) 20 1) := fr_tr (fr_pA (by decide)) (fr_tr (fr_pF (by decide)) (fr_tr (fr_pF (by decide)) (fr_pF (by decide))))
  have k1 : o_A (p_F (p_F (p_F (p_A o 1 f) 3 (o_F (p_A o 1 f) 2)) 19 0) 20 1) 1 = f := rfl
  have k3 : o_F (p_F (p_F (p_F (p_A o 1 f) 3 (o_F (p_A o 1 f) 2)) 19 0) 20 1) 3 = nI (g_N P) := by
    rw [fFn_ _ _ _ _ (by decide), fFn_ _ _ _ _ (by decide), fF_]
    exact h2
  have k19 : o_F (p_F (p_F (p_F (p_A o 1 f) 3 (o_F (p_A o 1 f) 2)) 19 0) 20 1) 19 = nI 0 := by
    rw [fFn_ _ _ _ _ (by decide), fF_]; rfl
  have k20 : o_F (p_F (p_F (p_F (p_A o 1 f) 3 (o_F (p_A o 1 f) 2)) 19 0) 20 1) 20 = nI 1 := by rw [fF_]; rfl
  generalize p_F (p_F (p_F (p_A o 1 f) 3 (o_F (p_A o 1 f) 2)) 19 0) 20 1 = o5 at G5 k1 k3 k19 k20 ⊢
  have F2 : Fr_ TR_ t (p_F (p_F t 5 0) 2 0) := fr_tr (fr_pF (by decide)) (fr_pF (by decide))
  have k5 : o_F (p_F (p_F t 5 0) 2 0) 5 = nI 0 := by rw [fFn_ _ _ _ _ (by decide), fF_]; rfl
  generalize p_F (p_F t 5 0) 2 0 = t2 at F2 k5 ⊢
  have hT2 : Tx_ t2 o5 c L := tx_fr hT (F2 1 (by decide)).1 (F2 0 (by decide)).2 (G5 10 (by decide)).1 (G5 9 (by decide)).2
  obtain ⟨t3, o6, s, e, a1, a2, a3, a4, a5⟩ := sm_step hT2 (Nat.zero_le _) k5 k19
  rw [a1, a2, Option.bind_some, Option.bind_some]
  have G6 : Fr_ OR_ o o6 := fr_tr G5 (fr_mono a4 (by decide))
  have hm6 : Rm_ (o_A o6 1) P := by rw [(a4 1 (by decide)).2, k1]; exact rm_cg hW hf hm
  have h36 : o_F o6 3 = nI (g_N P) := by rw [(a4 3 (by decide)).1, k3]
  have h20 : o_F o6 20 = nI 1 := by rw [(a4 20 (by decide)).1, k20]
  have hw6 : Wd_ o6 := wd_fr hw G6 (by
    intro k h1 h2 h3
    simp at h3
    omega)
  exact re_fr (fr_tr F2 (fr_mono a3 (by decide))) G6 (sm_readL (c := c) (L := L) 23 1 FU_ FU_ t3 n o6 s e P (fun x => x) rfl (by omega) (by omega) (by unfold FU_; omega) (by unfold FU_; omega) a5 hW hn hm6 h36 hw6 (fun x Fx => ⟨by rw [(Fx 20 (by decide)).1, h20], fr_rf _ _⟩))
theorem sm_fault (x n2 : Ob_T) (ht : R_tx t o) (hW : Wf_ P) (hn : Rn_ n P) (hm : Rm_ (o_A o 0) P) (h2 : o_F o 2 = nI (g_N P)) (hw : Wd_ o) : Tr_ (f_X8_fault x t n n2) (fun u => Tr_ (f_X9_fault o) (fun w => u.1 = w.1 ∧ R_tx u.2.1 w.2 ∧ Fr_ OR_ o w.2)) := by
  obtain ⟨n1, e1, e6, h4, h5⟩ := x_take n2 n
  unfold f_X8_fault f_X9_fault
  rw [e1, Option.bind_some]
  obtain ⟨t', n', o', F, G, out⟩ := sm_read ht hW (rn_take hW hn e6 h4 h5) hm h2 hw
  have tx : R_tx t' o' := by
    obtain ⟨L, q1, q2, q3, q4⟩ := ht
    exact ⟨L, q1, by rw [(F 1 (by decide)).1]; exact q2, by rw [(G 10 (by decide)).1]; exact q3, by rw [(F 0 (by decide)).2, (G 9 (by decide)).2]; exact q4⟩
  rcases out with ⟨p, hp, a1, a2, a3⟩ | ⟨a1, a2, -⟩
  · rw [a1, a2, Option.bind_some, Option.bind_some, if_pos rfl]
    exact tr_some (tr_some ⟨a3.symm, tx, G⟩)
  · rw [a1, a2, Option.bind_some, Option.bind_some, if_neg n_10]
    exact tr_some (tr_some ⟨rfl, tx, G⟩)
end
