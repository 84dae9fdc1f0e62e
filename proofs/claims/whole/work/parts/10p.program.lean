def f_X8_program (s_x : Ob_T) (s_t : Ob_T) (s_n : Ob_T) (s_n2 : Ob_T) (s_g : Ob_T) (s_q : Ob_T) (s_r : Ob_T) : Option (Int32 × Ob_T × Ob_T × Ob_T × Ob_T × Ob_T × Ob_T × Ob_T) :=
  (f_X1_takeAll s_n2 s_n).bind fun u1 =>
  (f_X6_read s_t u1).bind fun u2 =>
  if u2.1 = (-1 : Int32) then
  ((f_X1_takeAll s_n u2.2.2).bind fun u3 =>
  (f_X6_clear u2.2.1).bind fun u4 =>
  (f_X0_clear s_g).bind fun u5 =>
  (f_X3_clear s_q).bind fun u6 =>
  (f_X2_clear s_r).bind fun u7 =>
  (f_X8_forgetSolved s_x).bind fun u8 =>
  (f_X6_clausesRead u4).bind fun u9 =>
  some (u9, u8, u4, u3, u2.2.2, u5, u6, u7))
  else
  (some ((-4 : Int32), s_x, u2.2.1, s_n, u2.2.2, s_g, s_q, s_r))
section
variable {t o n : Ob_T} {P : Pg_}
theorem m_pg1 (o : Ob_T) (k37 : Ob_T → Option (Int32 × Ob_T)) : ∃ f, Lp_ (fun (rec : (Int32 × Ob_T) → Option (Int32 × Ob_T)) x => f_X9_program_L12 k37 rec x.1 x.2) FU_ (0, o) = k37 (p_A o 0 f) ∧ ∀ l, l < 150 → f l = o_A o 1 l := by
  refine lp_fu (P := fun r => ∃ f, r = k37 (p_A o 0 f) ∧ ∀ l, l < 150 → f l = o_A o 1 l) (fun m x => ∃ i f, i ≤ 150 ∧ m = 150 - i + 1 ∧ x = (nI i, p_A o 0 f) ∧ ∀ l, l < i → f l = o_A o 1 l) ?_ ?_ (150 - 0 + 1) _ ⟨0, o_A o 0, by omega, rfl, by rw [pA_self]; rfl, fun l hl => by omega⟩ (by omega)
  · rintro x ⟨i, f, h1, h2, -⟩
    omega
  · rintro m x rec ⟨i, f, hi, hm, rfl, hf⟩ hr
    unfold f_X9_program_L12
    dsimp only
    by_cases e : i = 150
    · subst e
      rw [if_pos (show (150 : Int32) ≤ nI 150 by decide)]
      exact ⟨f, rfl, hf⟩
    · rw [if_neg (show ¬ (150 : Int32) ≤ nI i from nI_ge (b := 150) (by omega) (by omega)), ld_nI (by omega) (by omega), Option.bind_some, st_nI (by omega) (by omega), Option.bind_some, nI_1]
      refine hr _ ⟨i + 1, upd f i (o_A o 1 i), by omega, by omega, by rw [pA_pA]; rfl, fun l hl => ?_⟩
      rw [updE]
      by_cases q : l = i
      · rw [if_pos q, q]
      · rw [if_neg q]; exact hf l (by omega)
theorem m_pg2 (o : Ob_T) (k70 : Ob_T → Option (Int32 × Ob_T)) : ∃ f, Lp_ (fun (rec : (Int32 × Ob_T) → Option (Int32 × Ob_T)) x => f_X9_program_L52 k70 rec x.1 x.2) FU_ (0, o) = k70 (p_A o 4 f) ∧ ∀ l, l < 4 → f l = -1 := by
  refine lp_fu (P := fun r => ∃ f, r = k70 (p_A o 4 f) ∧ ∀ l, l < 4 → f l = -1) (fun m x => ∃ i f, i ≤ 4 ∧ m = 4 - i + 1 ∧ x = (nI i, p_A o 4 f) ∧ ∀ l, l < i → f l = -1) ?_ ?_ (4 - 0 + 1) _ ⟨0, o_A o 4, by omega, rfl, by rw [pA_self]; rfl, fun l hl => by omega⟩ (by omega)
  · rintro x ⟨i, f, h1, h2, -⟩
    omega
  · rintro m x rec ⟨i, f, hi, hm, rfl, hf⟩ hr
    unfold f_X9_program_L52
    dsimp only
    by_cases e : i = 4
    · subst e
      rw [if_pos (show (4 : Int32) ≤ nI 4 by decide)]
      exact ⟨f, rfl, hf⟩
    · rw [if_neg (show ¬ (4 : Int32) ≤ nI i from nI_ge (b := 4) (by omega) (by omega)), st_nI (by omega) (by omega), Option.bind_some, nI_1]
      refine hr _ ⟨i + 1, upd f i (-1), by omega, by omega, by rw [pA_pA]; rfl, fun l hl => ?_⟩
      rw [updE]
      by_cases q : l = i
      · rw [if_pos q]
      · rw [if_neg q]; exact hf l (by omega)
theorem m_pg3 (o : Ob_T) : ∃ f, Lp_ (fun (rec : (Int32 × Ob_T) → Option (Int32 × Ob_T)) x => f_X9_program_L96 rec x.1 x.2) FU_ (0, o) = some (o_F o 20, p_A o 16 f) ∧ ∀ l, l < 3 → f l = -1 := by
  refine lp_fu (P := fun r => ∃ f, r = some (o_F o 20, p_A o 16 f) ∧ ∀ l, l < 3 → f l = -1) (fun m x => ∃ i f, i ≤ 3 ∧ m = 3 - i + 1 ∧ x = (nI i, p_A o 16 f) ∧ ∀ l, l < i → f l = -1) ?_ ?_ (3 - 0 + 1) _ ⟨0, o_A o 16, by omega, rfl, by rw [pA_self]; rfl, fun l hl => by omega⟩ (by omega)
  · rintro x ⟨i, f, h1, h2, -⟩
    omega
  · rintro m x rec ⟨i, f, hi, hm, rfl, hf⟩ hr
    unfold f_X9_program_L96
    dsimp only
    by_cases e : i = 3
    · subst e
      rw [if_pos (show (3 : Int32) ≤ nI 3 by decide)]
      exact ⟨f, rfl, hf⟩
    · rw [if_neg (show ¬ (3 : Int32) ≤ nI i from nI_ge (b := 3) (by omega) (by omega)), st_nI (by omega) (by omega), Option.bind_some, nI_1]
      refine hr _ ⟨i + 1, upd f i (-1), by omega, by omega, by rw [pA_pA]; rfl, fun l hl => ?_⟩
      rw [updE]
      by_cases q : l = i
      · rw [if_pos q]
      · rw [if_neg q]; exact hf l (by omega)
theorem x_gclear (g : Ob_T) : ∃ g', f_X0_clear g = some g' ∧ (∀ l, l < 4 → o_A g' 0 l = -1) ∧ o_F g' 5 = nI 0 ∧ ∀ k, k < 2 → o_A g' 4 k = 0 := by
  unfold f_X0_clear
  rw [j_fill0 _ _ (by omega), Option.bind_some, Lt_E, Lt_E]
  have key : ∀ g1 : Ob_T, Lp_ (fun (rec : (Int32 × Ob_T) → Option Ob_T) x => f_X0_clear_L15 rec x.1 x.2) FU_ (0, g1) = some (p_A g1 4 (upd (upd (o_A g1 4) 0 0) 1 0)) := by
    intro g1
    show Lp_ _ (19997 + 3) (nI 0, g1) = _
    generalize 19997 = f
    have st : ∀ rec k g2, k < 2 → f_X0_clear_L15 rec (nI k) g2 = rec (nI (k + 1), p_A g2 4 (upd (o_A g2 4) k 0)) := by
      intro rec k g2 hk
      unfold f_X0_clear_L15
      rw [if_neg (show ¬ (2 : Int32) ≤ nI k from nI_ge (b := 2) hk (by omega)), show vp_nar .boolean (0 : Int32) = 0 from rfl, st_nI hk (by omega), Option.bind_some, nI_1]
    rw [Lp_s, st _ _ _ (by omega), Lp_s, st _ _ _ (by omega), Lp_s, pA_pA]
    rfl
  rw [key]
  refine ⟨_, rfl, fun l hl => ?_, ?_, fun k hk => ?_⟩
  · show fl_ (o_A g 0) 0 4 (-1) l = -1
    unfold fl_
    rw [if_pos (by omega)]
  · rfl
  · show upd (upd (o_A g 4) 0 0) 1 0 k = 0
    rw [updE, updE]
    rcases (show k = 0 ∨ k = 1 by omega) with rfl | rfl
    · rfl
    · rfl
/-- the reference takes the program that was read -/
theorem m_prog (o' : Ob_T) : ∃ f1 f2 f3 o3, Lp_ (fun (rec : (Int32 × Ob_T) → Option (Int32 × Ob_T)) x => f_X9_program_L12 (fun t_o => f_X9_program_J37 t_o) rec x.1 x.2) FU_ (0, o') = some (o_F o' 20, o3) ∧ Fr_ [0, 2, 4, 6, 8, 10, 11, 16] o' o3 ∧ (o_A o3 0 = f1 ∧ ∀ l, l < 150 → f1 l = o_A o' 1 l) ∧ o_F o3 2 = o_F o' 3 ∧ o_F o3 10 = nI 0 ∧ (o_A o3 4 = f2 ∧ ∀ l, l < 4 → f2 l = -1) ∧ o_F o3 6 = nI 0 ∧ (∀ k, k < 2 → o_A o3 8 k = 0) ∧ o_F o3 11 = nI 0 ∧ (o_A o3 16 = f3 ∧ ∀ l, l < 3 → f3 l = -1) := by
  obtain ⟨f1, d1, d2⟩ := m_pg1 o' (fun t_o => f_X9_program_J37 t_o)
  rw [d1]
  unfold f_X9_program_J37
  rw [Lt_E, Lt_E]
  have A1 : Fr_ [0, 2, 10] o' (p_F (p_F (p_A o' 0 f1) 2 (o_F (p_A o' 0 f1) 3)) 10 0) := fr_tr (fr_pA (by decide)) (fr_tr (fr_pF (by decide)) (fr_pF (by decide)))
  have A2 : o_A (p_F (p_F (p_A o' 0 f1) 2 (o_F (p_A o' 0 f1) 3)) 10 0) 0 = f1 := rfl
  have A3 : o_F (p_F (p_F (p_A o' 0 f1) 2 (o_F (p_A o' 0 f1) 3)) 10 0) 2 = o_F o' 3 := by
    rw [fFn_ _ _ _ _ (by decide), fF_]
    rfl
  have A4 : o_F (p_F (p_F (p_A o' 0 f1) 2 (o_F (p_A o' 0 f1) 3)) 10 0) 10 = nI 0 := fF_ _ _ _
  generalize p_F (p_F (p_A o' 0 f1) 2 (o_F (p_A o' 0 f1) 3)) 10 0 = o1 at A1 A2 A3 A4 ⊢
  obtain ⟨f2, x1, x2⟩ := m_pg2 o1 (fun t_o => f_X9_program_J70 t_o)
  rw [x1]
  unfold f_X9_program_J70
  rw [Lt_E]
  have s0 : ∀ z : Ob_T, st_A z 8 2 (0 : Int32) (vp_nar .boolean (0 : Int32)) = some (p_A z 8 (upd (o_A z 8) 0 0)) := fun z => st_nI (i := 0) (by omega) (by omega)
  have s1 : ∀ z : Ob_T, st_A z 8 2 (1 : Int32) (vp_nar .boolean (0 : Int32)) = some (p_A z 8 (upd (o_A z 8) 1 0)) := fun z => st_nI (i := 1) (by omega) (by omega)
  rw [s0, Option.bind_some, s1, Option.bind_some, Lt_E]
  have B1 : Fr_ [4, 6, 8, 11] o1 (p_F (p_A (p_A (p_F (p_A o1 4 f2) 6 0) 8 (upd (o_A (p_F (p_A o1 4 f2) 6 0) 8) 0 0)) 8 (upd (o_A (p_A (p_F (p_A o1 4 f2) 6 0) 8 (upd (o_A (p_F (p_A o1 4 f2) 6 0) 8) 0 0)) 8) 1 0)) 11 0) := fr_tr (fr_pA (by decide)) (fr_tr (fr_pF (by decide)) (fr_tr (fr_pA (by decide)) (fr_tr (fr_pA (by decide)) (fr_pF (by decide)))))
  have B2 : o_A (p_F (p_A (p_A (p_F (p_A o1 4 f2) 6 0) 8 (upd (o_A (p_F (p_A o1 4 f2) 6 0) 8) 0 0)) 8 (upd (o_A (p_A (p_F (p_A o1 4 f2) 6 0) 8 (upd (o_A (p_F (p_A o1 4 f2) 6 0) 8) 0 0)) 8) 1 0)) 11 0) 4 = f2 := rfl
  have B3 : o_F (p_F (p_A (p_A (p_F (p_A o1 4 f2) 6 0) 8 (upd (o_A (p_F (p_A o1 4 f2) 6 0) 8) 0 0)) 8 (upd (o_A (p_A (p_F (p_A o1 4 f2) 6 0) 8 (upd (o_A (p_F (p_A o1 4 f2) 6 0) 8) 0 0)) 8) 1 0)) 11 0) 6 = nI 0 := by
    show o_F (p_F (p_A o1 4 f2) 6 0) 6 = nI 0
    exact fF_ _ _ _
  have B4 : ∀ k, k < 2 → o_A (p_F (p_A (p_A (p_F (p_A o1 4 f2) 6 0) 8 (upd (o_A (p_F (p_A o1 4 f2) 6 0) 8) 0 0)) 8 (upd (o_A (p_A (p_F (p_A o1 4 f2) 6 0) 8 (upd (o_A (p_F (p_A o1 4 f2) 6 0) 8) 0 0)) 8) 1 0)) 11 0) 8 k = 0 := fun k hk => by
    show upd (upd (o_A o1 8) 0 0) 1 0 k = 0
    rw [updE, updE]
    rcases (show k = 0 ∨ k = 1 by omega) with rfl | rfl
    · rfl
    · rfl
  have B5 : o_F (p_F (p_A (p_A (p_F (p_A o1 4 f2) 6 0) 8 (upd (o_A (p_F (p_A o1 4 f2) 6 0) 8) 0 0)) 8 (upd (o_A (p_A (p_F (p_A o1 4 f2) 6 0) 8 (upd (o_A (p_F (p_A o1 4 f2) 6 0) 8) 0 0)) 8) 1 0)) 11 0) 11 = nI 0 := fF_ _ _ _
  generalize p_F (p_A (p_A (p_F (p_A o1 4 f2) 6 0) 8 (upd (o_A (p_F (p_A o1 4 f2) 6 0) 8) 0 0)) 8 (upd (o_A (p_A (p_F (p_A o1 4 f2) 6 0) 8 (upd (o_A (p_F (p_A o1 4 f2) 6 0) 8) 0 0)) 8) 1 0)) 11 0 = o2 at B1 B2 B3 B4 B5 ⊢
  obtain ⟨f3, y1, y2⟩ := m_pg3 o2
  rw [y1]
  refine ⟨f1, f2, f3, p_A o2 16 f3, ?_, fr_tr (fr_mono A1 (by decide)) (fr_tr (fr_mono B1 (by decide)) (fr_pA (by decide))), ⟨?_, d2⟩, ?_, ?_, ⟨B2, x2⟩, B3, B4, B5, rfl, y2⟩
  · rw [(B1 20 (by decide)).1, (A1 20 (by decide)).1]
  · show o_A o2 0 = _
    rw [(B1 0 (by decide)).2, A2]
  · show o_F o2 2 = _
    rw [(B1 2 (by decide)).1, A3]
  · show o_F o2 10 = _
    rw [(B1 10 (by decide)).1, A4]
end
