/-- the reference's work fields: nothing lasting lies there -/
abbrev WK_ : List Nat := [1, 3, 18, 19, 20, 21, 30, 31, 32, 33, 34, 35, 36, 37, 38, 39, 40, 41, 42, 43]
theorem rm_cg {f g : Nat → Int32} {P : Pg_} (hW : Wf_ P) (h : ∀ l, l < 150 → f l = g l) (hm : Rm_ g P) : Rm_ f P := by
  intro i hi
  have hN := hW.1
  have hL := (hW.2 i hi).2.1
  have hL3 := (hW.2 i hi).2.2.2.2.2
  obtain ⟨a0, a1, a2, a3, a4, a5, a6, a7, a8, a9, a10⟩ := hm i hi
  rw [h _ (by omega), h _ (by omega), h _ (by omega), h _ (by omega), h _ (by omega), h _ (by omega)]
  refine ⟨a0, a1, a2, a3, a4, a5, a6, a7, fun ht j hj => ?_, a9, fun j hj => ?_⟩
  · have := (hL3 ht).1
    rw [h _ (by omega)]
    exact a8 ht j hj
  · rw [h _ (by omega)]
    exact a10 j hj
theorem m_layNodes {P : Pg_} (hW : Wf_ P) {o : Ob_T} (hm : Rm_ (o_A o 0) P) (h2 : o_F o 2 = nI (g_N P)) : ∃ o', f_X9_layNodes o = some o' ∧ Rm_ (o_A o' 1) P ∧ o_F o' 3 = nI (g_N P) ∧ (∀ l, l < 150 → o_A o' 1 l = o_A o 0 l) ∧ Fr_ [1, 3] o o' := by
  have key : ∃ o1, f_X9_layNodes o = some (p_F o1 3 (o_F o1 2)) ∧ (∀ l, l < 150 → o_A o1 1 l = o_A o 0 l) ∧ Fr_ [1] o o1 := by
    unfold f_X9_layNodes
    refine lp_fu (P := fun r => ∃ o1, r = some (p_F o1 3 (o_F o1 2)) ∧ (∀ l, l < 150 → o_A o1 1 l = o_A o 0 l) ∧ Fr_ [1] o o1)
      (fun n x => ∃ i o1, i ≤ 150 ∧ n = 150 - i + 1 ∧ x = (nI i, o1) ∧ (∀ l, l < i → o_A o1 1 l = o_A o 0 l) ∧ Fr_ [1] o o1) ?_ ?_ (150 - 0 + 1) _ ⟨0, o, by omega, rfl, rfl, fun l hl => absurd hl (by omega), fr_rf _ _⟩ (by omega)
    · rintro x ⟨i, o1, h1, h2, -⟩
      omega
    · rintro n x rec ⟨i, o1, h1, h2, rfl, hA, hF⟩ hr
      unfold f_X9_layNodes_L2
      dsimp only
      by_cases he : i = 150
      · subst he
        rw [if_pos (show (150 : Int32) ≤ nI 150 from Int32.le_refl _), Lt_E]
        exact ⟨o1, rfl, hA, hF⟩
      · rw [if_neg (show ¬ (150 : Int32) ≤ nI i from nI_ge (b := 150) (by omega) (by omega)), ld_nI (by omega) (by omega), Option.bind_some, st_nI (by omega) (by omega), Option.bind_some]
        refine hr _ ⟨i + 1, p_A o1 1 (upd (o_A o1 1) i (o_A o1 0 i)), by omega, by omega, by rw [nI_1], fun l hl => ?_, fr_tr hF (fr_pA (by decide))⟩
        show upd (o_A o1 1) i (o_A o1 0 i) l = _
        rw [updE]
        by_cases hli : l = i
        · rw [if_pos hli, hli, (hF 0 (by decide)).2]
        · rw [if_neg hli]; exact hA l (by omega)
  obtain ⟨o1, e1, h1, F1⟩ := key
  refine ⟨_, e1, rm_cg hW h1 hm, ?_, h1, fr_tr (fr_mono F1 (by decide)) (fr_pF (by decide))⟩
  show o_F o1 2 = _
  rw [(F1 2 (by decide)).1]; exact h2
theorem m_by (o : Ob_T) (k29 : Ob_T → Option Ob_T) : ∃ o', Lp_ (fun (rec : (Int32 × Ob_T) → Option Ob_T) x => f_X9_solveNow_L6 k29 rec x.1 x.2) FU_ (0, o) = k29 o' ∧ (∀ l, l < 4 → o_A o' 33 l = o_A o 4 l) ∧ Fr_ [33] o o' := by
  refine lp_fu (P := fun r => ∃ o', r = k29 o' ∧ (∀ l, l < 4 → o_A o' 33 l = o_A o 4 l) ∧ Fr_ [33] o o')
    (fun n x => ∃ i o1, i ≤ 4 ∧ n = 4 - i + 1 ∧ x = (nI i, o1) ∧ (∀ l, l < i → o_A o1 33 l = o_A o 4 l) ∧ Fr_ [33] o o1) ?_ ?_ (4 - 0 + 1) _ ⟨0, o, by omega, rfl, rfl, fun l hl => absurd hl (by omega), fr_rf _ _⟩ (by omega)
  · rintro x ⟨i, o1, h1, h2, -⟩
    omega
  · rintro n x rec ⟨i, o1, h1, h2, rfl, hA, hF⟩ hr
    unfold f_X9_solveNow_L6
    dsimp only
    by_cases he : i = 4
    · subst he
      rw [if_pos (show (4 : Int32) ≤ nI 4 from Int32.le_refl _)]
      exact ⟨o1, rfl, hA, hF⟩
    · rw [if_neg (show ¬ (4 : Int32) ≤ nI i from nI_ge (b := 4) (by omega) (by omega)), ld_nI (by omega) (by omega), Option.bind_some, st_nI (by omega) (by omega), Option.bind_some]
      refine hr _ ⟨i + 1, p_A o1 33 (upd (o_A o1 33) i (o_A o1 4 i)), by omega, by omega, by rw [nI_1], fun l hl => ?_, fr_tr hF (fr_pA (by decide))⟩
      show upd (o_A o1 33) i (o_A o1 4 i) l = _
      rw [updE]
      by_cases hli : l = i
      · rw [if_pos hli, hli, (hF 4 (by decide)).2]
      · rw [if_neg hli]; exact hA l (by omega)
theorem v0_cg {a b : Nat → Int32} (h : ∀ l, l < 4 → a l = b l) : v0_ a = v0_ b := by
  funext l
  unfold v0_
  by_cases c : l < 4
  · rw [h l c]
  · rw [if_neg (fun z => c z.1), if_neg (fun z => c z.1)]
theorem MA_cg {P : Pg_} {a b : Nat → Int32} (h : ∀ l, l < 4 → a l = b l) : MA_ P a = MA_ P b := by unfold MA_; rw [v0_cg h]
theorem SO_cg {P : Pg_} {a b : Nat → Int32} (h : ∀ l, l < 4 → a l = b l) : SO_ P a = SO_ P b := by unfold SO_; rw [MA_cg h]
/-- the reference solves now -/
theorem m_now {P : Pg_} (hW : Wf_ P) {o : Ob_T} (hm : Rm_ (o_A o 0) P) (h2 : o_F o 2 = nI (g_N P)) (hg : ∀ l, l < 4 → gv_ok (o_A o 4 l)) : ∃ o', f_X9_solveNow o = some o' ∧ Rso_ o' (SO_ P (o_A o 4)) ∧ Rm_ (o_A o' 1) P ∧ o_F o' 3 = nI (g_N P) ∧ (∀ l, l < 4 → o_A o' 33 l = o_A o 4 l) ∧ Fr_ WK_ o o' := by
  obtain ⟨o1, e1, hm1, h31, -, F1⟩ := m_layNodes hW hm h2
  obtain ⟨o2, e2, h2', F2⟩ := m_by o1 (fun t_o => f_X9_solveNow_J29 t_o)
  have hm2 : Rm_ (o_A o2 1) P := by rw [(F2 1 (by decide)).2]; exact hm1
  have h32 : o_F o2 3 = nI (g_N P) := by rw [(F2 3 (by decide)).1]; exact h31
  have hb : ∀ l, l < 4 → o_A o2 33 l = o_A o 4 l := fun l hl => by rw [h2' l hl, (F1 4 (by decide)).2]
  obtain ⟨o3, e3, hR3, F3⟩ := m_solve hW hm2 h32 (fun l hl => by rw [hb l hl]; exact hg l hl)
  unfold f_X9_solveNow
  rw [e1, Option.bind_some, e2]
  unfold f_X9_solveNow_J29
  rw [e3, Option.bind_some]
  refine ⟨o3, rfl, ?_, ?_, ?_, fun l hl => ?_, fr_tr (fr_mono F1 (by decide)) (fr_tr (fr_mono F2 (by decide)) (fr_mono F3 (by decide)))⟩
  · rw [← SO_cg hb]; exact hR3
  · rw [(F3 1 (by decide)).2]; exact hm2
  · rw [(F3 3 (by decide)).1]; exact h32
  · rw [(F3 33 (by decide)).2]; exact hb l hl
/-- the class: what it solved holds as long as its flag stands -/
def Rc_ (x v : Ob_T) (P : Pg_) (gv : Nat → Int32) : Prop := o_F x 9 = 0 ∨ (o_F x 9 = 1 ∧ Rsv_ v (SO_ P gv))
theorem x_now {P : Pg_} (hW : Wf_ P) {x n v d g : Ob_T} (hn : Rn_ n P) (hg : ∀ l, l < 4 → gv_ok (o_A g 0 l)) (hc : Rc_ x v P (o_A g 0)) : ∃ x' v' d', f_X8_solveNow x n v d g = some (x', v', d') ∧ o_F x' 9 = 1 ∧ o_F x' 10 = o_F x 10 ∧ Rsv_ v' (SO_ P (o_A g 0)) := by
  unfold f_X8_solveNow
  rcases hc with h0 | ⟨h1, hR⟩
  · rw [h0, if_pos rfl]
    unfold f_X0_numbers
    rw [Option.bind_some]
    obtain ⟨v', d', e, hR⟩ := x_solve hW hn v d hg
    rw [e, Option.bind_some, Lt_E]
    exact ⟨_, _, _, rfl, rfl, rfl, hR⟩
  · rw [h1, if_neg n_10]
    exact ⟨x, v, d, rfl, h1, rfl, hR⟩
