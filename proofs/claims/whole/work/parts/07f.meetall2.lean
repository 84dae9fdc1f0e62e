/-- at first each letter is by itself, a given one is that number -/
def v0_ (gv : Nat → Int32) : Nat → Nat := fun l => if l < 4 ∧ ¬ gv l = -1 then (gv l).toNatClampNeg else 20000 + l
theorem v0_rs {gv al is : Nat → Int32} (hg : ∀ l, l < 4 → gv_ok (gv l)) (h : ∀ l, l < 14 → al l = nI l ∧ is l = if l < 4 then gv l else -1) : Rs_ al is (v0_ gv) := by
  refine ⟨fun l => l, fun l hl => ⟨Nat.le_refl _, rfl, (h l hl).1⟩, fun l hl => ?_⟩
  have h2 := (h l hl).2
  unfold v0_
  by_cases h4 : l < 4
  · rw [if_pos h4] at h2
    rcases hg l h4 with e | ⟨k, hk, e⟩
    · left
      exact ⟨h2.trans e, by rw [if_neg (fun z => z.2 e)]⟩
    · right
      refine ⟨k, by omega, h2.trans e, ?_⟩
      rw [if_pos ⟨h4, by rw [e]; exact nI_nm1 (by omega)⟩, e, nI_clamp (by omega)]
  · rw [if_neg h4] at h2
    left
    exact ⟨h2, by rw [if_neg (fun z => h4 z.1)]⟩
theorem m_init (o : Ob_T) (k42 : Ob_T → Option Ob_T) : ∃ o', Lp_ (fun (rec : (Int32 × Ob_T) → Option Ob_T) x => f_X9_solve_L2 k42 rec x.1 x.2) FU_ (0, o) = k42 o' ∧ (∀ l, l < 14 → o_A o' 31 l = nI l ∧ o_A o' 32 l = if l < 4 then o_A o 33 l else -1) ∧ Fr_ [31, 32] o o' := by
  refine lp_fu (P := fun r => ∃ o', r = k42 o' ∧ (∀ l, l < 14 → o_A o' 31 l = nI l ∧ o_A o' 32 l = if l < 4 then o_A o 33 l else -1) ∧ Fr_ [31, 32] o o')
    (fun n x => ∃ i o1, i ≤ 14 ∧ n = 14 - i + 1 ∧ x = (nI i, o1) ∧ (∀ l, l < i → o_A o1 31 l = nI l ∧ o_A o1 32 l = if l < 4 then o_A o 33 l else -1) ∧ Fr_ [31, 32] o o1) ?_ ?_ (14 - 0 + 1) _ ⟨0, o, by omega, rfl, rfl, fun l hl => absurd hl (by omega), fr_rf _ _⟩ (by omega)
  · rintro x ⟨i, o1, h1, h2, -⟩
    omega
  · rintro n x rec ⟨i, o1, h1, h2, rfl, hA, hF⟩ hr
    unfold f_X9_solve_L2
    dsimp only
    by_cases he : i = 14
    · subst he
      rw [if_pos (show (14 : Int32) ≤ nI 14 from Int32.le_refl _)]
      exact ⟨o1, rfl, hA, hF⟩
    · rw [if_neg (show ¬ (14 : Int32) ≤ nI i from nI_ge (b := 14) (by omega) (by omega)), st_nI (by omega) (by omega), Option.bind_some]
      have step : ∀ w : Int32, (w = if i < 4 then o_A o 33 i else -1) → ∃ o', f_X9_solve_J35 rec (nI i) (nI i) w (p_A o1 31 (upd (o_A o1 31) i (nI i))) = k42 o' ∧ (∀ l, l < 14 → o_A o' 31 l = nI l ∧ o_A o' 32 l = if l < 4 then o_A o 33 l else -1) ∧ Fr_ [31, 32] o o' := by
        intro w hw
        unfold f_X9_solve_J35
        rw [st_nI (by omega) (by omega), Option.bind_some]
        refine hr _ ⟨i + 1, _, by omega, by omega, by rw [nI_1], fun l hl => ?_, fr_tr hF (fr_tr (fr_pA (by decide)) (fr_pA (by decide)))⟩
        simp only [oA_pA]
        simp only [↓reduceIte, Nat.reduceEqDiff, updE]
        by_cases hli : l = i
        · subst hli
          rw [if_pos rfl, if_pos rfl]
          exact ⟨rfl, hw⟩
        · simp only [if_neg hli]
          exact hA l (by omega)
      by_cases h4 : i < 4
      · rw [if_neg (show ¬ (4 : Int32) ≤ nI i from nI_ge (b := 4) (by omega) (by omega)), oA_pA, if_neg (by decide), ld_nI h4 (by omega), Option.bind_some]
        refine step _ ?_
        rw [if_pos h4, (hF 33 (by decide)).2]
      · rw [if_pos (show (4 : Int32) ≤ nI i from nI_le (a := 4) (by omega) (by omega))]
        exact step _ (by rw [if_neg h4])
theorem x_init (v n : Ob_T) (gv : Nat → Int32) (k43 : Ob_T → Option Ob_T) : ∃ v', Lp_ (fun (rec : (Int32 × Ob_T) → Option Ob_T) x => f_X5_meetAll_L6 k43 rec x.1 x.2 n gv 4) FU_ (0, v) = k43 v' ∧ (∀ l, l < 14 → o_A v' 2 l = nI l ∧ o_A v' 3 l = if l < 4 then gv l else -1) ∧ Fr_ [2, 3] v v' := by
  refine lp_fu (P := fun r => ∃ v', r = k43 v' ∧ (∀ l, l < 14 → o_A v' 2 l = nI l ∧ o_A v' 3 l = if l < 4 then gv l else -1) ∧ Fr_ [2, 3] v v')
    (fun n x => ∃ i v1, i ≤ 14 ∧ n = 14 - i + 1 ∧ x = (nI i, v1) ∧ (∀ l, l < i → o_A v1 2 l = nI l ∧ o_A v1 3 l = if l < 4 then gv l else -1) ∧ Fr_ [2, 3] v v1) ?_ ?_ (14 - 0 + 1) _ ⟨0, v, by omega, rfl, rfl, fun l hl => absurd hl (by omega), fr_rf _ _⟩ (by omega)
  · rintro x ⟨i, v1, h1, h2, -⟩
    omega
  · rintro n' x rec ⟨i, v1, h1, h2, rfl, hA, hF⟩ hr
    unfold f_X5_meetAll_L6
    dsimp only
    by_cases he : i = 14
    · subst he
      rw [if_pos (show (14 : Int32) ≤ nI 14 from Int32.le_refl _)]
      exact ⟨v1, rfl, hA, hF⟩
    · rw [if_neg (show ¬ (14 : Int32) ≤ nI i from nI_ge (b := 14) (by omega) (by omega)), st_nI (by omega) (by omega), Option.bind_some]
      have step : ∀ w : Int32, (w = if i < 4 then gv i else -1) → ∃ v', f_X5_meetAll_J36 rec (nI i) (nI i) w (p_A v1 2 (upd (o_A v1 2) i (nI i))) n gv 4 = k43 v' ∧ (∀ l, l < 14 → o_A v' 2 l = nI l ∧ o_A v' 3 l = if l < 4 then gv l else -1) ∧ Fr_ [2, 3] v v' := by
        intro w hw
        unfold f_X5_meetAll_J36
        rw [st_nI (by omega) (by omega), Option.bind_some]
        refine hr _ ⟨i + 1, _, by omega, by omega, by rw [nI_1], fun l hl => ?_, fr_tr hF (fr_tr (fr_pA (by decide)) (fr_pA (by decide)))⟩
        simp only [oA_pA]
        simp only [↓reduceIte, Nat.reduceEqDiff, updE]
        by_cases hli : l = i
        · subst hli
          rw [if_pos rfl, if_pos rfl]
          exact ⟨rfl, hw⟩
        · simp only [if_neg hli]
          exact hA l (by omega)
      by_cases h4 : i < 4
      · rw [if_neg (show ¬ (4 : Int32) ≤ nI i from nI_ge (b := 4) (by omega) (by omega)), ld_nI h4 (by omega), Option.bind_some]
        exact step _ (by rw [if_pos h4])
      · rw [if_pos (show (4 : Int32) ≤ nI i from nI_le (a := 4) (by omega) (by omega))]
        exact step _ (by rw [if_neg h4])
theorem x_clearFail (v : Ob_T) : ∃ v', f_X5_clearFail v = some v' ∧ (∀ k, k < 5 → o_A v' 5 k = -1) ∧ o_F v' 6 = 0 ∧ Fr_ [5, 6] v v' := by
  unfold f_X5_clearFail
  rw [Lt_E]
  refine lp_fu (P := fun r => ∃ v', r = some v' ∧ (∀ k, k < 5 → o_A v' 5 k = -1) ∧ o_F v' 6 = 0 ∧ Fr_ [5, 6] v v')
    (fun n x => ∃ i v1, i ≤ 5 ∧ n = 5 - i + 1 ∧ x = (nI i, v1) ∧ (∀ k, k < i → o_A v1 5 k = -1) ∧ o_F v1 6 = 0 ∧ Fr_ [5, 6] v v1) ?_ ?_ (5 - 0 + 1) _ ⟨0, _, by omega, rfl, rfl, fun l hl => absurd hl (by omega), rfl, fr_pF (by decide)⟩ (by omega)
  · rintro x ⟨i, v1, h1, h2, -⟩
    omega
  · rintro n x rec ⟨i, v1, h1, h2, rfl, hA, h6, hF⟩ hr
    unfold f_X5_clearFail_L7
    dsimp only
    by_cases he : i = 5
    · subst he
      rw [if_pos (show (5 : Int32) ≤ nI 5 from Int32.le_refl _)]
      exact ⟨v1, rfl, hA, h6, hF⟩
    · rw [if_neg (show ¬ (5 : Int32) ≤ nI i from nI_ge (b := 5) (by omega) (by omega)), st_nI (by omega) (by omega), Option.bind_some]
      refine hr _ ⟨i + 1, p_A v1 5 (upd (o_A v1 5) i (-1)), by omega, by omega, by rw [nI_1], fun k hk => ?_, h6, fr_tr hF (fr_pA (by decide))⟩
      simp only [oA_pA, updE, if_true]
      by_cases hki : k = i
      · rw [if_pos hki]
      · rw [if_neg hki]; exact hA k (by omega)
/-- all that must be equal, met -/
def MA_ (P : Pg_) (gv : Nat → Int32) : Sv_ := mal_ P (g_N P) 0 (v0_ gv, [])
theorem m_mall {P : Pg_} (hW : Wf_ P) {o : Ob_T} (hm : Rm_ (o_A o 1) P) (h3 : o_F o 3 = nI (g_N P)) {S : Sv_} (hR : Rso_ o S) (k105 : Ob_T → Option Ob_T) : ∃ o', Lp_ (fun (rec : (Int32 × Ob_T) → Option Ob_T) x => f_X9_solve_L49 k105 rec x.1 x.2) FU_ (0, o) = k105 o' ∧ Rso_ o' (mal_ P (g_N P) 0 S) ∧ Fr_ SF_ o o' := by
  have hN := hW.1
  refine lp_fu (P := fun r => ∃ o', r = k105 o' ∧ Rso_ o' (mal_ P (g_N P) 0 S) ∧ Fr_ SF_ o o')
    (fun n x => ∃ c i o1 S1, n = c + 1 ∧ i + c = g_N P ∧ x = (nI i, o1) ∧ Rso_ o1 S1 ∧ mal_ P c i S1 = mal_ P (g_N P) 0 S ∧ Fr_ SF_ o o1) ?_ ?_ (g_N P + 1) _ ⟨g_N P, 0, o, S, rfl, by omega, rfl, hR, rfl, fr_rf _ _⟩ (by omega)
  · rintro x ⟨c, k, o1, S1, z, -⟩
    omega
  · rintro n x rec ⟨c, i, o1, S1, hn, hk, rfl, hR1, hS1, hF1⟩ hr'
    unfold f_X9_solve_L49
    dsimp only
    have hm1 : Rm_ (o_A o1 1) P := by rw [(hF1 1 (by decide)).2]; exact hm
    rw [show o_F o1 3 = nI (g_N P) from by rw [(hF1 3 (by decide)).1]; exact h3]
    match c, hn, hk, hS1 with
    | 0, hn, hk, hS1 =>
      rw [if_pos (nI_le (by omega) (by omega))]
      exact ⟨o1, rfl, by rw [← hS1]; exact hR1, hF1⟩
    | c + 1, hn, hk, hS1 =>
      have hi : i < g_N P := by omega
      rw [if_neg (nI_ge (by omega) (by omega))]
      by_cases hf : S1.2 = []
      · rw [if_pos (rso_f0 hR1 hf), l_K hm1 hN hi, Option.bind_some, Option.bind_some]
        by_cases h2 : g_K P i = 1 ∨ g_K P i = 2
        · obtain ⟨o2, e2, hR2, hF2⟩ := m_meetBoth hW ⟨hi, h2⟩ hm1 hR1
          have e3 : f_X9_solve_J94 rec (nI i) o1 = rec (nI i + 1, o2) := by
            unfold f_X9_solve_J94
            rw [e2, Option.bind_some]
          have fin := hr' (nI i + 1, o2) ⟨c, i + 1, o2, _, by omega, by omega, by rw [nI_1], hR2, hS1, fr_tr hF1 hF2⟩
          rw [e3]
          rcases h2 with z | z
          · rw [z, if_pos (by decide)]; exact fin
          · rw [z, if_neg (by decide), if_pos (by decide)]; exact fin
        · have hK := (hW.2 i hi).1
          rw [if_neg (show ¬ nI (g_K P i) = 1 from fun z => h2 (Or.inl ((nI_eq (b := 1) (by omega) (by omega)).mp z))), if_neg (show ¬ nI (g_K P i) = 2 from fun z => h2 (Or.inr ((nI_eq (b := 2) (by omega) (by omega)).mp z)))]
          refine hr' _ ⟨c, i + 1, o1, S1, by omega, by omega, by rw [nI_1], hR1, ?_, hF1⟩
          rw [← hS1]
          show _ = mal_ P c (i + 1) (mnd_ P i S1)
          unfold mnd_
          rw [if_neg h2]
      · rw [if_neg (by rw [rso_f1 hR1 hf]; decide)]
        exact ⟨o1, rfl, by rw [← hS1, mal_f _ _ _ hf]; exact hR1, hF1⟩
theorem x_mall {P : Pg_} (hW : Wf_ P) {v n : Ob_T} (hn : Rn_ n P) {S : Sv_} (hR : Rsv_ v S) (gv : Nat → Int32) (k108 : Ob_T → Option Ob_T) : ∃ v', Lp_ (fun (rec : (Int32 × Ob_T) → Option Ob_T) x => f_X5_meetAll_L45 k108 rec x.1 x.2 n gv 4) FU_ (0, v) = k108 v' ∧ Rsv_ v' (mal_ P (g_N P) 0 S) ∧ Fr_ SG_ v v' := by
  have hN := hW.1
  refine lp_fu (P := fun r => ∃ v', r = k108 v' ∧ Rsv_ v' (mal_ P (g_N P) 0 S) ∧ Fr_ SG_ v v')
    (fun n x => ∃ c i v1 S1, n = c + 1 ∧ i + c = g_N P ∧ x = (nI i, v1) ∧ Rsv_ v1 S1 ∧ mal_ P c i S1 = mal_ P (g_N P) 0 S ∧ Fr_ SG_ v v1) ?_ ?_ (g_N P + 1) _ ⟨g_N P, 0, v, S, rfl, by omega, rfl, hR, rfl, fr_rf _ _⟩ (by omega)
  · rintro x ⟨c, k, o1, S1, z, -⟩
    omega
  · rintro n' x rec ⟨c, i, v1, S1, hn', hk, rfl, hR1, hS1, hF1⟩ hr'
    unfold f_X5_meetAll_L45 f_X1_size
    dsimp only
    rw [Option.bind_some, hn.1]
    match c, hn', hk, hS1 with
    | 0, hn', hk, hS1 =>
      rw [if_pos (nI_le (by omega) (by omega))]
      exact ⟨v1, rfl, by rw [← hS1]; exact hR1, hF1⟩
    | c + 1, hn', hk, hS1 =>
      have hi : i < g_N P := by omega
      rw [if_neg (nI_ge (by omega) (by omega)), x_failed hR1, Option.bind_some]
      by_cases hf : S1.2 = []
      · rw [if_pos (by rw [if_pos hf]), x_K hn hN hi, Option.bind_some]
        by_cases h2 : g_K P i = 1 ∨ g_K P i = 2
        · obtain ⟨v2, e2, hR2, hF2⟩ := x_mbF hW ⟨hi, h2⟩ hn hR1
          obtain ⟨v3, e3, hR3, hF3⟩ := x_mbC hW (c0 := g_K P i - 1) ⟨hi, h2⟩ hn hR2 (by rcases h2 with z | z <;> omega)
          have e4 : f_X5_meetAll_J82 rec (nI i) (nI (g_K P i)) v1 n gv 4 = rec (nI i + 1, v3) := by
            unfold f_X5_meetAll_J82 f_X5_meetAll_J99
            rw [e2, Option.bind_some]
            rcases h2 with z | z
            · rw [z] at e3 ⊢
              rw [if_neg (by decide), show f_X5_meetCells v2 n (nI i) 0 = some v3 from e3, Option.bind_some]
            · rw [z] at e3 ⊢
              rw [if_pos (by decide), show f_X5_meetCells v2 n (nI i) 1 = some v3 from e3, Option.bind_some]
          have fin := hr' (nI i + 1, v3) ⟨c, i + 1, v3, mnd_ P i S1, by omega, by omega, by rw [nI_1], by unfold mnd_; rw [if_pos h2]; exact hR3, hS1, fr_tr hF1 (fr_tr hF2 hF3)⟩
          rw [e4]
          rcases h2 with z | z
          · rw [z, if_pos (by decide)]; exact fin
          · rw [z, if_neg (by decide), if_pos (by decide)]; exact fin
        · have hK := (hW.2 i hi).1
          rw [if_neg (show ¬ nI (g_K P i) = 1 from fun z => h2 (Or.inl ((nI_eq (b := 1) (by omega) (by omega)).mp z))), if_neg (show ¬ nI (g_K P i) = 2 from fun z => h2 (Or.inr ((nI_eq (b := 2) (by omega) (by omega)).mp z)))]
          refine hr' _ ⟨c, i + 1, v1, S1, by omega, by omega, by rw [nI_1], hR1, ?_, hF1⟩
          rw [← hS1]
          show _ = mal_ P c (i + 1) (mnd_ P i S1)
          unfold mnd_
          rw [if_neg h2]
      · rw [if_neg (by rw [if_neg hf]; decide)]
        exact ⟨v1, rfl, by rw [← hS1, mal_f _ _ _ hf]; exact hR1, hF1⟩
/-- the class's meetAll: all is met, and the numbers found are kept -/
theorem x_meetAll {P : Pg_} (hW : Wf_ P) {n : Ob_T} (hn : Rn_ n P) (v : Ob_T) {gv : Nat → Int32} (hg : ∀ l, l < 4 → gv_ok (gv l)) : ∃ v', f_X5_meetAll v n gv 4 = some v' ∧ Rsv_ v' (MA_ P gv) ∧ (∀ l, l < 14 → o_A v' 4 l = o_A v' 3 l) ∧ o_F v' 6 = 0 := by
  obtain ⟨v1, e1, f1, g1, -⟩ := x_clearFail v
  obtain ⟨v2, e2, f2, F2⟩ := x_init v1 n gv (fun t_v => f_X5_meetAll_J43 t_v n gv 4)
  have hR2 : Rsv_ v2 (v0_ gv, []) := ⟨v0_rs hg f2, Or.inl ⟨rfl, fun k hk => by rw [(F2 5 (by decide)).2]; exact f1 k hk⟩⟩
  obtain ⟨v3, e3, hR3, F3⟩ := x_mall hW hn hR2 gv (fun t_v => f_X5_meetAll_J108 t_v n gv 4)
  have e4 : f_X5_meetAll_J108 v3 n gv 4 = some (p_A v3 4 (va_cpy (o_A v3 3) (o_A v3 4) 0 0 14)) := by
    unfold f_X5_meetAll_J108
    rw [show cp_I (o_A v3 3) (o_A v3 4) 14 14 0 0 14 = some (va_cpy (o_A v3 3) (o_A v3 4) 0 0 14) from cp_nI (a := 0) (b := 0) (c := 14) (by omega) (by omega) (by omega) (by omega), Option.bind_some, Lt_E]
  unfold f_X5_meetAll
  rw [e1, Option.bind_some]
  refine ⟨_, (e2.trans (show f_X5_meetAll_J43 v2 n gv 4 = _ from (show f_X5_meetAll_J43 v2 n gv 4 = _ from e3).trans e4)), ⟨hR3.1, hR3.2⟩, fun l hl => ?_, ?_⟩
  · show va_cpy (o_A v3 3) (o_A v3 4) 0 0 14 l = o_A v3 3 l
    have := cpy_in (f := o_A v3 3) (g := o_A v3 4) (a := 0) (b := 0) (c := 14) hl
    rw [Nat.zero_add] at this
    exact this
  · show o_F v3 6 = 0
    rw [(F3 6 (by decide)).1, (F2 6 (by decide)).1, g1]
