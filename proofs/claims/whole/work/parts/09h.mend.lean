section
variable {P : Pg_} {x n v d g o : Ob_T}
/-- told so, all holds -/
def Ok_ (P : Pg_) (gv : Nat → Int32) (a b k : Nat) : Prop := (SO_ (md_ P a b k) gv).2 = []
theorem x_digit (hW : Wf_ P) (hn : Rn_ n P) (hg : ∀ l, l < 4 → gv_ok (o_A g 0 l)) {a b : Nat} (ha : a < g_N P) (ht : td_ P a) (hb : b < g_L P a) (x n2 v2 d2 : Ob_T) : ∃ n2' v2' d2', ((∀ k, k < 10 → ¬ Ok_ P (o_A g 0) a b k) ∧ f_X8_mendingDigit x n n2 v2 d2 g (nI a) (nI b) = some (-1, n2', v2', d2')) ∨ ∃ k, k < 10 ∧ Ok_ P (o_A g 0) a b k ∧ (∀ k', k' < k → ¬ Ok_ P (o_A g 0) a b k') ∧ f_X8_mendingDigit x n n2 v2 d2 g (nI a) (nI b) = some (nI k, n2', v2', d2') := by
  unfold f_X8_mendingDigit
  refine lp_fu (P := fun r => ∃ n2' v2' d2', ((∀ k, k < 10 → ¬ Ok_ P (o_A g 0) a b k) ∧ r = some (-1, n2', v2', d2')) ∨ ∃ k, k < 10 ∧ Ok_ P (o_A g 0) a b k ∧ (∀ k', k' < k → ¬ Ok_ P (o_A g 0) a b k') ∧ r = some (nI k, n2', v2', d2')) (fun m x => ∃ k n3 v3 d3, k ≤ 10 ∧ m = 10 - k + 1 ∧ x = (nI a, nI b, nI k, n3, v3, d3) ∧ ∀ k', k' < k → ¬ Ok_ P (o_A g 0) a b k') ?_ ?_ (10 - 0 + 1) _ ⟨0, n2, v2, d2, by omega, rfl, rfl, fun k' hk' => by omega⟩ (by omega)
  · rintro x ⟨k, n3, v3, d3, h1, h2, -⟩
    omega
  · rintro m x rec ⟨k, n3, v3, d3, hk, hm, rfl, hno⟩ hr
    unfold f_X8_mendingDigit_L2
    dsimp only
    by_cases he : k = 10
    · subst he
      rw [if_pos (show (9 : Int32) < nI 10 by decide)]
      exact ⟨n3, v3, d3, Or.inl ⟨hno, rfl⟩⟩
    · rw [if_neg (show ¬ (9 : Int32) < nI k from fun z => by have := (nI_ltI (a := 9) (by omega) (by omega)).mp z; omega)]
      obtain ⟨n4, n5, e1, e2, hn5⟩ := x_mended hW hn n3 ha ht hb (d := k) (by omega)
      rw [e1, Option.bind_some, e2, Option.bind_some]
      unfold f_X0_numbers
      rw [Option.bind_some]
      obtain ⟨v', d', e3, hR⟩ := x_solve (md_wf hW ha ht (by omega)) hn5 v3 d3 hg
      rw [e3, Option.bind_some, x_failed hR, Option.bind_some]
      by_cases c : Ok_ P (o_A g 0) a b k
      · rw [if_pos (show (SO_ (md_ P a b k) (o_A g 0)).2 = [] from c), if_pos rfl]
        exact ⟨n5, v', d', Or.inr ⟨k, by omega, c, hno, rfl⟩⟩
      · rw [if_neg (show ¬ (SO_ (md_ P a b k) (o_A g 0)).2 = [] from c), if_neg n_10]
        refine hr _ ⟨k + 1, n5, v', d', by omega, by omega, by rw [nI_1], fun k' hk' => ?_⟩
        by_cases e : k' = k
        · subst e; exact c
        · exact hno k' (by omega)
theorem m_digit (hW : Wf_ P) (hm : Rm_ (o_A o 0) P) (h2 : o_F o 2 = nI (g_N P)) {gv : Nat → Int32} (hg : ∀ l, l < 4 → gv_ok (gv l)) {a b : Nat} (ha : a < g_N P) (ht : td_ P a) (hb : b < g_L P a) (rec25 : (Int32 × Int32 × Ob_T) → Option (Int32 × Ob_T)) {o1 : Ob_T} (F1 : Fr_ WK_ o o1) (h33 : ∀ l, l < 4 → o_A o1 33 l = gv l) : ∃ o2, Fr_ WK_ o o2 ∧ (∀ l, l < 4 → o_A o2 33 l = gv l) ∧ (((∀ k, k < 10 → ¬ Ok_ P gv a b k) ∧ Lp_ (fun (rec : (Int32 × Int32 × Int32 × Ob_T) → Option (Int32 × Ob_T)) x => f_X9_mend_L42 rec25 rec x.1 x.2.1 x.2.2.1 x.2.2.2) FU_ (nI a, nI b, 0, o1) = rec25 (nI a, nI b + 1, o2)) ∨ ∃ k, k < 10 ∧ Ok_ P gv a b k ∧ (∀ k', k' < k → ¬ Ok_ P gv a b k') ∧ Lp_ (fun (rec : (Int32 × Int32 × Int32 × Ob_T) → Option (Int32 × Ob_T)) x => f_X9_mend_L42 rec25 rec x.1 x.2.1 x.2.2.1 x.2.2.2) FU_ (nI a, nI b, 0, o1) = some (100 * nI a + 10 * nI b + nI k, o2)) := by
  refine lp_fu (P := fun r => ∃ o2, Fr_ WK_ o o2 ∧ (∀ l, l < 4 → o_A o2 33 l = gv l) ∧ (((∀ k, k < 10 → ¬ Ok_ P gv a b k) ∧ r = rec25 (nI a, nI b + 1, o2)) ∨ ∃ k, k < 10 ∧ Ok_ P gv a b k ∧ (∀ k', k' < k → ¬ Ok_ P gv a b k') ∧ r = some (100 * nI a + 10 * nI b + nI k, o2))) (fun m x => ∃ k o2, k ≤ 10 ∧ m = 10 - k + 1 ∧ x = (nI a, nI b, nI k, o2) ∧ Fr_ WK_ o o2 ∧ (∀ l, l < 4 → o_A o2 33 l = gv l) ∧ ∀ k', k' < k → ¬ Ok_ P gv a b k') ?_ ?_ (10 - 0 + 1) _ ⟨0, o1, by omega, rfl, rfl, F1, h33, fun k' hk' => by omega⟩ (by omega)
  · rintro x ⟨k, o2, h1, h2, -⟩
    omega
  · rintro m x rec ⟨k, o2, hk, hmm, rfl, F2, h33', hno⟩ hr
    unfold f_X9_mend_L42
    dsimp only
    by_cases he : k = 10
    · subst he
      rw [if_pos (show (10 : Int32) ≤ nI 10 by decide)]
      exact ⟨o2, F2, h33', Or.inl ⟨hno, rfl⟩⟩
    · rw [if_neg (show ¬ (10 : Int32) ≤ nI k from nI_ge (b := 10) (by omega) (by omega))]
      obtain ⟨o3, e3, F3, b3⟩ := m_mended (o := o2) hW (by rw [(F2 0 (by decide)).2]; exact hm) (by rw [(F2 2 (by decide)).1]; exact h2) (fun l hl => by rw [h33' l hl]; exact hg l hl) ha ht hb (d := k) (by omega)
      rw [e3, Option.bind_some, SO_cg h33']
      have h33'' : ∀ l, l < 4 → o_A o3 33 l = gv l := fun l hl => by rw [b3]; exact h33' l hl
      by_cases c : Ok_ P gv a b k
      · rw [if_pos (show (SO_ (md_ P a b k) gv).2 = [] from c), if_neg n_10]
        exact ⟨o3, fr_tr F2 F3, h33'', Or.inr ⟨k, by omega, c, hno, rfl⟩⟩
      · rw [if_neg (show ¬ (SO_ (md_ P a b k) gv).2 = [] from c), if_pos rfl]
        refine hr _ ⟨k + 1, o3, by omega, by omega, by rw [nI_1], fr_tr F2 F3, h33'', fun k' hk' => ?_⟩
        by_cases e : k' = k
        · subst e; exact c
        · exact hno k' (by omega)
theorem sm_mend (hW : Wf_ P) (hn : Rn_ n P) (hm : Rm_ (o_A o 0) P) (h2 : o_F o 2 = nI (g_N P)) (hgv : R_gv g o) (hc : Rc_ x v P (o_A g 0)) (n2 v2 d2 : Ob_T) : Tr_ (f_X8_mend x n n2 v d v2 d2 g) (fun u => Tr_ (f_X9_mend o) (fun w => u.1 = w.1 ∧ Fr_ WK_ o w.2 ∧ Rc_ u.2.1 u.2.2.2.1 P (o_A g 0) ∧ o_F u.2.1 10 = o_F x 10)) := by
  have hN := hW.1
  have hgo : ∀ l, l < 4 → gv_ok (o_A o 4 l) := fun l hl => (hgv.1 l hl).2
  have hgg : ∀ l, l < 4 → gv_ok (o_A g 0 l) := fun l hl => by rw [(hgv.1 l hl).1]; exact hgo l hl
  have eS : SO_ P (o_A g 0) = SO_ P (o_A o 4) := SO_cg (fun l hl => (hgv.1 l hl).1)
  obtain ⟨x', v', d', e1, q1, q2, q3⟩ := x_now hW hn (d := d) hgg hc
  obtain ⟨o', e2, p1, p2, p3, p4, p5⟩ := m_now hW hm h2 hgo
  have p4' : ∀ l, l < 4 → o_A o' 33 l = o_A g 0 l := fun l hl => by rw [p4 l hl, (hgv.1 l hl).1]
  rw [← eS] at p1
  unfold f_X8_mend f_X9_mend
  rw [e1, Option.bind_some, x_failed q3, Option.bind_some, e2, Option.bind_some]
  by_cases c : (SO_ P (o_A g 0)).2 = []
  · rw [if_pos c, if_pos rfl, rso_f0 p1 c, if_pos rfl]
    exact tr_some (tr_some ⟨rfl, p5, Or.inr ⟨q1, q3⟩, q2⟩)
  · rw [if_neg c, if_neg n_10, rso_f1 p1 c, if_neg n_10]
    -- the nodes, one by one
    have loop : ∀ m fu fu' a o1 n3 v3 d3, m = g_N P - a → a ≤ g_N P → m < fu → m < fu' → Fr_ WK_ o o1 → (∀ l, l < 4 → o_A o1 33 l = o_A g 0 l) → Tr_ (Lp_ (fun (rec : (Int32 × Ob_T × Ob_T × Ob_T × Ob_T × Ob_T × Ob_T) → Option (Int32 × Ob_T × Ob_T × Ob_T × Ob_T × Ob_T × Ob_T)) x => f_X8_mend_L18 rec x.1 x.2.1 x.2.2.1 x.2.2.2.1 x.2.2.2.2.1 x.2.2.2.2.2.1 x.2.2.2.2.2.2 n g) fu (nI a, x', n3, v', d', v3, d3)) (fun u => Tr_ (Lp_ (fun (rec : (Int32 × Ob_T) → Option (Int32 × Ob_T)) x => f_X9_mend_L15 rec x.1 x.2) fu' (nI a, o1)) (fun w => u.1 = w.1 ∧ Fr_ WK_ o w.2 ∧ u.2.1 = x' ∧ u.2.2.2.1 = v')) := by
      intro m
      induction m with
      | zero =>
        intro fu fu' a o1 n3 v3 d3 hma ha hf hf' F1 h33
        obtain ⟨fu, rfl⟩ : ∃ f, fu = f + 1 := ⟨fu - 1, by omega⟩
        obtain ⟨fu', rfl⟩ : ∃ f, fu' = f + 1 := ⟨fu' - 1, by omega⟩
        have : a = g_N P := by omega
        subst this
        rw [Lp_s, Lp_s]
        unfold f_X8_mend_L18 f_X9_mend_L15 f_X1_size
        dsimp only
        rw [hn.1, Option.bind_some, if_pos (Int32.le_refl _), (F1 2 (by decide)).1, h2, if_pos (Int32.le_refl _)]
        exact tr_some (tr_some ⟨rfl, F1, rfl, rfl⟩)
      | succ m ih =>
        intro fu fu' a o1 n3 v3 d3 hma ha hf hf' F1 h33
        obtain ⟨fu, rfl⟩ : ∃ f, fu = f + 1 := ⟨fu - 1, by omega⟩
        obtain ⟨fu', rfl⟩ : ∃ f, fu' = f + 1 := ⟨fu' - 1, by omega⟩
        have ha : a < g_N P := by omega
        have hL6 := (hW.2 a ha).2.1
        rw [Lp_s, Lp_s]
        have ihn := ih fu fu' (a + 1)
        generalize Lp_ (fun (rec : (Int32 × Ob_T × Ob_T × Ob_T × Ob_T × Ob_T × Ob_T) → Option (Int32 × Ob_T × Ob_T × Ob_T × Ob_T × Ob_T × Ob_T)) x => f_X8_mend_L18 rec x.1 x.2.1 x.2.2.1 x.2.2.2.1 x.2.2.2.2.1 x.2.2.2.2.2.1 x.2.2.2.2.2.2 n g) fu = rx at ihn ⊢
        generalize Lp_ (fun (rec : (Int32 × Ob_T) → Option (Int32 × Ob_T)) x => f_X9_mend_L15 rec x.1 x.2) fu' = rm at ihn ⊢
        unfold f_X8_mend_L18 f_X9_mend_L15 f_X1_size
        dsimp only
        rw [hn.1, Option.bind_some, if_neg (nI_ge (by omega) (by omega)), (F1 2 (by decide)).1, h2, if_neg (nI_ge (by omega) (by omega))]
        by_cases ht : td_ P a
        · rw [(x_isTold hW hn ha).1 ht, Option.bind_some, if_neg n_10]
          -- the axes, one by one
          have axl : ∀ m fu fu' b o1 n3 v3 d3, m = g_L P a - b → b ≤ g_L P a → m < fu → m < fu' → Fr_ WK_ o o1 → (∀ l, l < 4 → o_A o1 33 l = o_A g 0 l) → Tr_ (Lp_ (fun (rec : (Int32 × Int32 × Ob_T × Ob_T × Ob_T × Ob_T × Ob_T × Ob_T) → Option (Int32 × Ob_T × Ob_T × Ob_T × Ob_T × Ob_T × Ob_T)) x => f_X8_mend_L45 rx rec x.1 x.2.1 x.2.2.1 x.2.2.2.1 x.2.2.2.2.1 x.2.2.2.2.2.1 x.2.2.2.2.2.2.1 x.2.2.2.2.2.2.2 n g) fu (nI a, nI b, x', n3, v', d', v3, d3)) (fun u => Tr_ (Lp_ (fun (rec : (Int32 × Int32 × Ob_T) → Option (Int32 × Ob_T)) x => f_X9_mend_L25 rm rec x.1 x.2.1 x.2.2) fu' (nI a, nI b, o1)) (fun w => u.1 = w.1 ∧ Fr_ WK_ o w.2 ∧ u.2.1 = x' ∧ u.2.2.2.1 = v')) := by
            intro m'
            induction m' with
            | zero =>
              intro fu fu' b o1 n3 v3 d3 hmb hb hf hf' F1 h33
              obtain ⟨fu, rfl⟩ : ∃ f, fu = f + 1 := ⟨fu - 1, by omega⟩
              obtain ⟨fu', rfl⟩ : ∃ f, fu' = f + 1 := ⟨fu' - 1, by omega⟩
              have : b = g_L P a := by omega
              subst this
              rw [Lp_s, Lp_s]
              unfold f_X8_mend_L45 f_X9_mend_L25
              dsimp only
              rw [x_L hn hN ha, Option.bind_some, if_pos (Int32.le_refl _), (F1 0 (by decide)).2, ld15 (j := 4) (k := 4) rfl (by omega) (by omega), Option.bind_some, (hm a ha).2.2.2.2.2.2.1 ht, if_pos (Int32.le_refl _), nI_1]
              exact ihn o1 n3 v3 d3 (by omega) (by omega) (by omega) (by omega) F1 h33
            | succ m' ih' =>
              intro fu fu' b o1 n3 v3 d3 hmb hb hf hf' F1 h33
              obtain ⟨fu, rfl⟩ : ∃ f, fu = f + 1 := ⟨fu - 1, by omega⟩
              obtain ⟨fu', rfl⟩ : ∃ f, fu' = f + 1 := ⟨fu' - 1, by omega⟩
              have hb : b < g_L P a := by omega
              rw [Lp_s, Lp_s]
              have ihb := ih' fu fu' (b + 1)
              generalize Lp_ (fun (rec : (Int32 × Int32 × Ob_T × Ob_T × Ob_T × Ob_T × Ob_T × Ob_T) → Option (Int32 × Ob_T × Ob_T × Ob_T × Ob_T × Ob_T × Ob_T)) x => f_X8_mend_L45 rx rec x.1 x.2.1 x.2.2.1 x.2.2.2.1 x.2.2.2.2.1 x.2.2.2.2.2.1 x.2.2.2.2.2.2.1 x.2.2.2.2.2.2.2 n g) fu = rx2 at ihb ⊢
              generalize Lp_ (fun (rec : (Int32 × Int32 × Ob_T) → Option (Int32 × Ob_T)) x => f_X9_mend_L25 rm rec x.1 x.2.1 x.2.2) fu' = rm2 at ihb ⊢
              unfold f_X8_mend_L45 f_X9_mend_L25
              dsimp only
              rw [x_L hn hN ha, Option.bind_some, if_neg (nI_ge (by omega) (by omega)), (F1 0 (by decide)).2, ld15 (j := 4) (k := 4) rfl (by omega) (by omega), Option.bind_some, (hm a ha).2.2.2.2.2.2.1 ht, if_neg (nI_ge (by omega) (by omega))]
              obtain ⟨n4, v4, d4, hx⟩ := x_digit hW hn hgg ha ht hb x' n3 v3 d3
              obtain ⟨o2, F2, h33', hmm⟩ := m_digit hW hm h2 hgg ha ht hb rm2 F1 h33
              rcases hx with ⟨no, ex⟩ | ⟨k, hk, ok, lst, ex⟩
              · rcases hmm with ⟨-, em⟩ | ⟨k', hk', ok', -, -⟩
                · rw [ex, Option.bind_some, em, if_pos rfl, nI_1]
                  exact ihb o2 n4 v4 d4 (by omega) (by omega) (by omega) (by omega) F2 h33'
                · exact absurd ok' (no k' hk')
              · rcases hmm with ⟨no, em⟩ | ⟨k', hk', ok', lst', em⟩
                · exact absurd ok (no k hk)
                · have : k = k' := by
                    rcases Nat.lt_trichotomy k k' with z | z | z
                    · exact absurd ok (lst' k z)
                    · exact z
                    · exact absurd ok' (lst k' z)
                  subst this
                  rw [ex, Option.bind_some, em, if_neg (nI_nm1 (by omega))]
                  exact tr_some (tr_some ⟨rfl, F2, rfl, rfl⟩)
          exact axl (g_L P a) FU_ FU_ 0 o1 n3 v3 d3 (by omega) (by omega) (by unfold FU_; omega) (by unfold FU_; omega) F1 h33
        · rw [(x_isTold hW hn ha).2 ht, Option.bind_some, if_pos rfl, lp_u]
          unfold f_X9_mend_L25
          dsimp only
          rw [(F1 0 (by decide)).2, ld15 (j := 4) (k := 4) rfl (by omega) (by omega), Option.bind_some, (hm a ha).2.2.2.2.2.2.2.1 ht, if_pos (show nI 0 ≤ 0 by decide), nI_1]
          exact ihn o1 n3 v3 d3 (by omega) (by omega) (by omega) (by omega) F1 h33
    obtain ⟨u, eu, w, ew, t1, t2, t3, t4⟩ := loop (g_N P) FU_ FU_ 0 o' n2 v2 d2 (by omega) (by omega) (by unfold FU_; omega) (by unfold FU_; omega) p5 p4'
    exact ⟨u, eu, w, ew, t1, t2, by rw [t3, t4]; exact Or.inr ⟨q1, q3⟩, by rw [t3]; exact q2⟩
end
