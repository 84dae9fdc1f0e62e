theorem Lp_s {σ ω : Type} (body : (σ → Option ω) → σ → Option ω) (n : Nat) (x : σ) : Lp_ body (n + 1) x = body (Lp_ body n) x := rfl
section
variable {P : Pg_} {x n v d g o r : Ob_T}
theorem sm_load (hW : Wf_ P) (hn : Rn_ n P) (hm : Rm_ (o_A o 0) P) (h2 : o_F o 2 = nI (g_N P)) (hgv : R_gv g o) (hc : Rc_ x v P (o_A g 0)) (hr : R_rw r o) (x1 x2 : Int32) : Tr_ (f_X8_load x n v d g r x1 x2) (fun u => Tr_ (f_X9_load o x1 x2) (fun w => u.1 = w.1 ∧ Fr_ (17 :: WK_) o w.2 ∧ R_rw u.2.2.2.2 w.2 ∧ Rc_ u.2.1 u.2.2.1 P (o_A g 0) ∧ o_F u.2.1 10 = o_F x 10)) := by
  have hN := hW.1
  have hgo : ∀ l, l < 4 → gv_ok (o_A o 4 l) := fun l hl => (hgv.1 l hl).2
  have hgg : ∀ l, l < 4 → gv_ok (o_A g 0 l) := fun l hl => by rw [(hgv.1 l hl).1]; exact hgo l hl
  have eS : SO_ P (o_A g 0) = SO_ P (o_A o 4) := SO_cg (fun l hl => (hgv.1 l hl).1)
  have same : ∀ e : Int32, Tr_ (some (e, x, v, d, r)) (fun u => Tr_ (some (e, o)) (fun w => u.1 = w.1 ∧ Fr_ (17 :: WK_) o w.2 ∧ R_rw u.2.2.2.2 w.2 ∧ Rc_ u.2.1 u.2.2.1 P (o_A g 0) ∧ o_F u.2.1 10 = o_F x 10)) := fun e => tr_some (tr_some ⟨rfl, fr_rf _ _, hr, hc, rfl⟩)
  unfold f_X8_load f_X9_load
  rw [bind_eq _ (x_isRow x1), bind_eq _ (m_isRow x1)]
  by_cases c1 : 0 ≤ x1.toInt ∧ x1.toInt ≤ 2
  · rw [if_pos c1, if_neg n_10, if_neg n_10, x_has hn hN, Option.bind_some, m_isNode h2 hN, Option.bind_some]
    by_cases c2 : 0 ≤ x2.toInt ∧ x2.toInt < g_N P
    · rw [if_pos c2, if_neg n_10, if_neg n_10]
      obtain ⟨k, hk, rfl⟩ := i_of (x := x1) (n := 2) c1.1 c1.2
      obtain ⟨i, hi, rfl⟩ := i_of (x := x2) (n := 10) c2.1 (by omega)
      have hi : i < g_N P := by have := c2.2; rw [nI_toInt (by omega)] at this; omega
      have hL := (hW.2 i hi).2.1
      have hk3 : k < 3 := by omega
      unfold f_X2_isMissing f_X2_sortOf f_X2_sizeOf
      simp only [ld_nI hk3 (show 3 < 2 ^ 31 by omega), Option.bind_some]
      rcases hr k hk3 with ⟨p1, p2⟩ | ⟨z, st, hz, hst, p1, p2, p3, p4, p5⟩
      · rw [p1, p2, if_pos rfl, if_neg (show ¬ (0 : Int32) ≤ -1 by decide), Option.bind_some, if_neg n_10]
        exact same _
      · rw [p1, p2, if_neg (nI_nm1 (by omega)), if_pos (nI_pos' (by omega)), Option.bind_some, if_pos rfl, p3, p4]
        by_cases cs : nI st = 0
        · rw [if_pos cs, if_pos cs, x_L hn hN hi, Option.bind_some, ld15 (j := 8) (k := 8) rfl (by omega) (by omega), Option.bind_some, (hm i hi).2.2.2.2.2.2.2.2.2.1]
          by_cases cz : nI (g_L P i) ≤ nI z
          · rw [if_pos cz, if_pos cz]
            obtain ⟨x', v', d', e1, q1, q2, q3⟩ := x_now hW hn (d := d) hgg hc
            obtain ⟨o', e2, p1', p2', p3', p4', p5'⟩ := m_now hW hm h2 hgo
            rw [e1, Option.bind_some, e2, Option.bind_some]
            have hr' : R_rw r o' := R_rw_fr hr p5' (by decide)
            rw [← eS] at p1'
            -- the two loops, one step by one
            have loop : ∀ m fu fu' j r1 o1, m = g_L P i - j → j ≤ g_L P i → m < fu → m < fu' → R_rw r1 o1 → Fr_ [17] o' o1 → Tr_ (Lp_ (fun (rec : (Int32 × Int32 × Int32 × Int32 × Ob_T × Ob_T × Ob_T × Ob_T) → Option (Int32 × Ob_T × Ob_T × Ob_T × Ob_T)) x => f_X8_load_L80 rec x.1 x.2.1 x.2.2.1 x.2.2.2.1 x.2.2.2.2.1 x.2.2.2.2.2.1 x.2.2.2.2.2.2.1 x.2.2.2.2.2.2.2 n g) fu (nI k, nI i, nI (g_L P i), nI j, x', v', d', r1)) (fun u => Tr_ (Lp_ (fun (rec : (Int32 × Int32 × Int32 × Int32 × Ob_T) → Option (Int32 × Ob_T)) x => f_X9_load_L75 rec x.1 x.2.1 x.2.2.1 x.2.2.2.1 x.2.2.2.2) fu' (nI k, nI i, nI (g_L P i), nI j, o1)) (fun w => u.1 = w.1 ∧ Fr_ [17] o' w.2 ∧ R_rw u.2.2.2.2 w.2 ∧ u.2.1 = x' ∧ u.2.2.1 = v')) := by
              intro m
              induction m with
              | zero =>
                intro fu fu' j r1 o1 hmj hj hf hf' hrr hff
                obtain ⟨fu, rfl⟩ : ∃ f, fu = f + 1 := ⟨fu - 1, by omega⟩
                obtain ⟨fu', rfl⟩ : ∃ f, fu' = f + 1 := ⟨fu' - 1, by omega⟩
                have : j = g_L P i := by omega
                subst this
                rw [Lp_s, Lp_s]
                unfold f_X8_load_L80 f_X9_load_L75
                dsimp only
                rw [if_pos (Int32.le_refl _), if_pos (Int32.le_refl _)]
                exact tr_some (tr_some ⟨rfl, hff, hrr, rfl, rfl⟩)
              | succ m ih =>
                intro fu fu' j r1 o1 hmj hj hf hf' hrr hff
                obtain ⟨fu, rfl⟩ : ∃ f, fu = f + 1 := ⟨fu - 1, by omega⟩
                obtain ⟨fu', rfl⟩ : ∃ f, fu' = f + 1 := ⟨fu' - 1, by omega⟩
                have hj : j < g_L P i := by omega
                rw [Lp_s, Lp_s]
                unfold f_X8_load_L80 f_X9_load_L75
                dsimp only
                have hm1 : Rm_ (o_A o1 1) P := by rw [(hff 1 (by decide)).2]; exact p2'
                have hs1 : Rs_ (o_A o1 31) (o_A o1 32) (SO_ P (o_A g 0)).1 := by rw [(hff 31 (by decide)).2, (hff 32 (by decide)).2]; exact p1'.1
                rw [if_neg (nI_ge (by omega) (by omega)), if_neg (nI_ge (by omega) (by omega)), x_ext hn hN hi hj hL, Option.bind_some, x_value q3.1 (wf_e hW i hi j hj), Option.bind_some, m_ext hm1 hN hi hj hL, Option.bind_some, m_solved hs1 (wf_e hW i hi j hj), Option.bind_some]
                have step : ∀ y : Int32, Tr_ (f_X8_load_J126 (Lp_ (fun (rec : (Int32 × Int32 × Int32 × Int32 × Ob_T × Ob_T × Ob_T × Ob_T) → Option (Int32 × Ob_T × Ob_T × Ob_T × Ob_T)) x => f_X8_load_L80 rec x.1 x.2.1 x.2.2.1 x.2.2.2.1 x.2.2.2.2.1 x.2.2.2.2.2.1 x.2.2.2.2.2.2.1 x.2.2.2.2.2.2.2 n g) fu) (nI k) (nI i) (nI (g_L P i)) (nI j) (nI k) (nI j) y x' v' d' r1 n g) (fun u => Tr_ (f_X9_load_J119 (Lp_ (fun (rec : (Int32 × Int32 × Int32 × Int32 × Ob_T) → Option (Int32 × Ob_T)) x => f_X9_load_L75 rec x.1 x.2.1 x.2.2.1 x.2.2.2.1 x.2.2.2.2) fu') (nI k) (nI i) (nI (g_L P i)) (nI j) ((10 : Int32) * nI k + nI j) y o1) (fun w => u.1 = w.1 ∧ Fr_ [17] o' w.2 ∧ R_rw u.2.2.2.2 w.2 ∧ u.2.1 = x' ∧ u.2.2.1 = v')) := by
                  intro y
                  unfold f_X8_load_J126 f_X9_load_J119 f_X2_put
                  rw [ix_x, ix_m, st_nI (by omega) (by omega), st_nI (by omega) (by omega), Option.bind_some, Option.bind_some, Option.bind_some, nI_1]
                  exact ih fu fu' (j + 1) _ _ (by omega) (by omega) (by omega) (by omega) (R_rw_set hrr (by omega) y) (fr_tr hff (fr_pA (by decide)))
                by_cases c : (20000 : Int32) ≤ nI (vl_ (SO_ P (o_A g 0)).1 (g_E P i j))
                · rw [if_pos c, if_pos c]; exact step _
                · rw [if_neg c, if_neg c]; exact step _
            obtain ⟨u, eu, w, ew, t1, t2, t3, t4, t5⟩ := loop (g_L P i) FU_ FU_ 0 r o' (by omega) (by omega) (by unfold FU_; omega) (by unfold FU_; omega) hr' (fr_rf _ _)
            refine ⟨u, eu, w, ew, t1, fr_tr (fr_mono p5' (fun l hl => List.mem_cons_of_mem _ hl)) (fr_mono t2 (fun l hl => by rcases List.mem_cons.mp hl with z | z; rw [z]; exact List.mem_cons_self; cases z)), t3, ?_, ?_⟩
            · rw [t4, t5]; exact Or.inr ⟨q1, q3⟩
            · rw [t4]; exact q2
          · rw [if_neg cz, if_neg cz]
            exact same _
        · rw [if_neg cs, if_neg cs]
          exact same _
    · rw [if_neg c2, if_pos rfl, if_pos rfl]
      exact same _
  · rw [if_neg c1, if_pos rfl, if_pos rfl]
    exact same _
end
