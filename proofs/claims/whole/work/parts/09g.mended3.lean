theorem m_mended {P : Pg_} (hW : Wf_ P) {o : Ob_T} (hm : Rm_ (o_A o 0) P) (h2 : o_F o 2 = nI (g_N P)) (hg : ∀ l, l < 4 → gv_ok (o_A o 33 l)) {a b d : Nat} (ha : a < g_N P) (ht : td_ P a) (hb : b < g_L P a) (hd : d ≤ 9) : ∃ o', f_X9_isMended o (nI a) (nI b) (nI d) = some (if (SO_ (md_ P a b d) (o_A o 33)).2 = [] then 1 else 0, o') ∧ Fr_ WK_ o o' ∧ o_A o' 33 = o_A o 33 := by
  have hN := hW.1
  have hWm := md_wf (b := b) hW ha ht hd
  have hLa := ((hW.2 a ha).2.2.2.2.2 ht).1
  obtain ⟨o1, e1, hm1, h31, hc1, F1⟩ := m_layNodes hW hm h2
  unfold f_X9_isMended
  rw [e1, Option.bind_some, show (15 : Int32) * nI a + 5 + nI b = nI (15 * a + 5 + b) from by rw [show (15 : Int32) = nI 15 from rfl, show (5 : Int32) = nI 5 from rfl, pk_mul, nI_add, nI_add], st_nI (by omega) (by omega), Option.bind_some]
  have c2 : ∀ l, o_A (p_A o1 1 (upd (o_A o1 1) (15 * a + 5 + b) (nI d))) 1 l = if l = 15 * a + 5 + b then nI d else o_A o1 1 l := fun l => rfl
  have F2 : Fr_ [1, 3] o (p_A o1 1 (upd (o_A o1 1) (15 * a + 5 + b) (nI d))) := fr_tr F1 (fr_pA (by decide))
  have h32 : o_F (p_A o1 1 (upd (o_A o1 1) (15 * a + 5 + b) (nI d))) 3 = nI (g_N P) := h31
  generalize p_A o1 1 (upd (o_A o1 1) (15 * a + 5 + b) (nI d)) = o2 at c2 F2 h32 ⊢
  -- what was told, with the one extent instead
  have told : ∀ i, i < g_N P → td_ P i → ∀ j, j < g_L P i → o_A o2 1 (15 * i + 5 + j) = nI (g_E (md_ P a b d) i j) := by
    intro i hi hti j hj
    have hL3 := ((hW.2 i hi).2.2.2.2.2 hti).1
    rw [md_e hW ha ht hd hi (Or.inr hti) hj, c2]
    by_cases c : i = a ∧ j = b
    · rw [if_pos (by obtain ⟨rfl, rfl⟩ := c; rfl), if_pos c]
    · rw [if_neg (by omega), if_neg c]
      exact (hm1 i hi).2.2.2.2.2.2.2.2.1 hti j hj
  have low : ∀ i, i < g_N P → ∀ q, q < 5 → o_A o2 1 (15 * i + q) = o_A o1 1 (15 * i + q) := fun i hi q hq => by rw [c2, if_neg (by omega)]
  let Iv : Nat → Ob_T → Prop := fun k m => Fr_ [1, 30] o2 m ∧ Rb_ (o_A m 1) (md_ P a b d) k ∧ ∀ i, i < g_N P → ∀ q, q < 8 → o_A m 1 (15 * i + q) = o_A o2 1 (15 * i + q)
  have fin : ∃ o3, Lp_ (fun (rec : (Int32 × Ob_T) → Option (Int32 × Ob_T)) x => f_X9_isMended_L21 (fun t_o => f_X9_isMended_J43 t_o) rec x.1 x.2) FU_ (0, o2) = f_X9_isMended_J43 o3 ∧ Iv (g_N P) o3 := by
    refine lp_fu (P := fun r => ∃ o3, r = f_X9_isMended_J43 o3 ∧ Iv (g_N P) o3) (fun m x => ∃ k ok, k ≤ g_N P ∧ m = g_N P - k + 1 ∧ x = (nI k, ok) ∧ Iv k ok) ?_ ?_ (g_N P - 0 + 1) _ ⟨0, o2, by omega, rfl, rfl, fr_rf _ _, fun m hm => by omega, fun _ _ _ _ => rfl⟩ (by omega)
    · rintro x ⟨k, ok, h1, h2, -⟩
      omega
    · rintro m x rec ⟨k, ok, hk, hmm, rfl, i1, i2, i3⟩ hr
      unfold f_X9_isMended_L21
      dsimp only
      rw [show o_F ok 3 = nI (g_N P) from by rw [(i1 3 (by decide)).1, h32]]
      by_cases he : k = g_N P
      · subst he
        rw [if_pos (Int32.le_refl _)]
        exact ⟨ok, rfl, i1, i2, i3⟩
      · have hk' : k < g_N P := by omega
        rw [if_neg (nI_ge (by omega) (by omega))]
        obtain ⟨r1, r2, r3, r4, r5, r6, r7, r8, r9, -⟩ := hm1 k hk'
        have cell : ∀ q, q < 5 → o_A ok 1 (15 * k + q) = o_A o1 1 (15 * k + q) := fun q hq => by rw [i3 k hk' q (by omega), low k hk' q hq]
        have f0 : o_A ok 1 (15 * k) = nI (g_K P k) := (cell 0 (by omega)).trans r1
        -- after either
        have next : ∀ o4, Fr_ [1, 30] ok o4 → (∀ l, (l < 15 * k + 8 ∨ 15 * k + 15 ≤ l) → o_A o4 1 l = o_A ok 1 l) → (o_A o4 1 (15 * k + 8) = nI (g_L P k) ∧ ∀ j, j < g_L P k → o_A o4 1 (15 * k + 9 + j) = nI (g_E (md_ P a b d) k j)) → Iv (k + 1) o4 := by
          intro o4 q1 q2 q3
          refine ⟨fr_tr i1 q1, fun m hmk => ?_, fun i hi q hq => ?_⟩
          · by_cases e : m = k
            · subst e
              exact ⟨(hWm.2 m hk').2.1, q3.1, q3.2⟩
            · obtain ⟨u1, u2, u3⟩ := i2 m (by omega)
              exact ⟨u1, by rw [q2 _ (by omega)]; exact u2, fun j hj => by rw [q2 _ (by omega)]; exact u3 j hj⟩
          · rw [q2 _ (by omega)]
            exact i3 i hi q hq
        by_cases hv : vb_ P k
        · have hva : Va_ (md_ P a b d) k := wn_va (hWm.2 k hk') hv
          have hL := ((hWm.2 k hk').2.2.2.2.1 hv)
          have hL6 := (hWm.2 k hk').2.1
          have f1 : o_A ok 1 (15 * k + 1) = nI (g_A P k) := (cell 1 (by omega)).trans (r2 (by unfold vb_ at hv; omega))
          have f2 : (g_K P k = 1 ∨ g_K P k = 2) → o_A ok 1 (15 * k + 2) = nI (g_B P k) := fun z => (cell 2 (by omega)).trans (r4 z)
          have f3 : o_A ok 1 (15 * k + 3) = g_R P k := (cell 3 (by omega)).trans (r6 hv)
          obtain ⟨o4, e2, q1, q2, q3⟩ := m_lays (P := md_ P a b d) (by omega) hva i2 f0 f1 f2 f3
          rw [e2, Option.bind_some, nI_1]
          have hle : dv_L (md_ P a b d) k ≤ 6 := by have := hL.2.1; omega
          refine hr _ ⟨k + 1, o4, by omega, by omega, rfl, next o4 q1 q2 ?_⟩
          obtain ⟨u1, u2⟩ := q3 hle
          have eL : g_L P k = dv_L (md_ P a b d) k := hL.2.1
          exact ⟨by rw [eL]; exact u1, fun j hj => by rw [u2 j (by omega), hL.2.2 j hj]⟩
        · have htd : td_ P k := by have := (hW.2 k hk').1; unfold vb_ at hv; unfold td_; omega
          have hL3 := ((hW.2 k hk').2.2.2.2.2 htd).1
          obtain ⟨o4, e2, q1, q2, q3⟩ := m_lays0 (o := ok) (i := k) (K := g_K P k) (L := g_L P k) (e := fun j => nI (g_E (md_ P a b d) k j)) (by omega) htd hL3 f0 ((cell 4 (by omega)).trans (r7 htd)) (fun j hj => by rw [Nat.add_assoc, i3 k hk' (5 + j) (by omega), ← Nat.add_assoc]; exact told k hk' htd j hj)
          rw [e2, Option.bind_some, nI_1]
          exact hr _ ⟨k + 1, o4, by omega, by omega, rfl, next o4 q1 q2 q3⟩
  obtain ⟨o3, e3, j1, j2, j3⟩ := fin
  rw [e3]
  have hm3 : Rm_ (o_A o3 1) (md_ P a b d) := by
    intro i hi
    have hi' : i < g_N P := hi
    obtain ⟨r1, r2, r3, r4, r5, r6, r7, r8, r9, -⟩ := hm1 i hi'
    have cell : ∀ q, q < 5 → o_A o3 1 (15 * i + q) = o_A o1 1 (15 * i + q) := fun q hq => by rw [j3 i hi' q (by omega), low i hi' q hq]
    obtain ⟨u1, u2, u3⟩ := j2 i hi'
    refine ⟨(cell 0 (by omega)).trans r1, fun z => (cell 1 (by omega)).trans (r2 z), fun z => (cell 1 (by omega)).trans (r3 z), fun z => (cell 2 (by omega)).trans (r4 z), fun z => (cell 2 (by omega)).trans (r5 z), fun z => (cell 3 (by omega)).trans (r6 z), fun z => (cell 4 (by omega)).trans (r7 z), fun z => (cell 4 (by omega)).trans (r8 z), fun z j hj => ?_, u2, u3⟩
    have hL3 := ((hW.2 i hi').2.2.2.2.2 z).1
    have hj' : j < g_L P i := hj
    rw [Nat.add_assoc, j3 i hi' (5 + j) (by omega), ← Nat.add_assoc]
    exact told i hi' z j hj'
  have h33 : o_F o3 3 = nI (g_N (md_ P a b d)) := by rw [(j1 3 (by decide)).1]; exact h32
  have hby : o_A o3 33 = o_A o 33 := by rw [(j1 33 (by decide)).2, (F2 33 (by decide)).2]
  obtain ⟨o4, e4, hR, F4⟩ := m_solve hWm hm3 h33 (fun l hl => by rw [hby]; exact hg l hl)
  unfold f_X9_isMended_J43
  rw [e4, Option.bind_some]
  rw [hby] at hR
  have fr4 : Fr_ WK_ o o4 := fr_tr (fr_mono F2 (by decide)) (fr_tr (fr_mono j1 (by decide)) (fr_mono F4 (by decide)))
  have b4 : o_A o4 33 = o_A o 33 := by rw [(F4 33 (by decide)).2, hby]
  by_cases c : (SO_ (md_ P a b d) (o_A o 33)).2 = []
  · rw [rso_f0 hR c, if_pos rfl, if_pos c]
    exact ⟨o4, rfl, fr4, b4⟩
  · rw [rso_f1 hR c, if_neg n_10, if_neg c]
    exact ⟨o4, rfl, fr4, b4⟩
