/-- all of n2 becomes that of n -/
theorem x_take (n2 n : Ob_T) : ∃ n1, f_X1_takeAll n2 n = some n1 ∧ o_F n1 6 = o_F n 6 ∧ (∀ k, k < 5 → ∀ l, l < 10 → o_A n1 k l = o_A n k l) ∧ ∀ l, l < 60 → o_A n1 5 l = o_A n 5 l := by
  unfold f_X1_takeAll
  simp only [Lt_E]
  rw [show (0 : Int32) = nI 0 from rfl, show (10 : Int32) = nI 10 from rfl, show (60 : Int32) = nI 60 from rfl]
  rw [cp_nI (by omega) (by omega) (by omega) (by omega), Option.bind_some, cp_nI (by omega) (by omega) (by omega) (by omega), Option.bind_some, cp_nI (by omega) (by omega) (by omega) (by omega), Option.bind_some, cp_nI (by omega) (by omega) (by omega) (by omega), Option.bind_some, cp_nI (by omega) (by omega) (by omega) (by omega), Option.bind_some, cp_nI (by omega) (by omega) (by omega) (by omega), Option.bind_some]
  have cp : ∀ (f g : Nat → Int32) c l, l < c → va_cpy f g 0 0 c l = f l := fun f g c l hl => by
    unfold va_cpy
    rw [if_pos (by omega)]
    exact congrArg f (by omega)
  refine ⟨_, rfl, rfl, fun k hk l hl => ?_, fun l hl => cp _ _ 60 l hl⟩
  rcases (show k = 0 ∨ k = 1 ∨ k = 2 ∨ k = 3 ∨ k = 4 by omega) with rfl | rfl | rfl | rfl | rfl
  · exact cp _ _ 10 l hl
  · exact cp _ _ 10 l hl
  · exact cp _ _ 10 l hl
  · exact cp _ _ 10 l hl
  · exact cp _ _ 10 l hl
theorem x_mended {P : Pg_} (hW : Wf_ P) {n : Ob_T} (hn : Rn_ n P) (n2 : Ob_T) {a b d : Nat} (ha : a < g_N P) (ht : td_ P a) (hb : b < g_L P a) (hd : d ≤ 9) : ∃ n1 n', f_X1_takeAll n2 n = some n1 ∧ f_X1_tellInstead n1 (nI a) (nI b) (nI d) = some n' ∧ Rn_ n' (md_ P a b d) := by
  have hN := hW.1
  have hWm := md_wf (b := b) hW ha ht hd
  have hLa := (hW.2 a ha).2.1
  obtain ⟨n1, e1, t6, t4, t5⟩ := x_take n2 n
  refine ⟨n1, ?_⟩
  unfold f_X1_tellInstead
  rw [y_one (by omega) (by omega), Option.bind_some]
  dsimp only
  -- what holds after the nodes ahead of k are derived
  let Iv : Nat → Ob_T → Prop := fun k m => o_F m 6 = nI (g_N P) ∧ (∀ q, q < 5 → o_A m q = o_A n1 q) ∧ Ra_ m (md_ P a b d) k ∧ ∀ i, k ≤ i → i < g_N P → td_ P i → ∀ j, j < g_L P i → o_A m 5 (6 * i + j) = nI (g_E P i j)
  have fin : ∃ n', Lp_ (fun (rec : (Int32 × Ob_T) → Option Ob_T) x => f_X1_tellInstead_L13 rec x.1 x.2) FU_ (nI a + 1, p_A n1 5 (upd (o_A n1 5) (6 * a + b) (nI d))) = some n' ∧ Iv (g_N P) n' := by
    refine lp_fu (P := fun r => ∃ n', r = some n' ∧ Iv (g_N P) n') (fun m x => ∃ k nk, a + 1 ≤ k ∧ k ≤ g_N P ∧ m = g_N P - k + 1 ∧ x = (nI k, nk) ∧ Iv k nk) ?_ ?_ (g_N P - (a + 1) + 1) _ ⟨a + 1, _, by omega, by omega, rfl, by rw [nI_1], by rw [show o_F (p_A n1 5 (upd (o_A n1 5) (6 * a + b) (nI d))) 6 = o_F n1 6 from rfl, t6, hn.1], fun q hq => by rw [oA_pA, if_neg (by omega)], fun m hm => ?_, fun i hi1 hi2 hti j hj => ?_⟩ (by omega)
    · rintro x ⟨k, nk, h0, h1, h2, -⟩
      omega
    · rintro m x rec ⟨k, nk, hk0, hk, hm, rfl, i1, i2, i3, i4⟩ hr
      unfold f_X1_tellInstead_L13
      dsimp only
      rw [i1]
      by_cases he : k = g_N P
      · subst he
        rw [if_pos (Int32.le_refl _)]
        exact ⟨nk, rfl, i1, i2, i3, i4⟩
      · have hk' : k < g_N P := by omega
        rw [if_neg (nI_ge (by omega) (by omega))]
        obtain ⟨r1, r2, r3, r4, r5, r6, r7, r8, r9⟩ := hn.2 k hk'
        have f0 : o_A nk 0 k = nI (g_K P k) := by rw [i2 0 (by omega), t4 0 (by omega) k (by omega), r1]
        by_cases hv : vb_ P k
        · have hva : Va_ (md_ P a b d) k := wn_va (hWm.2 k hk') hv
          have f1 : o_A nk 1 k = nI (g_A P k) := by rw [i2 1 (by omega), t4 1 (by omega) k (by omega), r2 (by unfold vb_ at hv; omega)]
          have f2 : (g_K P k = 1 ∨ g_K P k = 2) → o_A nk 2 k = nI (g_B P k) := fun z => by rw [i2 2 (by omega), t4 2 (by omega) k (by omega), r4 z]
          have f3 : o_A nk 3 k = g_R P k := by rw [i2 3 (by omega), t4 3 (by omega) k (by omega), r6 hv]
          have hL := ((hWm.2 k hk').2.2.2.2.1 hv)
          have hL6 := (hWm.2 k hk').2.1
          obtain ⟨f, e2, g1, g2⟩ := x_derive (P := md_ P a b d) (by omega) hva i3 f0 f1 f2 f3 (by have := hL.2.1; omega)
          rw [e2, Option.bind_some, nI_1]
          refine hr _ ⟨k + 1, _, by omega, by omega, by omega, rfl, i1, fun q hq => ?_, fun m hm => ?_, fun i hi1 hi2 hti j hj => ?_⟩
          · rw [oA_pA, if_neg (by omega)]; exact i2 q hq
          · show _ ∧ o_A nk 4 m = _ ∧ ∀ j, j < _ → f (6 * m + j) = _
            by_cases hmk : m = k
            · subst hmk
              refine ⟨hL6, ?_, fun j hj => ?_⟩
              · rw [i2 4 (by omega), t4 4 (by omega) m (by omega), r8]; rfl
              · rw [g2 j (by have := hL.2.1; omega), hL.2.2 j hj]
            · obtain ⟨q1, q2, q3⟩ := i3 m (by omega)
              exact ⟨q1, q2, fun j hj => by rw [g1 _ (by omega)]; exact q3 j hj⟩
          · show f (6 * i + j) = _
            rw [g1 _ (by omega)]
            exact i4 i (by omega) hi2 hti j hj
        · have htd : td_ P k := by have := (hW.2 k hk').1; unfold vb_ at hv; unfold td_; omega
          rw [x_derive0 (P := P) (by omega) htd f0, Option.bind_some, nI_1]
          refine hr _ ⟨k + 1, _, by omega, by omega, by omega, rfl, i1, i2, fun m hm => ?_, fun i hi1 hi2 hti j hj => i4 i (by omega) hi2 hti j hj⟩
          by_cases hmk : m = k
          · subst hmk
            refine ⟨(hWm.2 m hk').2.1, ?_, fun j hj => ?_⟩
            · rw [i2 4 (by omega), t4 4 (by omega) m (by omega), r8]; rfl
            · rw [i4 m (Nat.le_refl _) hk' htd j hj, md_e hW ha ht hd hk' (Or.inr htd) hj, if_neg (by omega)]
          · exact i3 m (by omega)
    · -- the nodes up to a
      have hmN : m < g_N P := by omega
      obtain ⟨r1, r2, r3, r4, r5, r6, r7, r8, r9⟩ := hn.2 m hmN
      refine ⟨(hWm.2 m hmN).2.1, ?_, fun j hj => ?_⟩
      · show o_A n1 4 m = _
        rw [t4 4 (by omega) m (by omega), r8]; rfl
      · show upd (o_A n1 5) (6 * a + b) (nI d) (6 * m + j) = _
        have hj' : j < g_L P m := hj
        have hLm := (hW.2 m hmN).2.1
        rw [md_e hW ha ht hd hmN (Or.inl (by omega)) hj', updE]
        by_cases c : m = a ∧ j = b
        · rw [if_pos (by obtain ⟨rfl, rfl⟩ := c; rfl), if_pos c]
        · rw [if_neg (by omega), if_neg c, t5 _ (by omega), r9 j hj']
    · show upd (o_A n1 5) (6 * a + b) (nI d) (6 * i + j) = _
      have hLi := (hW.2 i hi2).2.1
      rw [updE, if_neg (by omega), t5 _ (by omega)]
      exact (hn.2 i hi2).2.2.2.2.2.2.2.2 j hj
  obtain ⟨n', e2, j1, j2, j3, -⟩ := fin
  refine ⟨n', e1, e2, j1, fun i hi => ?_⟩
  have hi' : i < g_N P := hi
  obtain ⟨r1, r2, r3, r4, r5, r6, r7, r8, r9⟩ := hn.2 i hi'
  obtain ⟨q1, q2, q3⟩ := j3 i hi'
  have F : ∀ q, q < 5 → o_A n' q i = o_A n q i := fun q hq => by rw [j2 q hq, t4 q hq i (by omega)]
  exact ⟨(F 0 (by omega)).trans r1, fun z => (F 1 (by omega)).trans (r2 z), fun z => (F 1 (by omega)).trans (r3 z), fun z => (F 2 (by omega)).trans (r4 z), fun z => (F 2 (by omega)).trans (r5 z), fun z => (F 3 (by omega)).trans (r6 z), fun z => (F 3 (by omega)).trans (r7 z), q2, q3⟩
