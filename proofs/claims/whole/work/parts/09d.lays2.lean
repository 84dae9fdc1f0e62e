section
variable {o0 o : Ob_T} {P : Pg_} {i k : Nat} {e : Nat → Int32}
theorem z_two (hi : i < 10) (hv : Va_ P i) (hb : Rb_ (o_A o0 1) P i) (h : Lay_ o0 o i 0 (fun j => nI (dv_E P i j))) (e1 : o_A o0 1 (15 * i + 1) = nI (g_A P i)) (e2 : o_A o0 1 (15 * i + 2) = nI (g_B P i)) (e3 : o_A o0 1 (15 * i + 3) = g_R P i) {w : Nat} (hk : (g_K P i = 1 ∧ w = 0) ∨ (g_K P i = 2 ∧ w = 1)) : ∃ o', f_X9_layTwo o (nI i) (nI w) = some o' ∧ Lay_ o0 o' i (dv_L P i) (fun j => nI (dv_E P i j)) := by
  obtain ⟨v1, v2, v3, v4⟩ := hv
  have hB := v4 (by omega)
  obtain ⟨a1, a2, a3⟩ := hb _ v3
  obtain ⟨b1, b2, b3⟩ := hb _ hB
  have fa := fr_le (g_R P i) (g_L P (g_A P i))
  have fb := fr_le (g_R P i) (g_L P (g_B P i))
  unfold f_X9_layTwo
  rw [z_rd hi h 1 (by omega) 1 rfl, Option.bind_some, z_rd hi h 2 (by omega) 2 rfl, Option.bind_some, e1, e2, z_long hi h hb v3, Option.bind_some, z_rd hi h 3 (by omega) 3 rfl, Option.bind_some, e3, z_fr v2 a1, Option.bind_some, z_long hi h hb hB, Option.bind_some, Option.bind_some, z_fr v2 b1, Option.bind_some]
  -- the frame, the own letter, the cell
  have fin : ∀ o2, Lay_ o0 o2 i (max (fr_ (g_R P i) (g_L P (g_A P i))) (fr_ (g_R P i) (g_L P (g_B P i))) + w) (fun j => nI (dv_E P i j)) → ∃ o', f_X9_layTwo_J132 (nI i) (nI (g_A P i)) (nI (g_B P i)) (nI (fr_ (g_R P i) (g_L P (g_A P i)))) (nI (fr_ (g_R P i) (g_L P (g_B P i)))) (nI w) o2 = some o' ∧ Lay_ o0 o' i (dv_L P i) (fun j => nI (dv_E P i j)) := by
    intro o2 h2
    unfold f_X9_layTwo_J132
    rw [z_long hi h2 hb v3, Option.bind_some, z_long hi h2 hb hB, Option.bind_some]
    have cmp : ∀ a, a < 7 → ∀ b, b < 7 → ∀ w, w < 2 → ((nI a - nI w < nI b - nI w) ↔ a < b) := by decide +kernel
    have key := cmp (g_L P (g_A P i) - fr_ (g_R P i) (g_L P (g_A P i))) (by omega) (g_L P (g_B P i) - fr_ (g_R P i) (g_L P (g_B P i))) (by omega) w (by omega)
    rw [pk_sub fa, pk_sub fb]
    unfold f_X9_layTwo_J172 f_X9_layTwo_J188 f_X9_layTwo_J200 f_X9_layTwo_J223
    by_cases c : g_L P (g_A P i) - fr_ (g_R P i) (g_L P (g_A P i)) < g_L P (g_B P i) - fr_ (g_R P i) (g_L P (g_B P i))
    · rw [if_pos (key.mpr c), if_pos rfl, if_pos rfl, if_pos rfl, z_long hi h2 hb hB, Option.bind_some, nI_add]
      obtain ⟨o3, e4, h3⟩ := z_many hi h2 hb (s := g_B P i) (a := fr_ (g_R P i) (g_L P (g_B P i)) + w) (b := g_L P (g_B P i)) hB (Nat.le_refl _) (by omega) (fun t ht => by
        refine congrArg nI ?_
        unfold dv_E lC_ fC_ cA_ cB_
        unfold fA_ fB_
        rcases hk with ⟨k1, rfl⟩ | ⟨k1, rfl⟩
        · rw [if_pos k1, if_neg (by omega), if_pos c, if_pos c]
          exact congrArg (g_E P (g_B P i)) (by omega)
        · rw [if_neg (show ¬ g_K P i = 1 by omega), if_pos k1, if_neg (by omega), if_neg (by omega), if_pos c, if_pos c]
          exact congrArg (g_E P (g_B P i)) (by omega))
      rw [e4, Option.bind_some]
      refine ⟨_, rfl, ?_⟩
      have eL : max (fr_ (g_R P i) (g_L P (g_A P i))) (fr_ (g_R P i) (g_L P (g_B P i))) + w + (g_L P (g_B P i) - (fr_ (g_R P i) (g_L P (g_B P i)) + w)) = dv_L P i := by
        unfold dv_L cA_ cB_
        unfold fA_ fB_
        rcases hk with ⟨k1, rfl⟩ | ⟨k1, rfl⟩
        · rw [if_pos k1]; omega
        · rw [if_neg (show ¬ g_K P i = 1 by omega), if_pos k1]; omega
      rw [eL] at h3
      exact h3
    · rw [if_neg (fun z => c (key.mp z)), if_neg n_10, if_neg n_10, if_neg n_10, z_long hi h2 hb v3, Option.bind_some, nI_add]
      obtain ⟨o3, e4, h3⟩ := z_many hi h2 hb (s := g_A P i) (a := fr_ (g_R P i) (g_L P (g_A P i)) + w) (b := g_L P (g_A P i)) v3 (Nat.le_refl _) (by omega) (fun t ht => by
        refine congrArg nI ?_
        unfold dv_E lC_ fC_ cA_ cB_
        unfold fA_ fB_
        rcases hk with ⟨k1, rfl⟩ | ⟨k1, rfl⟩
        · rw [if_pos k1, if_neg (by omega), if_neg c, if_neg c]
          exact congrArg (g_E P (g_A P i)) (by omega)
        · rw [if_neg (show ¬ g_K P i = 1 by omega), if_pos k1, if_neg (by omega), if_neg (by omega), if_neg c, if_neg c]
          exact congrArg (g_E P (g_A P i)) (by omega))
      rw [e4, Option.bind_some]
      refine ⟨_, rfl, ?_⟩
      have eL : max (fr_ (g_R P i) (g_L P (g_A P i))) (fr_ (g_R P i) (g_L P (g_B P i))) + w + (g_L P (g_A P i) - (fr_ (g_R P i) (g_L P (g_A P i)) + w)) = dv_L P i := by
        unfold dv_L cA_ cB_
        unfold fA_ fB_
        rcases hk with ⟨k1, rfl⟩ | ⟨k1, rfl⟩
        · rw [if_pos k1]; omega
        · rw [if_neg (show ¬ g_K P i = 1 by omega), if_pos k1]; omega
      rw [eL] at h3
      exact h3
  have mid : ∀ o2, Lay_ o0 o2 i (max (fr_ (g_R P i) (g_L P (g_A P i))) (fr_ (g_R P i) (g_L P (g_B P i)))) (fun j => nI (dv_E P i j)) → ∃ o', (if nI w = 0 then f_X9_layTwo_J116 (nI i) (nI w) (nI (g_A P i)) (nI (g_B P i)) (nI (fr_ (g_R P i) (g_L P (g_A P i)))) (nI (fr_ (g_R P i) (g_L P (g_B P i)))) 0 o2 else f_X9_layTwo_J116 (nI i) (nI w) (nI (g_A P i)) (nI (g_B P i)) (nI (fr_ (g_R P i) (g_L P (g_A P i)))) (nI (fr_ (g_R P i) (g_L P (g_B P i)))) 1 o2) = some o' ∧ Lay_ o0 o' i (dv_L P i) (fun j => nI (dv_E P i j)) := by
    intro o2 h2
    unfold f_X9_layTwo_J116
    rcases hk with ⟨k1, rfl⟩ | ⟨k1, rfl⟩
    · rw [if_pos (show nI 0 = 0 from rfl), if_pos (show nI 0 = 0 from rfl)]
      exact fin o2 h2
    · rw [if_neg (show ¬ nI 1 = 0 by decide), if_neg (show ¬ nI 1 = 0 by decide)]
      obtain ⟨o3, e4, h3⟩ := z_push hi h2 ((20004 : Int32) + nI i) (by
        show nI (dv_E P i _) = _
        unfold dv_E fA_ fB_
        rw [if_neg (show ¬ g_K P i = 1 by omega), if_pos k1, if_neg (by omega), if_pos rfl]
        exact (nI_add 20004 i).symm)
      rw [e4, Option.bind_some]
      exact fin o3 h3
  unfold f_X9_layTwo_J75 f_X9_layTwo_J91 f_X9_layTwo_J104
  by_cases c : fr_ (g_R P i) (g_L P (g_A P i)) < fr_ (g_R P i) (g_L P (g_B P i))
  · rw [if_pos (nI_lt c (by omega)), if_pos rfl, if_pos rfl]
    obtain ⟨o2, e4, h2⟩ := z_many hi h hb (s := g_B P i) (a := 0) (b := fr_ (g_R P i) (g_L P (g_B P i))) hB fb (by omega) (fun t ht => by
      refine congrArg nI ?_
      unfold dv_E lF_
      unfold fA_ fB_
      rw [if_pos c]
      rcases hk with ⟨k1, rfl⟩ | ⟨k1, rfl⟩
      · rw [if_pos k1, if_pos (by omega)]
      · rw [if_neg (show ¬ g_K P i = 1 by omega), if_pos k1, if_pos (by omega)])
    rw [show (0 : Int32) = nI 0 from rfl, e4, Option.bind_some]
    rw [show 0 + (fr_ (g_R P i) (g_L P (g_B P i)) - 0) = max (fr_ (g_R P i) (g_L P (g_A P i))) (fr_ (g_R P i) (g_L P (g_B P i))) by omega] at h2
    exact mid o2 h2
  · rw [if_neg (fun z => c ((nI_ltI (by omega) (by omega)).mp z)), if_neg n_10, if_neg n_10]
    obtain ⟨o2, e4, h2⟩ := z_many hi h hb (s := g_A P i) (a := 0) (b := fr_ (g_R P i) (g_L P (g_A P i))) v3 fa (by omega) (fun t ht => by
      refine congrArg nI ?_
      unfold dv_E lF_
      unfold fA_ fB_
      rw [if_neg c]
      rcases hk with ⟨k1, rfl⟩ | ⟨k1, rfl⟩
      · rw [if_pos k1, if_pos (by omega)]
      · rw [if_neg (show ¬ g_K P i = 1 by omega), if_pos k1, if_pos (by omega)])
    rw [show (0 : Int32) = nI 0 from rfl, e4, Option.bind_some]
    rw [show 0 + (fr_ (g_R P i) (g_L P (g_A P i)) - 0) = max (fr_ (g_R P i) (g_L P (g_A P i))) (fr_ (g_R P i) (g_L P (g_B P i))) by omega] at h2
    exact mid o2 h2
theorem z_one (hi : i < 10) (hv : Va_ P i) (hb : Rb_ (o_A o0 1) P i) (h : Lay_ o0 o i 0 (fun j => nI (dv_E P i j))) (e1 : o_A o0 1 (15 * i + 1) = nI (g_A P i)) (e3 : o_A o0 1 (15 * i + 3) = g_R P i) (hk : g_K P i = 3 ∨ g_K P i = 4 ∨ g_K P i = 5) : ∃ o', f_X9_layOne o (nI i) (nI (g_K P i)) = some o' ∧ Lay_ o0 o' i (dv_L P i) (fun j => nI (dv_E P i j)) := by
  obtain ⟨v1, v2, v3, v4⟩ := hv
  obtain ⟨a1, a2, a3⟩ := hb _ v3
  have fa := fr_le (g_R P i) (g_L P (g_A P i))
  unfold f_X9_layOne
  rw [z_rd hi h 1 (by omega) 1 rfl, Option.bind_some, e1, z_long hi h hb v3, Option.bind_some, z_rd hi h 3 (by omega) 3 rfl, Option.bind_some, e3, z_fr v2 a1, Option.bind_some]
  rcases hk with k1 | k1 | k1
  · rw [k1, if_pos (show nI 3 = 3 from rfl), Option.bind_some]
    obtain ⟨o2, e4, h2⟩ := z_many hi h hb (s := g_A P i) (a := 0) (b := g_L P (g_A P i)) v3 (Nat.le_refl _) (by omega) (fun t ht => by
      refine congrArg nI ?_
      unfold dv_E
      rw [k1, if_neg (show ¬ 3 = 1 by decide), if_neg (show ¬ 3 = 2 by decide), if_pos rfl])
    rw [show (0 : Int32) = nI 0 from rfl, e4, Option.bind_some]
    refine ⟨_, rfl, ?_⟩
    have eL : 0 + (g_L P (g_A P i) - 0) = dv_L P i := by
      unfold dv_L
      rw [k1, if_neg (show ¬ 3 = 1 by decide), if_neg (show ¬ 3 = 2 by decide), if_pos rfl]; omega
    rw [eL] at h2
    exact h2
  · rw [k1, if_neg (show ¬ nI 4 = 3 by decide)]
    obtain ⟨o2, e4, h2⟩ := z_many hi h hb (s := g_A P i) (a := 0) (b := fr_ (g_R P i) (g_L P (g_A P i))) v3 fa (by omega) (fun t ht => by
      refine congrArg nI ?_
      unfold dv_E fA_
      rw [k1, if_neg (show ¬ 4 = 1 by decide), if_neg (show ¬ 4 = 2 by decide), if_neg (show ¬ 4 = 3 by decide), if_pos rfl, if_pos (by omega)])
    rw [show (0 : Int32) = nI 0 from rfl, e4, Option.bind_some, if_neg (show ¬ nI 4 = 5 by decide), z_long hi h2 hb v3, Option.bind_some, nI_1]
    obtain ⟨o3, e5, h3⟩ := z_many hi h2 hb (s := g_A P i) (a := fr_ (g_R P i) (g_L P (g_A P i)) + 1) (b := g_L P (g_A P i)) v3 (Nat.le_refl _) (by omega) (fun t ht => by
      refine congrArg nI ?_
      unfold dv_E fA_
      rw [k1, if_neg (show ¬ 4 = 1 by decide), if_neg (show ¬ 4 = 2 by decide), if_neg (show ¬ 4 = 3 by decide), if_pos rfl, if_neg (by omega)]
      exact congrArg (g_E P (g_A P i)) (by omega))
    rw [e5, Option.bind_some]
    refine ⟨_, rfl, ?_⟩
    have eL : 0 + (fr_ (g_R P i) (g_L P (g_A P i)) - 0) + (g_L P (g_A P i) - (fr_ (g_R P i) (g_L P (g_A P i)) + 1)) = dv_L P i := by
      unfold dv_L cA_
      unfold fA_
      rw [k1, if_neg (show ¬ 4 = 1 by decide), if_neg (show ¬ 4 = 2 by decide), if_neg (show ¬ 4 = 3 by decide), if_pos rfl]; omega
    rw [eL] at h3
    exact h3
  · rw [k1, if_neg (show ¬ nI 5 = 3 by decide)]
    obtain ⟨o2, e4, h2⟩ := z_many hi h hb (s := g_A P i) (a := 0) (b := fr_ (g_R P i) (g_L P (g_A P i))) v3 fa (by omega) (fun t ht => by
      refine congrArg nI ?_
      unfold dv_E fA_
      rw [k1, if_neg (show ¬ 5 = 1 by decide), if_neg (show ¬ 5 = 2 by decide), if_neg (show ¬ 5 = 3 by decide), if_neg (show ¬ 5 = 4 by decide), if_pos (by omega)])
    rw [show (0 : Int32) = nI 0 from rfl, e4, Option.bind_some, if_pos (show nI 5 = 5 from rfl)]
    obtain ⟨o3, e5, h3⟩ := z_push hi h2 ((20004 : Int32) + nI i) (by
      show nI (dv_E P i _) = _
      unfold dv_E fA_
      rw [k1, if_neg (show ¬ 5 = 1 by decide), if_neg (show ¬ 5 = 2 by decide), if_neg (show ¬ 5 = 3 by decide), if_neg (show ¬ 5 = 4 by decide), if_neg (by omega)]
      exact (nI_add 20004 i).symm)
    rw [e5, Option.bind_some]
    refine ⟨_, rfl, ?_⟩
    have eL : 0 + (fr_ (g_R P i) (g_L P (g_A P i)) - 0) + 1 = dv_L P i := by
      unfold dv_L fA_
      rw [k1, if_neg (show ¬ 5 = 1 by decide), if_neg (show ¬ 5 = 2 by decide), if_neg (show ¬ 5 = 3 by decide), if_neg (show ¬ 5 = 4 by decide)]; omega
    rw [eL] at h3
    exact h3
end
section
variable {o : Ob_T} {P : Pg_} {i : Nat}
theorem m_lays (hi : i < 10) (hv : Va_ P i) (hb : Rb_ (o_A o 1) P i) (e0 : o_A o 1 (15 * i) = nI (g_K P i)) (e1 : o_A o 1 (15 * i + 1) = nI (g_A P i)) (e2 : (g_K P i = 1 ∨ g_K P i = 2) → o_A o 1 (15 * i + 2) = nI (g_B P i)) (e3 : o_A o 1 (15 * i + 3) = g_R P i) : ∃ o', f_X9_laysShape o (nI i) = some (if dv_L P i ≤ 6 then 1 else 0, o') ∧ Fr_ [1, 30] o o' ∧ (∀ l, (l < 15 * i + 8 ∨ 15 * i + 15 ≤ l) → o_A o' 1 l = o_A o 1 l) ∧ (dv_L P i ≤ 6 → o_A o' 1 (15 * i + 8) = nI (dv_L P i) ∧ ∀ j, j < dv_L P i → o_A o' 1 (15 * i + 9 + j) = nI (dv_E P i j)) := by
  have h0 := z_start o i (fun j => nI (dv_E P i j))
  unfold f_X9_laysShape
  rw [ld15 (j := 0) (k := 0) rfl hi (by omega), Option.bind_some, Nat.add_zero, e0, Lt_E, show (15 : Int32) * nI i = nI (15 * i) from pk_mul 15 i]
  rcases kv_ hv.1 with k | k | k | k | k
  · obtain ⟨o2, e4, h2⟩ := z_two hi hv hb h0 e1 (e2 (Or.inl k)) e3 (w := 0) (Or.inl ⟨k, rfl⟩)
    rw [k, if_neg (show ¬ nI 1 = 0 by decide), if_neg (show ¬ nI 1 = 6 by decide), if_pos (show nI 1 = 1 from rfl)]
    unfold f_X9_laysShape_J80 f_X9_laysShape_J92
    rw [if_neg (show ¬ nI 1 = 2 by decide), show (0 : Int32) = nI 0 from rfl, show p_F o 30 (nI 0) = p_F o 30 0 from rfl, e4, Option.bind_some]
    exact z_end hi h2
  · obtain ⟨o2, e4, h2⟩ := z_two hi hv hb h0 e1 (e2 (Or.inr k)) e3 (w := 1) (Or.inr ⟨k, rfl⟩)
    rw [k, if_neg (show ¬ nI 2 = 0 by decide), if_neg (show ¬ nI 2 = 6 by decide), if_neg (show ¬ nI 2 = 1 by decide), if_pos (show nI 2 = 2 from rfl)]
    unfold f_X9_laysShape_J80 f_X9_laysShape_J92
    rw [if_pos (show nI 2 = 2 from rfl), show (1 : Int32) = nI 1 from rfl, e4, Option.bind_some]
    exact z_end hi h2
  · obtain ⟨o2, e4, h2⟩ := z_one hi hv hb h0 e1 e3 (Or.inl k)
    rw [if_neg (show ¬ nI (g_K P i) = 0 by rw [k]; decide), if_neg (show ¬ nI (g_K P i) = 6 by rw [k]; decide), if_neg (show ¬ nI (g_K P i) = 1 by rw [k]; decide), if_neg (show ¬ nI (g_K P i) = 2 by rw [k]; decide), e4, Option.bind_some]
    exact z_end hi h2
  · obtain ⟨o2, e4, h2⟩ := z_one hi hv hb h0 e1 e3 (Or.inr (Or.inl k))
    rw [if_neg (show ¬ nI (g_K P i) = 0 by rw [k]; decide), if_neg (show ¬ nI (g_K P i) = 6 by rw [k]; decide), if_neg (show ¬ nI (g_K P i) = 1 by rw [k]; decide), if_neg (show ¬ nI (g_K P i) = 2 by rw [k]; decide), e4, Option.bind_some]
    exact z_end hi h2
  · obtain ⟨o2, e4, h2⟩ := z_one hi hv hb h0 e1 e3 (Or.inr (Or.inr k))
    rw [if_neg (show ¬ nI (g_K P i) = 0 by rw [k]; decide), if_neg (show ¬ nI (g_K P i) = 6 by rw [k]; decide), if_neg (show ¬ nI (g_K P i) = 1 by rw [k]; decide), if_neg (show ¬ nI (g_K P i) = 2 by rw [k]; decide), e4, Option.bind_some]
    exact z_end hi h2
/-- a told node's shape is what was told -/
theorem m_lays0 (hi : i < 10) {K L : Nat} {e : Nat → Int32} (hK : K = 0 ∨ K = 6) (hL : L ≤ 3) (e0 : o_A o 1 (15 * i) = nI K) (e4 : o_A o 1 (15 * i + 4) = nI L) (e5 : ∀ j, j < L → o_A o 1 (15 * i + 5 + j) = e j) : ∃ o', f_X9_laysShape o (nI i) = some (1, o') ∧ Fr_ [1, 30] o o' ∧ (∀ l, (l < 15 * i + 8 ∨ 15 * i + 15 ≤ l) → o_A o' 1 l = o_A o 1 l) ∧ (o_A o' 1 (15 * i + 8) = nI L ∧ ∀ j, j < L → o_A o' 1 (15 * i + 9 + j) = e j) := by
  have h0 := z_start o i e
  have main : ∃ o', f_X9_laysShape_J29 (nI i) (nI (15 * i)) (p_F o 30 0) = some (1, o') ∧ Fr_ [1, 30] o o' ∧ (∀ l, (l < 15 * i + 8 ∨ 15 * i + 15 ≤ l) → o_A o' 1 l = o_A o 1 l) ∧ (o_A o' 1 (15 * i + 8) = nI L ∧ ∀ j, j < L → o_A o' 1 (15 * i + 9 + j) = e j) := by
    unfold f_X9_laysShape_J29
    refine lp_fu (P := fun r => ∃ o', r = some (1, o') ∧ Fr_ [1, 30] o o' ∧ (∀ l, (l < 15 * i + 8 ∨ 15 * i + 15 ≤ l) → o_A o' 1 l = o_A o 1 l) ∧ (o_A o' 1 (15 * i + 8) = nI L ∧ ∀ j, j < L → o_A o' 1 (15 * i + 9 + j) = e j)) (fun m x => ∃ t o1, t ≤ L ∧ m = L - t + 1 ∧ x = (nI i, nI (15 * i), nI t, o1) ∧ Lay_ o o1 i t e) ?_ ?_ (L - 0 + 1) _ ⟨0, _, by omega, rfl, rfl, h0⟩ (by omega)
    · rintro x ⟨t, o1, h1, h2, -⟩
      omega
    · rintro m x rec ⟨t, o1, ht, hm, rfl, h1⟩ hr
      unfold f_X9_laysShape_L32
      dsimp only
      rw [show nI (15 * i) + 4 = nI (15 * i + 4) from nI_add (15 * i) 4, ld_nI (by omega) (by omega), Option.bind_some, h1.2.2.1 _ (by omega), e4]
      by_cases hx : t = L
      · subst hx
        rw [if_pos (Int32.le_refl _)]
        unfold f_X9_laysShape_J67
        obtain ⟨o2, q1, q2, q3, q4⟩ := z_end hi h1
        rw [if_pos (by omega)] at q1
        exact ⟨o2, q1, q2, q3, q4 (by omega)⟩
      · rw [if_neg (nI_ge (by omega) (by omega)), show nI (15 * i) + 5 + nI t = nI (15 * i + 5 + t) from by rw [show (5 : Int32) = nI 5 from rfl, nI_add, nI_add], ld_nI (by omega) (by omega), Option.bind_some, h1.2.2.1 _ (by omega), e5 t (by omega)]
        obtain ⟨o2, e6, h2⟩ := z_push hi h1 (e t) rfl
        rw [e6, Option.bind_some]
        exact hr _ ⟨t + 1, o2, by omega, by omega, by rw [nI_1], h2⟩
  unfold f_X9_laysShape
  rw [ld15 (j := 0) (k := 0) rfl hi (by omega), Option.bind_some, Nat.add_zero, e0, Lt_E, show (15 : Int32) * nI i = nI (15 * i) from pk_mul 15 i]
  rcases hK with rfl | rfl
  · rw [if_pos (show nI 0 = 0 from rfl)]
    exact main
  · rw [if_neg (show ¬ nI 6 = 0 by decide), if_pos (show nI 6 = 6 from rfl)]
    exact main
end
