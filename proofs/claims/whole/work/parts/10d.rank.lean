section
variable {t o : Ob_T} {c : Nat → Nat} {L s e k : Nat}
theorem to2_fr {S T : List Nat} {t' o' : Ob_T} (h : To2_ t o c L s e) (hS : 0 ∉ S ∧ 1 ∉ S ∧ 3 ∉ S ∧ 4 ∉ S ∧ 5 ∉ S) (hT : 9 ∉ T ∧ 10 ∉ T ∧ 18 ∉ T ∧ 19 ∉ T) (F : Fr_ S t t') (G : Fr_ T o o') : To2_ t' o' c L s e := by
  obtain ⟨a1, a2, a3, a4, a5, a6, a7⟩ := h
  exact ⟨tx_fr a1 (F 1 hS.2.1).1 (F 0 hS.1).2 (G 10 hT.2.1).1 (G 9 hT.1).2, a2, by rw [(F 3 hS.2.2.1).1]; exact a3, by rw [(F 4 hS.2.2.2.1).1]; exact a4, by rw [(F 5 hS.2.2.2.2).1]; exact a5, by rw [(G 18 hT.2.2.1).1]; exact a6, by rw [(G 19 hT.2.2.2).1]; exact a7⟩
/-- a step from a token that both look at -/
theorem to2_step (h : To2_ t o c L s e) : ∃ t' o' s' e', f_X6_step t = some t' ∧ f_X9_nextToken o = some o' ∧ Fr_ [3, 4, 5] t t' ∧ Fr_ [18, 19] o o' ∧ To2_ t' o' c L s' e' := sm_step h.1 (tk_le h.2.1).2 h.2.2.2.2.1 h.2.2.2.2.2.2
/-- both are at the same place -/
def At_ (t o : Ob_T) : Prop := ∃ p, p ≤ 200 ∧ o_F t 4 = nI p ∧ o_F o 18 = nI p
theorem to2_at (h : To2_ t o c L s e) : At_ t o := ⟨s, by have := tk_le h.2.1; have := h.1.1; omega, h.2.2.2.1, h.2.2.2.2.2.1⟩
theorem rk_neg : ∀ n, n < 4 → (-nI n) ∈ rks_ ∧ nI n ∈ rks_ := by decide +kernel
abbrev TF_ : List Nat := [3, 4, 5, 6, 7, 8]
abbrev OF_ : List Nat := [1, 18, 19, 21]
theorem st15 {q : Nat} {j : Int32} (o : Ob_T) (ej : j = nI q) (hk : k < 10) (hq : q < 15) (v : Int32) : st_A o 1 150 (nI (15 * k) + j) v = some (p_A o 1 (upd (o_A o 1) (15 * k + q) v)) := by
  subst ej
  rw [nI_add, st_nI (by omega) (by omega)]
/-- the rank's number, after its sign -/
theorem sm_rank2 (h : To2_ t o c L s e) (hk : k < 10) {w : Nat} (hw : w ≤ 1) : (∃ t' o', f_X6_readRank_J25 (nI w) (nI w) t = some (0, t') ∧ f_X9_readsRank_J49 (nI (15 * k)) (nI w) (nI w) o = some (0, o') ∧ At_ t' o' ∧ Fr_ TF_ t t' ∧ Fr_ OF_ o o') ∨ ∃ t' o' s' e' r, f_X6_readRank_J25 (nI w) (nI w) t = some (1, t') ∧ f_X9_readsRank_J49 (nI (15 * k)) (nI w) (nI w) o = some (1, o') ∧ To2_ t' o' c L s' e' ∧ r ∈ rks_ ∧ o_F t' 8 = r ∧ o_A o' 1 (15 * k + 3) = r ∧ Fr_ [3, 4, 5, 8] t t' ∧ Fr_ OF_ o o' ∧ ∀ l, ¬ l = 15 * k + 3 → o_A o' 1 l = o_A o 1 l := by
  unfold f_X6_readRank_J25 f_X9_readsRank_J49 f_X9_readsRank_J77 f_X6_readRank_J51
  rcases sm_num h (nI w) 3 with ⟨nm, hv, e1, e2, e3⟩ | ⟨nm, e1, e3⟩
  · have hv3 : nv_ c s e ≤ 3 := by
      have := nm.2.2.2.2
      rw [show (3 : Int32).toInt = 3 from rfl] at this
      omega
    have rk := rk_neg (nv_ c s e) (by omega)
    rw [e1, Option.bind_some, if_neg n_10, e2, e3, Option.bind_some, Option.bind_some]
    have fin : ∀ r : Int32, r ∈ rks_ → ∃ t' o' s' e', ((f_X6_step (p_F t 8 r)).bind fun u5 => some ((1 : Int32), u5)) = some (1, t') ∧ f_X9_nextToken (p_F o 21 (nI (nv_ c s e))) = some o' ∧ To2_ t' o' c L s' e' ∧ o_F t' 8 = r ∧ o_F o' 21 = nI (nv_ c s e) ∧ Fr_ [3, 4, 5, 8] t t' ∧ Fr_ OF_ o o' ∧ o_A o' 1 = o_A o 1 := by
      intro r hr
      have h2 : To2_ (p_F t 8 r) (p_F o 21 (nI (nv_ c s e))) c L s e := to2_fr (S := [8]) (T := [21]) h (by decide) (by decide) (fr_pF (by decide)) (fr_pF (by decide))
      obtain ⟨t', o', s', e', a1, a2, a3, a4, a5⟩ := to2_step h2
      refine ⟨t', o', s', e', by rw [a1]; rfl, a2, a5, by rw [(a3 8 (by decide)).1, fF_], by rw [(a4 21 (by decide)).1, fF_], fr_tr (fr_pF (by decide)) (fr_mono a3 (by decide)), fr_tr (fr_pF (by decide)) (fr_mono a4 (by decide)), ?_⟩
      rw [(a4 1 (by decide)).2]
      rfl
    refine Or.inr ?_
    rcases (show w = 0 ∨ w = 1 by omega) with rfl | rfl
    · obtain ⟨t', o', s', e', a1, a2, a3, a4, a5, a6, a7, a8⟩ := fin (nI (nv_ c s e)) rk.2
      rw [if_pos (show nI 0 = 0 from rfl), Lt_E, a1, a2, Option.bind_some, Option.bind_some]
      dsimp only
      rw [if_pos (show nI 0 = 0 from rfl), st15 (q := 3) (j := 3) o' rfl hk (by omega), Option.bind_some, a5]
      refine ⟨t', _, s', e', _, rfl, rfl, to2_fr (S := []) (T := [1]) a3 (by decide) (by decide) (fr_rf _ _) (fr_pA (by decide)), rk.2, a4, ?_, a6, fr_tr a7 (fr_pA (by decide)), fun l hl => ?_⟩
      · show upd (o_A o' 1) (15 * k + 3) _ (15 * k + 3) = _
        rw [updE, if_pos rfl]
      · show upd (o_A o' 1) (15 * k + 3) _ l = _
        rw [updE, if_neg hl, a8]
    · obtain ⟨t', o', s', e', a1, a2, a3, a4, a5, a6, a7, a8⟩ := fin (-nI (nv_ c s e)) rk.1
      rw [if_neg (show ¬ nI 1 = 0 by decide), Lt_E, a1, a2, Option.bind_some, Option.bind_some]
      dsimp only
      rw [if_neg (show ¬ nI 1 = 0 by decide), st15 (q := 3) (j := 3) o' rfl hk (by omega), Option.bind_some, a5]
      refine ⟨t', _, s', e', _, rfl, rfl, to2_fr (S := []) (T := [1]) a3 (by decide) (by decide) (fr_rf _ _) (fr_pA (by decide)), rk.1, a4, ?_, a6, fr_tr a7 (fr_pA (by decide)), fun l hl => ?_⟩
      · show upd (o_A o' 1) (15 * k + 3) _ (15 * k + 3) = _
        rw [updE, if_pos rfl]
      · show upd (o_A o' 1) (15 * k + 3) _ l = _
        rw [updE, if_neg hl, a8]
  · rw [e1, Option.bind_some, if_pos rfl, e3, Option.bind_some]
    refine Or.inl ?_
    dsimp only
    rcases (show w = 0 ∨ w = 1 by omega) with rfl | rfl
    · rw [if_pos (show nI 0 = 0 from rfl), st15 (q := 3) (j := 3) o rfl hk (by omega), Option.bind_some]
      exact ⟨t, _, rfl, rfl, to2_at h, fr_rf _ _, fr_pA (by decide)⟩
    · rw [if_neg (show ¬ nI 1 = 0 by decide), st15 (q := 3) (j := 3) o rfl hk (by omega), Option.bind_some]
      exact ⟨t, _, rfl, rfl, to2_at h, fr_rf _ _, fr_pA (by decide)⟩
theorem sm_rank (h : To2_ t o c L s e) (hk : k < 10) : (∃ t' o', f_X6_readRank t = some (0, t') ∧ f_X9_readsRank o (nI (15 * k)) = some (0, o') ∧ At_ t' o' ∧ Fr_ TF_ t t' ∧ Fr_ OF_ o o') ∨ ∃ t' o' s' e' r, f_X6_readRank t = some (1, t') ∧ f_X9_readsRank o (nI (15 * k)) = some (1, o') ∧ To2_ t' o' c L s' e' ∧ r ∈ rks_ ∧ o_F t' 8 = r ∧ o_A o' 1 (15 * k + 3) = r ∧ Fr_ [3, 4, 5, 8] t t' ∧ Fr_ OF_ o o' ∧ ∀ l, ¬ l = 15 * k + 3 → o_A o' 1 l = o_A o 1 l := by
  have h' := h
  obtain ⟨⟨hL, t1, o1, hc⟩, htk, t3, t4, t5, o18, o19⟩ := h
  unfold f_X6_readRank f_X9_readsRank f_X9_readsRank_J29 f_X9_readsRank_J30 f_X6_readRank_J15 f_X9_readsRank_J39
  rw [show (45 : Int32) = nI 45 from rfl, x_sign h' (g := 45) (by omega) rfl, Option.bind_some, o1, o18]
  -- without a sign
  have no : (∃ t' o', f_X6_readRank_J25 0 0 t = some (0, t') ∧ f_X9_readsRank_J49 (nI (15 * k)) 0 0 o = some (0, o') ∧ At_ t' o' ∧ Fr_ TF_ t t' ∧ Fr_ OF_ o o') ∨ ∃ t' o' s' e' r, f_X6_readRank_J25 0 0 t = some (1, t') ∧ f_X9_readsRank_J49 (nI (15 * k)) 0 0 o = some (1, o') ∧ To2_ t' o' c L s' e' ∧ r ∈ rks_ ∧ o_F t' 8 = r ∧ o_A o' 1 (15 * k + 3) = r ∧ Fr_ [3, 4, 5, 8] t t' ∧ Fr_ OF_ o o' ∧ ∀ l, ¬ l = 15 * k + 3 → o_A o' 1 l = o_A o 1 l := sm_rank2 h' hk (w := 0) (by omega)
  by_cases hs : s < L
  · rw [if_neg (nI_ge hs (by omega)), ld_nI (by omega) (by omega), Option.bind_some, (hc s hs).2.2]
    have := (hc s hs).1
    by_cases q : c s = 45
    · rw [if_pos (show s < L ∧ c s = 45 from ⟨hs, q⟩), if_neg n_10, if_pos (show nI (c s) = nI 45 by rw [q]), if_neg n_10]
      obtain ⟨t2, o2, s2, e2, a1, a2, a3, a4, a5⟩ := to2_step h'
      rw [a1, a2, Option.bind_some, Option.bind_some, if_neg n_10, if_neg n_10]
      have r2 := sm_rank2 a5 hk (w := 1) (by omega)
      rcases r2 with ⟨t', o', b1, b2, b3, b4, b5⟩ | ⟨t', o', s', e', r, b1, b2, b3, b4, b5, b6, b7, b8, b9⟩
      · exact Or.inl ⟨t', o', b1, b2, b3, fr_tr (fr_mono a3 (by decide)) b4, fr_tr (fr_mono a4 (by decide)) b5⟩
      · exact Or.inr ⟨t', o', s', e', r, b1, b2, b3, b4, b5, b6, fr_tr (fr_mono a3 (by decide)) b7, fr_tr (fr_mono a4 (by decide)) b8, fun l hl => by rw [b9 l hl, (a4 1 (by decide)).2]⟩
    · rw [if_neg (show ¬ (s < L ∧ c s = 45) from fun z => q z.2), if_pos rfl, if_neg (show ¬ nI (c s) = nI 45 from fun z => q ((nI_eq (by omega) (by omega)).mp z)), if_pos rfl, if_pos rfl, if_pos rfl]
      exact no
  · rw [if_neg (show ¬ (s < L ∧ c s = 45) from fun z => hs z.1), if_pos rfl, if_pos (nI_le (by have := (tk_le htk).1; have := (tk_le htk).2; omega) (by have := (tk_le htk).1; have := (tk_le htk).2; omega)), if_pos rfl, if_pos rfl, if_pos rfl]
    exact no
/-- a node's number, put into the row at q -/
theorem sm_nodeNo (h : To2_ t o c L s e) (hk : k < 10) (h3 : o_F o 3 = nI k) {q : Nat} {j : Int32} (ej : j = nI q) (hq : q < 15) : (∃ o', f_X6_isNumber t 0 (nI k - 1) = some 0 ∧ f_X9_readsNode o (nI (15 * k)) j = some (0, o') ∧ At_ t o' ∧ Fr_ OF_ o o') ∨ ∃ a, a < k ∧ f_X6_isNumber t 0 (nI k - 1) = some 1 ∧ f_X6_numberHere t = some (nI a) ∧ ∃ o1, f_X9_nextToken (p_F o 21 (nI a)) = some o1 ∧ o_F o1 21 = nI a ∧ f_X9_readsNode o (nI (15 * k)) j = some (1, p_A o1 1 (upd (o_A o1 1) (15 * k + q) (nI a))) := by
  unfold f_X9_readsNode
  rw [h3]
  have tk : (nI k - 1).toInt = (k : Int) - 1 := pk_sub_toInt (a := k) (b := 1) (by omega) (by omega)
  rcases sm_num h 0 (nI k - 1) with ⟨nm, hv, e1, e2, e3⟩ | ⟨nm, e1, e3⟩
  · have hlt : nv_ c s e < k := by
      have := nm.2.2.2.2
      rw [tk] at this
      omega
    have h2 : To2_ t (p_F o 21 (nI (nv_ c s e))) c L s e := to2_fr (S := []) (T := [21]) h (by decide) (by decide) (fr_rf _ _) (fr_pF (by decide))
    obtain ⟨t', o', s', e', a1, a2, a3, a4, a5⟩ := to2_step h2
    have e21 : o_F o' 21 = nI (nv_ c s e) := by rw [(a4 21 (by decide)).1, fF_]
    refine Or.inr ⟨nv_ c s e, hlt, e1, e2, o', a2, e21, ?_⟩
    rw [e3, a2, Option.bind_some, Option.bind_some]
    dsimp only
    rw [st15 (q := q) o' ej hk hq, Option.bind_some, e21]
    rfl
  · rw [e1, e3, Option.bind_some]
    dsimp only
    rw [st15 (q := q) o ej hk hq, Option.bind_some]
    exact Or.inl ⟨_, rfl, rfl, to2_at h, fr_pA (by decide)⟩
end
