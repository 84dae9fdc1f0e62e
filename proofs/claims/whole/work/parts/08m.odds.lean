section
variable {P : Pg_} {x n v d g w v3 d3 o : Ob_T}
theorem cnP_cg {a b : Nat → Int32} (h : ∀ l, l < 4 → a l = b l) (B : Int32) : cnP_ P a B = cnP_ P b B ∧ fwP_ P a B = fwP_ P b B := by
  unfold cnP_ fwP_
  rw [MA_cg h]
  exact ⟨rfl, rfl⟩
/-- both count: the same letters open, as many ways, the same first one -/
theorem both_ways (hW : Wf_ P) (hn : Rn_ n P) (hm : Rm_ (o_A o 0) P) (h2 : o_F o 2 = nI (g_N P)) (hgv : R_gv g o) (hc : Rc_ x v P (o_A g 0)) (hw : Rw_ x w P (o_A g 0)) :
    ∃ x' v' d' w' v3' d3' B o1, f_X8_countNow x n v d g w v3 d3 = some (x', v', d', w', v3', d3') ∧ Rc_ x' v' P (o_A g 0) ∧ o_F x' 10 = 1 ∧ Wy_ w' P (o_A g 0) ∧ f_X9_open o = some (B, o1) ∧ Fr_ WK_ o o1 ∧ o_F w' 3 = B ∧ (∀ l, 4 ≤ l → l < 32 → tb_ B l = false) ∧
      ((o_F o1 35 = 0 ∧ ∃ cn o2, cn ≤ 10000 ∧ f_X9_findWays o1 B = some (nI cn, o2) ∧ Fr_ WK_ o o2 ∧ o_F w' 5 = nI cn ∧ (cn = 0 → ∀ l, l < 4 → o_A w' 2 l = -1) ∧ (¬ cn = 0 → ∀ l, l < 4 → tb_ B l = true → o_A w' 2 l = o_A o2 43 l)) ∨ (¬ o_F o1 35 = 0 ∧ o_F w' 5 = nI 0 ∧ ∀ l, l < 4 → o_A w' 2 l = -1)) := by
  have hgo : ∀ l, l < 4 → gv_ok (o_A o 4 l) := fun l hl => (hgv.1 l hl).2
  have hgg : ∀ l, l < 4 → gv_ok (o_A g 0 l) := fun l hl => by rw [(hgv.1 l hl).1]; exact hgo l hl
  have heq : ∀ l, l < 4 → o_A g 0 l = o_A o 4 l := fun l hl => (hgv.1 l hl).1
  have eS : SO_ P (o_A g 0) = SO_ P (o_A o 4) := SO_cg heq
  obtain ⟨x', v', d', w', v3', d3', e1, q1, q2, q3⟩ := x_count hW (d := d) (v3 := v3) (d3 := d3) hn hgg hc hw
  obtain ⟨B, o1, e2, hB, p1, p2, p3, p4, p5⟩ := m_open hW hm h2 hgo
  obtain ⟨B', b1, b2, b3, b4⟩ := q3
  have eB : B' = B := tb_same (Op_ P (SO_ P (o_A o 4)).1) (fun l hl => by rw [b2 l hl, eS]) hB
  subst eB
  refine ⟨x', v', d', w', v3', d3', B', o1, e1, q1, q2, ⟨B', b1, b2, b3, b4⟩, e2, p5, b1, fun l h4 hl => ?_, ?_⟩
  · cases hb : tb_ B' l
    · rfl
    · have := ((hB l hl).mp hb).1; omega
  · by_cases hS : (SO_ P (o_A o 4)).2 = []
    · left
      have e4 : o_A o1 4 = o_A o 4 := (p5 4 (by decide)).2
      obtain ⟨o2, e3, f1, f2⟩ := m_findWays hW (o := o1) p2 p3 (by rw [e4]; exact hgo) (by rw [e4]; exact hS) (B := B') (by rw [e4]; exact hB)
      rw [e4] at e3 f1
      obtain ⟨c1, c2, c3⟩ := b4 (by rw [eS]; exact hS)
      rw [(cnP_cg heq B').1] at c1 c2 c3
      rw [(cnP_cg heq B').2] at c2
      refine ⟨rso_f0 p1 hS, _, o2, ?_, e3, fr_tr p5 f2, c1, c3, fun z l hl hb => ?_⟩
      · exact cnA_le (okc_le _ _) 4 _
      · rw [c2 z l hl, f1 z l hl hb]
    · right
      refine ⟨by rw [rso_f1 p1 hS]; decide, ?_⟩
      exact b3 (by rw [eS]; exact hS)
theorem sm_ways (hW : Wf_ P) (hn : Rn_ n P) (hm : Rm_ (o_A o 0) P) (h2 : o_F o 2 = nI (g_N P)) (hgv : R_gv g o) (hc : Rc_ x v P (o_A g 0)) (hw : Rw_ x w P (o_A g 0)) : Tr_ (f_X8_ways x n v d g w v3 d3) (fun u => Tr_ (f_X9_ways o) (fun y => u.1 = y.1 ∧ Fr_ WK_ o y.2 ∧ Rc_ u.2.1 u.2.2.1 P (o_A g 0) ∧ Rw_ u.2.1 u.2.2.2.2.1 P (o_A g 0))) := by
  obtain ⟨x', v', d', w', v3', d3', B, o1, e1, q1, q2, q3, e2, F1, b1, b4, hh⟩ := both_ways (d := d) (v3 := v3) (d3 := d3) hW hn hm h2 hgv hc hw
  unfold f_X8_ways f_X9_ways f_X7_howMany
  rw [e1, Option.bind_some, Option.bind_some, e2, Option.bind_some]
  dsimp only
  rcases hh with ⟨f0, cn, o2, hcn, e3, F2, c1, -⟩ | ⟨f0, c1, -⟩
  · rw [if_pos f0, e3, Option.bind_some]
    exact tr_some (tr_some ⟨c1, F2, q1, Or.inr ⟨q2, q3⟩⟩)
  · rw [if_neg f0]
    exact tr_some (tr_some ⟨c1, F1, q1, Or.inr ⟨q2, q3⟩⟩)
theorem sm_way (hW : Wf_ P) (hn : Rn_ n P) (hm : Rm_ (o_A o 0) P) (h2 : o_F o 2 = nI (g_N P)) (hgv : R_gv g o) (hc : Rc_ x v P (o_A g 0)) (hw : Rw_ x w P (o_A g 0)) (x1 : Int32) : Tr_ (f_X8_way x n v d g w v3 d3 x1) (fun u => Tr_ (f_X9_way o x1) (fun y => u.1 = y.1 ∧ Fr_ WK_ o y.2 ∧ Rc_ u.2.1 u.2.2.1 P (o_A g 0) ∧ Rw_ u.2.1 u.2.2.2.2.1 P (o_A g 0))) := by
  unfold f_X8_way f_X9_way
  rw [bind_eq _ (x_isPlain x1), bind_eq _ (m_isTold x1)]
  by_cases c1 : 0 ≤ x1.toInt ∧ x1.toInt ≤ 3
  · rw [if_pos c1, if_neg n_10, if_neg n_10]
    obtain ⟨l, hl, rfl⟩ := i_of (x := x1) (n := 3) c1.1 c1.2
    have hl4 : l < 4 := by omega
    obtain ⟨x', v', d', w', v3', d3', B, o1, e1, q1, q2, q3, e2, F1, b1, b4, hh⟩ := both_ways (d := d) (v3 := v3) (d3 := d3) hW hn hm h2 hgv hc hw
    unfold f_X7_isOpen f_X7_firstOf
    rw [e1, Option.bind_some, e2, Option.bind_some]
    dsimp only
    rw [b1, tb_has B (by omega), f_has B (by omega), Option.bind_some]
    cases hb : tb_ B l
    · rw [if_neg (by decide), Option.bind_some, if_pos rfl, if_pos (by decide)]
      exact tr_some (tr_some ⟨rfl, F1, q1, Or.inr ⟨q2, q3⟩⟩)
    · rw [if_pos (by decide), Option.bind_some, if_neg n_10, if_neg (by decide), ld_nI hl4 (by omega), Option.bind_some, Option.bind_some]
      rcases hh with ⟨f0, cn, o2, hcn, e3, F2, d1, d2, d3⟩ | ⟨f0, d1, d2⟩
      · rw [if_pos f0, e3, Option.bind_some]
        dsimp only
        by_cases z : cn = 0
        · rw [if_pos (show nI cn = 0 by rw [z]; rfl)]
          exact tr_some (tr_some ⟨d2 z l hl4, F2, q1, Or.inr ⟨q2, q3⟩⟩)
        · rw [if_neg (nI_ne0 (by omega) (by omega)), ld_nI hl4 (by omega), Option.bind_some]
          exact tr_some (tr_some ⟨d3 z l hl4 hb, F2, q1, Or.inr ⟨q2, q3⟩⟩)
      · rw [if_neg f0]
        exact tr_some (tr_some ⟨d2 l hl4, F1, q1, Or.inr ⟨q2, q3⟩⟩)
  · rw [if_neg c1, if_pos rfl, if_pos rfl]
    exact tr_some (tr_some ⟨rfl, fr_rf _ _, hc, hw⟩)
end
/-! the greatest common part -/
theorem gcd_st {a b : Nat} (hb : ¬ b = 0) : Nat.gcd b (a % b) = Nat.gcd a b := by
  rw [Nat.gcd_comm a b, Nat.gcd_rec b a, Nat.gcd_comm]
theorem m_gcd (x1 x3 x4 : Int32) {a b : Nat} (ha : a ≤ 10000) (hb : b ≤ 10000) (o : Ob_T) (k93 : Int32 → Int32 → Int32 → Int32 → Ob_T → Option (Int32 × Ob_T)) : Lp_ (fun (rec : (Int32 × Int32 × Int32 × Int32 × Int32 × Ob_T) → Option (Int32 × Ob_T)) x => f_X9_odds_L70 k93 rec x.1 x.2.1 x.2.2.1 x.2.2.2.1 x.2.2.2.2.1 x.2.2.2.2.2) FU_ (x1, x3, x4, nI a, nI b, o) = k93 x1 x3 x4 (nI (Nat.gcd a b)) o := by
  refine lp_fu (P := fun r => r = k93 x1 x3 x4 (nI (Nat.gcd a b)) o) (fun n x => ∃ a' b', a' ≤ 10000 ∧ b' + 1 ≤ n ∧ n ≤ 10001 ∧ x = (x1, x3, x4, nI a', nI b', o) ∧ Nat.gcd a' b' = Nat.gcd a b) ?_ ?_ (b + 1) _ ⟨a, b, ha, Nat.le_refl _, by omega, rfl, rfl⟩ (by omega)
  · rintro x ⟨a', b', h1, h2, -⟩
    omega
  · rintro n x rec ⟨a', b', h1, h2, h3, rfl, hg⟩ hr
    unfold f_X9_odds_L70
    dsimp only
    by_cases z : b' = 0
    · subst z
      rw [if_pos (show nI 0 = 0 from rfl), ← hg, Nat.gcd_zero_right]
    · rw [if_neg (nI_ne0 (by omega) (by omega)), if_neg (nI_ne0 (by omega) (by omega)), pk_rem (by omega) (by omega) (by omega)]
      have := Nat.mod_lt a' (show 0 < b' by omega)
      exact hr _ ⟨b', a' % b', by omega, by omega, by omega, rfl, by rw [gcd_st z, hg]⟩
theorem x_gcd {a b : Nat} (ha : a ≤ 10000) (hb : b ≤ 10000) : f_X8_commonDivisor (nI a) (nI b) = some (nI (Nat.gcd a b)) := by
  unfold f_X8_commonDivisor
  refine lp_fu (P := fun r => r = some (nI (Nat.gcd a b))) (fun n x => ∃ a' b' s k, a' ≤ 10000 ∧ b' + 1 ≤ n ∧ n ≤ 10001 ∧ x = (nI a', nI b', nI s) ∧ Nat.gcd a' b' = Nat.gcd a b ∧ s ≤ 1000000 ∧ ((b' * 2 ^ k < 16384 ∧ s = 2 * k) ∨ (b' < a' ∧ a' * 2 ^ k < 16384 ∧ s = 2 * k + 1))) ?_ ?_ (b + 1) _ ⟨a, b, 0, 0, ha, Nat.le_refl _, by omega, rfl, rfl, by omega, Or.inl ⟨by omega, rfl⟩⟩ (by omega)
  · rintro x ⟨a', b', s, k, h1, h2, -⟩
    omega
  · rintro n x rec ⟨a', b', s, k, h1, h2, h3, rfl, hg, hs, hk⟩ hr
    unfold f_X8_commonDivisor_L7
    dsimp only
    by_cases z : b' = 0
    · subst z
      rw [← hg, Nat.gcd_zero_right]
      by_cases q : (100 : Int32) ≤ nI s
      · rw [if_pos q]
      · rw [if_neg q, if_pos (show nI 0 = 0 from rfl)]
    · have kl : k < 14 := by
        by_cases q : k < 14
        · exact q
        · have p1 : 2 ^ 14 ≤ 2 ^ k := Nat.pow_le_pow_right (by omega) (by omega)
          have p1 : 16384 ≤ 2 ^ k := p1
          rcases hk with ⟨e, -⟩ | ⟨e0, e, -⟩
          · have := Nat.le_mul_of_pos_left (2 ^ k) (show 0 < b' by omega)
            omega
          · have := Nat.le_mul_of_pos_left (2 ^ k) (show 0 < a' by omega)
            omega
      have sl : s ≤ 29 := by rcases hk with ⟨-, e⟩ | ⟨-, -, e⟩ <;> omega
      rw [if_neg (show ¬ (100 : Int32) ≤ nI s from nI_ge (b := 100) (by omega) (by omega)), if_neg (nI_ne0 (by omega) (by omega)), if_neg (nI_ne0 (by omega) (by omega)), pk_rem (by omega) (by omega) (by omega), nI_1]
      have ml := Nat.mod_lt a' (show 0 < b' by omega)
      rcases hk with ⟨e, es⟩ | ⟨e0, e, es⟩
      · exact hr _ ⟨b', a' % b', s + 1, k, by omega, by omega, by omega, rfl, by rw [gcd_st z, hg], by omega, Or.inr ⟨ml, e, by omega⟩⟩
      · refine hr _ ⟨b', a' % b', s + 1, k + 1, by omega, by omega, by omega, rfl, by rw [gcd_st z, hg], by omega, Or.inl ⟨?_, by omega⟩⟩
        have half : 2 * (a' % b') ≤ a' := by
          have dm := Nat.div_add_mod a' b'
          have dp : 1 ≤ a' / b' := (Nat.one_le_div_iff (by omega)).mpr (by omega)
          have := Nat.le_mul_of_pos_right b' (show 0 < a' / b' by omega)
          omega
        have e2 : a' % b' * 2 ^ (k + 1) = 2 * (a' % b') * 2 ^ k := by rw [Nat.pow_succ, Nat.mul_comm (2 ^ k) 2, ← Nat.mul_assoc, Nat.mul_comm (a' % b') 2]
        rw [e2]
        exact Nat.lt_of_le_of_lt (Nat.mul_le_mul_right _ half) e
theorem x_most (w : Ob_T) {B : Int32} (h : o_F w 3 = B) : f_X7_howManyAtMost w = some (nI (Mw_ (opn_ B) 4)) := by
  unfold f_X7_howManyAtMost
  refine lp_fu (P := fun r => r = some (nI (Mw_ (opn_ B) 4))) (fun n x => ∃ l a, l ≤ 4 ∧ n = 4 - l + 1 ∧ x = (nI a, nI l) ∧ a * Mw_ (opn_ B) (4 - l) = Mw_ (opn_ B) 4) ?_ ?_ (4 - 0 + 1) _ ⟨0, 1, by omega, rfl, rfl, Nat.one_mul _⟩ (by omega)
  · rintro x ⟨l, a, h1, h2, -⟩
    omega
  · rintro n x rec ⟨l, a, hl, hn, rfl, ha⟩ hr
    unfold f_X7_howManyAtMost_L4 f_X7_isOpen
    dsimp only
    by_cases he : l = 4
    · subst he
      rw [if_pos (show (4 : Int32) ≤ nI 4 from Int32.le_refl _)]
      have ha : a * 1 = Mw_ (opn_ B) 4 := ha
      rw [← ha, Nat.mul_one]
    · rw [if_neg (show ¬ (4 : Int32) ≤ nI l from nI_ge (b := 4) (by omega) (by omega)), h, tb_has B (by omega)]
      have em : Mw_ (opn_ B) (4 - l) = if tb_ B l = true then 10 * Mw_ (opn_ B) (4 - (l + 1)) else Mw_ (opn_ B) (4 - (l + 1)) := by
        obtain ⟨k, hk⟩ : ∃ k, 4 - l = k + 1 := ⟨3 - l, by omega⟩
        rw [hk, show 4 - (l + 1) = k by omega]
        show (if opn_ B (3 - k) = true then _ else _) = _
        rw [show 3 - k = l by omega]
        rfl
      cases hb : tb_ B l
      · rw [if_neg (by decide), Option.bind_some, if_pos rfl]
        rw [hb, if_neg (by decide)] at em
        refine hr _ ⟨l + 1, a, by omega, by omega, ?_, by rw [← em]; exact ha⟩
        rw [show nI a * 1 = nI (a * 1) from pk_mul a 1, Nat.mul_one, nI_1]
      · rw [if_pos (by decide), Option.bind_some, if_neg n_10]
        rw [hb, if_pos rfl] at em
        refine hr _ ⟨l + 1, a * 10, by omega, by omega, ?_, by rw [em] at ha; rw [Nat.mul_assoc]; exact ha⟩
        rw [show nI a * 10 = nI (a * 10) from pk_mul a 10, nI_1]
/-- how many bits are set below k -/
def bc_ (B : Int32) : Nat → Nat
  | 0 => 0
  | k + 1 => bc_ B k + if tb_ B k = true then 1 else 0
theorem bc_le (B : Int32) : ∀ k, bc_ B k ≤ k
  | 0 => Nat.le_refl _
  | k + 1 => by
    have := bc_le B k
    show bc_ B k + (if tb_ B k = true then 1 else 0) ≤ k + 1
    by_cases c : tb_ B k = true
    · rw [if_pos c]; omega
    · rw [if_neg c]; omega
theorem m_bits (B : Int32) : f_X9_bits B = some (nI (bc_ B 6)) := by
  unfold f_X9_bits
  refine lp_fu (P := fun r => r = some (nI (bc_ B 6))) (fun n x => ∃ k, k ≤ 6 ∧ n = 6 - k + 1 ∧ x = (B, nI (bc_ B k), nI k)) ?_ ?_ (6 - 0 + 1) _ ⟨0, by omega, rfl, rfl⟩ (by omega)
  · rintro x ⟨k, h1, h2, -⟩
    omega
  · rintro n x rec ⟨k, hk, hn, rfl⟩ hr
    unfold f_X9_bits_L4
    dsimp only
    by_cases he : k = 6
    · subst he
      rw [if_pos (show (6 : Int32) ≤ nI 6 from Int32.le_refl _)]
    · rw [if_neg (show ¬ (6 : Int32) ≤ nI k from nI_ge (b := 6) (by omega) (by omega)), Lt_E, tb_has B (by omega)]
      have e : bc_ B (k + 1) = bc_ B k + if tb_ B k = true then 1 else 0 := rfl
      refine hr _ ⟨k + 1, by omega, by omega, ?_⟩
      rw [e, nI_1]
      cases hb : tb_ B k
      · rw [if_neg (by decide), if_neg (by decide), show nI (bc_ B k) + 0 = nI (bc_ B k + 0) from nI_add _ 0]
      · rw [if_pos (by decide), if_pos rfl, nI_1]
theorem bc_Mw {B : Int32} (h : ∀ l, 4 ≤ l → l < 32 → tb_ B l = false) : 10 ^ bc_ B 6 = Mw_ (opn_ B) 4 := by
  have e : bc_ B 6 = (((((0 + if tb_ B 0 = true then 1 else 0) + if tb_ B 1 = true then 1 else 0) + if tb_ B 2 = true then 1 else 0) + if tb_ B 3 = true then 1 else 0) + if tb_ B 4 = true then 1 else 0) + if tb_ B 5 = true then 1 else 0 := rfl
  have m1 : Mw_ (opn_ B) 1 = if tb_ B 3 = true then 10 * 1 else 1 := rfl
  have m2 : Mw_ (opn_ B) 2 = if tb_ B 2 = true then 10 * Mw_ (opn_ B) 1 else Mw_ (opn_ B) 1 := rfl
  have m3 : Mw_ (opn_ B) 3 = if tb_ B 1 = true then 10 * Mw_ (opn_ B) 2 else Mw_ (opn_ B) 2 := rfl
  have m4 : Mw_ (opn_ B) 4 = if tb_ B 0 = true then 10 * Mw_ (opn_ B) 3 else Mw_ (opn_ B) 3 := rfl
  rw [e, m4, m3, m2, m1, h 4 (by omega) (by omega), h 5 (by omega) (by omega)]
  cases tb_ B 0 <;> cases tb_ B 1 <;> cases tb_ B 2 <;> cases tb_ B 3 <;> decide
theorem m_below (o : Ob_T) (x1 x3 : Int32) (B : Int32) (k63 : Int32 → Int32 → Int32 → Ob_T → Option (Int32 × Ob_T)) : Lp_ (fun (rec : (Int32 × Int32 × Int32 × Int32 × Int32 × Ob_T) → Option (Int32 × Ob_T)) x => f_X9_odds_L41 k63 rec x.1 x.2.1 x.2.2.1 x.2.2.2.1 x.2.2.2.2.1 x.2.2.2.2.2) FU_ (x1, B, x3, 1, 0, o) = k63 x1 x3 (nI (10 ^ bc_ B 6)) o := by
  have bl := bc_le B 6
  refine lp_fu (P := fun r => r = k63 x1 x3 (nI (10 ^ bc_ B 6)) o) (fun n x => ∃ k, k ≤ bc_ B 6 ∧ n = bc_ B 6 - k + 1 ∧ x = (x1, B, x3, nI (10 ^ k), nI k, o)) ?_ ?_ (bc_ B 6 - 0 + 1) _ ⟨0, by omega, rfl, rfl⟩ (by omega)
  · rintro x ⟨k, h1, h2, -⟩
    omega
  · rintro n x rec ⟨k, hk, hn, rfl⟩ hr
    unfold f_X9_odds_L41
    dsimp only
    rw [m_bits, Option.bind_some]
    by_cases he : k = bc_ B 6
    · rw [if_pos (by rw [he]; exact Int32.le_refl _), he]
    · rw [if_neg (nI_ge (by omega) (by omega))]
      refine hr _ ⟨k + 1, by omega, by omega, ?_⟩
      rw [show nI (10 ^ k) * 10 = nI (10 ^ k * 10) from pk_mul _ 10, ← Nat.pow_succ, nI_1]
theorem sm_odds {P : Pg_} {x n v d g w v3 d3 o : Ob_T} (hW : Wf_ P) (hn : Rn_ n P) (hm : Rm_ (o_A o 0) P) (h2 : o_F o 2 = nI (g_N P)) (hgv : R_gv g o) (hc : Rc_ x v P (o_A g 0)) (hw : Rw_ x w P (o_A g 0)) (x1 : Int32) : Tr_ (f_X8_odds x n v d g w v3 d3 x1) (fun u => Tr_ (f_X9_odds o x1) (fun y => u.1 = y.1 ∧ Fr_ WK_ o y.2 ∧ Rc_ u.2.1 u.2.2.1 P (o_A g 0) ∧ Rw_ u.2.1 u.2.2.2.2.1 P (o_A g 0))) := by
  have l0 : (0 : Int32).toInt = 0 := rfl
  have l1 : (1 : Int32).toInt = 1 := rfl
  unfold f_X8_odds f_X9_odds
  by_cases c1 : 0 ≤ x1.toInt ∧ x1.toInt ≤ 1
  · rw [bind_eq _ (f_in1 (a := 0) (b := 1) c1), if_neg n_10, if_neg (by rw [i_lt, l0]; omega), if_pos (by rw [i_le, l1]; omega)]
    obtain ⟨x', v', d', w', v3', d3', B, o1, e1, q1, q2, q3, e2, F1, b1, b4, hh⟩ := both_ways (d := d) (v3 := v3) (d3 := d3) hW hn hm h2 hgv hc hw
    obtain ⟨Mp, Ml⟩ := Mw_pos (opn_ B) 4
    have Ml : Mw_ (opn_ B) 4 ≤ 10000 := Ml
    -- both from here on: so many above, so many below
    have fin : ∀ (cn : Nat) (o2 : Ob_T), cn ≤ 10000 → o_F w' 5 = nI cn → Fr_ WK_ o o2 → Tr_ ((f_X7_howMany w').bind fun u2 => (f_X7_howManyAtMost w').bind fun u3 => (f_X8_commonDivisor u2 u3).bind fun u4 => if u4 = (0 : Int32) then some ((-1 : Int32), x', v', d', w', v3', d3') else (if x1 = (0 : Int32) then (if u4 = 0 then none else some ((u2 / u4), x', v', d', w', v3', d3')) else (if u4 = 0 then none else some ((u3 / u4), x', v', d', w', v3', d3')))) (fun u => Tr_ (f_X9_odds_J34 x1 B (nI cn) o2) (fun y => u.1 = y.1 ∧ Fr_ WK_ o y.2 ∧ Rc_ u.2.1 u.2.2.1 P (o_A g 0) ∧ Rw_ u.2.1 u.2.2.2.2.1 P (o_A g 0))) := by
      intro cn o2 hcn h5 F2
      have gp : 0 < Nat.gcd cn (Mw_ (opn_ B) 4) := Nat.gcd_pos_of_pos_right _ Mp
      have gl : Nat.gcd cn (Mw_ (opn_ B) 4) ≤ Mw_ (opn_ B) 4 := Nat.gcd_le_right _ Mp
      unfold f_X7_howMany f_X9_odds_J34
      rw [Option.bind_some, x_most w' b1, Option.bind_some, h5, x_gcd hcn Ml, Option.bind_some, m_below, bc_Mw b4]
      unfold f_X9_odds_J63
      rw [m_gcd x1 (nI cn) (nI (Mw_ (opn_ B) 4)) hcn Ml]
      unfold f_X9_odds_J93
      rw [if_neg (nI_ne0 gp (by omega))]
      by_cases z : x1 = 0
      · rw [if_pos z, if_pos z, if_neg (nI_ne0 gp (by omega)), if_neg (nI_ne0 gp (by omega))]
        exact tr_some (tr_some ⟨rfl, F2, q1, Or.inr ⟨q2, q3⟩⟩)
      · rw [if_neg z, if_neg z, if_neg (nI_ne0 gp (by omega)), if_neg (nI_ne0 gp (by omega))]
        exact tr_some (tr_some ⟨rfl, F2, q1, Or.inr ⟨q2, q3⟩⟩)
    rw [e1, Option.bind_some, e2, Option.bind_some]
    dsimp only
    rcases hh with ⟨f0, cn, o2, hcn, e3, F2, c5, -⟩ | ⟨f0, c5, -⟩
    · rw [if_pos f0, e3, Option.bind_some]
      exact fin cn o2 hcn c5 F2
    · rw [if_neg f0]
      exact fin 0 o1 (by omega) c5 F1
  · rw [bind_eq _ (f_in0 (a := 0) (b := 1) c1), if_pos rfl]
    refine tr_if (fun _ => tr_some (tr_some ⟨rfl, fr_rf _ _, hc, hw⟩)) (fun n1 => tr_if (fun p1 => ?_) (fun _ => tr_some (tr_some ⟨rfl, fr_rf _ _, hc, hw⟩)))
    rw [i_lt, l0] at n1
    rw [i_le, l1] at p1
    exact absurd ⟨by omega, by omega⟩ c1
