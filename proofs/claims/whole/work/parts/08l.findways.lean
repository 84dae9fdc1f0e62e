theorem m_all (o : Ob_T) (B : Int32) (k37 : Int32 → Int32 → Int32 → Ob_T → Option (Int32 × Ob_T)) : Lp_ (fun (rec : (Int32 × Int32 × Int32 × Int32 × Ob_T) → Option (Int32 × Ob_T)) x => f_X9_findWays_L7 k37 rec x.1 x.2.1 x.2.2.1 x.2.2.2.1 x.2.2.2.2) FU_ (B, 1, 0, 0, o) = k37 B (nI (Mw_ (opn_ B) 4)) 0 o := by
  -- so many from the first letters on
  have key : ∀ l, l ≤ 4 → Mw_ (opn_ B) (4 - l) ≤ 10 ^ (4 - l) := fun l _ => (Mw_pos (opn_ B) (4 - l)).2
  refine lp_fu (P := fun r => r = k37 B (nI (Mw_ (opn_ B) 4)) 0 o) (fun n x => ∃ l a, l ≤ 4 ∧ n = 4 - l + 1 ∧ x = (B, nI a, 0, nI l, o) ∧ a * Mw_ (opn_ B) (4 - l) = Mw_ (opn_ B) 4) ?_ ?_ (4 - 0 + 1) _ ⟨0, 1, by omega, rfl, rfl, Nat.one_mul _⟩ (by omega)
  · rintro x ⟨l, a, h1, h2, -⟩
    omega
  · rintro n x rec ⟨l, a, hl, hn, rfl, ha⟩ hr
    unfold f_X9_findWays_L7
    dsimp only
    by_cases he : l = 4
    · subst he
      rw [if_pos (show (4 : Int32) ≤ nI 4 from Int32.le_refl _)]
      have ha : a * 1 = Mw_ (opn_ B) 4 := ha
      rw [← ha, Nat.mul_one]
    · rw [if_neg (show ¬ (4 : Int32) ≤ nI l from nI_ge (b := 4) (by omega) (by omega)), f_has B (by omega), Option.bind_some]
      have em : Mw_ (opn_ B) (4 - l) = if tb_ B l = true then 10 * Mw_ (opn_ B) (4 - (l + 1)) else Mw_ (opn_ B) (4 - (l + 1)) := by
        obtain ⟨k, hk⟩ : ∃ k, 4 - l = k + 1 := ⟨3 - l, by omega⟩
        rw [hk, show 4 - (l + 1) = k by omega]
        show (if opn_ B (3 - k) = true then _ else _) = _
        rw [show 3 - k = l by omega]
        rfl
      cases hb : tb_ B l
      · rw [if_pos (by decide)]
        rw [hb, if_neg (by decide)] at em
        refine hr _ ⟨l + 1, a, by omega, by omega, ?_, by rw [← em]; exact ha⟩
        rw [show nI a * 1 = nI (a * 1) from pk_mul a 1, Nat.mul_one, nI_1]
      · rw [if_neg (by decide)]
        rw [hb, if_pos rfl] at em
        refine hr _ ⟨l + 1, a * 10, by omega, by omega, ?_, by rw [em] at ha; rw [Nat.mul_assoc]; exact ha⟩
        rw [show nI a * 10 = nI (a * 10) from pk_mul a 10, nI_1]
/-- the reference lays a way's digits -/
theorem m_way (o : Ob_T) (B : Int32) {w : Nat} (hw : w < 20000) (x2 x3 x4 : Int32) (k116 : Int32 → Int32 → Int32 → Int32 → Ob_T → Option (Int32 × Ob_T)) : ∃ o', Lp_ (fun (rec : (Int32 × Int32 × Int32 × Int32 × Int32 × Int32 × Ob_T) → Option (Int32 × Ob_T)) x => f_X9_findWays_L53 k116 rec x.1 x.2.1 x.2.2.1 x.2.2.2.1 x.2.2.2.2.1 x.2.2.2.2.2.1 x.2.2.2.2.2.2) FU_ (B, x2, x3, x4, nI w, 3, o) = k116 B x2 x3 x4 o' ∧ (∀ l, l < 4 → o_A o' 33 l = gc_ (o_A o 4) (cw_ (opn_ B) w) l) ∧ Fr_ [33] o o' := by
  refine lp_fu (P := fun r => ∃ o', r = k116 B x2 x3 x4 o' ∧ (∀ l, l < 4 → o_A o' 33 l = gc_ (o_A o 4) (cw_ (opn_ B) w) l) ∧ Fr_ [33] o o')
    (fun n x => ∃ k o1, k ≤ 4 ∧ n = 4 - k + 1 ∧ x = (B, x2, x3, x4, nI (rsq_ (opn_ B) w k), (if k ≤ 3 then nI (3 - k) else -1), o1) ∧ (∀ l, l < 4 → 3 < l + k → o_A o1 33 l = gc_ (o_A o 4) (cw_ (opn_ B) w) l) ∧ Fr_ [33] o o1) ?_ ?_ (4 - 0 + 1) _ ⟨0, o, by omega, rfl, rfl, fun l hl h => absurd h (by omega), fr_rf _ _⟩ (by omega)
  · rintro x ⟨k, o1, h1, h2, -⟩
    omega
  · rintro n x rec ⟨k, o1, hk, hn, rfl, hA, hF⟩ hr
    unfold f_X9_findWays_L53
    dsimp only
    by_cases he : k = 4
    · subst he
      rw [if_neg (show ¬ (4 : Nat) ≤ 3 by omega), if_pos (show (-1 : Int32) < 0 by decide)]
      exact ⟨o1, rfl, fun l hl => hA l hl (by omega), hF⟩
    · have hk3 : k ≤ 3 := by omega
      obtain ⟨l, hl⟩ : ∃ l, l = 3 - k := ⟨_, rfl⟩
      have hl4 : l < 4 := by omega
      rw [if_pos hk3, ← hl, if_neg (nI_pos (by omega)), f_has B (by omega), Option.bind_some]
      have rl := rsq_le (opn_ B) w k
      have enext : nI l + (-1) = if k + 1 ≤ 3 then nI (3 - (k + 1)) else -1 := by
        by_cases q : k + 1 ≤ 3
        · rw [if_pos q, show l = 3 - (k + 1) + 1 by omega]
          exact pk_m1 _
        · rw [if_neg q, show l = 0 by omega]; rfl
      have er : rsq_ (opn_ B) w (k + 1) = if tb_ B l = true then rsq_ (opn_ B) w k / 10 else rsq_ (opn_ B) w k := by
        show (if opn_ B (3 - k) = true then _ else _) = _
        rw [← hl]; rfl
      have ecw : cw_ (opn_ B) w l = if tb_ B l = true then nI (rsq_ (opn_ B) w k % 10) else -1 := by
        unfold cw_
        rw [show 3 - l = k by omega]; rfl
      -- one more is laid
      have step : ∀ y : Int32, y = gc_ (o_A o 4) (cw_ (opn_ B) w) l → ∃ o', f_X9_findWays_J88 rec B x2 x3 x4 (nI (rsq_ (opn_ B) w k)) (nI l) (nI l) y o1 = k116 B x2 x3 x4 o' ∧ (∀ l, l < 4 → o_A o' 33 l = gc_ (o_A o 4) (cw_ (opn_ B) w) l) ∧ Fr_ [33] o o' := by
        intro y hy
        unfold f_X9_findWays_J88
        rw [st_nI hl4 (by omega), Option.bind_some, f_has B (by omega), Option.bind_some]
        have hA2 : ∀ j, j < 4 → 3 < j + (k + 1) → o_A (p_A o1 33 (upd (o_A o1 33) l y)) 33 j = gc_ (o_A o 4) (cw_ (opn_ B) w) j := by
          intro j hj hj2
          show upd (o_A o1 33) l y j = _
          rw [updE]
          by_cases q : j = l
          · rw [if_pos q, q, hy]
          · rw [if_neg q]; exact hA j hj (by omega)
        cases hb : tb_ B l
        · rw [if_pos (by decide)]
          rw [hb, if_neg (by decide)] at er
          exact hr _ ⟨k + 1, _, by omega, by omega, by rw [er, enext], hA2, fr_tr hF (fr_pA (by decide))⟩
        · rw [if_neg (by decide), if_neg (show ¬ (10 : Int32) = 0 by decide), show (10 : Int32) = nI 10 from rfl, pk_div (by omega) (by omega) (by omega)]
          rw [hb, if_pos rfl] at er
          exact hr _ ⟨k + 1, _, by omega, by omega, by rw [er, enext], hA2, fr_tr hF (fr_pA (by decide))⟩
      cases hb : tb_ B l
      · rw [if_pos (by decide), ld_nI hl4 (by omega), Option.bind_some]
        refine step _ ?_
        rw [hb, if_neg (by decide)] at ecw
        unfold gc_
        rw [ecw, if_pos rfl, (hF 4 (by decide)).2]
      · rw [if_neg (by decide), if_neg (show ¬ (10 : Int32) = 0 by decide), show (10 : Int32) = nI 10 from rfl, pk_rem (by omega) (by omega) (by omega)]
        refine step _ ?_
        rw [hb, if_pos rfl] at ecw
        unfold gc_
        rw [ecw, if_neg (nI_nm1 (by omega))]
theorem m_firstWay (o : Ob_T) (x1 x2 x4 : Int32) (many : Nat) (hm : many < 2 ^ 30) (rec40 : (Int32 × Int32 × Int32 × Int32 × Ob_T) → Option (Int32 × Ob_T)) : ∃ o', Lp_ (fun (rec : (Int32 × Int32 × Int32 × Int32 × Int32 × Ob_T) → Option (Int32 × Ob_T)) x => f_X9_findWays_L130 rec40 rec x.1 x.2.1 x.2.2.1 x.2.2.2.1 x.2.2.2.2.1 x.2.2.2.2.2) FU_ (x1, x2, nI many, x4, 0, o) = rec40 (x1, x2, nI (many + 1), x4 + 1, o') ∧ (many = 0 → ∀ l, l < 4 → o_A o' 43 l = o_A o 33 l) ∧ (¬ many = 0 → o_A o' 43 = o_A o 43) ∧ Fr_ [43] o o' := by
  by_cases c : many = 0
  · subst c
    have key : ∃ o', Lp_ (fun (rec : (Int32 × Int32 × Int32 × Int32 × Int32 × Ob_T) → Option (Int32 × Ob_T)) x => f_X9_findWays_L130 rec40 rec x.1 x.2.1 x.2.2.1 x.2.2.2.1 x.2.2.2.2.1 x.2.2.2.2.2) FU_ (x1, x2, nI 0, x4, 0, o) = rec40 (x1, x2, nI 0 + 1, x4 + 1, o') ∧ (∀ l, l < 4 → o_A o' 43 l = o_A o 33 l) ∧ Fr_ [43] o o' := by
      refine lp_fu (P := fun r => ∃ o', r = rec40 (x1, x2, nI 0 + 1, x4 + 1, o') ∧ (∀ l, l < 4 → o_A o' 43 l = o_A o 33 l) ∧ Fr_ [43] o o')
        (fun n x => ∃ i o1, i ≤ 4 ∧ n = 4 - i + 1 ∧ x = (x1, x2, nI 0, x4, nI i, o1) ∧ (∀ l, l < i → o_A o1 43 l = o_A o 33 l) ∧ Fr_ [43] o o1) ?_ ?_ (4 - 0 + 1) _ ⟨0, o, by omega, rfl, rfl, fun l hl => absurd hl (by omega), fr_rf _ _⟩ (by omega)
      · rintro x ⟨i, o1, h1, h2, -⟩
        omega
      · rintro n x rec ⟨i, o1, h1, h2, rfl, hA, hF⟩ hr
        unfold f_X9_findWays_L130
        dsimp only
        by_cases he : i = 4
        · subst he
          rw [if_pos (show (4 : Int32) ≤ nI 4 from Int32.le_refl _)]
          exact ⟨o1, rfl, hA, hF⟩
        · rw [if_neg (show ¬ (4 : Int32) ≤ nI i from nI_ge (b := 4) (by omega) (by omega)), if_pos (show nI 0 = 0 from rfl), ld_nI (by omega) (by omega), Option.bind_some, st_nI (by omega) (by omega), Option.bind_some]
          refine hr _ ⟨i + 1, p_A o1 43 (upd (o_A o1 43) i (o_A o1 33 i)), by omega, by omega, by rw [nI_1], fun l hl => ?_, fr_tr hF (fr_pA (by decide))⟩
          show upd (o_A o1 43) i (o_A o1 33 i) l = _
          rw [updE]
          by_cases hli : l = i
          · rw [if_pos hli, hli, (hF 33 (by decide)).2]
          · rw [if_neg hli]; exact hA l (by omega)
    obtain ⟨o', e, h1, h2⟩ := key
    exact ⟨o', e, fun _ => h1, fun z => absurd rfl z, h2⟩
  · rw [lp_u]
    dsimp only
    unfold f_X9_findWays_L130
    rw [if_neg (by decide), if_neg (nI_ne0 (by omega) (by omega)), nI_1]
    exact ⟨o, rfl, fun z => absurd z c, fun _ => rfl, fr_rf _ _⟩
/-- whether a way of the reference fails: as the choice in numbers says -/
theorem SO_way {P : Pg_} (hW : Wf_ P) {gv : Nat → Int32} (hg : ∀ l, l < 4 → gv_ok (gv l)) {c : Nat → Int32} (hc : Ch_ c) (hS : (SO_ P gv).2 = []) (ho : ∀ l, l < 4 → ¬ c l = -1 → (MA_ P gv).1 l = 20000 + l) : SO_ P (gc_ gv c) = (rn_ P (fun l => sg_ c ((MA_ P gv).1 l))).1 := by
  have h0 := SO_MA hS
  unfold SO_
  rw [MA_choose hc hW hg ⟨h0, ho⟩]
  unfold rn_ sgS_
  rw [h0]
theorem m_findWays {P : Pg_} (hW : Wf_ P) {o : Ob_T} (hm : Rm_ (o_A o 1) P) (h3 : o_F o 3 = nI (g_N P)) (hg : ∀ l, l < 4 → gv_ok (o_A o 4 l)) (hS : (SO_ P (o_A o 4)).2 = []) {B : Int32} (hB : ∀ l, l < 32 → (tb_ B l = true ↔ Op_ P (SO_ P (o_A o 4)).1 l)) :
    ∃ o', f_X9_findWays o B = some (nI (cnP_ P (o_A o 4) B), o') ∧ (¬ cnP_ P (o_A o 4) B = 0 → ∀ l, l < 4 → tb_ B l = true → o_A o' 43 l = fwP_ P (o_A o 4) B l) ∧ Fr_ WK_ o o' := by
  have hopen : ∀ l, l < 4 → tb_ B l = true → (MA_ P (o_A o 4)).1 l = 20000 + l := fun l hl hb => SO_root hW hg ((hB l (by omega)).mp hb).2.2
  obtain ⟨Mp, Ml⟩ := Mw_pos (opn_ B) 4
  have Ml : Mw_ (opn_ B) 4 ≤ 10000 := Ml
  -- the ways by their numbers
  obtain ⟨cn1, cn2⟩ := cn_pu (okc_ P (MA_ P (o_A o 4)).1) (opn_ B) 4 c0_
  obtain ⟨sg1, sg2⟩ := sB_cg (g := fun w => okc_ P (MA_ P (o_A o 4)).1 (pu_ (opn_ B) 4 c0_ w)) (h := fun w => okc_ P (MA_ P (o_A o 4)).1 (cw_ (opn_ B) w)) (Mw_ (opn_ B) 4) (fun w hw => okc_cg (pu_cw (opn_ B) hw))
  generalize hG : (fun w => okc_ P (MA_ P (o_A o 4)).1 (cw_ (opn_ B) w)) = G at *
  have hGw : ∀ w, okc_ P (MA_ P (o_A o 4)).1 (cw_ (opn_ B) w) = G w := fun w => by rw [← hG]
  have G1 : ∀ w, G w ≤ 1 := fun w => by rw [← hGw]; exact okc_le _ _ _
  have ecn : sB_ G (Mw_ (opn_ B) 4) = cnP_ P (o_A o 4) B := by rw [← sg1, cn1]; rfl
  have efw : ¬ cnP_ P (o_A o 4) B = 0 → ∀ l, l < 4 → cw_ (opn_ B) (fd_ G (Mw_ (opn_ B) 4)) l = fwP_ P (o_A o 4) B l := by
    intro hz l hl
    have hlt := (fd_lt (g := G) (Mw_ (opn_ B) 4) (by rw [ecn]; exact hz)).1
    rw [← pu_cw (opn_ B) hlt l hl, ← sg2, cn2 hz]
    rfl
  have chw : ∀ w, Ch_ (cw_ (opn_ B) w) := by
    intro w l hl
    unfold cw_
    by_cases q : opn_ B l = true
    · rw [if_pos q]; exact Or.inr ⟨_, by omega, rfl⟩
    · rw [if_neg q]; exact Or.inl rfl
  have opw : ∀ w l, l < 4 → ¬ cw_ (opn_ B) w l = -1 → tb_ B l = true := by
    intro w l hl hn
    unfold cw_ at hn
    by_cases q : opn_ B l = true
    · exact q
    · rw [if_neg q] at hn; exact absurd rfl hn
  unfold f_X9_findWays
  rw [m_all]
  unfold f_X9_findWays_J37
  have key : ∃ o', Lp_ (fun (rec : (Int32 × Int32 × Int32 × Int32 × Ob_T) → Option (Int32 × Ob_T)) x => f_X9_findWays_L40 rec x.1 x.2.1 x.2.2.1 x.2.2.2.1 x.2.2.2.2) FU_ (B, nI (Mw_ (opn_ B) 4), 0, 0, o) = some (nI (sB_ G (Mw_ (opn_ B) 4)), o') ∧ (¬ sB_ G (Mw_ (opn_ B) 4) = 0 → ∀ l, l < 4 → tb_ B l = true → o_A o' 43 l = cw_ (opn_ B) (fd_ G (Mw_ (opn_ B) 4)) l) ∧ Fr_ WK_ o o' := by
    refine lp_fu (P := fun r => ∃ o', r = some (nI (sB_ G (Mw_ (opn_ B) 4)), o') ∧ (¬ sB_ G (Mw_ (opn_ B) 4) = 0 → ∀ l, l < 4 → tb_ B l = true → o_A o' 43 l = cw_ (opn_ B) (fd_ G (Mw_ (opn_ B) 4)) l) ∧ Fr_ WK_ o o')
      (fun n x => ∃ w o1, w ≤ Mw_ (opn_ B) 4 ∧ n = Mw_ (opn_ B) 4 - w + 1 ∧ x = (B, nI (Mw_ (opn_ B) 4), nI (sB_ G w), nI w, o1) ∧ (¬ sB_ G w = 0 → ∀ l, l < 4 → tb_ B l = true → o_A o1 43 l = cw_ (opn_ B) (fd_ G w) l) ∧ Rm_ (o_A o1 1) P ∧ o_F o1 3 = nI (g_N P) ∧ Fr_ WK_ o o1) ?_ ?_ (Mw_ (opn_ B) 4 - 0 + 1) _ ⟨0, o, by omega, rfl, rfl, fun z => absurd rfl z, hm, h3, fr_rf _ _⟩ (by omega)
    · rintro x ⟨w, o1, h1, h2, -⟩
      omega
    · rintro n x rec ⟨w, o1, hw, hn, rfl, hfw, hm1, h31, hF⟩ hr
      unfold f_X9_findWays_L40
      dsimp only
      by_cases he : w = Mw_ (opn_ B) 4
      · rw [if_pos (by rw [he]; exact Int32.le_refl _)]
        rw [he] at hfw ⊢
        exact ⟨o1, rfl, hfw, hF⟩
      · rw [if_neg (nI_ge (by omega) (by omega))]
        obtain ⟨o2, e2, hb2, F2⟩ := m_way o1 B (w := w) (by omega) (nI (Mw_ (opn_ B) 4)) (nI (sB_ G w)) (nI w) (fun y1 y2 y3 y4 t_o => f_X9_findWays_J116 rec y1 y2 y3 y4 t_o)
        rw [e2]
        unfold f_X9_findWays_J116
        have hm2 : Rm_ (o_A o2 1) P := by rw [(F2 1 (by decide)).2]; exact hm1
        have h32 : o_F o2 3 = nI (g_N P) := by rw [(F2 3 (by decide)).1]; exact h31
        have hb3 : ∀ l, l < 4 → o_A o2 33 l = gc_ (o_A o 4) (cw_ (opn_ B) w) l := fun l hl => by rw [hb2 l hl, (hF 4 (by decide)).2]
        have hg2 : ∀ l, l < 4 → gv_ok (o_A o2 33 l) := by
          intro l hl
          rw [hb3 l hl]
          unfold gc_
          by_cases q : cw_ (opn_ B) w l = -1
          · rw [if_pos q]; exact hg l hl
          · rw [if_neg q]; exact chw w l hl
        obtain ⟨o3, e3, hR3, F3⟩ := m_solve hW hm2 h32 hg2
        rw [e3, Option.bind_some]
        rw [SO_cg hb3, SO_way hW hg (chw w) hS (fun l hl hn => hopen l hl (opw w l hl hn))] at hR3
        have hm3 : Rm_ (o_A o3 1) P := by rw [(F3 1 (by decide)).2]; exact hm2
        have h33 : o_F o3 3 = nI (g_N P) := by rw [(F3 3 (by decide)).1]; exact h32
        have F13 : Fr_ WK_ o o3 := fr_tr hF (fr_tr (fr_mono F2 (by decide)) (fr_mono F3 (by decide)))
        have e43 : o_A o3 43 = o_A o1 43 := by rw [(F3 43 (by decide)).2, (F2 43 (by decide)).2]
        have sbl : sB_ G w ≤ w * 1 := sB_le w (fun d _ => G1 d)
        have es : sB_ G (w + 1) = sB_ G w + G w := rfl
        have ef : fd_ G (w + 1) = if sB_ G w = 0 ∧ ¬ G w = 0 then w else fd_ G w := rfl
        have eG : G w = if (rn_ P (fun l => sg_ (cw_ (opn_ B) w) ((MA_ P (o_A o 4)).1 l))).1.2 = [] then 1 else 0 := by rw [← hGw]; rfl
        by_cases q : (rn_ P (fun l => sg_ (cw_ (opn_ B) w) ((MA_ P (o_A o 4)).1 l))).1.2 = []
        · rw [if_pos q] at eG
          rw [if_pos (rso_f0 hR3 q)]
          obtain ⟨o4, e4, a1, a2, F4⟩ := m_firstWay o3 B (nI (Mw_ (opn_ B) 4)) (nI w) (sB_ G w) (by omega) rec
          rw [e4]
          refine hr _ ⟨w + 1, o4, by omega, by omega, by rw [es, eG, nI_1], fun _ l hl hbl => ?_, by rw [(F4 1 (by decide)).2]; exact hm3, by rw [(F4 3 (by decide)).1]; exact h33, fr_tr F13 (fr_mono F4 (by decide))⟩
          by_cases z : sB_ G w = 0
          · rw [ef, if_pos ⟨z, by omega⟩, a1 z l hl, (F3 33 (by decide)).2, hb3 l hl]
            unfold gc_
            rw [if_neg]
            unfold cw_
            rw [if_pos (show opn_ B l = true from hbl)]
            exact nI_nm1 (by omega)
          · rw [ef, if_neg (fun y => z y.1), a2 z, e43]
            exact hfw z l hl hbl
        · rw [if_neg q] at eG
          rw [if_neg (by rw [rso_f1 hR3 q]; decide)]
          refine hr _ ⟨w + 1, o3, by omega, by omega, by rw [es, eG, nI_1]; rfl, fun z l hl hbl => ?_, hm3, h33, F13⟩
          have z' : ¬ sB_ G w = 0 := by rw [es, eG] at z; exact z
          rw [ef, if_neg (fun y => z' y.1), e43]
          exact hfw z' l hl hbl
  obtain ⟨o', e, h1, h2⟩ := key
  refine ⟨o', by rw [← ecn]; exact e, fun hz l hl hb => ?_, h2⟩
  rw [h1 (by rw [ecn]; exact hz) l hl hb]
  exact efw hz l hl
