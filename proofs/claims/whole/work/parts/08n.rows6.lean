theorem hp_is {r o : Ob_T} {k z : Nat} (hk : k < 3) (hz : z ≤ 10) (e1 : o_A r 1 k = nI z) (e2 : o_A o 16 k = nI z) (x2 : Int32) {n : Nat} (hn : n < 2 ^ 31) : (∃ i, i + n ≤ z ∧ x2 = nI i ∧ f_X2_hasPlaces r (nI k) x2 (nI n) = some 1 ∧ f_X9_isSpan o (nI k) x2 (nI n) = some 1) ∨ (f_X2_hasPlaces r (nI k) x2 (nI n) = some 0 ∧ f_X9_isSpan o (nI k) x2 (nI n) = some 0) := by
  unfold f_X2_hasPlaces f_X9_isSpan
  rw [ld_nI hk (by omega), ld_nI hk (by omega), Option.bind_some, Option.bind_some, Option.bind_some, e1, e2]
  by_cases c1 : x2 < 0
  · rw [if_pos c1, if_pos c1]
    exact Or.inr ⟨rfl, rfl⟩
  · rw [if_neg c1, if_neg c1]
    obtain ⟨i, hi, rfl⟩ := nI_of c1
    have ec : (0 : Int32) < lg_cmp ((nI i).toInt64 + (nI n).toInt64) (nI z).toInt64 ↔ z < i + n := by
      rw [nI_l hi, nI_l hn, nI_l (by omega), lN_add, lc_gt (by omega) (by omega)]
    by_cases c2 : nI z < nI i
    · rw [if_pos c2, if_pos (ec.mpr (by have := (nI_ltI (by omega) hi).mp c2; omega))]
      exact Or.inr ⟨rfl, rfl⟩
    · have hiz : i ≤ z := by
        rcases Nat.lt_or_ge z i with q | q
        · exact absurd (nI_lt q hi) c2
        · exact q
      rw [if_neg c2, pk_sub hiz]
      by_cases c3 : nI (z - i) < nI n
      · rw [if_pos c3, if_pos (ec.mpr (by have := (nI_ltI (by omega) hn).mp c3; omega))]
        exact Or.inr ⟨rfl, rfl⟩
      · have : n ≤ z - i := by
          rcases Nat.lt_or_ge (z - i) n with q | q
          · exact absurd (nI_lt q hn) c3
          · exact q
        rw [if_neg c3, if_neg (fun w => by have := ec.mp w; omega)]
        exact Or.inl ⟨i, by omega, rfl, rfl, rfl⟩
/-- n places from row a's place i to row b's place j: what agreed agrees yet, and what came over too -/
theorem cp_agr {fr fo : Nat → Int32} {a b i j n za zb : Nat} (ha : ∀ l, l < za → fr (10 * a + l) = fo (10 * a + l)) (hb : ∀ l, l < zb → fr (10 * b + l) = fo (10 * b + l)) (h1 : i + n ≤ za) (h2 : j ≤ zb) (h3 : j + n ≤ 10) : (∀ l, l < zb ∨ l < j + n → va_cpy fr fr (10 * a + i) (10 * b + j) n (10 * b + l) = va_cpy fo fo (10 * a + i) (10 * b + j) n (10 * b + l)) ∧ ∀ c l, c ≠ b → l < 10 → va_cpy fr fr (10 * a + i) (10 * b + j) n (10 * c + l) = fr (10 * c + l) ∧ va_cpy fo fo (10 * a + i) (10 * b + j) n (10 * c + l) = fo (10 * c + l) := by
  constructor
  · intro l hl
    unfold va_cpy
    by_cases q : 10 * b + j ≤ 10 * b + l ∧ 10 * b + l < 10 * b + j + n
    · rw [if_pos q, if_pos q, show 10 * a + i + (10 * b + l - (10 * b + j)) = 10 * a + (i + (l - j)) by omega]
      exact ha _ (by omega)
    · rw [if_neg q, if_neg q]
      exact hb l (by omega)
  · intro c l hc hl
    unfold va_cpy
    rw [if_neg (by omega), if_neg (by omega)]
    exact ⟨rfl, rfl⟩
/-- the reference copies forward, or from behind -/
theorem m_copyL (o : Ob_T) {a b i j n : Nat} (ha : a < 3) (hb : b < 3) (hi : i + n ≤ 10) (hj : j + n ≤ 10) (back : Bool) (hback : back = true ↔ i < j) : f_X9_copy_J101 (nI a) (nI i) (nI b) (nI j) (nI n) (if back then 1 else 0) o = some (nI n, p_A o 17 (va_cpy (o_A o 17) (o_A o 17) (10 * a + i) (10 * b + j) n)) := by
  unfold f_X9_copy_J101
  have eb : back = false → j ≤ i := fun z => by
    rcases Nat.lt_or_ge i j with q | q
    · have := hback.mpr q; rw [z] at this; exact absurd this (by decide)
    · exact q
  -- what is copied so far
  have key : ∀ (s1 d1 k : Nat), o_A (p_A o 17 (va_cpy (o_A o 17) (o_A o 17) s1 d1 k)) 17 = va_cpy (o_A o 17) (o_A o 17) s1 d1 k := fun _ _ _ => rfl
  have ixs : ∀ (x y k : Nat), (10 : Int32) * nI x + nI y + nI k = nI (10 * x + y + k) := fun x y k => by rw [show (10 : Int32) = nI 10 from rfl, pk_mul, nI_add, nI_add]
  cases hbk : back
  · have hji := eb hbk
    refine lp_fu (P := fun r => r = some (nI n, p_A o 17 (va_cpy (o_A o 17) (o_A o 17) (10 * a + i) (10 * b + j) n))) (fun m x => ∃ k, k ≤ n ∧ m = n - k + 1 ∧ x = (nI a, nI i, nI b, nI j, nI n, 0, nI k, p_A o 17 (va_cpy (o_A o 17) (o_A o 17) (10 * a + i) (10 * b + j) k))) ?_ ?_ (n - 0 + 1) _ ⟨0, by omega, rfl, by rw [cpy_0, pA_self]; rfl⟩ (by omega)
    · rintro x ⟨k, h1, h2, -⟩
      omega
    · rintro m x rec ⟨k, hk, hm, rfl⟩ hr
      unfold f_X9_copy_L106
      dsimp only
      by_cases he : k = n
      · subst he
        rw [if_pos (Int32.le_refl _)]
      · rw [if_neg (nI_ge (by omega) (by omega)), if_pos rfl]
        unfold f_X9_copy_J130
        rw [ixs, ixs, ld_nI (by omega) (by omega), Option.bind_some, key, cpy_out (by by_cases q : a = b; subst q; omega; omega), st_nI (by omega) (by omega), Option.bind_some]
        refine hr _ ⟨k + 1, by omega, by omega, ?_⟩
        rw [pA_pA, key, cpy_s, nI_1]
  · have hij := hback.mp hbk
    refine lp_fu (P := fun r => r = some (nI n, p_A o 17 (va_cpy (o_A o 17) (o_A o 17) (10 * a + i) (10 * b + j) n))) (fun m x => ∃ k, k ≤ n ∧ m = n - k + 1 ∧ x = (nI a, nI i, nI b, nI j, nI n, 1, nI k, p_A o 17 (va_cpy (o_A o 17) (o_A o 17) (10 * a + i + (n - k)) (10 * b + j + (n - k)) k))) ?_ ?_ (n - 0 + 1) _ ⟨0, by omega, rfl, by rw [cpy_0, pA_self]; rfl⟩ (by omega)
    · rintro x ⟨k, h1, h2, -⟩
      omega
    · rintro m x rec ⟨k, hk, hm, rfl⟩ hr
      unfold f_X9_copy_L106
      dsimp only
      by_cases he : k = n
      · subst he
        rw [if_pos (Int32.le_refl _), Nat.sub_self, Nat.add_zero, Nat.add_zero]
      · rw [if_neg (nI_ge (by omega) (by omega)), if_neg n_10]
        unfold f_X9_copy_J130
        rw [show nI n - 1 - nI k = nI (n - 1 - k) from by rw [show (1 : Int32) = nI 1 from rfl, pk_sub (by omega), pk_sub (by omega)], ixs, ixs, ld_nI (by omega) (by omega), Option.bind_some, key, cpy_out (by by_cases q : a = b; subst q; omega; omega), st_nI (by omega) (by omega), Option.bind_some]
        refine hr _ ⟨k + 1, by omega, by omega, ?_⟩
        rw [pA_pA, key, nI_1]
        congr 7
        refine congrArg (p_A o 17) ?_
        funext l
        rw [updE]
        unfold va_cpy
        by_cases q1 : l = 10 * b + j + (n - 1 - k)
        · rw [if_pos q1, if_pos (by omega)]
          exact congrArg _ (by omega)
        · rw [if_neg q1]
          by_cases q2 : 10 * b + j + (n - k) ≤ l ∧ l < 10 * b + j + (n - k) + k
          · rw [if_pos q2, if_pos (by omega)]
            exact congrArg _ (by omega)
          · rw [if_neg q2, if_neg (by omega)]
theorem sm_copy (x r o : Ob_T) (x1 x2 x3 x4 x5 : Int32) (h : R_rw r o) : Tr_ (f_X8_copy x r x1 x2 x3 x4 x5) (fun u => Tr_ (f_X9_copy o x1 x2 x3 x4 x5) (fun w => u.1 = w.1 ∧ R_rw u.2 w.2 ∧ Fr_ [15, 16, 17] o w.2)) := by
  have same : ∀ e : Int32, Tr_ (some (e, r)) (fun u => Tr_ (some (e, o)) (fun w => u.1 = w.1 ∧ R_rw u.2 w.2 ∧ Fr_ [15, 16, 17] o w.2)) := fun e => tr_some (tr_some ⟨rfl, h, fr_rf _ _⟩)
  unfold f_X8_copy f_X9_copy
  rw [bind_eq _ (x_isRow x1), bind_eq _ (m_isRow x1)]
  by_cases c1 : 0 ≤ x1.toInt ∧ x1.toInt ≤ 2
  · rw [if_pos c1, if_neg n_10, if_neg n_10, bind_eq _ (x_isRow x3), bind_eq _ (m_isRow x3)]
    by_cases c3 : 0 ≤ x3.toInt ∧ x3.toInt ≤ 2
    · rw [if_pos c3, if_neg n_10, if_neg n_10]
      obtain ⟨a, ha, rfl⟩ := i_of (x := x1) (n := 2) c1.1 c1.2
      obtain ⟨b, hb, rfl⟩ := i_of (x := x3) (n := 2) c3.1 c3.2
      have ha3 : a < 3 := by omega
      have hb3 : b < 3 := by omega
      unfold f_X2_isMissing f_X2_sortOf f_X2_move
      simp only [ld_nI ha3 (show 3 < 2 ^ 31 by omega), ld_nI hb3 (show 3 < 2 ^ 31 by omega), Option.bind_some]
      rcases h a ha3 with ⟨p1, p2⟩ | ⟨za, sa, hza, hsa, p1, p2, p3, p4, p5⟩
      · rw [p1, p2, if_pos rfl, if_pos (show (-1 : Int32) < 0 by decide), Option.bind_some, if_neg n_10]
        exact same _
      · rw [p1, p2, if_neg (nI_nm1 (by omega)), if_neg (nI_pos (by omega)), Option.bind_some, if_pos rfl]
        rcases h b hb3 with ⟨q1, q2⟩ | ⟨zb, sb, hzb, hsb, q1, q2, q3, q4, q5⟩
        · rw [q1, q2, if_pos rfl, if_neg (show ¬ (0 : Int32) ≤ -1 by decide), Option.bind_some, if_neg n_10]
          exact same _
        · rw [q1, q2, if_neg (nI_nm1 (by omega)), if_pos (nI_pos' (by omega)), Option.bind_some, if_pos rfl]
          by_cases c5 : (0 : Int32) ≤ x5
          · rw [if_pos c5, if_pos c5, p3, p4, q3, q4]
            by_cases cs : nI sa = nI sb
            · rw [if_pos cs, if_pos cs]
              obtain ⟨n, hn, rfl⟩ := nI_of (x := x5) (fun z => by have := (i_lt _ _).mp z; have := (i_le _ _).mp c5; omega)
              rcases hp_is ha3 hza p1 p2 x2 hn with ⟨i, hi, rfl, e1, e2⟩ | ⟨e1, e2⟩
              · rw [e1, e2, Option.bind_some, Option.bind_some, if_neg n_10, if_neg n_10]
                rcases hp_is hb3 hzb q1 q2 x4 hn with ⟨j, hj, rfl, e3, e4⟩ | ⟨e3, e4⟩
                · rw [e3, e4, Option.bind_some, Option.bind_some, if_neg n_10, if_neg n_10]
                  rw [ix_x, ix_x, cp_nI (by omega) (by omega) (by omega) (by omega), Option.bind_some, Lt_E, Option.bind_some]
                  have fin := fun back hback => m_copyL o (a := a) (b := b) (i := i) (j := j) (n := n) ha3 hb3 (by omega) (by omega) back hback
                  have e5 : (if nI j ≤ nI i then f_X9_copy_J101 (nI a) (nI i) (nI b) (nI j) (nI n) 0 o else f_X9_copy_J101 (nI a) (nI i) (nI b) (nI j) (nI n) 1 o) = some (nI n, p_A o 17 (va_cpy (o_A o 17) (o_A o 17) (10 * a + i) (10 * b + j) n)) := by
                    by_cases z : j ≤ i
                    · rw [if_pos (nI_le z (by omega))]
                      exact fin false ⟨fun w => absurd w (by decide), fun w => by omega⟩
                    · rw [if_neg (nI_ge (by omega) (by omega))]
                      exact fin true ⟨fun _ => by omega, fun _ => rfl⟩
                  rw [e5]
                  obtain ⟨g1, g2⟩ := cp_agr p5 q5 hi (show j ≤ zb by omega) (by omega)
                  refine tr_some (tr_some ⟨rfl, fun k hk => ?_, fr_pA (by decide)⟩)
                  have hk1 := h k hk
                  unfold R_rk at hk1 ⊢
                  rcases hk1 with e | ⟨z, st, hz, hst, f1, f2, f3, f4, f5⟩
                  · exact Or.inl e
                  · refine Or.inr ⟨z, st, hz, hst, f1, f2, f3, f4, fun l hl => ?_⟩
                    show va_cpy (o_A r 0) (o_A r 0) (10 * a + i) (10 * b + j) n (10 * k + l) = va_cpy (o_A o 17) (o_A o 17) (10 * a + i) (10 * b + j) n (10 * k + l)
                    by_cases kb : k = b
                    · subst kb
                      have : z = zb := (nI_eq (by omega) (by omega)).mp (f1.symm.trans q1)
                      exact g1 l (Or.inl (by omega))
                    · rw [(g2 k l kb (by omega)).1, (g2 k l kb (by omega)).2]
                      exact f5 l hl
                · rw [e3, e4, Option.bind_some, Option.bind_some, if_pos rfl, if_pos rfl]
                  exact same _
              · rw [e1, e2, Option.bind_some, Option.bind_some, if_pos rfl, if_pos rfl]
                exact same _
            · rw [if_neg cs, if_neg cs]
              exact same _
          · rw [if_neg c5, if_neg c5]
            exact same _
    · rw [if_neg c3, if_pos rfl, if_pos rfl]
      exact same _
  · rw [if_neg c1, if_pos rfl, if_pos rfl]
    exact same _
theorem m_appL (o : Ob_T) {a b z n : Nat} (ha : a < 3) (hb : b < 3) (hz : z + n ≤ 10) (e16 : o_A o 16 a = nI z) (hab : a = b → n ≤ z) (k107 : Int32 → Int32 → Ob_T → Option (Int32 × Ob_T)) : Lp_ (fun (rec : (Int32 × Int32 × Int32 × Int32 × Ob_T) → Option (Int32 × Ob_T)) x => f_X9_append_L64 k107 rec x.1 x.2.1 x.2.2.1 x.2.2.2.1 x.2.2.2.2) FU_ (nI a, nI b, nI n, 0, o) = k107 (nI a) (nI n) (p_A o 17 (va_cpy (o_A o 17) (o_A o 17) (10 * b) (10 * a + z) n)) := by
  refine lp_fu (P := fun r => r = k107 (nI a) (nI n) (p_A o 17 (va_cpy (o_A o 17) (o_A o 17) (10 * b) (10 * a + z) n))) (fun m x => ∃ k, k ≤ n ∧ m = n - k + 1 ∧ x = (nI a, nI b, nI n, nI k, p_A o 17 (va_cpy (o_A o 17) (o_A o 17) (10 * b) (10 * a + z) k))) ?_ ?_ (n - 0 + 1) _ ⟨0, by omega, rfl, by rw [cpy_0, pA_self]; rfl⟩ (by omega)
  · rintro x ⟨k, h1, h2, -⟩
    omega
  · rintro m x rec ⟨k, hk, hm, rfl⟩ hr
    unfold f_X9_append_L64
    dsimp only
    by_cases he : k = n
    · subst he
      rw [if_pos (Int32.le_refl _)]
    · rw [if_neg (nI_ge (by omega) (by omega)), show o_A (p_A o 17 (va_cpy (o_A o 17) (o_A o 17) (10 * b) (10 * a + z) k)) 16 = o_A o 16 from rfl, ld_nI ha (by omega), Option.bind_some, e16, ix_m, ld_nI (by omega) (by omega), Option.bind_some]
      rw [show o_A (p_A o 17 (va_cpy (o_A o 17) (o_A o 17) (10 * b) (10 * a + z) k)) 17 = va_cpy (o_A o 17) (o_A o 17) (10 * b) (10 * a + z) k from rfl, cpy_out (by by_cases q : a = b; have := hab q; subst q; omega; omega)]
      rw [show (10 : Int32) * nI a + nI z + nI k = nI (10 * a + z + k) from by rw [show (10 : Int32) = nI 10 from rfl, pk_mul, nI_add, nI_add], st_nI (by omega) (by omega), Option.bind_some]
      refine hr _ ⟨k + 1, by omega, by omega, ?_⟩
      rw [pA_pA, show o_A (p_A o 17 (va_cpy (o_A o 17) (o_A o 17) (10 * b) (10 * a + z) k)) 17 = va_cpy (o_A o 17) (o_A o 17) (10 * b) (10 * a + z) k from rfl, cpy_s, nI_1]
theorem sm_append (x r o : Ob_T) (x1 x2 : Int32) (h : R_rw r o) : Tr_ (f_X8_append x r x1 x2) (fun u => Tr_ (f_X9_append o x1 x2) (fun w => u.1 = w.1 ∧ R_rw u.2 w.2 ∧ Fr_ [15, 16, 17] o w.2)) := by
  have same : ∀ e : Int32, Tr_ (some (e, r)) (fun u => Tr_ (some (e, o)) (fun w => u.1 = w.1 ∧ R_rw u.2 w.2 ∧ Fr_ [15, 16, 17] o w.2)) := fun e => tr_some (tr_some ⟨rfl, h, fr_rf _ _⟩)
  unfold f_X8_append f_X9_append
  rw [bind_eq _ (x_isRow x1), bind_eq _ (m_isRow x1)]
  by_cases c1 : 0 ≤ x1.toInt ∧ x1.toInt ≤ 2
  · rw [if_pos c1, if_neg n_10, if_neg n_10, bind_eq _ (x_isRow x2), bind_eq _ (m_isRow x2)]
    by_cases c3 : 0 ≤ x2.toInt ∧ x2.toInt ≤ 2
    · rw [if_pos c3, if_neg n_10, if_neg n_10]
      obtain ⟨a, ha, rfl⟩ := i_of (x := x1) (n := 2) c1.1 c1.2
      obtain ⟨b, hb, rfl⟩ := i_of (x := x2) (n := 2) c3.1 c3.2
      have ha3 : a < 3 := by omega
      have hb3 : b < 3 := by omega
      unfold f_X2_isMissing f_X2_sizeOf f_X2_extend f_X2_move
      simp only [ld_nI ha3 (show 3 < 2 ^ 31 by omega), ld_nI hb3 (show 3 < 2 ^ 31 by omega), Option.bind_some]
      rcases h a ha3 with ⟨p1, p2⟩ | ⟨za, sa, hza, hsa, p1, p2, p3, p4, p5⟩
      · rw [p1, p2, if_pos rfl, if_pos (show (-1 : Int32) < 0 by decide), Option.bind_some, if_neg n_10]
        exact same _
      · rw [p1, p2, if_neg (nI_nm1 (by omega)), if_neg (nI_pos (by omega)), Option.bind_some, if_pos rfl]
        rcases h b hb3 with ⟨q1, q2⟩ | ⟨zb, sb, hzb, hsb, q1, q2, q3, q4, q5⟩
        · rw [q1, q2, if_pos rfl, if_neg (show ¬ (0 : Int32) ≤ -1 by decide), Option.bind_some, if_neg n_10]
          exact same _
        · rw [q1, q2, if_neg (nI_nm1 (by omega)), if_pos (nI_pos' (by omega)), Option.bind_some, if_pos rfl, nI_add]
          by_cases cr : za + zb ≤ 10
          · rw [if_pos (show nI (za + zb) ≤ 10 from nI_le (b := 10) cr (by omega)), if_pos (show nI (za + zb) ≤ 10 from nI_le (b := 10) cr (by omega))]
            have hab : a = b → zb ≤ za := fun z => by subst z; have := (nI_eq (by omega) (by omega)).mp (q1.symm.trans p1); omega
            rw [m_appL o ha3 hb3 cr p2 hab]
            unfold f_X9_append_J107
            rw [show o_A (p_A o 17 (va_cpy (o_A o 17) (o_A o 17) (10 * b) (10 * a + za) zb)) 16 = o_A o 16 from rfl, ld_nI ha3 (by omega), Option.bind_some, p2, nI_add, st_nI ha3 (by omega), Option.bind_some, ld_nI ha3 (by omega), Option.bind_some]
            rw [show nI b * 10 + 0 = nI (10 * b) from (ix_x (k := b) (i := 0)), ix_x, cp_nI (by omega) (by omega) (by omega) (by omega), Option.bind_some, Lt_E, Option.bind_some]
            rw [show o_A (p_A r 0 (va_cpy (o_A r 0) (o_A r 0) (10 * b) (10 * a + za) zb)) 1 = o_A r 1 from rfl, p1, nI_add, st_nI ha3 (by omega), Option.bind_some, Option.bind_some]
            have q5' : ∀ l, l < zb → o_A r 0 (10 * b + l) = o_A o 17 (10 * b + l) := q5
            obtain ⟨g1, g2⟩ := cp_agr (a := b) (i := 0) (j := za) (n := zb) q5' p5 (by omega) (Nat.le_refl _) (by omega)
            rw [Nat.add_zero] at g1 g2
            refine tr_some (tr_some ⟨?_, fun k hk => ?_, ?_⟩)
            · show upd (o_A r 1) a (nI (za + zb)) a = upd (o_A o 16) a (nI (za + zb)) a
              rw [pk_us, pk_us]
            · have hk1 := h k hk
              unfold R_rk at hk1 ⊢
              show (upd (o_A r 1) a (nI (za + zb)) k = -1 ∧ upd (o_A o 16) a (nI (za + zb)) k = -1) ∨ ∃ z st, z ≤ 10 ∧ st ≤ 1 ∧ upd (o_A r 1) a (nI (za + zb)) k = nI z ∧ upd (o_A o 16) a (nI (za + zb)) k = nI z ∧ o_A r 2 k = nI st ∧ o_A o 15 k = nI st ∧ ∀ j, j < z → va_cpy (o_A r 0) (o_A r 0) (10 * b) (10 * a + za) zb (10 * k + j) = va_cpy (o_A o 17) (o_A o 17) (10 * b) (10 * a + za) zb (10 * k + j)
              by_cases ka : k = a
              · subst ka
                rw [pk_us, pk_us]
                exact Or.inr ⟨za + zb, sa, cr, hsa, rfl, rfl, p3, p4, fun l hl => g1 l (Or.inr hl)⟩
              · rw [pk_un ka, pk_un ka]
                rcases hk1 with e | ⟨z, st, hz, hst, f1, f2, f3, f4, f5⟩
                · exact Or.inl e
                · refine Or.inr ⟨z, st, hz, hst, f1, f2, f3, f4, fun l hl => ?_⟩
                  rw [(g2 k l ka (by omega)).1, (g2 k l ka (by omega)).2]
                  exact f5 l hl
            · exact fr_tr (fr_pA (by decide)) (fr_pA (by decide))
          · rw [if_neg (show ¬ nI (za + zb) ≤ 10 from nI_ge (a := 10) (by omega) (by omega)), if_neg (show ¬ nI (za + zb) ≤ 10 from nI_ge (a := 10) (by omega) (by omega))]
            exact same _
    · rw [if_neg c3, if_pos rfl, if_pos rfl]
      exact same _
  · rw [if_neg c1, if_pos rfl, if_pos rfl]
    exact same _
