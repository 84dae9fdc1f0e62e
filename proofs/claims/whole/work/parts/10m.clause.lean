def f_X6_readClause (s_t : Ob_T) (s_n : Ob_T) : Option (Int32 × Ob_T × Ob_T) :=
  (f_X6_kindOfWord s_t).bind fun u1 =>
  if u1 = (-1 : Int32) then
  (some ((o_F s_t 4), s_t, s_n))
  else
  (if u1 = (7 : Int32) then
  ((f_X1_clear s_n).bind fun u2 =>
  (f_X6_step s_t).bind fun u3 =>
  some ((-1 : Int32), u3, u2))
  else
  ((f_X1_size s_n).bind fun u4 =>
  if (10 : Int32) ≤ u4 then
  (some ((o_F s_t 4), s_t, s_n))
  else
  ((f_X6_step s_t).bind fun u5 =>
  (f_X1_size s_n).bind fun u6 =>
  (f_X6_readArguments u5 u1 u6).bind fun u7 =>
  if u7.1 = (0 : Int32) then
  (some ((o_F u7.2 4), u7.2, s_n))
  else
  ((f_X1_axesOfVerb s_n u1 (o_F u7.2 6) (o_F u7.2 7) (o_F u7.2 8)).bind fun u8 =>
  if (6 : Int32) < u8 then
  (some ((o_F s_t 4), u7.2, s_n))
  else
  ((f_X1_add s_n u1 (o_F u7.2 6) (o_F u7.2 7) (o_F u7.2 8)).bind fun u9 =>
  if u1 = (0 : Int32) then
  ((f_X6_readExtents u7.2 u9).bind fun u10 =>
  some ((-1 : Int32), u10.1, u10.2))
  else
  (if u1 = (6 : Int32) then
  ((f_X6_readExtents u7.2 u9).bind fun u10 =>
  some ((-1 : Int32), u10.1, u10.2))
  else
  (some ((-1 : Int32), u7.2, u9))))))))
section
variable {t o n : Ob_T} {c : Nat → Nat} {L s e : Nat} {Q : Pg_}
abbrev OC_ : List Nat := [1, 3, 18, 19, 21, 30]
/-- the rows of the nodes ahead stay -/
theorem rm_ex {M : Pg_} {f f' : Nat → Int32} (hW : Wf_ Q) (hm : Rm_ f Q) (hM : Aq_ Q M (g_N Q)) (hMN : g_N M = g_N Q + 1) (hlo : ∀ l, l < 15 * g_N Q → f' l = f l) (hk : f' (15 * g_N Q) = nI (g_K M (g_N Q)) ∧ (g_K M (g_N Q) ≠ 0 → f' (15 * g_N Q + 1) = nI (g_A M (g_N Q))) ∧ (g_K M (g_N Q) = 0 → f' (15 * g_N Q + 1) = -1) ∧ ((g_K M (g_N Q) = 1 ∨ g_K M (g_N Q) = 2) → f' (15 * g_N Q + 2) = nI (g_B M (g_N Q))) ∧ (¬ (g_K M (g_N Q) = 1 ∨ g_K M (g_N Q) = 2) → f' (15 * g_N Q + 2) = -1) ∧ (vb_ M (g_N Q) → f' (15 * g_N Q + 3) = g_R M (g_N Q)) ∧ (td_ M (g_N Q) → f' (15 * g_N Q + 4) = nI (g_L M (g_N Q))) ∧ (¬ td_ M (g_N Q) → f' (15 * g_N Q + 4) = nI 0) ∧ (td_ M (g_N Q) → ∀ j, j < g_L M (g_N Q) → f' (15 * g_N Q + 5 + j) = nI (g_E M (g_N Q) j)) ∧ f' (15 * g_N Q + 8) = nI (g_L M (g_N Q)) ∧ ∀ j, j < g_L M (g_N Q) → f' (15 * g_N Q + 9 + j) = nI (g_E M (g_N Q) j)) : Rm_ f' M := by
  intro i hi
  by_cases q : i = g_N Q
  · subst q; exact hk
  · have hi' : i < g_N Q := by omega
    obtain ⟨eK, eA, eB, eR, eL, eE⟩ := hM i hi'
    have hL := (hW.2 i hi').2.1
    have hL3 := (hW.2 i hi').2.2.2.2.2
    obtain ⟨r1, r2, r3, r4, r5, r6, r7, r8, r9, r10, r11⟩ := hm i hi'
    have ev : vb_ M i ↔ vb_ Q i := by unfold vb_; rw [eK]
    have et : td_ M i ↔ td_ Q i := by unfold td_; rw [eK]
    rw [ev, et, eK, eA, eB, eR, eL, eE, hlo _ (by omega), hlo _ (by omega), hlo _ (by omega), hlo _ (by omega), hlo _ (by omega), hlo _ (by omega)]
    exact ⟨r1, r2, r3, r4, r5, r6, r7, r8, fun z j hj => by have := (hL3 z).1; rw [hlo _ (by omega)]; exact r9 z j hj, r10, fun j hj => by rw [hlo _ (by omega)]; exact r11 j hj⟩
theorem rb_ex {M : Pg_} {f f' : Nat → Int32} (hW : Wf_ Q) (hm : Rm_ f Q) (hM : Aq_ Q M (g_N Q)) (hlo : ∀ l, l < 15 * g_N Q → f' l = f l) : Rb_ f' M (g_N Q) := by
  intro m hmm
  obtain ⟨-, -, -, -, eL, eE⟩ := hM m hmm
  have hL := (hW.2 m hmm).2.1
  obtain ⟨r1, r2, r3, r4, r5, r6, r7, r8, r9, r10, r11⟩ := hm m hmm
  exact ⟨by omega, by rw [hlo _ (by omega), r10, eL], fun j hj => by rw [hlo _ (by omega), r11 j (by omega), eE]⟩
theorem sm_clause (h : To2_ t o c L s e) (hW : Wf_ Q) (hn : Rn_ n Q) (hm : Rm_ (o_A o 1) Q) (h3 : o_F o 3 = nI (g_N Q)) (hw : Wd_ o) :
    (∃ t' n' o' p, p ≤ 200 ∧ f_X6_readClause t n = some (nI p, t', n') ∧ f_X9_readsClause o = some (0, o') ∧ o_F o' 18 = nI p ∧ Fr_ TF_ t t' ∧ Fr_ OC_ o o')
    ∨ (∃ t' n' o' s' e', f_X6_readClause t n = some (-1, t', n') ∧ f_X9_readsClause o = some (0, o') ∧ To2_ t' o' c L s' e' ∧ s' < L ∧ ¬ c s' = 59 ∧ Fr_ TF_ t t' ∧ Fr_ OC_ o o')
    ∨ ∃ t' n' o' s' e' Q', f_X6_readClause t n = some (-1, t', n') ∧ f_X9_readsClause o = some (1, o') ∧ To2_ t' o' c L s' e' ∧ Wf_ Q' ∧ Rn_ n' Q' ∧ Rm_ (o_A o' 1) Q' ∧ o_F o' 3 = nI (g_N Q') ∧ Fr_ TF_ t t' ∧ Fr_ OC_ o o' := by
  have hN := hW.1
  have hsL : s ≤ 200 := by have := tk_le h.2.1; have := h.1.1; omega
  have o18 := h.2.2.2.2.2.1
  have t4 := h.2.2.2.1
  unfold f_X6_readClause f_X9_readsClause
  obtain ⟨mp, mk⟩ := m_kind h hw
  rcases x_kind h with ⟨K, hK, mK, eK⟩ | ⟨no, eK⟩
  · rw [eK, Option.bind_some, if_neg (nI_nm1 (by omega))]
    by_cases k7 : K = 7
    · subst k7
      rcases mp with ⟨-, ep⟩ | ⟨np, -⟩
      · rw [ep, Option.bind_some, if_neg n_10, if_pos (show nI 7 = 7 from rfl)]
        obtain ⟨t', o', s', e', a1, a2, a3, a4, a5⟩ := to2_step h
        unfold f_X1_clear
        rw [Lt_E, Option.bind_some, a1, a2, Option.bind_some, Option.bind_some, Lt_E]
        refine Or.inr (Or.inr ⟨t', _, _, s', e', (0, g_K Q, g_A Q, g_B Q, g_R Q, g_L Q, g_E Q), rfl, rfl, to2_fr (S := []) (T := [3]) a5 (by decide) (by decide) (fr_rf _ _) (fr_pF (by decide)), ⟨Nat.zero_le _, fun i hi => absurd hi (Nat.not_lt_zero _)⟩, ⟨by rw [fF_]; rfl, fun i hi => absurd hi (Nat.not_lt_zero _)⟩, fun i hi => absurd hi (Nat.not_lt_zero _), by rw [fF_]; rfl, fr_mono a3 (by decide), fr_tr (fr_mono a4 (by decide)) (fr_pF (by decide))⟩)
      · exact absurd mK np
    · have hK7 : K < 7 := by omega
      rcases mp with ⟨yp, -⟩ | ⟨-, ep⟩
      · exact absurd (mq_u (by omega) (by omega) mK yp) k7
      obtain ⟨K', hK', mK', ek⟩ : ∃ k, k < 7 ∧ Mq_ c s e k ∧ f_X9_kindHere o = some (nI k) := by
        rcases mk with z | ⟨nk, -⟩
        · exact z
        · exact absurd mK (nk K hK7)
      have : K = K' := mq_u (by omega) (by omega) mK mK'
      subst this
      rw [ep, Option.bind_some, if_pos rfl, ek, Option.bind_some, if_neg (nI_nm1 (by omega)), if_neg (show ¬ nI K = 7 from fun z => k7 ((nI_eq (b := 7) (by omega) (by omega)).mp z))]
      unfold f_X1_size
      rw [hn.1, h3, Option.bind_some, t4]
      by_cases n10 : g_N Q = 10
      · rw [n10, if_pos (show (10 : Int32) ≤ nI 10 by decide), if_pos (show nI 10 = 10 from rfl)]
        exact Or.inl ⟨t, n, o, s, hsL, rfl, rfl, o18, fr_rf _ _, fr_rf _ _⟩
      · have hN10 : g_N Q < 10 := by omega
        rw [if_neg (show ¬ (10 : Int32) ≤ nI (g_N Q) from nI_ge (b := 10) hN10 (by omega)), if_neg (show ¬ nI (g_N Q) = 10 from fun z => n10 ((nI_eq (b := 10) (by omega) (by omega)).mp z)), show (15 : Int32) * nI (g_N Q) = nI (15 * g_N Q) from pk_mul 15 (g_N Q), o18]
        obtain ⟨f, ec, hf⟩ := m_clear o hN10 (nI K) (nI s) (fun y1 y2 y3 t_o => f_X9_readsClause_J82 y1 y2 y3 t_o)
        rw [ec]
        unfold f_X9_readsClause_J82
        rw [st15 (q := 0) (j := 0) (p_A o 1 f) rfl hN10 (by omega), Option.bind_some, st15 (q := 4) (j := 4) _ rfl hN10 (by omega), Option.bind_some]
        -- the row as it is begun
        have F5 : Fr_ [1] o (p_A (p_A (p_A o 1 f) 1 (upd (o_A (p_A o 1 f) 1) (15 * g_N Q + 0) (nI K))) 1 (upd (o_A (p_A (p_A o 1 f) 1 (upd (o_A (p_A o 1 f) 1) (15 * g_N Q + 0) (nI K))) 1) (15 * g_N Q + 4) 0)) := fr_tr (fr_pA (by decide)) (fr_tr (fr_pA (by decide)) (fr_pA (by decide)))
        have c5 : ∀ l, o_A (p_A (p_A (p_A o 1 f) 1 (upd (o_A (p_A o 1 f) 1) (15 * g_N Q + 0) (nI K))) 1 (upd (o_A (p_A (p_A o 1 f) 1 (upd (o_A (p_A o 1 f) 1) (15 * g_N Q + 0) (nI K))) 1) (15 * g_N Q + 4) 0)) 1 l = if l = 15 * g_N Q + 4 then 0 else if l = 15 * g_N Q then nI K else if 15 * g_N Q ≤ l ∧ l < 15 * g_N Q + 15 then -1 else o_A o 1 l := fun l => by
          show upd (upd f (15 * g_N Q + 0) (nI K)) (15 * g_N Q + 4) 0 l = _
          rw [updE, updE, hf l]
          rfl
        generalize p_A (p_A (p_A o 1 f) 1 (upd (o_A (p_A o 1 f) 1) (15 * g_N Q + 0) (nI K))) 1 (upd (o_A (p_A (p_A o 1 f) 1 (upd (o_A (p_A o 1 f) 1) (15 * g_N Q + 0) (nI K))) 1) (15 * g_N Q + 4) 0) = o5 at F5 c5 ⊢
        have h5 : To2_ t o5 c L s e := to2_fr (S := []) (T := [1]) h (by decide) (by decide) (fr_rf _ _) F5
        obtain ⟨t6, o6, s6, e6, a1, a2, a3, a4, a5⟩ := to2_step h5
        rw [a1, a2, Option.bind_some, Option.bind_some, Option.bind_some]
        have h36 : o_F o6 3 = nI (g_N Q) := by rw [(a4 3 (by decide)).1, (F5 3 (by decide)).1, h3]
        have c6 : ∀ l, o_A o6 1 l = o_A o5 1 l := fun l => by rw [(a4 1 (by decide)).2]
        have Fo6 : Fr_ OC_ o o6 := fr_tr (fr_mono F5 (by decide)) (fr_mono a4 (by decide))
        have Ft6 : Fr_ TF_ t t6 := fr_mono a3 (by decide)
        rcases sm_args a5 hN10 h36 (K := K) (by omega) with ⟨t7, o7, b1, b2, ⟨p, hp, b3, b3'⟩, b4, b5⟩ | ⟨t7, o7, s7, e7, b1, b2, ⟨g0, g1, g2, g3, g4, g5, g6⟩, b4, b5, b6, b7⟩
        · rw [b1, b2, Option.bind_some, Option.bind_some, if_pos rfl, if_pos rfl]
          dsimp only
          rw [b3]
          exact Or.inl ⟨t7, n, o7, p, hp, rfl, rfl, b3', fr_tr Ft6 b4, fr_tr Fo6 (fr_mono b5 (by decide))⟩
        · rw [b1, Option.bind_some, if_neg n_10]
          dsimp only
          have h37 : o_F o7 3 = nI (g_N Q) := by rw [(b5 3 (by decide)).1, h36]
          have Ft7 : Fr_ TF_ t t7 := fr_tr Ft6 b4
          have Fo7 : Fr_ OC_ o o7 := fr_tr Fo6 (fr_mono b5 (by decide))
          have lo7 : ∀ l, l < 15 * g_N Q → o_A o7 1 l = o_A o 1 l := fun l hl => by rw [g6 l (by omega), c6, c5, if_neg (by omega), if_neg (by omega), if_neg (by omega)]
          have cell0 : o_A o7 1 (15 * g_N Q) = nI K := by rw [g6 _ (by omega), c6, c5, if_neg (by omega), if_pos rfl]
          have cell4 : o_A o7 1 (15 * g_N Q + 4) = nI 0 := by rw [g6 _ (by omega), c6, c5, if_pos rfl]; rfl
          have none1 : o_A o6 1 (15 * g_N Q + 1) = -1 := by rw [c6, c5, if_neg (by omega), if_neg (by omega), if_pos (by omega)]
          have none2 : o_A o6 1 (15 * g_N Q + 2) = -1 := by rw [c6, c5, if_neg (by omega), if_neg (by omega), if_pos (by omega)]
          by_cases hv : 1 ≤ K ∧ K ≤ 5
          · -- a verb
            rw [b7 hv, Option.bind_some, if_neg n_10]
            dsimp only
            obtain ⟨A, hA, tA, oA⟩ := g1 (by omega)
            obtain ⟨R, hR, tR, oR⟩ := g4 hv
            have exB : ∃ B, ((K = 1 ∨ K = 2) → B < g_N Q ∧ o_F t7 7 = nI B ∧ o_A o7 1 (15 * g_N Q + 2) = nI B) := by
              by_cases q : K = 1 ∨ K = 2
              · obtain ⟨B, z1, z2, z3⟩ := g2 q
                exact ⟨B, fun _ => ⟨z1, z2, z3⟩⟩
              · exact ⟨0, fun z => absurd z q⟩
            obtain ⟨B, hB⟩ := exB
            have hB1 : (K = 1 ∨ K = 2) → B < g_N Q := fun z => (hB z).1
            have hva := vx_va (Q := Q) (K := K) (A := A) (B := B) hA hB1 hv hR
            have dv := vx_dv (Q := Q) (R := R) hA hB1 hv
            have a := ex_at (Q := Q) (K := K) (A := A) (B := B) (R := R) (Lk := dv_L (ex_ Q K A B R 0 (fun _ => 0)) (g_N Q)) (Ek := dv_E (ex_ Q K A B R 0 (fun _ => 0)) (g_N Q))
            have aK : g_K (vx_ Q K A B R) (g_N Q) = K := a.1
            have aA : g_A (vx_ Q K A B R) (g_N Q) = A := a.2.1
            have aB : g_B (vx_ Q K A B R) (g_N Q) = B := a.2.2.1
            have aR : g_R (vx_ Q K A B R) (g_N Q) = R := a.2.2.2.1
            obtain ⟨o8, e8, q1, q2, q3⟩ := m_lays (o := o7) (P := vx_ Q K A B R) (i := g_N Q) hN10 hva (rb_ex hW hm ex_ag lo7) (by rw [aK]; exact cell0) (by rw [aA]; exact oA) (by rw [aK, aB]; exact fun z => (hB z).2.2) (by rw [aR]; exact oR)
            rw [h37, e8, Option.bind_some, tA, tR, x_axv hW hN10 hn hA hB1 hv hR (o_F t7 7) (fun z => (hB z).2.1) (fun _ _ => rfl) (fun _ _ => rfl), Option.bind_some]
            dsimp only
            by_cases big : dv_L (vx_ Q K A B R) (g_N Q) ≤ 6
            · rw [if_neg (show ¬ (6 : Int32) < nI (dv_L (vx_ Q K A B R) (g_N Q)) from fun z => by have := (nI_ltI (a := 6) (by omega) (by omega)).mp z; omega), if_pos big, if_neg n_10]
              obtain ⟨n9, e9, hn9⟩ := x_addV hW hN10 hn hA hB1 hv hR (o_F t7 7) (fun z => (hB z).2.1) (fun z => (g3 z).1) big
              rw [e9, Option.bind_some, if_neg (nI_ne0 (by omega) (by omega)), if_neg (show ¬ nI K = 6 from fun z => by have := (nI_eq (b := 6) (by omega) (by omega)).mp z; omega), Lt_E]
              obtain ⟨u1, u2⟩ := q3 big
              refine Or.inr (Or.inr ⟨t7, n9, _, s7, e7, vx_ Q K A B R, rfl, rfl, to2_fr (S := []) (T := [1, 3, 30]) b2 (by decide) (by decide) (fr_rf _ _) (fr_tr (fr_mono q1 (by decide)) (fr_pF (by decide))), vx_wf hW hN10 hA hB1 hv hR big, hn9, ?_, ?_, Ft7, fr_tr Fo7 (fr_tr (fr_mono q1 (by decide)) (fr_pF (by decide)))⟩)
              · refine rm_ex (M := vx_ Q K A B R) (f' := o_A o8 1) hW hm ex_ag rfl (fun l hl => by rw [q2 l (by omega)]; exact lo7 l hl) ⟨by rw [aK, q2 _ (by omega)]; exact cell0, fun _ => by rw [aA, q2 _ (by omega)]; exact oA, fun z => by rw [aK] at z; omega, fun z => by rw [aK] at z; rw [aB, q2 _ (by omega)]; exact (hB z).2.2, fun z => by rw [aK] at z; rw [q2 _ (by omega), (g3 z).2]; exact none2, fun _ => by rw [aR, q2 _ (by omega)]; exact oR, fun z => ?_, fun _ => by rw [q2 _ (by omega)]; exact cell4, fun z => ?_, by rw [dv.1]; exact u1, fun j hj => by rw [u2 j (by rw [dv.1] at hj; exact hj), dv.2 j]⟩
                · unfold td_ at z; rw [aK] at z; omega
                · unfold td_ at z; rw [aK] at z; omega
              · rw [fF_]
                show o_F o8 3 + 1 = nI (g_N Q + 1)
                rw [(q1 3 (by decide)).1, h37, nI_1]
            · have hbig : dv_L (vx_ Q K A B R) (g_N Q) < 100 := by
                have f1 := fr_le R (g_L (vx_ Q K A B R) A)
                have f2 := fr_le R (g_L (vx_ Q K A B R) B)
                have lA : g_L (vx_ Q K A B R) A ≤ 6 := by have := (ex_ag (Q := Q) (K := K) (A := A) (B := B) (R := R) (Lk := dv_L (ex_ Q K A B R 0 (fun _ => 0)) (g_N Q)) (Ek := dv_E (ex_ Q K A B R 0 (fun _ => 0)) (g_N Q)) A hA).2.2.2.2.1; have := (hW.2 A hA).2.1; show g_L (ex_ _ _ _ _ _ _ _) _ ≤ 6; omega
                have lB : (K = 1 ∨ K = 2) → g_L (vx_ Q K A B R) B ≤ 6 := fun z => by have := (ex_ag (Q := Q) (K := K) (A := A) (B := B) (R := R) (Lk := dv_L (ex_ Q K A B R 0 (fun _ => 0)) (g_N Q)) (Ek := dv_E (ex_ Q K A B R 0 (fun _ => 0)) (g_N Q)) B (hB1 z)).2.2.2.2.1; have := (hW.2 B (hB1 z)).2.1; show g_L (ex_ _ _ _ _ _ _ _) _ ≤ 6; omega
                unfold dv_L cA_ cB_
                unfold fA_ fB_
                rw [aK, aA, aB, aR]
                by_cases z1 : K = 1
                · have := lB (Or.inl z1); rw [if_pos z1]; omega
                · rw [if_neg z1]
                  by_cases z2 : K = 2
                  · have := lB (Or.inr z2); rw [if_pos z2]; omega
                  · rw [if_neg z2]
                    by_cases z3 : K = 3
                    · rw [if_pos z3]; omega
                    · rw [if_neg z3]
                      by_cases z4 : K = 4
                      · rw [if_pos z4]; omega
                      · rw [if_neg z4]; omega
              rw [if_pos (show (6 : Int32) < nI (dv_L (vx_ Q K A B R) (g_N Q)) from nI_lt (a := 6) (by omega) (by omega)), if_neg big, if_pos rfl, Lt_E]
              exact Or.inl ⟨t7, n, _, s, hsL, rfl, rfl, fF_ _ _ _, Ft7, fr_tr Fo7 (fr_tr (fr_mono q1 (by decide)) (fr_pF (by decide)))⟩
          · -- a told node
            have htd : K = 0 ∨ K = 6 := by omega
            have t7' : o_F t7 7 = -1 := (g3 (by omega)).1
            have t8' : o_F t7 8 = -11 := g5 hv
            have exA : ∃ A, (K = 6 → A < g_N Q ∧ o_F t7 6 = nI A ∧ o_A o7 1 (15 * g_N Q + 1) = nI A) := by
              by_cases q : K = 6
              · obtain ⟨A, z1, z2, z3⟩ := g1 (by omega)
                exact ⟨A, fun _ => ⟨z1, z2, z3⟩⟩
              · exact ⟨0, fun z => absurd z q⟩
            obtain ⟨A, hA⟩ := exA
            obtain ⟨ax, n9, e9, y6, y4, y5, z0, z1, z2, z3, z4⟩ := x_addT (A := A) hW hN10 hn htd (o_F t7 6) (fun z => (g0 z).1) (fun z => (hA z).2.1)
            rw [t7', t8', ax, Option.bind_some, if_neg (show ¬ (6 : Int32) < 0 by decide), e9, Option.bind_some, b6 htd]
            have ne : NE_ n9 n9 (g_N Q) 0 (fun _ => 0) := ⟨fr_rf _ _, z4, fun _ _ => rfl, fun _ _ => rfl, fun j hj => by omega⟩
            have oe : OE_ o7 o7 (g_N Q) 0 (fun _ => 0) := ⟨fr_rf _ _, fun _ _ => rfl, cell4, fun j hj => by omega⟩
            obtain ⟨t', n', o', s', e', m, E, w1, w2, w3, w4, w5, w6, w7⟩ := sm_extsL (n0 := n9) (o0 := o7) hN10 y6 3 0 FU_ FU_ t7 o7 n9 s7 e7 (fun _ => 0) rfl (by omega) (by unfold FU_; omega) (by unfold FU_; omega) b2 ne oe
            have ext : f_X6_readExtents t7 n9 = some (t', n') := w1
            have exo : f_X9_readsExtents o7 (nI (15 * g_N Q)) = some (if s' = L ∨ c s' = 59 then 1 else 0, o') := w2
            have both : (if nI K = 0 then ((f_X6_readExtents t7 n9).bind fun u10 => some ((-1 : Int32), u10.1, u10.2)) else (if nI K = 6 then ((f_X6_readExtents t7 n9).bind fun u10 => some ((-1 : Int32), u10.1, u10.2)) else some ((-1 : Int32), t7, n9))) = some (-1, t', n') := by
              rw [ext]
              rcases htd with q | q
              · rw [q, if_pos (show nI 0 = 0 from rfl)]; rfl
              · rw [q, if_neg (show ¬ nI 6 = 0 by decide), if_pos (show nI 6 = 6 from rfl)]; rfl
            rw [both]
            unfold f_X9_readsArguments_J62
            rw [exo, Option.bind_some]
            obtain ⟨n1', n2', n3', n4', n5'⟩ := w5
            obtain ⟨m1', m2', m3', m4'⟩ := w6
            have Ft' : Fr_ TF_ t t' := fr_tr Ft7 (fr_mono w7 (by decide))
            have Fo' : Fr_ OC_ o o' := fr_tr Fo7 (fr_mono m1' (by decide))
            by_cases end_ : s' = L ∨ c s' = 59
            · rw [if_pos end_, if_neg n_10, Option.bind_some, if_neg n_10]
              dsimp only
              have h38 : o_F o' 3 = nI (g_N Q) := by rw [(m1' 3 (by decide)).1, h37]
              obtain ⟨o8, e8, q1, q2, q3⟩ := m_lays0 (o := o') (i := g_N Q) (K := K) (L := m) (e := fun j => nI (E j)) hN10 htd w4 (by rw [m2' _ (by omega)]; exact cell0) m3' m4'
              rw [h38, e8, Option.bind_some, if_neg n_10, Lt_E]
              have a := ex_at (Q := Q) (K := K) (A := A) (B := 0) (R := 0) (Lk := m) (Ek := E)
              refine Or.inr (Or.inr ⟨t', n', _, s', e', ex_ Q K A 0 0 m E, rfl, rfl, to2_fr (S := []) (T := [1, 3, 30]) w3 (by decide) (by decide) (fr_rf _ _) (fr_tr (fr_mono q1 (by decide)) (fr_pF (by decide))), ex_wf hW hN10 (by omega) (fun z => (hA (by omega)).1) (fun z => by omega) (fun z => absurd z hv) (by omega) (fun _ => ⟨w4, fun j hj => (n5' j hj).2⟩), ?_, ?_, ?_, Ft', fr_tr Fo' (fr_tr (fr_mono q1 (by decide)) (fr_pF (by decide)))⟩)
              · have F0 : ∀ f, f < 4 → o_A n' f = o_A n9 f := fun f hf => (n1' f (by rcases (show f = 0 ∨ f = 1 ∨ f = 2 ∨ f = 3 by omega) with rfl | rfl | rfl | rfl <;> decide)).2
                refine rn_ex (M := ex_ Q K A 0 0 m E) hn ex_ag rfl (by rw [(n1' 6 (by decide)).1]; exact y6) (fun f hf i hi => ?_) (fun l hl => by rw [n4' l (by omega), y5]) hW ⟨by rw [a.1, F0 0 (by omega)]; exact z0, fun z => by rw [a.1] at z; rw [a.2.1, F0 1 (by omega), z1]; exact (hA (by omega)).2.1, fun z => by rw [a.1] at z; rw [F0 1 (by omega), z1]; exact (g0 z).1, fun z => by rw [a.1] at z; omega, fun _ => by rw [F0 2 (by omega)]; exact z2, fun z => by unfold vb_ at z; rw [a.1] at z; exact absurd z hv, fun _ => by rw [F0 3 (by omega)]; exact z3, by rw [a.2.2.2.2.1]; exact n2', fun j hj => by rw [a.2.2.2.2.1] at hj; rw [a.2.2.2.2.2]; exact (n5' j hj).1⟩
                rcases (show f < 4 ∨ f = 4 by omega) with q | q
                · rw [F0 f q]; exact y4 f hf i hi
                · subst q; rw [n3' i (by omega)]; exact y4 4 hf i hi
              · refine rm_ex (M := ex_ Q K A 0 0 m E) (f' := o_A o8 1) hW hm ex_ag rfl (fun l hl => by rw [q2 l (by omega), m2' l (by omega)]; exact lo7 l hl) ⟨by rw [a.1, q2 _ (by omega), m2' _ (by omega)]; exact cell0, fun z => by rw [a.1] at z; rw [a.2.1, q2 _ (by omega), m2' _ (by omega)]; exact (hA (by omega)).2.2, fun z => by rw [a.1] at z; rw [q2 _ (by omega), m2' _ (by omega), (g0 z).2]; exact none1, fun z => by rw [a.1] at z; omega, fun z => by rw [q2 _ (by omega), m2' _ (by omega), (g3 (by omega)).2]; exact none2, fun z => by unfold vb_ at z; rw [a.1] at z; exact absurd z hv, fun _ => by rw [a.2.2.2.2.1, q2 _ (by omega)]; exact m3', fun z => by unfold td_ at z; rw [a.1] at z; exact absurd htd z, fun _ j hj => by rw [a.2.2.2.2.1] at hj; rw [a.2.2.2.2.2, q2 _ (by omega)]; exact m4' j hj, by rw [a.2.2.2.2.1]; exact q3.1, fun j hj => by rw [a.2.2.2.2.1] at hj; rw [a.2.2.2.2.2]; exact q3.2 j hj⟩
              · rw [fF_]
                show o_F o8 3 + 1 = nI (g_N Q + 1)
                rw [(q1 3 (by decide)).1, h38, nI_1]
            · rw [if_neg end_, if_pos rfl, Option.bind_some, if_pos rfl]
              have := tk_le w3.2.1
              exact Or.inr (Or.inl ⟨t', n', o', s', e', rfl, rfl, w3, by omega, fun z => end_ (Or.inr z), Ft', Fo'⟩)
  · rw [eK, Option.bind_some, if_pos rfl, t4]
    rcases mp with ⟨yp, -⟩ | ⟨-, ep⟩
    · exact absurd yp (no 7 (by omega))
    rcases mk with ⟨K', hK', mK', ek⟩ | ⟨nk, ek⟩
    · exact absurd mK' (no K' (by omega))
    rw [ep, Option.bind_some, if_pos rfl, ek, Option.bind_some, if_pos rfl]
    exact Or.inl ⟨t, n, o, s, hsL, rfl, rfl, o18, fr_rf _ _, fr_rf _ _⟩
end
