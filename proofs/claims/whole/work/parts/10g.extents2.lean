section
variable {t o n : Ob_T} {c : Nat → Nat} {L s e k m : Nat}
theorem oe_fr {o0 o1 : Ob_T} {E : Nat → Nat} (h : OE_ o0 o k m E) (F : Fr_ [18, 19, 21] o o1) : OE_ o0 o1 k m E := by
  obtain ⟨h0, h1, h2, h3⟩ := h
  have e1 : o_A o1 1 = o_A o 1 := (F 1 (by decide)).2
  exact ⟨fr_tr h0 (fr_mono F (by decide)), fun l hl => by rw [e1]; exact h1 l hl, by rw [e1]; exact h2, fun j hj => by rw [e1]; exact h3 j hj⟩
theorem m_j134 {o0 : Ob_T} {E : Nat → Nat} (hk : k < 10) (hm : m < 3) (h : OE_ o0 o k m E) (v : Nat) {o2 : Ob_T} (hf : Fr_ [18, 19] (p_A o 1 (upd (o_A o 1) (15 * k + 5 + m) (nI v))) o2) (rec : (Int32 × Ob_T) → Option (Int32 × Ob_T)) : f_X9_readsExtents_J134 rec (nI (15 * k)) o2 = rec (nI (15 * k), p_A o2 1 (upd (o_A o2 1) (15 * k + 4) (nI (m + 1)))) := by
  have ef : o_A o2 1 (15 * k + 4) = nI m := by
    rw [(hf 1 (by decide)).2]
    show upd (o_A o 1) (15 * k + 5 + m) (nI v) (15 * k + 4) = _
    rw [updE, if_neg (by omega)]
    exact h.2.2.1
  unfold f_X9_readsExtents_J134
  rw [show nI (15 * k) + 4 = nI (15 * k + 4) from nI_add (15 * k) 4, ld_nI (by omega) (by omega), Option.bind_some, ef, st_nI (by omega) (by omega), Option.bind_some, nI_1]
theorem sm_extsL {n0 o0 : Ob_T} (hk : k < 10) (h6 : o_F n0 6 = nI (k + 1)) : ∀ r m fu fu' t o n s e E, r = 3 - m → m ≤ 3 → r < fu → r < fu' → To2_ t o c L s e → NE_ n0 n k m E → OE_ o0 o k m E → ∃ t' n' o' s' e' m' E', Lp_ (fun (rec : (Int32 × Ob_T × Ob_T) → Option (Ob_T × Ob_T)) x => f_X6_readExtents_L2 rec x.1 x.2.1 x.2.2) fu (nI m, t, n) = some (t', n') ∧ Lp_ (fun (rec : (Int32 × Ob_T) → Option (Int32 × Ob_T)) x => f_X9_readsExtents_L0 rec x.1 x.2) fu' (nI (15 * k), o) = some (if s' = L ∨ c s' = 59 then 1 else 0, o') ∧ To2_ t' o' c L s' e' ∧ m' ≤ 3 ∧ NE_ n0 n' k m' E' ∧ OE_ o0 o' k m' E' ∧ Fr_ [3, 4, 5] t t' := by
  intro r
  induction r with
  | zero =>
    intro m fu fu' t o n s e E hr hm hf hf' h hn ho
    obtain ⟨fu, rfl⟩ : ∃ f, fu = f + 1 := ⟨fu - 1, by omega⟩
    obtain ⟨fu', rfl⟩ : ∃ f, fu' = f + 1 := ⟨fu' - 1, by omega⟩
    have : m = 3 := by omega
    subst this
    refine ⟨t, n, o, s, e, 3, E, ?_, ?_, h, by omega, hn, ho, fr_rf _ _⟩
    · rw [Lp_s]
      unfold f_X6_readExtents_L2
      dsimp only
      rw [if_pos (show (3 : Int32) ≤ nI 3 by decide)]
    · rw [Lp_s]
      unfold f_X9_readsExtents_L0
      dsimp only
      rw [m_isEnd h, Option.bind_some]
      by_cases q : s = L ∨ c s = 59
      · rw [if_pos q, if_neg n_10]
      · rw [if_neg q, if_pos rfl, show nI (15 * k) + 4 = nI (15 * k + 4) from nI_add (15 * k) 4, ld_nI (by omega) (by omega), Option.bind_some, ho.2.2.1, if_pos (show nI 3 = 3 from rfl)]
  | succ r ih =>
    intro m fu fu' t o n s e E hr hm hf hf' h hn ho
    obtain ⟨fu, rfl⟩ : ∃ f, fu = f + 1 := ⟨fu - 1, by omega⟩
    obtain ⟨fu', rfl⟩ : ∃ f, fu' = f + 1 := ⟨fu' - 1, by omega⟩
    have hm3 : m < 3 := by omega
    have h' := h
    obtain ⟨⟨hL, t1, o1, hc⟩, htk, t3, t4, t5, o18, o19⟩ := h'
    have hle := tk_le htk
    rw [Lp_s, Lp_s]
    have ihm := ih (m + 1) fu fu'
    generalize Lp_ (fun (rec : (Int32 × Ob_T × Ob_T) → Option (Ob_T × Ob_T)) x => f_X6_readExtents_L2 rec x.1 x.2.1 x.2.2) fu = rx at ihm ⊢
    generalize Lp_ (fun (rec : (Int32 × Ob_T) → Option (Int32 × Ob_T)) x => f_X9_readsExtents_L0 rec x.1 x.2) fu' = rm at ihm ⊢
    unfold f_X6_readExtents_L2 f_X9_readsExtents_L0 f_X6_readExtents_J59
    dsimp only
    rw [if_neg (show ¬ (3 : Int32) ≤ nI m from nI_ge (b := 3) hm3 (by omega)), m_isEnd h, Option.bind_some, x_plain h, Option.bind_some]
    have c4 : ld_I (o_A o 1) 150 (nI (15 * k) + 4) = some (nI m) := by rw [show nI (15 * k) + 4 = nI (15 * k + 4) from nI_add (15 * k) 4, ld_nI (by omega) (by omega), ho.2.2.1]
    have m3 : ¬ nI m = 3 := fun z => by have := (nI_eq (b := 3) (by omega) (by omega)).mp z; omega
    have ix5 : nI (15 * k) + 5 + nI m = nI (15 * k + 5 + m) := by rw [show (5 : Int32) = nI 5 from rfl, nI_add, nI_add]
    rcases sm_num h 0 9 with ⟨nm, hv, e1, e2, e3⟩ | ⟨nm, e1, e3⟩
    · -- a number
      have hs : s < L := nm.1
      have s2 := nm.2.1
      have d0 := so_2 s2
      have v9 : nv_ c s e ≤ 9 := by
        have := nm.2.2.2.2
        rw [show (9 : Int32).toInt = 9 from rfl] at this
        omega
      have h2 : To2_ t (p_F o 21 (nI (nv_ c s e))) c L s e := to2_fr (S := []) (T := [21]) h (by decide) (by decide) (fr_rf _ _) (fr_pF (by decide))
      obtain ⟨t', o', s', e', a1, a2, a3, a4, a5⟩ := to2_step h2
      have e21 : o_F o' 21 = nI (nv_ c s e) := by rw [(a4 21 (by decide)).1, fF_]
      obtain ⟨n', b1, b2⟩ := x_tell hk hm3 hn h6 (v := nv_ c s e) (Or.inl v9)
      have ho' : OE_ o0 o' k m E := oe_fr ho (fr_tr (fr_pF (by decide)) (fr_mono a4 (by decide)))
      have hf2 : Fr_ [18, 19] (p_A o' 1 (upd (o_A o' 1) (15 * k + 5 + m) (nI (nv_ c s e)))) (p_A o' 1 (upd (o_A o' 1) (15 * k + 5 + m) (nI (nv_ c s e)))) := fr_rf _ _
      rw [e1, Option.bind_some, if_neg n_10, e2, Option.bind_some, b1, Option.bind_some, a1, Option.bind_some]
      rw [if_neg (show ¬ (s = L ∨ c s = 59) from fun z => by omega), if_pos rfl, c4, Option.bind_some, if_neg m3, o18, ld_nI (by omega) (by omega), Option.bind_some, Option.bind_some, (hc s hs).2.2, m_letter _ (hc s hs).1, Option.bind_some, if_neg (show ¬ so_ (c s) = 1 by omega), if_pos rfl, e3, a2, Option.bind_some, Option.bind_some, if_neg n_10]
      dsimp only
      rw [ix5, st_nI (by omega) (by omega), Option.bind_some, e21, m_j134 hk hm3 ho' (nv_ c s e) hf2, nI_1]
      obtain ⟨t2, n2, o2, s2, e2, m2, E2, q1, q2, q3, q4, q5, q6, q7⟩ := ihm t' _ n' s' e' (fun j => if j = m then nv_ c s e else E j) (by omega) (by omega) (by omega) (by omega) (to2_fr (S := []) (T := [1]) a5 (by decide) (by decide) (fr_rf _ _) (fr_tr (fr_pA (by decide)) (fr_pA (by decide)))) b2 (m_tell hk hm3 ho' (nv_ c s e) hf2)
      exact ⟨t2, n2, o2, s2, e2, m2, E2, q1, q2, q3, q4, q5, q6, fr_tr a3 q7⟩
    · rw [e1, Option.bind_some, if_pos rfl]
      by_cases pl : s < L ∧ so_ (c s) = 1 ∧ e - s = 1 ∧ 117 ≤ c s ∧ c s ≤ 120
      · -- a letter
        obtain ⟨hs, s1, es, l1, l2⟩ := pl
        rw [if_pos (show s < L ∧ so_ (c s) = 1 ∧ e - s = 1 ∧ 117 ≤ c s ∧ c s ≤ 120 from ⟨hs, s1, es, l1, l2⟩), if_neg n_10, t4, ld_nI (by omega) (by omega), Option.bind_some, (hc s hs).2.1]
        have ev : (20000 : Int32) + nI (c s) - 117 = nI (20000 + (c s - 117)) := by
          rw [show (20000 : Int32) = nI 20000 from rfl, show (117 : Int32) = nI 117 from rfl, nI_add, pk_sub (by omega)]
          exact congrArg nI (by omega)
        obtain ⟨n', b1, b2⟩ := x_tell hk hm3 hn h6 (v := 20000 + (c s - 117)) (Or.inr ⟨by omega, by omega⟩)
        have h2 : To2_ t (p_A o 1 (upd (o_A o 1) (15 * k + 5 + m) (nI (20000 + (c s - 117))))) c L s e := to2_fr (S := []) (T := [1]) h (by decide) (by decide) (fr_rf _ _) (fr_pA (by decide))
        obtain ⟨t', o', s', e', a1, a2, a3, a4, a5⟩ := to2_step h2
        rw [ev, b1, Option.bind_some, a1, Option.bind_some]
        rw [if_neg (show ¬ (s = L ∨ c s = 59) from fun z => by omega), if_pos rfl, c4, Option.bind_some, if_neg m3, o18, ld_nI (by omega) (by omega), Option.bind_some, Option.bind_some, Option.bind_some, (hc s hs).2.2, m_letter _ (hc s hs).1, Option.bind_some, if_pos s1, if_neg n_10, o19, pk_sub hle.1, if_neg (show ¬ (1 : Int32) < nI (e - s) by rw [es]; decide)]
        have fin : f_X9_in (nI (c s)).toInt64 117 120 = some 1 := f_in1 (a := 117) (b := 120) (by
          rw [nI_toInt (by have := (hc s hs).1; omega)]
          exact ⟨by show (117 : Int) ≤ _; omega, by show _ ≤ (120 : Int); omega⟩)
        rw [fin, Option.bind_some, if_neg n_10, ev, ix5, st_nI (by omega) (by omega), Option.bind_some, a2, Option.bind_some, m_j134 hk hm3 ho (20000 + (c s - 117)) a4, nI_1]
        obtain ⟨t2, n2, o2, s2, e2, m2, E2, q1, q2, q3, q4, q5, q6, q7⟩ := ihm t' _ n' s' e' (fun j => if j = m then 20000 + (c s - 117) else E j) (by omega) (by omega) (by omega) (by omega) (to2_fr (S := []) (T := [1]) a5 (by decide) (by decide) (fr_rf _ _) (fr_pA (by decide))) b2 (m_tell hk hm3 ho (20000 + (c s - 117)) a4)
        exact ⟨t2, n2, o2, s2, e2, m2, E2, q1, q2, q3, q4, q5, q6, fr_tr a3 q7⟩
      · -- no extent
        rw [if_neg pl, if_pos rfl]
        refine ⟨t, n, o, s, e, m, E, rfl, ?_, h, hm, hn, ho, fr_rf _ _⟩
        by_cases q : s = L ∨ c s = 59
        · rw [if_pos q, if_neg n_10]
        · have hs : s < L := by omega
          rw [if_neg q, if_pos rfl, c4, Option.bind_some, if_neg m3, o18, ld_nI (by omega) (by omega), Option.bind_some, Option.bind_some, Option.bind_some, (hc s hs).2.2, m_letter _ (hc s hs).1, Option.bind_some]
          by_cases s1 : so_ (c s) = 1
          · rw [if_pos s1, if_neg n_10, o19, pk_sub hle.1]
            by_cases es : e - s = 1
            · rw [if_neg (show ¬ (1 : Int32) < nI (e - s) by rw [es]; decide)]
              have fin : f_X9_in (nI (c s)).toInt64 117 120 = some 0 := f_in0 (a := 117) (b := 120) (by
                rw [nI_toInt (by have := (hc s hs).1; omega)]
                intro z
                exact pl ⟨hs, s1, es, by have := z.1; have e : (117 : Int64).toInt = 117 := rfl; rw [e] at this; omega, by have := z.2; have e : (120 : Int64).toInt = 120 := rfl; rw [e] at this; omega⟩)
              rw [fin, Option.bind_some, if_pos rfl]
            · have : 1 < e - s := by
                rcases htk with z | ⟨z, z1, -⟩
                · omega
                · have := z1.1; omega
              rw [if_pos (show (1 : Int32) < nI (e - s) from nI_lt (a := 1) this (by omega))]
          · rw [if_neg s1, if_pos rfl, e3, Option.bind_some, if_pos rfl]
end
