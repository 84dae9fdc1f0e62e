theorem ol_mem : ∀ (l : List Nat), 0 < nl_ l → 20000 + ol_ l ∈ l
  | [], h => absurd h (by decide)
  | v :: l, h => by
    have h1 : 0 < (if v < 20000 then 0 else 1) + nl_ l := h
    show 20000 + (if v < 20000 then ol_ l else v - 20000) ∈ v :: l
    by_cases c : v < 20000
    · rw [if_pos c] at h1 ⊢
      exact List.mem_cons_of_mem _ (ol_mem l (by omega))
    · rw [if_neg c, show 20000 + (v - 20000) = v by omega]
      exact List.mem_cons_self
theorem x_prod {d : Ob_T} {Ls : Nat → List Nat} (h : Rd_ d Ls) {s : Nat} (hs : s < 2) : ∃ q, ld_J (o_L d 1) 2 (nI s) = some (lN q) ∧ pr_ q (pd_ (Ls s)) := by
  obtain ⟨-, -, p, a3, a4⟩ := h.1 s hs
  rw [ld_nJ hs (by omega), a3]
  exact ⟨p, rfl, a4⟩
theorem pr_lt {p q : Nat} (h : pr_ p q) : p < 2 ^ 63 := by
  rcases h with ⟨e, g⟩ | ⟨-, -, g⟩
  · unfold BD_ at g; omega
  · omega
theorem pr_bd {p q : Nat} (h : pr_ p q) : BD_ < p ↔ BD_ < q := by
  rcases h with ⟨e, g⟩ | ⟨g1, g2, g⟩
  · rw [e]
  · exact ⟨fun _ => g2, fun _ => g1⟩
theorem pr_eq {p q : Nat} (h : pr_ p q) (hb : ¬ BD_ < q) : p = q := by
  rcases h with ⟨e, g⟩ | ⟨g1, g2, g⟩
  · exact e
  · exact absurd g2 hb
theorem lc_le9 {a : Nat} (ha : a < 2 ^ 63) : lg_cmp (lN a) 9999 ≤ 0 ↔ a ≤ 9999 := lc_le (b := 9999) ha (by omega)
theorem lc_eq0 {a : Nat} (ha : a < 2 ^ 63) : lg_cmp (lN a) 0 = 0 ↔ a = 0 := lc_eq (b := 0) ha (by omega)
/-- what is missing, as the class tells it: -2 any, -1 none -/
def mis_ (a : Nat × Nat × Nat) : Int64 := if a.1 = 1 then -2 else if a.1 = 3 then -1 else lN a.2.2
theorem x_great {d : Ob_T} {L R : List Nat} (h : Rd_ d (sd_ L R)) : f_X4_isTooGreat d = some (if BD_ < pd_ L ∨ BD_ < pd_ R then 1 else 0) := by
  obtain ⟨p, e1, h1⟩ := x_prod h (s := 0) (by omega)
  obtain ⟨q, e2, h2⟩ := x_prod h (s := 1) (by omega)
  have h1 : pr_ p (pd_ L) := h1
  have h2 : pr_ q (pd_ R) := h2
  unfold f_X4_isTooGreat
  rw [show ld_J (o_L d 1) 2 0 = some (lN p) from e1, Option.bind_some, b_lit]
  by_cases c1 : BD_ < p
  · rw [if_pos ((lc_gt (pr_lt h1) (by unfold BD_; omega)).mpr c1), if_pos (Or.inl ((pr_bd h1).mp c1))]
  · rw [if_neg (fun z => c1 ((lc_gt (pr_lt h1) (by unfold BD_; omega)).mp z)), show ld_J (o_L d 1) 2 1 = some (lN q) from e2, Option.bind_some]
    by_cases c2 : BD_ < q
    · rw [if_neg (fun z => by have := (lc_le (pr_lt h2) (by unfold BD_; omega)).mp z; omega), if_pos (Or.inr ((pr_bd h2).mp c2))]
    · rw [if_pos ((lc_le (pr_lt h2) (by unfold BD_; omega)).mpr (by omega)), if_neg]
      intro z
      rcases z with z | z
      · exact c1 ((pr_bd h1).mpr z)
      · exact c2 ((pr_bd h2).mpr z)
theorem lN_subI {a b : Nat} (ha : a < 2 ^ 31) (hb : b < 2 ^ 31) : (lN a - lN b).toInt = (a : Int) - b := by
  rw [← nI_l ha, ← nI_l hb, lg_i2l_sub, nI_toInt ha, nI_toInt hb]
/-- with one letter at most: goal and rest, by the letter's side -/
def gl_ (L R : List Nat) : List Nat := if nl_ L = 1 then R else L
def rs_l (L R : List Nat) : List Nat := if nl_ L = 1 then L else R
theorem eqv_le1 (s : Prop) [Decidable s] {L R : List Nat} (h : nl_ L + nl_ R ≤ 1) : eqv_ s L R = if s then eqs_ (nl_ L + nl_ R) (su_ (gl_ L R)) (su_ (rs_l L R)) (ol_ (rs_l L R)) else eqp_ (nl_ L + nl_ R) (pd_ (gl_ L R)) (pd_ (rs_l L R)) (ol_ (rs_l L R)) := by
  unfold eqv_ gl_ rs_l
  rw [if_neg (by omega)]
  by_cases c : nl_ L = 1
  · simp only [if_pos c]
  · simp only [if_neg c]
theorem one_side {d : Ob_T} {L R : List Nat} (h : Rd_ d (sd_ L R)) (h1 : nl_ L + nl_ R = 1) : ∃ s, s < 2 ∧ o_F d 4 = nI s ∧ o_F d 3 = nI (ol_ (rs_l L R)) ∧ sd_ L R s = rs_l L R ∧ sd_ L R (1 - s) = gl_ L R := by
  obtain ⟨s, hs, a, b, c⟩ := h.2.2.2.2.1 h1
  refine ⟨s, hs, a, ?_⟩
  unfold rs_l gl_
  rcases (show s = 0 ∨ s = 1 by omega) with rfl | rfl
  · have b : nl_ L = 1 := b
    rw [if_pos b, if_pos b]
    exact ⟨c, rfl, rfl⟩
  · have b : nl_ R = 1 := b
    rw [if_neg (by omega), if_neg (by omega)]
    exact ⟨c, rfl, rfl⟩
theorem x_missA {d : Ob_T} {L R : List Nat} (h : Rd_ d (sd_ L R)) (h1 : nl_ L + nl_ R ≤ 1) : f_X4_missingAddend d = some (mis_ (eqs_ (nl_ L + nl_ R) (su_ (gl_ L R)) (su_ (rs_l L R)) (ol_ (rs_l L R)))) := by
  unfold f_X4_missingAddend eqs_
  rw [h.2.2.1]
  by_cases c0 : nl_ L + nl_ R = 0
  · have g0 : gl_ L R = L := by unfold gl_; rw [if_neg (by omega)]
    have r0 : rs_l L R = R := by unfold rs_l; rw [if_neg (by omega)]
    obtain ⟨a1, a2, -⟩ := h.1 0 (by omega)
    obtain ⟨b1, b2, -⟩ := h.1 1 (by omega)
    have a1 : su_ L < 2 ^ 31 := a1
    have b1 : su_ R < 2 ^ 31 := b1
    rw [show nl_ (sd_ L R 0) + nl_ (sd_ L R 1) = 0 from c0, if_pos (show nI 0 = 0 from rfl), if_pos c0, show ld_J (o_L d 0) 2 0 = some (o_L d 0 0) from ld_nJ (i := 0) (by omega) (by omega), Option.bind_some, show ld_J (o_L d 0) 2 1 = some (o_L d 0 1) from ld_nJ (i := 1) (by omega) (by omega), Option.bind_some, a2, b2, g0, r0]
    show (if lg_cmp (lN (su_ L)) (lN (su_ R)) = 0 then some (-2 : Int64) else some (-1)) = _
    by_cases e : su_ L = su_ R
    · rw [if_pos ((lc_eq (by omega) (by omega)).mpr e), if_pos e]; rfl
    · rw [if_neg (fun z => e ((lc_eq (by omega) (by omega)).mp z)), if_neg e]; rfl
  · obtain ⟨s, hs, e5, e4, er, eg⟩ := one_side h (by omega)
    obtain ⟨a1, a2, -⟩ := h.1 s hs
    obtain ⟨b1, b2, -⟩ := h.1 (1 - s) (by omega)
    rw [er] at a1 a2
    rw [eg] at b1 b2
    rw [if_neg (show ¬ nI (nl_ (sd_ L R 0) + nl_ (sd_ L R 1)) = 0 from nI_ne0 (by show 0 < nl_ L + nl_ R; omega) (by show nl_ L + nl_ R < _; omega)), if_neg c0, e5, show (1 : Int32) - nI s = nI (1 - s) from pk_sub (a := 1) (by omega), ld_nJ (by omega) (by omega), Option.bind_some, ld_nJ hs (by omega), Option.bind_some, a2, b2]
    by_cases c1 : su_ (gl_ L R) < su_ (rs_l L R)
    · rw [if_pos ((cmp_lt _ _).mpr (by rw [lN_subI b1 a1]; show _ < (0 : Int); omega)), if_pos (Or.inl c1)]; rfl
    · rw [if_neg (fun z => by have := (cmp_lt _ _).mp z; rw [lN_subI b1 a1] at this; have e : (0 : Int64).toInt = 0 := rfl; omega), lN_sub (by omega)]
      by_cases c2 : 9999 < su_ (gl_ L R) - su_ (rs_l L R)
      · rw [if_neg (fun z => by have := (lc_le9 (a := su_ (gl_ L R) - su_ (rs_l L R)) (by omega)).mp z; omega), if_pos (Or.inr c2)]; rfl
      · rw [if_pos ((lc_le9 (a := su_ (gl_ L R) - su_ (rs_l L R)) (by omega)).mpr (by omega)), if_neg (by omega)]; rfl
theorem x_missF {d : Ob_T} {L R : List Nat} (h : Rd_ d (sd_ L R)) (h1 : nl_ L + nl_ R ≤ 1) : f_X4_missingFactor d = some (mis_ (eqp_ (nl_ L + nl_ R) (pd_ (gl_ L R)) (pd_ (rs_l L R)) (ol_ (rs_l L R)))) := by
  -- the side asked, and the two products
  have core : ∀ s, s < 2 → o_F d 4 = nI s → (nl_ L + nl_ R = 1 → sd_ L R s = rs_l L R ∧ sd_ L R (1 - s) = gl_ L R) → (nl_ L + nl_ R = 0 → sd_ L R (1 - s) = rs_l L R ∧ sd_ L R s = gl_ L R) → f_X4_missingFactor d = some (mis_ (eqp_ (nl_ L + nl_ R) (pd_ (gl_ L R)) (pd_ (rs_l L R)) (ol_ (rs_l L R)))) := by
    intro s hs e5 k1 k0
    obtain ⟨g, eg, hg⟩ := x_prod h (s := 1 - s) (by omega)
    obtain ⟨r, er, hr⟩ := x_prod h hs
    have bdl : BD_ < 2 ^ 63 := by unfold BD_; omega
    unfold f_X4_missingFactor eqp_
    rw [e5, show (1 : Int32) - nI s = nI (1 - s) from pk_sub (a := 1) (by omega), eg, Option.bind_some, er, Option.bind_some, b_lit, h.2.2.1]
    have big : (BD_ < pd_ (gl_ L R) ∨ BD_ < pd_ (rs_l L R)) ↔ (BD_ < g ∨ BD_ < r) := by
      rw [pr_bd hg, pr_bd hr]
      rcases (show nl_ L + nl_ R = 0 ∨ nl_ L + nl_ R = 1 by omega) with z | z
      · rw [(k0 z).1, (k0 z).2]; exact Or.comm
      · rw [(k1 z).1, (k1 z).2]
    by_cases cb : BD_ < g ∨ BD_ < r
    · rw [if_pos (big.mpr cb)]
      by_cases c1 : BD_ < g
      · rw [if_pos ((lc_gt (pr_lt hg) bdl).mpr c1)]; rfl
      · rw [if_neg (fun z => c1 ((lc_gt (pr_lt hg) bdl).mp z)), if_neg (fun z => by have := (lc_le (pr_lt hr) bdl).mp z; omega)]; rfl
    · rw [if_neg (fun z => cb (big.mp z)), if_neg (fun z => cb (Or.inl ((lc_gt (pr_lt hg) bdl).mp z))), if_pos ((lc_le (pr_lt hr) bdl).mpr (by omega))]
      have eg2 : g = pd_ (sd_ L R (1 - s)) := pr_eq hg (fun z => cb (Or.inl ((pr_bd hg).mpr z)))
      have er2 : r = pd_ (sd_ L R s) := pr_eq hr (fun z => cb (Or.inr ((pr_bd hr).mpr z)))
      rcases (show nl_ L + nl_ R = 0 ∨ nl_ L + nl_ R = 1 by omega) with z | z
      · rw [show nl_ (sd_ L R 0) + nl_ (sd_ L R 1) = 0 from z, if_pos (show nI 0 = 0 from rfl), if_pos z]
        rw [(k0 z).1] at eg2
        rw [(k0 z).2] at er2
        unfold f_X4_missingFactor_J55
        by_cases e : g = r
        · rw [if_pos ((lc_eq (pr_lt hg) (pr_lt hr)).mpr e), if_pos (by omega)]; rfl
        · rw [if_neg (fun w => e ((lc_eq (pr_lt hg) (pr_lt hr)).mp w)), if_neg (by omega)]; rfl
      · rw [if_neg (show ¬ nI (nl_ (sd_ L R 0) + nl_ (sd_ L R 1)) = 0 from nI_ne0 (by show 0 < nl_ L + nl_ R; omega) (by show nl_ L + nl_ R < _; omega)), if_neg (show ¬ nl_ L + nl_ R = 0 by omega)]
        rw [(k1 z).2] at eg2
        rw [(k1 z).1] at er2
        rw [← eg2, ← er2]
        by_cases r0 : r = 0
        · rw [if_pos ((lc_eq0 (pr_lt hr)).mpr r0), if_pos r0]
          unfold f_X4_missingFactor_J55
          by_cases e : g = 0
          · rw [if_pos ((lc_eq (pr_lt hg) (pr_lt hr)).mpr (by omega)), if_pos e]; rfl
          · rw [if_neg (fun w => e (by have := (lc_eq (pr_lt hg) (pr_lt hr)).mp w; omega)), if_neg e]; rfl
        · have nz : ¬ lN r = 0 := fun w => r0 ((pk_lEQ (b := 0) (pr_lt hr) (by omega)).mp w)
          have dl : g / r < 2 ^ 63 := Nat.lt_of_le_of_lt (Nat.div_le_self g r) (pr_lt hg)
          have ml : g % r < 2 ^ 63 := Nat.lt_of_lt_of_le (Nat.mod_lt g (by omega)) (Nat.le_of_lt (pr_lt hr))
          rw [if_neg (fun w => r0 ((lc_eq0 (pr_lt hr)).mp w)), if_neg r0, if_neg nz, pk_lRem (pr_lt hg) (by omega) (pr_lt hr), pk_lDiv (pr_lt hg) (by omega) (pr_lt hr)]
          by_cases c1 : g % r = 0
          · rw [if_pos ((lc_eq0 ml).mpr c1), if_neg nz]
            by_cases c2 : 9999 < g / r
            · rw [if_neg (fun w => by have := (lc_le9 dl).mp w; omega), if_pos (Or.inr c2)]; rfl
            · rw [if_pos ((lc_le9 dl).mpr (by omega)), if_neg nz, if_neg (by omega)]; rfl
          · rw [if_neg (fun w => c1 ((lc_eq0 ml).mp w)), if_pos (Or.inl c1)]; rfl
  rcases (show nl_ L + nl_ R = 0 ∨ nl_ L + nl_ R = 1 by omega) with z | z
  · refine core 0 (by omega) (h.2.2.2.1 z) (fun w => by omega) (fun _ => ?_)
    unfold rs_l gl_
    rw [if_neg (by omega), if_neg (by omega)]
    exact ⟨rfl, rfl⟩
  · obtain ⟨s, hs, e5, -, er, eg⟩ := one_side h z
    exact core s hs e5 (fun _ => ⟨er, eg⟩) (fun w => by omega)
