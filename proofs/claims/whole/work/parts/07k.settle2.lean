def eqn_ (P : Pg_) (i : Nat) (V : Nat → Nat) : Nat × Nat × Nat := eqv_ (g_K P i = 2) ((eL_ P i).map (vl_ V)) ((eR_ P i).map (vl_ V))
def stp_ (P : Pg_) (i : Nat) (V : Nat → Nat) (a : Nat × Nat × Nat) : Sv_ := if a.1 = 2 then (sb_ V a.2.1 a.2.2, []) else if a.1 = 3 then (V, [i, if g_K P i = 2 then 3 else 4, 0, 0, 0]) else (V, [])
/-- in a round: the state, whether one was found, one passed by, and whether what failed was too great -/
abbrev Tr4_ : Type := Sv_ × Nat × Nat × Nat
def rk_ (P : Pg_) (i : Nat) (t : Tr4_) : Tr4_ := if t.1.2 = [] ∧ (g_K P i = 2 ∨ g_K P i = 5 ∨ g_K P i = 6) then (stp_ P i t.1.1 (eqn_ P i t.1.1), if (eqn_ P i t.1.1).1 = 2 then 1 else t.2.1, if (eqn_ P i t.1.1).1 = 0 then 1 else t.2.2.1, if (eqn_ P i t.1.1).1 = 3 then (eqn_ P i t.1.1).2.1 else t.2.2.2) else t
def rds_ (P : Pg_) : Nat → Nat → Tr4_ → Tr4_
  | 0, _, t => t
  | c + 1, i, t => rds_ P c (i + 1) (rk_ P i t)
def rnd_ (P : Pg_) (S : Sv_) (too : Nat) : Tr4_ := rds_ P (g_N P) 0 (S, 0, 0, too)
theorem rk_f (P : Pg_) (i : Nat) {t : Tr4_} (h : ¬ t.1.2 = []) : rk_ P i t = t := by
  unfold rk_
  rw [if_neg (fun z => h z.1)]
theorem rds_f (P : Pg_) : ∀ (c i : Nat) {t : Tr4_}, ¬ t.1.2 = [] → rds_ P c i t = t
  | 0, _, _, _ => rfl
  | c + 1, i, t, h => by
    show rds_ P c (i + 1) (rk_ P i t) = t
    rw [rk_f P i h]
    exact rds_f P c (i + 1) h
/-- what an equation can answer -/
theorem eqs_sp (n goal rest l : Nat) : ((eqs_ n goal rest l).1 = 1 ∨ (eqs_ n goal rest l).1 = 2 ∨ (eqs_ n goal rest l).1 = 3) ∧ ((eqs_ n goal rest l).1 = 2 → n ≠ 0 ∧ (eqs_ n goal rest l).2.1 = l ∧ (eqs_ n goal rest l).2.2 = goal - rest ∧ rest ≤ goal ∧ goal - rest ≤ 9999) ∧ ((eqs_ n goal rest l).1 = 3 → (eqs_ n goal rest l).2.1 = 0) := by
  unfold eqs_
  by_cases c0 : n = 0
  · rw [if_pos c0]
    by_cases c1 : goal = rest
    · rw [if_pos c1]; simp
    · rw [if_neg c1]; simp
  · rw [if_neg c0]
    by_cases c1 : goal < rest ∨ 9999 < goal - rest
    · rw [if_pos c1]; simp
    · rw [if_neg c1]
      refine ⟨Or.inr (Or.inl rfl), fun _ => ⟨c0, rfl, rfl, by omega, by omega⟩, fun z => absurd (show (2 : Nat) = 3 from z) (by decide)⟩
theorem eqp_sp (n goal rest l : Nat) : ((eqp_ n goal rest l).1 = 1 ∨ (eqp_ n goal rest l).1 = 2 ∨ (eqp_ n goal rest l).1 = 3) ∧ ((eqp_ n goal rest l).1 = 2 → n ≠ 0 ∧ (eqp_ n goal rest l).2.1 = l ∧ (eqp_ n goal rest l).2.2 = goal / rest ∧ rest ≠ 0 ∧ goal % rest = 0 ∧ goal / rest ≤ 9999 ∧ goal ≤ BD_) ∧ ((eqp_ n goal rest l).1 = 3 → (eqp_ n goal rest l).2.1 = if BD_ < goal ∨ BD_ < rest then 1 else 0) := by
  unfold eqp_
  by_cases c : BD_ < goal ∨ BD_ < rest
  · rw [if_pos c, if_pos c]; simp
  · rw [if_neg c, if_neg c]
    by_cases c0 : n = 0
    · rw [if_pos c0]
      by_cases c1 : goal = rest
      · rw [if_pos c1]; simp
      · rw [if_neg c1]; simp
    · rw [if_neg c0]
      by_cases r0 : rest = 0
      · rw [if_pos r0]
        by_cases c1 : goal = 0
        · rw [if_pos c1]; simp
        · rw [if_neg c1]; simp
      · rw [if_neg r0]
        by_cases c1 : goal % rest ≠ 0 ∨ 9999 < goal / rest
        · rw [if_pos c1]; simp
        · rw [if_neg c1]
          refine ⟨Or.inr (Or.inl rfl), fun _ => ⟨c0, rfl, rfl, r0, by omega, by omega, by omega⟩, fun z => absurd (show (2 : Nat) = 3 from z) (by decide)⟩
theorem eqv_sp (s : Prop) [Decidable s] {L R : List Nat} (h : nl_ L + nl_ R ≤ 1) : ((eqv_ s L R).1 = 1 ∨ (eqv_ s L R).1 = 2 ∨ (eqv_ s L R).1 = 3) ∧ ((eqv_ s L R).1 = 2 → nl_ L + nl_ R = 1 ∧ (eqv_ s L R).2.1 = ol_ (rs_l L R) ∧ (eqv_ s L R).2.2 ≤ 9999) ∧ ((eqv_ s L R).1 = 3 → (eqv_ s L R).2.1 = if ¬ s ∧ (BD_ < pd_ L ∨ BD_ < pd_ R) then 1 else 0) := by
  rw [eqv_le1 s h]
  by_cases c : s
  · simp only [if_pos c]
    obtain ⟨h1, h2, h3⟩ := eqs_sp (nl_ L + nl_ R) (su_ (gl_ L R)) (su_ (rs_l L R)) (ol_ (rs_l L R))
    refine ⟨h1, fun z => ?_, fun z => ?_⟩
    · obtain ⟨a, b, d, e, f⟩ := h2 z
      exact ⟨by omega, b, by omega⟩
    · rw [h3 z, if_neg (fun q => q.1 c)]
  · simp only [if_neg c]
    obtain ⟨h1, h2, h3⟩ := eqp_sp (nl_ L + nl_ R) (pd_ (gl_ L R)) (pd_ (rs_l L R)) (ol_ (rs_l L R))
    refine ⟨h1, fun z => ?_, fun z => ?_⟩
    · obtain ⟨a, b, d, e, f, g, k⟩ := h2 z
      exact ⟨by omega, b, by omega⟩
    · rw [h3 z]
      have big : (BD_ < pd_ (gl_ L R) ∨ BD_ < pd_ (rs_l L R)) ↔ ¬ s ∧ (BD_ < pd_ L ∨ BD_ < pd_ R) := by
        unfold gl_ rs_l
        by_cases q : nl_ L = 1
        · rw [if_pos q, if_pos q]
          exact ⟨fun w => ⟨c, w.symm⟩, fun w => w.2.symm⟩
        · rw [if_neg q, if_neg q]
          exact ⟨fun w => ⟨c, w⟩, fun w => w.2⟩
      by_cases w : BD_ < pd_ (gl_ L R) ∨ BD_ < pd_ (rs_l L R)
      · rw [if_pos w, if_pos (big.mp w)]
      · rw [if_neg w, if_neg (fun q => w (big.mpr q))]
theorem x_settleOne {P : Pg_} (hW : Wf_ P) {v d n : Ob_T} (hn : Rn_ n P) {S : Sv_} (hR : Rsv_ v S) (hS : S.2 = []) {i : Nat} (hi : i < g_N P) {L R : List Nat} (hd : Rd_ d (sd_ L R)) (hLR : ∀ w, w ∈ L ∨ w ∈ R → ∀ r, w = 20000 + r → r < 14 ∧ S.1 r = 20000 + r) (h1 : nl_ L + nl_ R ≤ 1) :
    ∃ v', f_X5_settleOne v d n (nI i) = some ((if (eqv_ (g_K P i = 2) L R).1 = 2 then 1 else 0), v') ∧ Rsv_ v' (stp_ P i S.1 (eqv_ (g_K P i = 2) L R)) ∧ (o_A v' 4 = o_A v 4 ∧ o_A v' 2 = o_A v 2) ∧ o_F v' 6 = (if (eqv_ (g_K P i = 2) L R).1 = 3 then nI (eqv_ (g_K P i = 2) L R).2.1 else o_F v 6) := by
  have hN := hW.1
  have hK := (hW.2 i hi).1
  obtain ⟨sp1, sp2, sp3⟩ := eqv_sp (g_K P i = 2) h1
  have f0 : ∀ k, k < 5 → o_A v 5 k = -1 := by
    rcases hR.2 with ⟨-, a⟩ | a
    · exact a
    · exact absurd hS (rf_ne a)
  have hgr := x_great hd
  have e0 : f_X5_settleOne v d n (nI i) = f_X5_settleOne_J39 (nI i) (if g_K P i = 2 then 1 else 0) (mis_ (eqv_ (g_K P i = 2) L R)) v d n := by
    unfold f_X5_settleOne f_X5_settleOne_J17
    rw [x_K hn hN hi, Option.bind_some, eqv_le1 _ h1]
    by_cases c : g_K P i = 2
    · simp only [if_pos c]
      rw [c, if_pos (by decide), if_neg (by decide), x_missA hd h1, Option.bind_some]
    · rw [if_neg (show ¬ nI (g_K P i) = 2 from fun z => c ((nI_eq (b := 2) (by omega) (by omega)).mp z))]
      simp only [if_neg c, ↓reduceIte]
      rw [x_missF hd h1, Option.bind_some]
  rw [e0]
  unfold f_X5_settleOne_J39 stp_
  generalize ha : eqv_ (g_K P i = 2) L R = a at *
  rcases sp1 with t1 | t2 | t3
  · have em : mis_ a = -2 := by unfold mis_; rw [if_pos t1]
    rw [em, if_neg (by decide), if_pos (by decide), if_neg (show ¬ a.1 = 2 by omega), if_neg (show ¬ a.1 = 2 by omega), if_neg (show ¬ a.1 = 3 by omega), if_neg (show ¬ a.1 = 3 by omega)]
    refine ⟨v, rfl, ⟨hR.1, Or.inl ⟨rfl, f0⟩⟩, ⟨rfl, rfl⟩, rfl⟩
  · obtain ⟨q1, q2, q3⟩ := sp2 t2
    have em : mis_ a = lN a.2.2 := by unfold mis_; rw [if_neg (by omega), if_neg (by omega)]
    have nn : ∀ z : Int64, z.toInt < 0 → ¬ lg_cmp (lN a.2.2) z = 0 := by
      intro z hz hq
      have := (lg_cmp_eq _ _).mp hq
      rw [← this, pk_lT (by omega)] at hz
      omega
    obtain ⟨s, hs, e5, e4, er, eg⟩ := one_side hd q1
    have hmem : 20000 + ol_ (rs_l L R) ∈ L ∨ 20000 + ol_ (rs_l L R) ∈ R := by
      unfold rs_l
      by_cases c : nl_ L = 1
      · rw [if_pos c]; exact Or.inl (ol_mem L (by omega))
      · rw [if_neg c]; exact Or.inr (ol_mem R (by omega))
    obtain ⟨r1, r2⟩ := hLR _ hmem _ rfl
    rw [em, if_neg (nn _ (by decide)), if_neg (nn _ (by decide)), if_pos t2, if_pos t2, if_neg (show ¬ a.1 = 3 by omega)]
    unfold f_X4_latestLetter
    rw [Option.bind_some, e4, st_nI r1 (by omega), Option.bind_some, lN_i]
    refine ⟨_, rfl, ⟨?_, Or.inl ⟨rfl, f0⟩⟩, ⟨rfl, rfl⟩, rfl⟩
    rw [q2]
    exact rs_set hR.1 r1 r2 q3
  · have em : mis_ a = -1 := by unfold mis_; rw [if_neg (by omega), if_pos t3]
    have fin : ∀ (k : Nat) (kk : Int32), kk = nI k → k = (if g_K P i = 2 then 3 else 4) → ∀ t : Int32, ∃ v', f_X5_settleOne_J82 (nI i) kk (p_F v 6 t) d n = some (0, v') ∧ Rsv_ v' (S.1, [i, if g_K P i = 2 then 3 else 4, 0, 0, 0]) ∧ (o_A v' 4 = o_A v 4 ∧ o_A v' 2 = o_A v 2) ∧ o_F v' 6 = t := by
      intro k kk ek hk t
      unfold f_X5_settleOne_J82
      rw [x_fail, Option.bind_some, ek, ← hk]
      refine ⟨_, rfl, ⟨hR.1, Or.inr ?_⟩, ⟨rfl, rfl⟩, rfl⟩
      have : k ≤ 4 := by rw [hk]; by_cases c : g_K P i = 2 <;> simp [c]
      exact fl5_rf (a := i) (b := k) (c := 0) (d := 0) (e := 0) ⟨by omega, by omega, by omega, by omega, by omega⟩
    rw [em, if_pos (by decide), if_neg (show ¬ a.1 = 2 by omega), if_neg (show ¬ a.1 = 2 by omega), if_pos t3, if_pos t3, sp3 t3]
    by_cases c : g_K P i = 2
    · rw [if_neg (show ¬ (if g_K P i = 2 then (1 : Int32) else 0) = 0 by rw [if_pos c]; decide), if_neg (show ¬ (¬ g_K P i = 2 ∧ (BD_ < pd_ L ∨ BD_ < pd_ R)) from fun z => z.1 c)]
      unfold f_X5_settleOne_J67 f_X5_settleOne_J68
      rw [show zb_ 0 = some 0 from rfl, Option.bind_some, Lt_E, if_neg (show ¬ (if g_K P i = 2 then (1 : Int32) else 0) = 0 by rw [if_pos c]; decide)]
      exact fin 3 3 rfl (by rw [if_pos c]) 0
    · rw [if_pos (show (if g_K P i = 2 then (1 : Int32) else 0) = 0 by rw [if_neg c]), hgr, Option.bind_some]
      by_cases g : BD_ < pd_ L ∨ BD_ < pd_ R
      · rw [if_neg (show ¬ (if BD_ < pd_ L ∨ BD_ < pd_ R then (1 : Int32) else 0) = 0 by rw [if_pos g]; decide), if_pos (show (¬ g_K P i = 2 ∧ (BD_ < pd_ L ∨ BD_ < pd_ R)) from ⟨c, g⟩)]
        unfold f_X5_settleOne_J68
        rw [show zb_ 1 = some 1 from rfl, Option.bind_some, Lt_E, if_pos (show (if g_K P i = 2 then (1 : Int32) else 0) = 0 by rw [if_neg c])]
        exact fin 4 4 rfl (by rw [if_neg c]) 1
      · rw [if_pos (show (if BD_ < pd_ L ∨ BD_ < pd_ R then (1 : Int32) else 0) = 0 by rw [if_neg g]), if_neg (show ¬ (¬ g_K P i = 2 ∧ (BD_ < pd_ L ∨ BD_ < pd_ R)) from fun z => g z.2)]
        unfold f_X5_settleOne_J67 f_X5_settleOne_J68
        rw [show zb_ 0 = some 0 from rfl, Option.bind_some, Lt_E, if_pos (show (if g_K P i = 2 then (1 : Int32) else 0) = 0 by rw [if_neg c])]
        exact fin 4 4 rfl (by rw [if_neg c]) 0
