/-- the rounds, as long as one more was found -/
def sto_ (P : Pg_) : Nat → Sv_ → Nat → Sv_ × Nat
  | 0, S, too => (S, too)
  | r + 1, S, too => if (rnd_ P S too).2.1 = 1 ∧ (rnd_ P S too).1.2 = [] then sto_ P r (rnd_ P S too).1 (rnd_ P S too).2.2.2 else ((rnd_ P S too).1, (rnd_ P S too).2.2.2)
theorem sto_s (P : Pg_) (r : Nat) (S : Sv_) (too : Nat) : sto_ P (r + 1) S too = if (rnd_ P S too).2.1 = 1 ∧ (rnd_ P S too).1.2 = [] then sto_ P r (rnd_ P S too).1 (rnd_ P S too).2.2.2 else ((rnd_ P S too).1, (rnd_ P S too).2.2.2) := rfl
/-! a letter found is one less that is open -/
def uc_ (V : Nat → Nat) : Nat → Nat
  | 0 => 0
  | n + 1 => uc_ V n + if 20000 ≤ V n then 1 else 0
theorem uc_le (V : Nat → Nat) : ∀ n, uc_ V n ≤ n
  | 0 => Nat.le_refl _
  | n + 1 => by
    have := uc_le V n
    show uc_ V n + (if 20000 ≤ V n then 1 else 0) ≤ n + 1
    by_cases c : 20000 ≤ V n
    · rw [if_pos c]; omega
    · rw [if_neg c]; omega
theorem uc_mono {V V' : Nat → Nat} (h : ∀ l, 20000 ≤ V' l → 20000 ≤ V l) : ∀ n, uc_ V' n ≤ uc_ V n
  | 0 => Nat.le_refl _
  | n + 1 => by
    have := uc_mono h n
    show uc_ V' n + (if 20000 ≤ V' n then 1 else 0) ≤ uc_ V n + if 20000 ≤ V n then 1 else 0
    by_cases c : 20000 ≤ V' n
    · rw [if_pos c, if_pos (h n c)]; omega
    · rw [if_neg c]; omega
theorem uc_lt {V V' : Nat → Nat} (h : ∀ l, 20000 ≤ V' l → 20000 ≤ V l) {l : Nat} (h1 : 20000 ≤ V l) (h2 : ¬ 20000 ≤ V' l) : ∀ n, l < n → uc_ V' n < uc_ V n
  | 0, hl => absurd hl (by omega)
  | n + 1, hl => by
    show uc_ V' n + (if 20000 ≤ V' n then 1 else 0) < uc_ V n + if 20000 ≤ V n then 1 else 0
    by_cases c : l = n
    · subst c
      have := uc_mono h l
      rw [if_neg h2, if_pos h1]; omega
    · have := uc_lt h h1 h2 n (by omega)
      by_cases c : 20000 ≤ V' n
      · rw [if_pos c, if_pos (h n c)]; omega
      · rw [if_neg c]; omega
theorem uc_sb {V : Nat → Nat} {l k : Nat} (hl : l < 14) (hV : V l = 20000 + l) (hk : k ≤ 9999) : uc_ (sb_ V l k) 14 < uc_ V 14 := by
  refine uc_lt (l := l) (fun j hj => ?_) (by omega) ?_ 14 hl
  · unfold sb_ at hj
    by_cases c : V j = 20000 + l
    · omega
    · rw [if_neg c] at hj; exact hj
  · unfold sb_
    rw [if_pos hV]; omega
theorem rk_vk {P : Pg_} (hW : Wf_ P) {i : Nat} (hi : i < g_N P) {t : Tr4_} (h : Vk_ t.1.1) : Vk_ (rk_ P i t).1.1 ∧ uc_ (rk_ P i t).1.1 14 + (rk_ P i t).2.1 ≤ uc_ t.1.1 14 + t.2.1 := by
  by_cases c : t.1.2 = [] ∧ isE_ P i
  · rw [rk_E c.1 c.2]
    dsimp only
    unfold stp_
    by_cases q : (eqn_ P i t.1.1).1 = 2
    · obtain ⟨a, b, d⟩ := eqn_found hW hi c.2 h q
      rw [if_pos q, if_pos q]
      have := uc_sb a b d
      exact ⟨vk_sb h d, by show uc_ (sb_ t.1.1 _ _) 14 + 1 ≤ _; omega⟩
    · rw [if_neg q, if_neg q]
      by_cases q3 : (eqn_ P i t.1.1).1 = 3
      · rw [if_pos q3]; exact ⟨h, Nat.le_refl _⟩
      · rw [if_neg q3]; exact ⟨h, Nat.le_refl _⟩
  · unfold rk_
    rw [if_neg (show ¬ (t.1.2 = [] ∧ (g_K P i = 2 ∨ g_K P i = 5 ∨ g_K P i = 6)) from c)]
    exact ⟨h, Nat.le_refl _⟩
theorem rds_vk {P : Pg_} (hW : Wf_ P) : ∀ (c i : Nat) {t : Tr4_}, i + c ≤ g_N P → Vk_ t.1.1 → Vk_ (rds_ P c i t).1.1 ∧ uc_ (rds_ P c i t).1.1 14 + (rds_ P c i t).2.1 ≤ uc_ t.1.1 14 + t.2.1
  | 0, _, _, _, h => ⟨h, Nat.le_refl _⟩
  | c + 1, i, t, hi, h => by
    obtain ⟨a, b⟩ := rk_vk hW (show i < g_N P by omega) h
    obtain ⟨a', b'⟩ := rds_vk hW c (i + 1) (t := rk_ P i t) (by omega) a
    exact ⟨a', Nat.le_trans b' b⟩
theorem rnd_vk {P : Pg_} (hW : Wf_ P) {S : Sv_} (h : Vk_ S.1) (too : Nat) : Vk_ (rnd_ P S too).1.1 ∧ uc_ (rnd_ P S too).1.1 14 + (rnd_ P S too).2.1 ≤ uc_ S.1 14 := by
  have := rds_vk hW (g_N P) 0 (t := (S, 0, 0, too)) (by omega) h
  exact ⟨this.1, this.2⟩
/-! whether it was too great changes nothing else -/
theorem rk_too {P : Pg_} {i : Nat} {t u : Tr4_} (h : t.1 = u.1 ∧ t.2.1 = u.2.1) : (rk_ P i t).1 = (rk_ P i u).1 ∧ (rk_ P i t).2.1 = (rk_ P i u).2.1 := by
  unfold rk_
  rw [h.1]
  by_cases c : u.1.2 = [] ∧ (g_K P i = 2 ∨ g_K P i = 5 ∨ g_K P i = 6)
  · rw [if_pos c, if_pos c]
    exact ⟨rfl, by show (if _ then 1 else t.2.1) = if _ then 1 else u.2.1; rw [h.2]⟩
  · rw [if_neg c, if_neg c]; exact h
theorem rds_too {P : Pg_} : ∀ (c i : Nat) {t u : Tr4_}, t.1 = u.1 ∧ t.2.1 = u.2.1 → (rds_ P c i t).1 = (rds_ P c i u).1 ∧ (rds_ P c i t).2.1 = (rds_ P c i u).2.1
  | 0, _, _, _, h => h
  | c + 1, i, _, _, h => rds_too c (i + 1) (rk_too h)
theorem rnd_too (P : Pg_) (S : Sv_) (a b : Nat) : (rnd_ P S a).1 = (rnd_ P S b).1 ∧ (rnd_ P S a).2.1 = (rnd_ P S b).2.1 := rds_too _ _ ⟨rfl, rfl⟩
theorem sto_too (P : Pg_) : ∀ (r : Nat) (S : Sv_) (a b : Nat), (sto_ P r S a).1 = (sto_ P r S b).1
  | 0, _, _, _ => rfl
  | r + 1, S, a, b => by
    rw [sto_s P r S a, sto_s P r S b]
    obtain ⟨e1, e2⟩ := rnd_too P S a b
    rw [e1, e2]
    by_cases c : (rnd_ P S b).2.1 = 1 ∧ (rnd_ P S b).1.2 = []
    · rw [if_pos c, if_pos c]
      exact sto_too P r _ _ _
    · rw [if_neg c, if_neg c]
/-- the reference's round -/
theorem m_round {P : Pg_} (hW : Wf_ P) {o : Ob_T} (hm : Rm_ (o_A o 1) P) (h3 : o_F o 3 = nI (g_N P)) {S : Sv_} (hR : Rso_ o S) (h36 : o_F o 36 = 0) (rec110 : Ob_T → Option Ob_T) :
    ∃ o', Lp_ (fun (rec : (Int32 × Ob_T) → Option Ob_T) x => f_X9_solve_L131 rec110 rec x.1 x.2) FU_ (0, o) = rec110 o' ∧ Rso_ o' (rnd_ P S 0).1 ∧ o_F o' 36 = nI (rnd_ P S 0).2.1 ∧ Fr_ RK_ o o' := by
  have hN := hW.1
  refine lp_fu (P := fun r => ∃ o', r = rec110 o' ∧ Rso_ o' (rnd_ P S 0).1 ∧ o_F o' 36 = nI (rnd_ P S 0).2.1 ∧ Fr_ RK_ o o')
    (fun n x => ∃ c i o1 t, n = c + 1 ∧ i + c = g_N P ∧ x = (nI i, o1) ∧ Rso_ o1 t.1 ∧ o_F o1 36 = nI t.2.1 ∧ Fr_ RK_ o o1 ∧ rds_ P c i t = rnd_ P S 0) ?_ ?_ (g_N P + 1) _ ⟨g_N P, 0, o, (S, 0, 0, 0), rfl, by omega, rfl, hR, h36, fr_rf _ _, rfl⟩ (by omega)
  · rintro x ⟨c, i, o1, t, z, -⟩
    omega
  · rintro n x rec ⟨c, i, o1, t, hn, hk, rfl, hR1, h361, hF, hS1⟩ hr
    unfold f_X9_solve_L131
    dsimp only
    have hm1 : Rm_ (o_A o1 1) P := by rw [(hF 1 (by decide)).2]; exact hm
    rw [show o_F o1 3 = nI (g_N P) from by rw [(hF 3 (by decide)).1]; exact h3]
    match c, hn, hk, hS1 with
    | 0, hn, hk, hS1 =>
      rw [if_pos (nI_le (by omega) (by omega))]
      have hS1 : t = rnd_ P S 0 := hS1
      rw [← hS1]
      exact ⟨o1, rfl, hR1, h361, hF⟩
    | c + 1, hn, hk, hS1 =>
      have hi : i < g_N P := by omega
      have hS1 : rds_ P c (i + 1) (rk_ P i t) = rnd_ P S 0 := hS1
      rw [if_neg (nI_ge (by omega) (by omega))]
      by_cases hf : t.1.2 = []
      · rw [if_pos (rso_f0 hR1 hf)]
        obtain ⟨o2, e2, q1, q2⟩ := m_reckon hW hi hm1 hR1 hf
        rw [e2, Option.bind_some]
        by_cases hE : isE_ P i
        · obtain ⟨r1, r2, r3⟩ := q1 hE
          refine hr _ ⟨c, i + 1, o2, rk_ P i t, by omega, by omega, by rw [nI_1], ?_, ?_, fr_tr hF r2, hS1⟩
          · rw [rk_E hf hE]; exact r1
          · rw [rk_E hf hE, r3, h361]
            show (if (eqn_ P i t.1.1).1 = 2 then 1 else nI t.2.1) = nI (if (eqn_ P i t.1.1).1 = 2 then 1 else t.2.1)
            by_cases q : (eqn_ P i t.1.1).1 = 2
            · rw [if_pos q, if_pos q]; rfl
            · rw [if_neg q, if_neg q]
        · obtain ⟨r1, r2, r3⟩ := q2 hE
          rw [rk_n hE] at hS1
          exact hr _ ⟨c, i + 1, o2, t, by omega, by omega, by rw [nI_1], r1, r3.trans h361, fr_tr hF r2, hS1⟩
      · rw [if_neg (by rw [rso_f1 hR1 hf]; decide)]
        rw [rk_f P i hf, rds_f P _ _ hf] at hS1
        rw [← hS1]
        exact ⟨o1, rfl, hR1, h361, hF⟩
theorem m_settle {P : Pg_} (hW : Wf_ P) {o : Ob_T} (hm : Rm_ (o_A o 1) P) (h3 : o_F o 3 = nI (g_N P)) {S : Sv_} (hR : Rso_ o S) : ∃ o', f_X9_solve_J105 o = some o' ∧ Rso_ o' (sto_ P 15 S 0).1 ∧ Fr_ RK_ o o' := by
  unfold f_X9_solve_J105
  rw [Lt_E]
  have stepF : ∀ S' : Sv_, ¬ S'.2 = [] → ∀ r too, (sto_ P r S' too).1 = S' := by
    intro S' hf r too
    cases r with
    | zero => rfl
    | succ r =>
      rw [sto_s]
      have e : rnd_ P S' too = (S', 0, 0, too) := rds_f P _ _ hf
      rw [e, if_neg (fun z => hf z.2)]
  refine lp_fu (P := fun r => ∃ o', r = some o' ∧ Rso_ o' (sto_ P 15 S 0).1 ∧ Fr_ RK_ o o')
    (fun n x => ∃ r o1, r ≤ 15 ∧ n = r + 1 ∧ x = o1 ∧ Fr_ RK_ o o1 ∧ ((∃ S1, o_F o1 36 = 1 ∧ Rso_ o1 S1 ∧ uc_ S1.1 14 < r ∧ (sto_ P r S1 0).1 = (sto_ P 15 S 0).1) ∨ (o_F o1 36 = 0 ∧ Rso_ o1 (sto_ P 15 S 0).1))) ?_ ?_ (15 + 1) _ ⟨15, _, by omega, rfl, rfl, fr_pF (by decide), Or.inl ⟨S, rfl, hR, by have := uc_le S.1 14; omega, rfl⟩⟩ (by omega)
  · rintro x ⟨r, o1, h1, z, -⟩
    omega
  · rintro n x rec ⟨r, o1, hr15, hn, rfl, hF, hx⟩ hr
    unfold f_X9_solve_L110
    rcases hx with ⟨S1, h36, hR1, hu, hS1⟩ | ⟨h36, hR1⟩
    · rw [h36, if_neg n_10]
      by_cases hf : S1.2 = []
      · rw [if_pos (rso_f0 hR1 hf), Lt_E]
        have hm1 : Rm_ (o_A (p_F x 36 0) 1) P := by rw [oA_pF, (hF 1 (by decide)).2]; exact hm
        have h31 : o_F (p_F x 36 0) 3 = nI (g_N P) := by rw [oF_pF, if_neg (by decide), (hF 3 (by decide)).1]; exact h3
        obtain ⟨o2, e2, hR2, h362, hF2⟩ := m_round hW hm1 h31 (S := S1) hR1 rfl rec
        rw [e2]
        have hF3 : Fr_ RK_ o o2 := fr_tr hF (fr_tr (fr_pF (by decide)) hF2)
        obtain ⟨v1, v2⟩ := rnd_vk hW (rs_vk hR1.1) 0
        have b1 := rnd_01 P S1 0
        match r, hr15, hn, hu, hS1 with
        | r + 1, hr15, hn, hu, hS1 =>
          rw [sto_s P r S1 0] at hS1
          by_cases c1 : (rnd_ P S1 0).2.1 = 1
          · have h361 : o_F o2 36 = 1 := by rw [h362, c1]; rfl
            by_cases c2 : (rnd_ P S1 0).1.2 = []
            · rw [if_pos ⟨c1, c2⟩] at hS1
              refine hr _ ⟨r, o2, by omega, by omega, rfl, hF3, Or.inl ⟨_, h361, hR2, by omega, ?_⟩⟩
              rw [← hS1]
              exact sto_too P r _ _ _
            · rw [if_neg (fun z => c2 z.2)] at hS1
              refine hr _ ⟨r, o2, by omega, by omega, rfl, hF3, Or.inl ⟨_, h361, hR2, by omega, ?_⟩⟩
              rw [← hS1]
              exact stepF _ c2 r 0
          · rw [if_neg (fun z => c1 z.1)] at hS1
            refine hr _ ⟨r, o2, by omega, by omega, rfl, hF3, Or.inr ⟨?_, ?_⟩⟩
            · rw [h362, show (rnd_ P S1 0).2.1 = 0 by omega]; rfl
            · rw [← hS1]; exact hR2
      · rw [if_neg (by rw [rso_f1 hR1 hf]; decide)]
        refine ⟨x, rfl, ?_, hF⟩
        rw [← hS1, stepF S1 hf r 0]
        exact hR1
    · rw [h36, if_pos rfl]
      exact ⟨x, rfl, hR1, hF⟩
/-- all letters solved: what is equal is met, then the rounds -/
def SO_ (P : Pg_) (gv : Nat → Int32) : Sv_ := (sto_ P 15 (MA_ P gv) 0).1
abbrev RS_ : List Nat := [31, 32, 34, 35, 36, 37, 38, 39, 40, 41, 42]
theorem m_solve {P : Pg_} (hW : Wf_ P) {o : Ob_T} (hm : Rm_ (o_A o 1) P) (h3 : o_F o 3 = nI (g_N P)) (hg : ∀ l, l < 4 → gv_ok (o_A o 33 l)) : ∃ o', f_X9_solve o = some o' ∧ Rso_ o' (SO_ P (o_A o 33)) ∧ Fr_ RS_ o o' := by
  unfold f_X9_solve
  obtain ⟨o1, e1, h1, F1⟩ := m_init o (fun t_o => f_X9_solve_J42 t_o)
  rw [e1]
  unfold f_X9_solve_J42
  rw [Lt_E]
  have F2 : Fr_ RS_ o (p_F o1 35 0) := fr_tr (fr_mono F1 (by decide)) (fr_pF (by decide))
  have hm2 : Rm_ (o_A (p_F o1 35 0) 1) P := by rw [(F2 1 (by decide)).2]; exact hm
  have h32 : o_F (p_F o1 35 0) 3 = nI (g_N P) := by rw [(F2 3 (by decide)).1]; exact h3
  have hR2 : Rso_ (p_F o1 35 0) (v0_ (o_A o 33), []) := ⟨v0_rs hg h1, Or.inl ⟨rfl, rfl⟩⟩
  obtain ⟨o3, e3, hR3, F3⟩ := m_mall hW hm2 h32 hR2 (fun t_o => f_X9_solve_J105 t_o)
  rw [e3]
  have F23 : Fr_ RS_ o o3 := fr_tr F2 (fr_mono F3 (by decide))
  have hm3 : Rm_ (o_A o3 1) P := by rw [(F23 1 (by decide)).2]; exact hm
  have h33 : o_F o3 3 = nI (g_N P) := by rw [(F23 3 (by decide)).1]; exact h3
  obtain ⟨o4, e4, hR4, F4⟩ := m_settle hW hm3 h33 hR3
  exact ⟨o4, e4, hR4, fr_tr F23 F4⟩
