/-! sums over digits, and the first digit that has any -/
def sB_ (g : Nat → Nat) : Nat → Nat
  | 0 => 0
  | n + 1 => sB_ g n + g n
def fd_ (g : Nat → Nat) : Nat → Nat
  | 0 => 0
  | n + 1 => if sB_ g n = 0 ∧ ¬ g n = 0 then n else fd_ g n
theorem sB_0 {g : Nat → Nat} : ∀ (n : Nat), (∀ d, d < n → g d = 0) → sB_ g n = 0
  | 0, _ => rfl
  | n + 1, h => by show sB_ g n + g n = 0; rw [sB_0 n (fun d hd => h d (by omega)), h n (by omega)]
theorem sB_tail {g : Nat → Nat} {k : Nat} : ∀ (n : Nat), (∀ d, k ≤ d → d < k + n → g d = 0) → sB_ g (k + n) = sB_ g k ∧ fd_ g (k + n) = fd_ g k
  | 0, _ => ⟨rfl, rfl⟩
  | n + 1, h => by
    obtain ⟨a, b⟩ := sB_tail n (fun d h1 h2 => h d h1 (by omega))
    have z := h (k + n) (by omega) (by omega)
    refine ⟨?_, ?_⟩
    · show sB_ g (k + n) + g (k + n) = _
      rw [a, z, Nat.add_zero]
    · show (if sB_ g (k + n) = 0 ∧ ¬ g (k + n) = 0 then k + n else fd_ g (k + n)) = _
      rw [if_neg (fun q => q.2 z), b]
theorem sB_const {g : Nat → Nat} {a : Nat} : ∀ (n : Nat), (∀ d, d < n → g d = a) → sB_ g n = n * a
  | 0, _ => (Nat.zero_mul _).symm
  | n + 1, h => by show sB_ g n + g n = (n + 1) * a; rw [sB_const n (fun d hd => h d (by omega)), h n (by omega), Nat.succ_mul]
theorem fd_const {g : Nat → Nat} (h0 : ¬ g 0 = 0) : ∀ (n : Nat), 0 < n → fd_ g n = 0 ∧ ¬ sB_ g n = 0
  | 0, h => absurd h (by omega)
  | 1, _ => ⟨by show (if sB_ g 0 = 0 ∧ ¬ g 0 = 0 then 0 else fd_ g 0) = 0; by_cases q : sB_ g 0 = 0 ∧ ¬ g 0 = 0; rw [if_pos q]; rw [if_neg q]; rfl, by show ¬ 0 + g 0 = 0; omega⟩
  | n + 2, _ => by
    obtain ⟨a, b⟩ := fd_const h0 (n + 1) (by omega)
    refine ⟨?_, by show ¬ sB_ g (n + 1) + g (n + 1) = 0; omega⟩
    show (if sB_ g (n + 1) = 0 ∧ ¬ g (n + 1) = 0 then n + 1 else fd_ g (n + 1)) = 0
    rw [if_neg (fun q => b q.1), a]
theorem sB_ex {g : Nat → Nat} : ∀ (n : Nat), ¬ sB_ g n = 0 → ∃ d, d < n ∧ ¬ g d = 0
  | 0, h => absurd rfl h
  | n + 1, h => by
    by_cases q : g n = 0
    · have h : ¬ sB_ g n + g n = 0 := h
      obtain ⟨d, a, b⟩ := sB_ex (g := g) n (by omega)
      exact ⟨d, by omega, b⟩
    · exact ⟨n, by omega, q⟩
theorem sB_le {g : Nat → Nat} {a : Nat} : ∀ (n : Nat), (∀ d, d < n → g d ≤ a) → sB_ g n ≤ n * a
  | 0, _ => Nat.zero_le _
  | n + 1, h => by
    show sB_ g n + g n ≤ (n + 1) * a
    have := sB_le n (fun d hd => h d (by omega))
    have := h n (by omega)
    rw [Nat.succ_mul]; omega
/-- in how many ways, the letters from 4 - m on being open yet; the first -/
def cnA_ (ok : (Nat → Int32) → Nat) (op : Nat → Bool) : Nat → (Nat → Int32) → Nat
  | 0, c => ok c
  | m + 1, c => if op (3 - m) = true then sB_ (fun d => cnA_ ok op m (upd c (3 - m) (nI d))) 10 else cnA_ ok op m c
def fwA_ (ok : (Nat → Int32) → Nat) (op : Nat → Bool) : Nat → (Nat → Int32) → (Nat → Int32)
  | 0, c => c
  | m + 1, c => if op (3 - m) = true then fwA_ ok op m (upd c (3 - m) (nI (fd_ (fun d => cnA_ ok op m (upd c (3 - m) (nI d))) 10))) else fwA_ ok op m c
theorem cnA_le {ok : (Nat → Int32) → Nat} {op : Nat → Bool} (hk : ∀ c, ok c ≤ 1) : ∀ (m : Nat) (c : Nat → Int32), cnA_ ok op m c ≤ 10 ^ m
  | 0, c => hk c
  | m + 1, c => by
    show (if op (3 - m) = true then _ else _) ≤ 10 ^ (m + 1)
    by_cases q : op (3 - m) = true
    · rw [if_pos q]
      have := sB_le (g := fun d => cnA_ ok op m (upd c (3 - m) (nI d))) (a := 10 ^ m) 10 (fun d _ => cnA_le hk m _)
      rw [Nat.pow_succ]; omega
    · rw [if_neg q]
      have := cnA_le (op := op) hk m c
      rw [Nat.pow_succ]; omega
/-- a letter that changes nothing -/
theorem cnA_ie {ok : (Nat → Int32) → Nat} {op : Nat → Bool} {l : Nat} (hl : ∀ c c' : Nat → Int32, (∀ j, j ≠ l → c j = c' j) → ok c = ok c') : ∀ (m : Nat) (c c' : Nat → Int32), (∀ j, j ≠ l → c j = c' j) → cnA_ ok op m c = cnA_ ok op m c'
  | 0, c, c', h => hl c c' h
  | m + 1, c, c', h => by
    have hu : ∀ d, ∀ j, j ≠ l → upd c (3 - m) (nI d) j = upd c' (3 - m) (nI d) j := by
      intro d j hj
      rw [updE, updE]
      by_cases q : j = 3 - m
      · rw [if_pos q, if_pos q]
      · rw [if_neg q, if_neg q]; exact h j hj
    show (if op (3 - m) = true then _ else _) = if op (3 - m) = true then _ else _
    by_cases q : op (3 - m) = true
    · rw [if_pos q, if_pos q]
      congr 1
      funext d
      exact cnA_ie hl m _ _ (hu d)
    · rw [if_neg q, if_neg q]
      exact cnA_ie hl m c c' h
/-- a choice so far: only open letters ahead of l -/
def Cf_ (op : Nat → Bool) (l : Nat) (c : Nat → Int32) : Prop := Ch_ c ∧ ∀ j, j < 4 → ¬ c j = -1 → op j = true ∧ j < l
theorem cf_upd {op : Nat → Bool} {l : Nat} {c : Nat → Int32} (h : Cf_ op l c) (hl : op l = true) (hl4 : l < 4) {d : Nat} (hd : d ≤ 9) : Cf_ op (l + 1) (upd c l (nI d)) := by
  refine ⟨fun j hj => ?_, fun j hj hn => ?_⟩
  · rw [updE]
    by_cases q : j = l
    · rw [if_pos q]; exact Or.inr ⟨d, hd, rfl⟩
    · rw [if_neg q]; exact h.1 j hj
  · rw [updE] at hn
    by_cases q : j = l
    · exact ⟨by rw [q]; exact hl, by omega⟩
    · rw [if_neg q] at hn
      have := h.2 j hj hn
      exact ⟨this.1, by omega⟩
theorem cnA_ex {ok : (Nat → Int32) → Nat} {op : Nat → Bool} : ∀ (m : Nat) (c : Nat → Int32), m ≤ 4 → Cf_ op (4 - m) c → ¬ cnA_ ok op m c = 0 → ∃ c', ¬ ok c' = 0 ∧ Cf_ op 4 c' ∧ ∀ j, j < 4 → ¬ c j = -1 → c' j = c j
  | 0, c, _, hc, h => ⟨c, h, hc, fun _ _ _ => rfl⟩
  | m + 1, c, hm, hc, h => by
    have h : ¬ (if op (3 - m) = true then sB_ (fun d => cnA_ ok op m (upd c (3 - m) (nI d))) 10 else cnA_ ok op m c) = 0 := h
    have e4 : 4 - (m + 1) = 3 - m := by omega
    rw [e4] at hc
    by_cases q : op (3 - m) = true
    · rw [if_pos q] at h
      obtain ⟨d, hd, hd2⟩ := sB_ex 10 h
      have hc2 := cf_upd hc q (by omega) (show d ≤ 9 by omega)
      rw [show 3 - m + 1 = 4 - m by omega] at hc2
      obtain ⟨c', h1, h2, h3⟩ := cnA_ex m (upd c (3 - m) (nI d)) (by omega) hc2 hd2
      refine ⟨c', h1, h2, fun j hj hn => ?_⟩
      have hlt := (hc.2 j hj hn).2
      have e := h3 j hj (by rw [updE, if_neg (by omega)]; exact hn)
      rw [updE, if_neg (by omega)] at e
      exact e
    · rw [if_neg q] at h
      refine cnA_ex m c (by omega) ⟨hc.1, fun j hj hn => ⟨(hc.2 j hj hn).1, ?_⟩⟩ h
      have := (hc.2 j hj hn).2
      omega
/-- the letters in equations, as bits -/
theorem x_inEq {P : Pg_} (hW : Wf_ P) {v n : Ob_T} (hn : Rn_ n P) {V : Nat → Nat} (hV : Rs_ (o_A v 2) (o_A v 3) V) (d : Ob_T) : ∃ B d', f_X5_lettersInEquations v d n = some (B, d') ∧ ∀ l, l < 14 → (tb_ B l = true ↔ Ie_ P V l) := by
  have hN := hW.1
  unfold f_X5_lettersInEquations
  refine lp_fu (P := fun r => ∃ B d', r = some (B, d') ∧ ∀ l, l < 14 → (tb_ B l = true ↔ Ie_ P V l))
    (fun m x => ∃ i b d1, i ≤ g_N P ∧ m = g_N P - i + 1 ∧ x = (b, nI i, d1) ∧ ∀ l, l < 14 → (tb_ b l = true ↔ ∃ i', i' < i ∧ isE_ P i' ∧ (20000 + l ∈ (eL_ P i').map (vl_ V) ∨ 20000 + l ∈ (eR_ P i').map (vl_ V)))) ?_ ?_ (g_N P - 0 + 1) _ ⟨0, 0, d, by omega, rfl, rfl, fun l hl => ⟨fun z => by rw [tb_0] at z; exact absurd z (by decide), fun ⟨i', z, _⟩ => absurd z (by omega)⟩⟩ (by omega)
  · rintro x ⟨i, b, d1, h1, h2, -⟩
    omega
  · rintro m x rec ⟨i, b, d1, hi1, hm, rfl, hb⟩ hr
    unfold f_X5_lettersInEquations_L4 f_X1_size
    dsimp only
    rw [Option.bind_some, hn.1]
    by_cases he : i = g_N P
    · subst he
      rw [if_pos (Int32.le_refl _)]
      exact ⟨b, d1, rfl, hb⟩
    · have hi : i < g_N P := by omega
      rw [if_neg (nI_ge (by omega) (by omega))]
      by_cases hE : isE_ P i
      · obtain ⟨d2, e2, hd⟩ := x_gather hW hn hV hi hE d1
        rw [e2, Option.bind_some]
        dsimp only
        rw [if_neg n_10]
        unfold f_X4_letterBits
        rw [Option.bind_some]
        refine hr _ ⟨i + 1, _, d2, by omega, by omega, by rw [nI_1], fun l hl => ?_⟩
        rw [tb_or, Bool.or_eq_true, hb l hl, hd.2.2.2.2.2 l hl]
        constructor
        · rintro (⟨i', h1, h2, h3⟩ | h)
          · exact ⟨i', by omega, h2, h3⟩
          · exact ⟨i, by omega, hE, h⟩
        · rintro ⟨i', h1, h2, h3⟩
          by_cases q : i' = i
          · subst q; exact Or.inr h3
          · exact Or.inl ⟨i', by omega, h2, h3⟩
      · rw [x_gather0 hW hn hi hE, Option.bind_some]
        dsimp only
        rw [if_pos rfl]
        refine hr _ ⟨i + 1, b, d1, by omega, by omega, by rw [nI_1], fun l hl => ?_⟩
        rw [hb l hl]
        constructor
        · rintro ⟨i', h1, h2, h3⟩
          exact ⟨i', by omega, h2, h3⟩
        · rintro ⟨i', h1, h2, h3⟩
          by_cases q : i' = i
          · subst q; exact absurd h2 hE
          · exact ⟨i', by omega, h2, h3⟩
/-- a choice up to a letter -/
def cr_ (c : Nat → Int32) (l : Nat) : Nat → Int32 := fun j => if j < l then c j else -1
theorem cr_ch {c : Nat → Int32} (h : Ch_ c) (l : Nat) : Ch_ (cr_ c l) := by
  intro j hj
  unfold cr_
  by_cases q : j < l
  · rw [if_pos q]; exact h j hj
  · rw [if_neg q]; exact Or.inl rfl
theorem sg_cr {c : Nat → Int32} (h : Ch_ c) {V : Nat → Nat} {l : Nat} (hl : l < 4) (hn : ¬ c l = -1) : sb_ (fun j => sg_ (cr_ c l) (V j)) l (c l).toNatClampNeg = fun j => sg_ (cr_ c (l + 1)) (V j) := by
  obtain ⟨k, hk, e1, e2⟩ := ch_dig h hl hn
  have c1 : cr_ c (l + 1) l = c l := by unfold cr_; rw [if_pos (by omega)]
  have c0 : cr_ c l l = -1 := by unfold cr_; rw [if_neg (by omega)]
  funext j
  unfold sb_
  dsimp only
  by_cases q : V j = 20000 + l
  · rw [if_pos (show sg_ (cr_ c l) (V j) = 20000 + l by rw [q, sg_no (fun z => z.2 c0)]), q, sg_let hl (by rw [c1]; exact hn), c1]
  · rw [if_neg]
    · unfold sg_
      by_cases z : 20000 ≤ V j ∧ V j < 20004
      · have : cr_ c l (V j - 20000) = cr_ c (l + 1) (V j - 20000) := by
          unfold cr_
          by_cases w : V j - 20000 < l
          · rw [if_pos w, if_pos (by omega)]
          · rw [if_neg w, if_neg (by omega)]
        rw [this]
      · rw [if_neg (fun w => z ⟨w.1, w.2.1⟩), if_neg (fun w => z ⟨w.1, w.2.1⟩)]
    · intro z
      rcases sg_cases (cr_ch h l) (V j) with w | ⟨w, -⟩
      · rw [w] at z; exact q z
      · omega
theorem cr_no {c : Nat → Int32} {l : Nat} (hn : c l = -1) : cr_ c (l + 1) = cr_ c l := by
  funext j
  unfold cr_
  by_cases q : j < l
  · rw [if_pos q, if_pos (by omega)]
  · rw [if_neg q]
    by_cases z : j = l
    · rw [if_pos (by omega), z, hn]
    · rw [if_neg (by omega)]
theorem sg_cr4 (c : Nat → Int32) (V : Nat → Nat) : (fun j => sg_ (cr_ c 4) (V j)) = fun j => sg_ c (V j) := by
  funext j
  unfold sg_
  by_cases z : 20000 ≤ V j ∧ V j < 20004
  · have : cr_ c 4 (V j - 20000) = c (V j - 20000) := by unfold cr_; rw [if_pos (by omega)]
    rw [this]
  · rw [if_neg (fun w => z ⟨w.1, w.2.1⟩), if_neg (fun w => z ⟨w.1, w.2.1⟩)]
theorem sg_cr0 (c : Nat → Int32) (V : Nat → Nat) : (fun j => sg_ (cr_ c 0) (V j)) = V := by
  funext j
  unfold sg_ cr_
  rw [if_neg (fun w => w.2.2 (by rw [if_neg (by omega)]))]
/-- the class's rounds with some chosen: from what was met -/
theorem x_with {P : Pg_} (hW : Wf_ P) {v n : Ob_T} (hn : Rn_ n P) {V : Nat → Nat} (hV : Rs_ (o_A v 2) (o_A v 4) V) {c cw : Nat → Int32} (hcw : ∀ l, l < 4 → cw l = c l) (hc : Ch_ c) (ho : ∀ l, l < 4 → ¬ c l = -1 → V l = 20000 + l) (d : Ob_T) : ∃ v' d', f_X5_settleWith v d n cw 4 = some (v', d') ∧ Rsv_ v' (rn_ P (fun l => sg_ c (V l))).1 ∧ o_F v' 6 = nI (rn_ P (fun l => sg_ c (V l))).2 ∧ o_A v' 2 = o_A v 2 ∧ o_A v' 4 = o_A v 4 := by
  obtain ⟨v1, e1, f1, g1, F1⟩ := x_clearFail v
  have a2 : o_A v1 2 = o_A v 2 := (F1 2 (by decide)).2
  have a4 : o_A v1 4 = o_A v 4 := (F1 4 (by decide)).2
  unfold f_X5_settleWith
  rw [e1, Option.bind_some, show cp_I (o_A v1 4) (o_A v1 3) 14 14 0 0 14 = some (va_cpy (o_A v1 4) (o_A v1 3) 0 0 14) from cp_nI (a := 0) (b := 0) (c := 14) (by omega) (by omega) (by omega) (by omega), Option.bind_some, Lt_E]
  have cpy : ∀ l, l < 14 → va_cpy (o_A v1 4) (o_A v1 3) 0 0 14 l = o_A v 4 l := by
    intro l hl
    have := cpy_in (f := o_A v1 4) (g := o_A v1 3) (a := 0) (b := 0) (c := 14) hl
    rw [Nat.zero_add] at this
    rw [this, a4]
  have key : ∃ v3, Lp_ (fun (rec : (Int32 × Ob_T × Ob_T) → Option (Ob_T × Ob_T)) x => f_X5_settleWith_L21 (fun t_v t_d => f_X5_settleWith_J48 t_v t_d n cw 4) rec x.1 x.2.1 x.2.2 n cw 4) FU_ (0, p_A v1 3 (va_cpy (o_A v1 4) (o_A v1 3) 0 0 14), d) = f_X5_settleWith_J48 v3 d n cw 4 ∧ Rs_ (o_A v3 2) (o_A v3 3) (fun l => sg_ c (V l)) ∧ (∀ k, k < 5 → o_A v3 5 k = -1) ∧ o_F v3 6 = 0 ∧ o_A v3 2 = o_A v 2 ∧ o_A v3 4 = o_A v 4 := by
    refine lp_fu (P := fun r => ∃ v3, r = f_X5_settleWith_J48 v3 d n cw 4 ∧ Rs_ (o_A v3 2) (o_A v3 3) (fun l => sg_ c (V l)) ∧ (∀ k, k < 5 → o_A v3 5 k = -1) ∧ o_F v3 6 = 0 ∧ o_A v3 2 = o_A v 2 ∧ o_A v3 4 = o_A v 4)
      (fun m x => ∃ l v3, l ≤ 4 ∧ m = 4 - l + 1 ∧ x = (nI l, v3, d) ∧ Rs_ (o_A v3 2) (o_A v3 3) (fun j => sg_ (cr_ c l) (V j)) ∧ (∀ k, k < 5 → o_A v3 5 k = -1) ∧ o_F v3 6 = 0 ∧ o_A v3 2 = o_A v 2 ∧ o_A v3 4 = o_A v 4) ?_ ?_ (4 - 0 + 1) _ ⟨0, _, by omega, rfl, rfl, ?_, f1, g1, a2, a4⟩ (by omega)
    · rintro x ⟨l, v3, h1, h2, -⟩
      omega
    · rintro m x rec ⟨l, v3, hl1, hm, rfl, hR, h5, h6, h2, h4⟩ hr
      unfold f_X5_settleWith_L21
      dsimp only
      by_cases he : l = 4
      · subst he
        rw [if_pos (show (4 : Int32) ≤ nI 4 from Int32.le_refl _)]
        rw [sg_cr4] at hR
        exact ⟨v3, rfl, hR, h5, h6, h2, h4⟩
      · have hl4 : l < 4 := by omega
        rw [if_neg (show ¬ (4 : Int32) ≤ nI l from nI_ge (b := 4) (by omega) (by omega)), ld_nI hl4 (by omega), Option.bind_some, Option.bind_some, hcw l hl4]
        by_cases q : c l = -1
        · rw [if_pos q]
          exact hr _ ⟨l + 1, v3, by omega, by omega, by rw [nI_1], by rw [cr_no q]; exact hR, h5, h6, h2, h4⟩
        · obtain ⟨k, hk, k1, k2⟩ := ch_dig hc hl4 q
          rw [if_neg q, st_nI (by omega) (by omega), Option.bind_some]
          refine hr _ ⟨l + 1, p_A v3 3 (upd (o_A v3 3) l (c l)), by omega, by omega, by rw [nI_1], ?_, h5, h6, h2, h4⟩
          rw [← sg_cr hc hl4 q, k2, k1]
          refine rs_set hR (by omega) ?_ (by omega)
          show sg_ (cr_ c l) (V l) = _
          rw [ho l hl4 q, sg_no (fun z => z.2 (by unfold cr_; rw [if_neg (by omega)]))]
    · show Rs_ (o_A v1 2) (va_cpy (o_A v1 4) (o_A v1 3) 0 0 14) _
      rw [sg_cr0, a2]
      exact rs_same hV (fun _ _ => rfl) cpy (fun _ _ => rfl)
  obtain ⟨v3, e3, hR3, h53, h63, h23, h43⟩ := key
  rw [e3]
  unfold f_X5_settleWith_J48
  have hRs : Rsv_ v3 ((fun l => sg_ c (V l)), []) := ⟨hR3, Or.inl ⟨rfl, h53⟩⟩
  obtain ⟨v4, d4, e4, hR4, h44, h64⟩ := x_settle hW hn hRs (too := 0) h63 (d := d) rfl
  rw [e4, Option.bind_some]
  rw [stc_sto hW 15 _ _ (rs_vk hR3)] at hR4 h64
  exact ⟨v4, d4, rfl, hR4, h64, h44.2.trans h23, h44.1.trans h43⟩
