/-! what every meeting keeps, all meetings keep -/
theorem mlp_pres {Z : Sv_ → Prop} {g : Nat → Nat × Nat} {nd by_ : Nat} : ∀ (c k : Nat), (∀ S j, k ≤ j → j < k + c → Z S → Z (mt_ S nd by_ j (g j).1 (g j).2)) → ∀ {S : Sv_}, Z S → Z (mlp_ g nd by_ c k S)
  | 0, _, _, _, h => h
  | c + 1, k, hZ, _, h => mlp_pres c (k + 1) (fun S j h1 h2 => hZ S j (by omega) (by omega)) (hZ _ k (by omega) (by omega) h)
theorem mnd_pres {P : Pg_} (hW : Wf_ P) {Z : Sv_ → Prop} (hZ : ∀ S nd by_ ax a j b k, a < g_N P → j < g_L P a → b < g_N P → k < g_L P b → Z S → Z (mt_ S nd by_ ax (g_E P a j) (g_E P b k))) {i : Nat} (hi : i < g_N P) {S : Sv_} (h : Z S) : Z (mnd_ P i S) := by
  unfold mnd_
  by_cases c : g_K P i = 1 ∨ g_K P i = 2
  · obtain ⟨⟨a1, a2, a3⟩, ⟨b1, b2, b3⟩, hr, hN⟩ := two_at hW ⟨hi, c⟩
    have hcA : cA_ P i = g_L P (g_A P i) - fA_ P i := rfl
    have hcB : cB_ P i = g_L P (g_B P i) - fB_ P i := rfl
    rw [if_pos c]
    refine mlp_pres _ _ (fun S j h1 h2 hS => hZ S i 2 j _ _ _ _ a1 (by omega) b1 (by omega) hS) (mlp_pres _ _ (fun S j h1 h2 hS => hZ S i 1 j _ _ _ _ a1 (by omega) b1 (by omega) hS) h)
  · rw [if_neg c]; exact h
theorem mal_pres {P : Pg_} (hW : Wf_ P) {Z : Sv_ → Prop} (hZ : ∀ S nd by_ ax a j b k, a < g_N P → j < g_L P a → b < g_N P → k < g_L P b → Z S → Z (mt_ S nd by_ ax (g_E P a j) (g_E P b k))) : ∀ (c i : Nat), i + c ≤ g_N P → ∀ {S : Sv_}, Z S → Z (mal_ P c i S)
  | 0, _, _, _, h => h
  | c + 1, i, hi, _, h => mal_pres hW hZ c (i + 1) (by omega) (mnd_pres hW hZ (by omega) h)
/-! what every number found keeps, all rounds keep -/
theorem rk_pres {P : Pg_} (hW : Wf_ P) {Z : (Nat → Nat) → Prop} (hZ : ∀ V l k, Vk_ V → l < 14 → V l = 20000 + l → k ≤ 9999 → Z V → Z (sb_ V l k)) {i : Nat} (hi : i < g_N P) {t : Tr4_} (hV : Vk_ t.1.1) (h : Z t.1.1) : Z (rk_ P i t).1.1 := by
  by_cases c : t.1.2 = [] ∧ isE_ P i
  · rw [rk_E c.1 c.2]
    dsimp only
    unfold stp_
    by_cases q : (eqn_ P i t.1.1).1 = 2
    · obtain ⟨a, b, d⟩ := eqn_found hW hi c.2 hV q
      rw [if_pos q]
      exact hZ _ _ _ hV a b d h
    · rw [if_neg q]
      by_cases q3 : (eqn_ P i t.1.1).1 = 3
      · rw [if_pos q3]; exact h
      · rw [if_neg q3]; exact h
  · unfold rk_
    rw [if_neg (show ¬ (t.1.2 = [] ∧ (g_K P i = 2 ∨ g_K P i = 5 ∨ g_K P i = 6)) from c)]
    exact h
theorem rds_pres {P : Pg_} (hW : Wf_ P) {Z : (Nat → Nat) → Prop} (hZ : ∀ V l k, Vk_ V → l < 14 → V l = 20000 + l → k ≤ 9999 → Z V → Z (sb_ V l k)) : ∀ (c i : Nat) {t : Tr4_}, i + c ≤ g_N P → Vk_ t.1.1 → Z t.1.1 → Z (rds_ P c i t).1.1
  | 0, _, _, _, _, h => h
  | c + 1, i, _, hi, hV, h => rds_pres hW hZ c (i + 1) (by omega) (rk_vk hW (by omega) hV).1 (rk_pres hW hZ (by omega) hV h)
theorem sto_pres {P : Pg_} (hW : Wf_ P) {Z : (Nat → Nat) → Prop} (hZ : ∀ V l k, Vk_ V → l < 14 → V l = 20000 + l → k ≤ 9999 → Z V → Z (sb_ V l k)) : ∀ (r : Nat) (S : Sv_) (too : Nat), Vk_ S.1 → Z S.1 → Z (sto_ P r S too).1.1
  | 0, _, _, _, h => h
  | r + 1, S, too, hV, h => by
    rw [sto_s]
    have h1 : Z (rnd_ P S too).1.1 := rds_pres hW hZ (g_N P) 0 (t := (S, 0, 0, too)) (by omega) hV h
    by_cases c : (rnd_ P S too).2.1 = 1 ∧ (rnd_ P S too).1.2 = []
    · rw [if_pos c]; exact sto_pres hW hZ r _ _ (rnd_vk hW hV too).1 h1
    · rw [if_neg c]; exact h1
theorem vk_v0 {gv : Nat → Int32} (hg : ∀ l, l < 4 → gv_ok (gv l)) : Vk_ (v0_ gv) := by
  intro l hl
  unfold v0_
  by_cases c : l < 4 ∧ ¬ gv l = -1
  · rw [if_pos c]
    rcases hg l c.1 with e | ⟨k, hk, e⟩
    · exact absurd e c.2
    · left; rw [e, nI_clamp (by omega)]; omega
  · rw [if_neg c]
    exact Or.inr ⟨l, Nat.le_refl _, rfl, by rw [if_neg c]⟩
theorem vk_mt {S : Sv_} (h : Vk_ S.1) {nd by_ ax x y : Nat} (hx : e_ok x) (hy : e_ok y) : Vk_ (mt_ S nd by_ ax x y).1 := by
  unfold mt_
  by_cases c : S.2 = []
  · rw [if_pos c]
    rcases vk_vl h hx with ux | ⟨a, ha, ex, ea⟩
    · rw [if_pos (show vl_ S.1 x < 20000 by omega)]
      rcases vk_vl h hy with uy | ⟨b, hb', ey, eb⟩
      · rw [if_pos (show vl_ S.1 y < 20000 by omega)]
        by_cases e : vl_ S.1 x = vl_ S.1 y
        · rw [if_pos e]; exact h
        · rw [if_neg e]; exact h
      · rw [if_neg (show ¬ vl_ S.1 y < 20000 by omega)]
        exact vk_sb h ux
    · rw [if_neg (show ¬ vl_ S.1 x < 20000 by omega)]
      rcases vk_vl h hy with uy | ⟨b, hb', ey, eb⟩
      · rw [if_pos (show vl_ S.1 y < 20000 by omega)]
        exact vk_sb h uy
      · rw [if_neg (show ¬ vl_ S.1 y < 20000 by omega), ex, ey, show max (20000 + a) (20000 + b) - 20000 = max a b by omega, show min (20000 + a) (20000 + b) = 20000 + min a b by omega]
        intro j hj
        show sb_ S.1 (max a b) (20000 + min a b) j ≤ 9999 ∨ ∃ r, r ≤ j ∧ sb_ S.1 (max a b) (20000 + min a b) j = 20000 + r ∧ sb_ S.1 (max a b) (20000 + min a b) r = 20000 + r
        have emin : S.1 (min a b) = 20000 + min a b := by
          rcases Nat.lt_or_ge a b with z | z
          · rw [show min a b = a by omega]; exact ea
          · rw [show min a b = b by omega]; exact eb
        have sbmin : sb_ S.1 (max a b) (20000 + min a b) (min a b) = 20000 + min a b := by
          unfold sb_
          rw [emin]
          by_cases q : 20000 + min a b = 20000 + max a b
          · rw [if_pos q]
          · rw [if_neg q]
        unfold sb_
        rcases h j hj with z | ⟨r, r1, r2, r3⟩
        · left; rw [if_neg (by omega)]; exact z
        · right
          by_cases q : S.1 j = 20000 + max a b
          · rw [if_pos q]
            exact ⟨min a b, by omega, rfl, sbmin⟩
          · rw [if_neg q]
            refine ⟨r, r1, r2, ?_⟩
            rw [if_neg (by omega)]; exact r3
  · rw [if_neg c]; exact h
theorem vk_MA {P : Pg_} (hW : Wf_ P) {gv : Nat → Int32} (hg : ∀ l, l < 4 → gv_ok (gv l)) : Vk_ (MA_ P gv).1 :=
  mal_pres hW (Z := fun S => Vk_ S.1) (fun S nd by_ ax a j b k ha hj hb hk h => vk_mt h (wf_e hW a ha j hj) (wf_e hW b hb k hk)) (g_N P) 0 (by omega) (vk_v0 hg)
/-- a letter that others are alike is told, or it is alone -/
def To_ (P : Pg_) (V : Nat → Nat) : Prop := ∀ l' l, l' < 14 → l < 4 → V l' = 20000 + l → l = l' ∨ Tb_ P l
theorem wf_t {P : Pg_} (hW : Wf_ P) : ∀ i, i < g_N P → ∀ j, j < g_L P i → ∀ l, l < 4 → g_E P i j = 20000 + l → Tb_ P l :=
  wf_ind hW (fun e => ∀ l, l < 4 → e = 20000 + l → Tb_ P l) (fun i hi ht j hj l hl e => ⟨i, hi, ht, j, hj, e⟩) (fun i hi l hl e => by omega)
theorem to_vl {P : Pg_} (hW : Wf_ P) {V : Nat → Nat} (h : To_ P V) {i j : Nat} (hi : i < g_N P) (hj : j < g_L P i) {l : Nat} (hl : l < 4) (e : vl_ V (g_E P i j) = 20000 + l) : Tb_ P l := by
  have eo := wf_e hW i hi j hj
  unfold vl_ at e
  by_cases c : g_E P i j < 20000
  · rw [if_pos c] at e; omega
  · rw [if_neg c] at e
    rcases eo with z | z
    · omega
    · rcases h _ l (show g_E P i j - 20000 < 14 by omega) hl e with q | q
      · exact wf_t hW i hi j hj l hl (by omega)
      · exact q
theorem to_sb {P : Pg_} {V : Nat → Nat} (h : To_ P V) {r k : Nat} (hk : k ≤ 9999) : To_ P (sb_ V r k) := by
  intro l' l hl' hl e
  unfold sb_ at e
  by_cases c : V l' = 20000 + r
  · rw [if_pos c] at e; omega
  · rw [if_neg c] at e; exact h l' l hl' hl e
theorem to_SO {P : Pg_} (hW : Wf_ P) {gv : Nat → Int32} (hg : ∀ l, l < 4 → gv_ok (gv l)) : To_ P (SO_ P gv).1 := by
  refine sto_pres hW (Z := To_ P) (fun V l k _ _ _ hk h => to_sb h hk) 15 _ 0 (vk_MA hW hg) ?_
  have := mal_pres hW (Z := fun S => Vk_ S.1 ∧ To_ P S.1) (fun S nd by_ ax a j b k ha hj hb hk h => ?_) (g_N P) 0 (by omega) (S := (v0_ gv, [])) ⟨vk_v0 hg, ?_⟩
  · exact this.2
  · refine ⟨vk_mt h.1 (wf_e hW a ha j hj) (wf_e hW b hb k hk), ?_⟩
    obtain ⟨hv, ht⟩ := h
    have ex := vk_vl hv (wf_e hW a ha j hj)
    have ey := vk_vl hv (wf_e hW b hb k hk)
    unfold mt_
    by_cases c : S.2 = []
    · rw [if_pos c]
      rcases ex with ux | ⟨a', ha', ex, ea⟩
      · rw [if_pos (show vl_ S.1 (g_E P a j) < 20000 by omega)]
        rcases ey with uy | ⟨b', hb', ey, eb⟩
        · rw [if_pos (show vl_ S.1 (g_E P b k) < 20000 by omega)]
          by_cases e : vl_ S.1 (g_E P a j) = vl_ S.1 (g_E P b k)
          · rw [if_pos e]; exact ht
          · rw [if_neg e]; exact ht
        · rw [if_neg (show ¬ vl_ S.1 (g_E P b k) < 20000 by omega)]
          exact to_sb ht ux
      · rw [if_neg (show ¬ vl_ S.1 (g_E P a j) < 20000 by omega)]
        rcases ey with uy | ⟨b', hb', ey, eb⟩
        · rw [if_pos (show vl_ S.1 (g_E P b k) < 20000 by omega)]
          exact to_sb ht uy
        · rw [if_neg (show ¬ vl_ S.1 (g_E P b k) < 20000 by omega)]
          intro l' l hl' hl e
          unfold sb_ at e
          dsimp only at e
          by_cases q : S.1 l' = 20000 + (max (vl_ S.1 (g_E P a j)) (vl_ S.1 (g_E P b k)) - 20000)
          · rw [if_pos q] at e
            right
            rcases Nat.lt_or_ge (vl_ S.1 (g_E P a j)) (vl_ S.1 (g_E P b k)) with z | z
            · exact to_vl hW ht ha hj hl (by omega)
            · exact to_vl hW ht hb hk hl (by omega)
          · rw [if_neg q] at e
            exact ht l' l hl' hl e
    · rw [if_neg c]; exact ht
  · intro l' l hl' hl e
    show l = l' ∨ _
    have e : v0_ gv l' = 20000 + l := e
    unfold v0_ at e
    by_cases c : l' < 4 ∧ ¬ gv l' = -1
    · rw [if_pos c] at e
      rcases hg l' c.1 with q | ⟨k, hk, q⟩
      · exact absurd q c.2
      · rw [q, nI_clamp (by omega)] at e; omega
    · rw [if_neg c] at e; left; omega
/-- OPEN, in numbers -/
def Op_ (P : Pg_) (V : Nat → Nat) (l : Nat) : Prop := l < 4 ∧ Tb_ P l ∧ V l = 20000 + l
theorem op_iff {P : Pg_} (hW : Wf_ P) {V : Nat → Nat} (hV : Vk_ V) (ht : To_ P V) (l : Nat) : Tq_ (vl_ V) P (g_N P) l ↔ Op_ P V l := by
  constructor
  · rintro ⟨i, hi, htd, j, hj, e⟩
    rcases td_ext hW hi htd hj with z | ⟨l0, hl0, e0⟩
    · unfold vl_ at e; rw [if_pos (by omega)] at e; omega
    · have e1 : V l0 = 20000 + l := by
        rw [e0] at e
        unfold vl_ at e
        rw [if_neg (by omega), show 20000 + l0 - 20000 = l0 by omega] at e
        exact e
      rcases hV l0 (by omega) with z | ⟨r, r1, r2, r3⟩
      · omega
      · have : r = l := by omega
        subst this
        exact ⟨by omega, to_vl hW ht hi hj (by omega) e, r3⟩
  · rintro ⟨h1, ⟨i, hi, htd, j, hj, e⟩, h3⟩
    refine ⟨i, hi, htd, j, hj, ?_⟩
    rw [e]
    unfold vl_
    rw [if_neg (by omega), show 20000 + l - 20000 = l by omega]
    exact h3
theorem f_has (x : Int32) {l : Nat} (hl : l < 32) : f_X9_has x (nI l) = some (if tb_ x l then 1 else 0) := by
  unfold f_X9_has
  rw [tb_has x hl]
  cases tb_ x l
  · rw [if_neg (by decide)]; rfl
  · rw [if_pos (by decide)]; rfl
/-- the reference's open letters -/
theorem m_open {P : Pg_} (hW : Wf_ P) {o : Ob_T} (hm : Rm_ (o_A o 0) P) (h2 : o_F o 2 = nI (g_N P)) (hg : ∀ l, l < 4 → gv_ok (o_A o 4 l)) : ∃ B o', f_X9_open o = some (B, o') ∧ (∀ l, l < 32 → (tb_ B l = true ↔ Op_ P (SO_ P (o_A o 4)).1 l)) ∧ Rso_ o' (SO_ P (o_A o 4)) ∧ Rm_ (o_A o' 1) P ∧ o_F o' 3 = nI (g_N P) ∧ (∀ l, l < 4 → o_A o' 33 l = o_A o 4 l) ∧ Fr_ WK_ o o' := by
  obtain ⟨o1, e1, p1, p2, p3, p4, p5⟩ := m_now hW hm h2 hg
  obtain ⟨T, e2, hT⟩ := m_told hW (o := o1) (by rw [(p5 0 (by decide)).2]; exact hm) (by rw [(p5 2 (by decide)).1]; exact h2)
  unfold f_X9_open
  rw [e1, Option.bind_some, e2, Option.bind_some]
  have key : ∃ B, Lp_ (fun (rec : (Int32 × Int32 × Int32 × Ob_T) → Option (Int32 × Ob_T)) x => f_X9_open_L13 rec x.1 x.2.1 x.2.2.1 x.2.2.2) FU_ (T, 0, 0, o1) = some (B, o1) ∧ ∀ l, l < 32 → (tb_ B l = true ↔ Op_ P (SO_ P (o_A o 4)).1 l) := by
    refine lp_fu (P := fun r => ∃ B, r = some (B, o1) ∧ ∀ l, l < 32 → (tb_ B l = true ↔ Op_ P (SO_ P (o_A o 4)).1 l))
      (fun n x => ∃ i b, i ≤ 4 ∧ n = 4 - i + 1 ∧ x = (T, b, nI i, o1) ∧ ∀ l, l < 32 → (tb_ b l = true ↔ (l < i ∧ Op_ P (SO_ P (o_A o 4)).1 l))) ?_ ?_ (4 - 0 + 1) _ ⟨0, 0, by omega, rfl, rfl, fun l hl => ⟨fun z => by rw [tb_0] at z; exact absurd z (by decide), fun z => absurd z.1 (by omega)⟩⟩ (by omega)
    · rintro x ⟨i, b, h1, h2, -⟩
      omega
    · rintro n x rec ⟨i, b, h1, h2, rfl, hb⟩ hr
      unfold f_X9_open_L13
      dsimp only
      by_cases he : i = 4
      · subst he
        rw [if_pos (show (4 : Int32) ≤ nI 4 from Int32.le_refl _)]
        refine ⟨b, rfl, fun l hl => ?_⟩
        rw [hb l hl]
        exact ⟨fun z => z.2, fun z => ⟨z.1, z⟩⟩
      · have hi4 : i < 4 := by omega
        have eo : e_ok (20000 + i) := Or.inr ⟨by omega, by omega⟩
        rw [if_neg (show ¬ (4 : Int32) ≤ nI i from nI_ge (b := 4) (by omega) (by omega)), f_has T (by omega), Option.bind_some]
        have ev : vl_ (SO_ P (o_A o 4)).1 (20000 + i) = (SO_ P (o_A o 4)).1 i := by unfold vl_; rw [if_neg (by omega), show 20000 + i - 20000 = i by omega]
        have hv := vok_vl (rs_vk p1.1) eo
        rw [ev] at hv
        -- not open: nothing more
        have no : ¬ Op_ P (SO_ P (o_A o 4)).1 i → ∃ B, rec (T, b, nI i + 1, o1) = some (B, o1) ∧ ∀ l, l < 32 → (tb_ B l = true ↔ Op_ P (SO_ P (o_A o 4)).1 l) := by
          intro hno
          refine hr _ ⟨i + 1, b, by omega, by omega, by rw [nI_1], fun l hl => ?_⟩
          rw [hb l hl]
          exact ⟨fun z => ⟨by omega, z.2⟩, fun z => ⟨by by_cases q : l = i; subst q; exact absurd z.2 hno; omega, z.2⟩⟩
        cases ht : tb_ T i
        · rw [if_pos (by decide), or_0]
          exact no (fun z => by have := (hT i (by omega)).mpr z.2.1; rw [ht] at this; exact absurd this (by decide))
        · have htb := (hT i (by omega)).mp ht
          rw [if_neg (by decide), show (20000 : Int32) + nI i = nI (20000 + i) from nI_add 20000 i, m_solved p1.1 eo, Option.bind_some, ev]
          by_cases c : (SO_ P (o_A o 4)).1 i = 20000 + i
          · rw [if_pos (by rw [c]), Lt_E]
            refine hr _ ⟨i + 1, _, by omega, by omega, by rw [nI_1], fun l hl => ?_⟩
            rw [tb_put (by omega) hl, hb l hl]
            exact ⟨fun z => by rcases z with z | z; exact ⟨by omega, z.2⟩; exact ⟨by omega, by rw [z]; exact ⟨hi4, htb, c⟩⟩, fun z => by by_cases q : l = i; exact Or.inr q; exact Or.inl ⟨by omega, z.2⟩⟩
          · rw [if_neg (fun z => c ((nI_eq (by rcases hv with q | ⟨r, q1, q2⟩ <;> omega) (by omega)).mp z)), or_0]
            exact no (fun z => c z.2.2)
  obtain ⟨B, e3, hB⟩ := key
  exact ⟨B, o1, e3, hB, p1, p2, p3, p4, p5⟩
theorem sm_open {P : Pg_} {x n v d g o : Ob_T} (hW : Wf_ P) (hn : Rn_ n P) (hm : Rm_ (o_A o 0) P) (h2 : o_F o 2 = nI (g_N P)) (hgv : R_gv g o) (hc : Rc_ x v P (o_A g 0)) : Tr_ (f_X8_open x n v d g) (fun u => Tr_ (f_X9_open o) (fun w => u.1 = w.1 ∧ Fr_ WK_ o w.2 ∧ Rc_ u.2.1 u.2.2.1 P (o_A g 0) ∧ o_F u.2.1 10 = o_F x 10)) := by
  have hgo : ∀ l, l < 4 → gv_ok (o_A o 4 l) := fun l hl => (hgv.1 l hl).2
  have hgg : ∀ l, l < 4 → gv_ok (o_A g 0 l) := fun l hl => by rw [(hgv.1 l hl).1]; exact hgo l hl
  have eS : SO_ P (o_A g 0) = SO_ P (o_A o 4) := SO_cg (fun l hl => (hgv.1 l hl).1)
  obtain ⟨x', v', d', e1, q1, q2, q3⟩ := x_now hW hn (d := d) hgg hc
  obtain ⟨B, o', e2, hB, -, -, -, -, p5⟩ := m_open hW hm h2 hgo
  obtain ⟨B', e3, hB'⟩ := x_open hW hn q3.1
  unfold f_X8_open
  rw [e1, Option.bind_some, e3, Option.bind_some, e2]
  refine tr_some (tr_some ⟨?_, p5, Or.inr ⟨q1, q3⟩, q2⟩)
  refine tb_same (Op_ P (SO_ P (o_A o 4)).1) (fun l hl => ?_) hB
  rw [hB' l hl, op_iff hW (rs_vk q3.1) (to_SO hW hgg), eS]
