/-- letter l is told in some node -/
def Tb_ (P : Pg_) (l : Nat) : Prop := ∃ i, i < g_N P ∧ td_ P i ∧ ∃ j, j < g_L P i ∧ g_E P i j = 20000 + l
/-- a bit more -/
theorem tb_put {x : Int32} {l k : Nat} (hl : l < 32) (hk : k < 32) : tb_ (x ||| ((1 : Int32) <<< (nI l &&& 31))) k = true ↔ tb_ x k = true ∨ k = l := by
  rw [tb_or, tb_sh l hl k hk, Bool.or_eq_true, decide_eq_true_iff]
theorem tb_same {x y : Int32} (Q : Nat → Prop) (h1 : ∀ l, l < 32 → (tb_ x l = true ↔ Q l)) (h2 : ∀ l, l < 32 → (tb_ y l = true ↔ Q l)) : x = y := by
  refine tb_ext (fun l hl => ?_)
  have e := (h1 l hl).trans (h2 l hl).symm
  cases ha : tb_ x l <;> cases hb : tb_ y l
  · rfl
  · rw [ha, hb] at e; exact absurd (e.mpr rfl) (by decide)
  · rw [ha, hb] at e; exact absurd (e.mp rfl) (by decide)
  · rfl
theorem x_isTold {n : Ob_T} {P : Pg_} (hW : Wf_ P) (hn : Rn_ n P) {i : Nat} (hi : i < g_N P) : (td_ P i → f_X1_isTold n (nI i) = some 1) ∧ (¬ td_ P i → f_X1_isTold n (nI i) = some 0) := by
  have hN := hW.1
  have hK := (hW.2 i hi).1
  unfold f_X1_isTold td_
  rw [ld_nI (by omega) (by omega), Option.bind_some, Option.bind_some, (hn.2 i hi).1]
  by_cases k0 : g_K P i = 0
  · rw [if_pos (show nI (g_K P i) = 0 by rw [k0]; rfl)]
    exact ⟨fun _ => rfl, fun z => absurd (Or.inl k0) z⟩
  · rw [if_neg (nI_ne0 (by omega) (by omega))]
    by_cases k6 : g_K P i = 6
    · rw [if_pos (show nI (g_K P i) = 6 by rw [k6]; rfl)]
      exact ⟨fun _ => rfl, fun z => absurd (Or.inr k6) z⟩
    · rw [if_neg (show ¬ nI (g_K P i) = 6 from fun z => k6 ((nI_eq (b := 6) (by omega) (by omega)).mp z))]
      exact ⟨fun z => by rcases z with z | z; exact absurd z k0; exact absurd z k6, fun _ => rfl⟩
theorem td_ext {P : Pg_} (hW : Wf_ P) {i : Nat} (hi : i < g_N P) (ht : td_ P i) {j : Nat} (hj : j < g_L P i) : (g_E P i j ≤ 9) ∨ ∃ l, l < 4 ∧ g_E P i j = 20000 + l := by
  rcases ((hW.2 i hi).2.2.2.2.2 ht).2 j hj with z | z
  · exact Or.inl z
  · exact Or.inr ⟨g_E P i j - 20000, by omega, by omega⟩
/-- bits of the nodes ahead of i, and of node i ahead of axis j -/
def Tq_ (f : Nat → Nat) (P : Pg_) (i : Nat) (l : Nat) : Prop := ∃ i', i' < i ∧ td_ P i' ∧ ∃ j, j < g_L P i' ∧ f (g_E P i' j) = 20000 + l
theorem tq_s {f : Nat → Nat} {P : Pg_} {i l : Nat} : Tq_ f P (i + 1) l ↔ Tq_ f P i l ∨ (td_ P i ∧ ∃ j, j < g_L P i ∧ f (g_E P i j) = 20000 + l) := by
  constructor
  · rintro ⟨i', h1, h2, h3⟩
    by_cases c : i' = i
    · subst c; exact Or.inr ⟨h2, h3⟩
    · exact Or.inl ⟨i', by omega, h2, h3⟩
  · rintro (⟨i', h1, h2, h3⟩ | ⟨h2, h3⟩)
    · exact ⟨i', by omega, h2, h3⟩
    · exact ⟨i, by omega, h2, h3⟩
theorem ex_s {Q : Nat → Prop} {j : Nat} : (∃ j', j' < j + 1 ∧ Q j') ↔ (∃ j', j' < j ∧ Q j') ∨ Q j := by
  constructor
  · rintro ⟨j', h1, h2⟩
    by_cases c : j' = j
    · subst c; exact Or.inr h2
    · exact Or.inl ⟨j', by omega, h2⟩
  · rintro (⟨j', h1, h2⟩ | h2)
    · exact ⟨j', by omega, h2⟩
    · exact ⟨j, by omega, h2⟩
theorem x_told {P : Pg_} (hW : Wf_ P) {n : Ob_T} (hn : Rn_ n P) : ∃ B, f_X1_toldLetters n = some B ∧ ∀ l, l < 32 → (tb_ B l = true ↔ Tb_ P l) := by
  have hN := hW.1
  unfold f_X1_toldLetters
  refine lp_fu (P := fun r => ∃ B, r = some B ∧ ∀ l, l < 32 → (tb_ B l = true ↔ Tb_ P l))
    (fun m x => ∃ i b, i ≤ g_N P ∧ m = g_N P - i + 1 ∧ x = (b, nI i) ∧ ∀ l, l < 32 → (tb_ b l = true ↔ Tq_ id P i l)) ?_ ?_ (g_N P - 0 + 1) _ ⟨0, 0, by omega, rfl, rfl, fun l hl => ⟨fun z => by rw [tb_0] at z; exact absurd z (by decide), fun ⟨i', z, _⟩ => absurd z (by omega)⟩⟩ (by omega)
  · rintro x ⟨i, b, h1, h2, -⟩
    omega
  · rintro m x rec ⟨i, b, hi1, hm, rfl, hb⟩ hr
    unfold f_X1_toldLetters_L4
    dsimp only
    rw [hn.1]
    by_cases he : i = g_N P
    · subst he
      rw [if_pos (Int32.le_refl _)]
      exact ⟨b, rfl, hb⟩
    · have hi : i < g_N P := by omega
      have hL6 := (hW.2 i hi).2.1
      rw [if_neg (nI_ge (by omega) (by omega))]
      by_cases ht : td_ P i
      · refine lp_fu (P := fun r => ∃ B, r = some B ∧ ∀ l, l < 32 → (tb_ B l = true ↔ Tb_ P l))
          (fun m x => ∃ j b', j ≤ g_L P i ∧ m = g_L P i - j + 1 ∧ x = (b', nI i, nI j) ∧ ∀ l, l < 32 → (tb_ b' l = true ↔ Tq_ id P i l ∨ ∃ j', j' < j ∧ g_E P i j' = 20000 + l)) ?_ ?_ (g_L P i - 0 + 1) _ ⟨0, b, by omega, rfl, rfl, fun l hl => by rw [hb l hl]; exact ⟨Or.inl, fun z => by rcases z with z | ⟨j', z, -⟩; exact z; omega⟩⟩ (by omega)
        · rintro x ⟨j, b', h1, h2, -⟩
          omega
        · rintro m' x rec' ⟨j, b', hj1, hm', rfl, hb'⟩ hr'
          unfold f_X1_toldLetters_L14
          dsimp only
          rw [(x_isTold hW hn hi).1 ht, Option.bind_some, if_neg n_10, ld_nI (by omega) (by omega), Option.bind_some, (hn.2 i hi).2.2.2.2.2.2.2.1]
          by_cases hj : j = g_L P i
          · subst hj
            rw [if_pos (Int32.le_refl _)]
            refine hr _ ⟨i + 1, b', by omega, by omega, by rw [nI_1], fun l hl => ?_⟩
            rw [hb' l hl, tq_s]
            exact ⟨fun z => by rcases z with z | z; exact Or.inl z; exact Or.inr ⟨ht, z⟩, fun z => by rcases z with z | z; exact Or.inl z; exact Or.inr z.2⟩
          · have hj2 : j < g_L P i := by omega
            rw [if_neg (nI_ge (by omega) (by omega)), x_ext hn hN hi hj2 hL6, Option.bind_some, Option.bind_some]
            rcases td_ext hW hi ht hj2 with z | ⟨l0, hl0, e0⟩
            · rw [if_pos (show nI (g_E P i j) < 20000 from nI_lt (b := 20000) (by omega) (by omega))]
              refine hr' _ ⟨j + 1, b', by omega, by omega, by rw [nI_1], fun l hl => ?_⟩
              rw [hb' l hl, ex_s]
              exact ⟨fun w => by rcases w with w | w; exact Or.inl w; exact Or.inr (Or.inl w), fun w => by rcases w with w | w | w; exact Or.inl w; exact Or.inr w; omega⟩
            · rw [e0, if_neg (show ¬ nI (20000 + l0) < 20000 from nI_nlt (b := 20000) (by omega) (by omega)), show nI (20000 + l0) - 20000 = nI l0 from (pk_sub (b := 20000) (by omega)).trans (congrArg nI (by omega)), Lt_E]
              refine hr' _ ⟨j + 1, _, by omega, by omega, by rw [nI_1], fun l hl => ?_⟩
              rw [tb_put (by omega) hl, hb' l hl, ex_s]
              exact ⟨fun w => by rcases w with (w | w) | w; exact Or.inl w; exact Or.inr (Or.inl w); exact Or.inr (Or.inr (by omega)), fun w => by rcases w with w | w | w; exact Or.inl (Or.inl w); exact Or.inl (Or.inr w); exact Or.inr (by omega)⟩
      · rw [lp_u]
        unfold f_X1_toldLetters_L14
        dsimp only
        rw [(x_isTold hW hn hi).2 ht, Option.bind_some, if_pos rfl]
        refine hr _ ⟨i + 1, b, by omega, by omega, by rw [nI_1], fun l hl => ?_⟩
        rw [hb l hl, tq_s]
        exact ⟨Or.inl, fun z => by rcases z with z | z; exact z; exact absurd z.1 ht⟩
theorem m_told {P : Pg_} (hW : Wf_ P) {o : Ob_T} (hm : Rm_ (o_A o 0) P) (h2 : o_F o 2 = nI (g_N P)) : ∃ B, f_X9_toldLetters o = some B ∧ ∀ l, l < 32 → (tb_ B l = true ↔ Tb_ P l) := by
  have hN := hW.1
  unfold f_X9_toldLetters
  refine lp_fu (P := fun r => ∃ B, r = some B ∧ ∀ l, l < 32 → (tb_ B l = true ↔ Tb_ P l))
    (fun m x => ∃ i b, i ≤ g_N P ∧ m = g_N P - i + 1 ∧ x = (b, nI i) ∧ ∀ l, l < 32 → (tb_ b l = true ↔ Tq_ id P i l)) ?_ ?_ (g_N P - 0 + 1) _ ⟨0, 0, by omega, rfl, rfl, fun l hl => ⟨fun z => by rw [tb_0] at z; exact absurd z (by decide), fun ⟨i', z, _⟩ => absurd z (by omega)⟩⟩ (by omega)
  · rintro x ⟨i, b, h1, h2, -⟩
    omega
  · rintro m x rec ⟨i, b, hi1, hm', rfl, hb⟩ hr
    unfold f_X9_toldLetters_L4
    dsimp only
    rw [h2]
    by_cases he : i = g_N P
    · subst he
      rw [if_pos (Int32.le_refl _)]
      exact ⟨b, rfl, hb⟩
    · have hi : i < g_N P := by omega
      have hL6 := (hW.2 i hi).2.1
      obtain ⟨a0, a1, a2, a3, a4, a5, a6, a7, a8, a9, a10⟩ := hm i hi
      rw [if_neg (nI_ge (by omega) (by omega))]
      by_cases ht : td_ P i
      · have hL3 := ((hW.2 i hi).2.2.2.2.2 ht).1
        refine lp_fu (P := fun r => ∃ B, r = some B ∧ ∀ l, l < 32 → (tb_ B l = true ↔ Tb_ P l))
          (fun m x => ∃ j b', j ≤ g_L P i ∧ m = g_L P i - j + 1 ∧ x = (b', nI i, nI j) ∧ ∀ l, l < 32 → (tb_ b' l = true ↔ Tq_ id P i l ∨ ∃ j', j' < j ∧ g_E P i j' = 20000 + l)) ?_ ?_ (g_L P i - 0 + 1) _ ⟨0, b, by omega, rfl, rfl, fun l hl => by rw [hb l hl]; exact ⟨Or.inl, fun z => by rcases z with z | ⟨j', z, -⟩; exact z; omega⟩⟩ (by omega)
        · rintro x ⟨j, b', h1, h2, -⟩
          omega
        · rintro m' x rec' ⟨j, b', hj1, hm', rfl, hb'⟩ hr'
          unfold f_X9_toldLetters_L14
          dsimp only
          rw [ld15 (j := 4) (k := 4) rfl (by omega) (by omega), Option.bind_some, a6 ht]
          by_cases hj : j = g_L P i
          · subst hj
            rw [if_pos (Int32.le_refl _)]
            refine hr _ ⟨i + 1, b', by omega, by omega, by rw [nI_1], fun l hl => ?_⟩
            rw [hb' l hl, tq_s]
            exact ⟨fun z => by rcases z with z | z; exact Or.inl z; exact Or.inr ⟨ht, z⟩, fun z => by rcases z with z | z; exact Or.inl z; exact Or.inr z.2⟩
          · have hj2 : j < g_L P i := by omega
            have eix : (15 : Int32) * nI i + 5 + nI j = nI (15 * i + 5 + j) := by rw [show (15 : Int32) = nI 15 from rfl, show (5 : Int32) = nI 5 from rfl, pk_mul, nI_add, nI_add]
            rw [if_neg (nI_ge (by omega) (by omega)), eix, ld_nI (by omega) (by omega), Option.bind_some, a8 ht j hj2]
            rcases td_ext hW hi ht hj2 with z | ⟨l0, hl0, e0⟩
            · rw [if_neg (show ¬ (20000 : Int32) ≤ nI (g_E P i j) from nI_ge (b := 20000) (by omega) (by omega)), or_0]
              refine hr' _ ⟨j + 1, b', by omega, by omega, by rw [nI_1], fun l hl => ?_⟩
              rw [hb' l hl, ex_s]
              exact ⟨fun w => by rcases w with w | w; exact Or.inl w; exact Or.inr (Or.inl w), fun w => by rcases w with w | w | w; exact Or.inl w; exact Or.inr w; omega⟩
            · rw [e0, if_pos (show (20000 : Int32) ≤ nI (20000 + l0) from nI_le (a := 20000) (by omega) (by omega)), show nI (20000 + l0) - 20000 = nI l0 from (pk_sub (b := 20000) (by omega)).trans (congrArg nI (by omega)), Lt_E]
              refine hr' _ ⟨j + 1, _, by omega, by omega, by rw [nI_1], fun l hl => ?_⟩
              rw [tb_put (by omega) hl, hb' l hl, ex_s]
              exact ⟨fun w => by rcases w with (w | w) | w; exact Or.inl w; exact Or.inr (Or.inl w); exact Or.inr (Or.inr (by omega)), fun w => by rcases w with w | w | w; exact Or.inl (Or.inl w); exact Or.inl (Or.inr w); exact Or.inr (by omega)⟩
      · rw [lp_u]
        unfold f_X9_toldLetters_L14
        dsimp only
        rw [ld15 (j := 4) (k := 4) rfl (by omega) (by omega), Option.bind_some, a7 ht, if_pos (show nI 0 ≤ 0 from Int32.le_refl _)]
        refine hr _ ⟨i + 1, b, by omega, by omega, by rw [nI_1], fun l hl => ?_⟩
        rw [hb l hl, tq_s]
        exact ⟨Or.inl, fun z => by rcases z with z | z; exact z; exact absurd z.1 ht⟩
/-- the class's open letters: the least ones that told ones are alike -/
theorem x_open {P : Pg_} (hW : Wf_ P) {n v : Ob_T} (hn : Rn_ n P) {V : Nat → Nat} (hV : Rs_ (o_A v 2) (o_A v 3) V) : ∃ B, f_X5_openLetters v n = some B ∧ ∀ l, l < 32 → (tb_ B l = true ↔ Tq_ (vl_ V) P (g_N P) l) := by
  have hN := hW.1
  have hk := rs_vk hV
  unfold f_X5_openLetters
  refine lp_fu (P := fun r => ∃ B, r = some B ∧ ∀ l, l < 32 → (tb_ B l = true ↔ Tq_ (vl_ V) P (g_N P) l))
    (fun m x => ∃ i b, i ≤ g_N P ∧ m = g_N P - i + 1 ∧ x = (b, nI i) ∧ ∀ l, l < 32 → (tb_ b l = true ↔ Tq_ (vl_ V) P i l)) ?_ ?_ (g_N P - 0 + 1) _ ⟨0, 0, by omega, rfl, rfl, fun l hl => ⟨fun z => by rw [tb_0] at z; exact absurd z (by decide), fun ⟨i', z, _⟩ => absurd z (by omega)⟩⟩ (by omega)
  · rintro x ⟨i, b, h1, h2, -⟩
    omega
  · rintro m x rec ⟨i, b, hi1, hm, rfl, hb⟩ hr
    unfold f_X5_openLetters_L4 f_X1_size
    dsimp only
    rw [Option.bind_some, hn.1]
    by_cases he : i = g_N P
    · subst he
      rw [if_pos (Int32.le_refl _)]
      exact ⟨b, rfl, hb⟩
    · have hi : i < g_N P := by omega
      have hL6 := (hW.2 i hi).2.1
      rw [if_neg (nI_ge (by omega) (by omega))]
      by_cases ht : td_ P i
      · refine lp_fu (P := fun r => ∃ B, r = some B ∧ ∀ l, l < 32 → (tb_ B l = true ↔ Tq_ (vl_ V) P (g_N P) l))
          (fun m x => ∃ j b', j ≤ g_L P i ∧ m = g_L P i - j + 1 ∧ x = (b', nI i, nI j) ∧ ∀ l, l < 32 → (tb_ b' l = true ↔ Tq_ (vl_ V) P i l ∨ ∃ j', j' < j ∧ vl_ V (g_E P i j') = 20000 + l)) ?_ ?_ (g_L P i - 0 + 1) _ ⟨0, b, by omega, rfl, rfl, fun l hl => by rw [hb l hl]; exact ⟨Or.inl, fun z => by rcases z with z | ⟨j', z, -⟩; exact z; omega⟩⟩ (by omega)
        · rintro x ⟨j, b', h1, h2, -⟩
          omega
        · rintro m' x rec' ⟨j, b', hj1, hm', rfl, hb'⟩ hr'
          unfold f_X5_openLetters_L17
          dsimp only
          rw [(x_isTold hW hn hi).1 ht, Option.bind_some, if_neg n_10, x_L hn hN hi, Option.bind_some]
          by_cases hj : j = g_L P i
          · subst hj
            rw [if_pos (Int32.le_refl _)]
            refine hr _ ⟨i + 1, b', by omega, by omega, by rw [nI_1], fun l hl => ?_⟩
            rw [hb' l hl, tq_s]
            exact ⟨fun z => by rcases z with z | z; exact Or.inl z; exact Or.inr ⟨ht, z⟩, fun z => by rcases z with z | z; exact Or.inl z; exact Or.inr z.2⟩
          · have hj2 : j < g_L P i := by omega
            have eo := wf_e hW i hi j hj2
            rw [if_neg (nI_ge (by omega) (by omega)), x_ext hn hN hi hj2 hL6, Option.bind_some, x_value hV eo, Option.bind_some]
            rcases vk_vl hk eo with z | ⟨l0, hl0, e0, -⟩
            · rw [if_pos (show nI (vl_ V (g_E P i j)) < 20000 from nI_lt (b := 20000) (by omega) (by omega))]
              refine hr' _ ⟨j + 1, b', by omega, by omega, by rw [nI_1], fun l hl => ?_⟩
              rw [hb' l hl, ex_s]
              exact ⟨fun w => by rcases w with w | w; exact Or.inl w; exact Or.inr (Or.inl w), fun w => by rcases w with w | w | w; exact Or.inl w; exact Or.inr w; omega⟩
            · rw [e0, if_neg (show ¬ nI (20000 + l0) < 20000 from nI_nlt (b := 20000) (by omega) (by omega)), show nI (20000 + l0) - 20000 = nI l0 from (pk_sub (b := 20000) (by omega)).trans (congrArg nI (by omega)), Lt_E]
              refine hr' _ ⟨j + 1, _, by omega, by omega, by rw [nI_1], fun l hl => ?_⟩
              rw [tb_put (by omega) hl, hb' l hl, ex_s]
              exact ⟨fun w => by rcases w with (w | w) | w; exact Or.inl w; exact Or.inr (Or.inl w); exact Or.inr (Or.inr (by omega)), fun w => by rcases w with w | w | w; exact Or.inl (Or.inl w); exact Or.inl (Or.inr w); exact Or.inr (by omega)⟩
      · rw [lp_u]
        unfold f_X5_openLetters_L17
        dsimp only
        rw [(x_isTold hW hn hi).2 ht, Option.bind_some, if_pos rfl]
        refine hr _ ⟨i + 1, b, by omega, by omega, by rw [nI_1], fun l hl => ?_⟩
        rw [hb l hl, tq_s]
        exact ⟨Or.inl, fun z => by rcases z with z | z; exact z; exact absurd z.1 ht⟩
