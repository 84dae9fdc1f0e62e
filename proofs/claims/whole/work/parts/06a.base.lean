/-! reads behind writes -/
theorem oF_pF (s : Ob_T) (k : Nat) (v : Int32) (j : Nat) : o_F (p_F s k v) j = if j = k then v else o_F s j := rfl
theorem oA_pF (s : Ob_T) (k : Nat) (v : Int32) (j : Nat) : o_A (p_F s k v) j = o_A s j := rfl
theorem oL_pF (s : Ob_T) (k : Nat) (v : Int32) (j : Nat) : o_L (p_F s k v) j = o_L s j := rfl
theorem oF_pA (s : Ob_T) (k : Nat) (f : Nat → Int32) (j : Nat) : o_F (p_A s k f) j = o_F s j := rfl
theorem oA_pA (s : Ob_T) (k : Nat) (f : Nat → Int32) (j : Nat) : o_A (p_A s k f) j = if j = k then f else o_A s j := rfl
theorem oL_pA (s : Ob_T) (k : Nat) (f : Nat → Int32) (j : Nat) : o_L (p_A s k f) j = o_L s j := rfl
theorem oF_pL (s : Ob_T) (k : Nat) (f : Nat → Int64) (j : Nat) : o_F (p_L s k f) j = o_F s j := rfl
theorem oA_pL (s : Ob_T) (k : Nat) (f : Nat → Int64) (j : Nat) : o_A (p_L s k f) j = o_A s j := rfl
theorem oL_pL (s : Ob_T) (k : Nat) (f : Nat → Int64) (j : Nat) : o_L (p_L s k f) j = if j = k then f else o_L s j := rfl
theorem updE (f : Nat → Int32) (k : Nat) (x : Int32) (j : Nat) : upd f k x j = if j = k then x else f j := rfl
theorem updLE (f : Nat → Int64) (k : Nat) (x : Int64) (j : Nat) : vp_updL f k x j = if j = k then x else f j := rfl
theorem Lt_E {α β : Type} (e : α) (k : α → β) : Lt_ e k = k e := rfl
/-! total answers: a pure program answers, and of its answer something holds -/
def Tr_ {ω : Type} (o : Option ω) (P : ω → Prop) : Prop := ∃ r, o = some r ∧ P r
theorem tr_some {ω : Type} {r : ω} {P : ω → Prop} (h : P r) : Tr_ (some r) P := ⟨r, rfl, h⟩
theorem tr_bind {α ω : Type} {o : Option α} {K : α → Option ω} {P : ω → Prop} (h : Tr_ o (fun u => Tr_ (K u) P)) : Tr_ (o.bind K) P := by
  obtain ⟨u, rfl, r, h1, h2⟩ := h
  exact ⟨r, h1, h2⟩
theorem tr_eq {ω : Type} {o : Option ω} {r : ω} {P : ω → Prop} (e : o = some r) (h : P r) : Tr_ o P := ⟨r, e, h⟩
theorem tr_if {ω : Type} {c : Prop} [Decidable c] {a b : Option ω} {P : ω → Prop} (ht : c → Tr_ a P) (hf : ¬ c → Tr_ b P) : Tr_ (if c then a else b) P := by
  by_cases h : c
  · rw [if_pos h]; exact ht h
  · rw [if_neg h]; exact hf h
theorem tr_let {α ω : Type} {e : α} {K : α → Option ω} {P : ω → Prop} (h : Tr_ (K e) P) : Tr_ (Lt_ e K) P := h
theorem tr_mono {ω : Type} {o : Option ω} {P Q : ω → Prop} (h : Tr_ o P) (hpq : ∀ r, P r → Q r) : Tr_ o Q := by
  obtain ⟨r, h1, h2⟩ := h
  exact ⟨r, h1, hpq r h2⟩
theorem bind_eq {α ω : Type} {o : Option α} {u : α} (K : α → Option ω) (e : o = some u) : o.bind K = K u := by rw [e]; rfl
/-- a loop, by what is left of its measure -/
theorem lp_ind {σ ω : Type} {body : (σ → Option ω) → σ → Option ω} {P : Option ω → Prop} (I : Nat → σ → Prop) (h0 : ∀ x, ¬ I 0 x) (hs : ∀ (n : Nat) (x : σ) (rec : σ → Option ω), I (n + 1) x → (∀ y, I n y → P (rec y)) → P (body rec x)) : ∀ (n m : Nat) (x : σ), I n x → n ≤ m → P (Lp_ body m x)
  | 0, _, x, h, _ => absurd h (h0 x)
  | n + 1, 0, _, _, h => absurd h (by omega)
  | n + 1, m + 1, x, h, hm => hs n x (Lp_ body m) h (fun y hy => lp_ind I h0 hs n m y hy (by omega))
theorem lp_fu {σ ω : Type} {body : (σ → Option ω) → σ → Option ω} {P : Option ω → Prop} (I : Nat → σ → Prop) (h0 : ∀ x, ¬ I 0 x) (hs : ∀ (n : Nat) (x : σ) (rec : σ → Option ω), I (n + 1) x → (∀ y, I n y → P (rec y)) → P (body rec x)) (n : Nat) (x : σ) (h : I n x) (hn : n ≤ 20000) : P (Lp_ body FU_ x) := lp_ind I h0 hs n FU_ x h hn
/-! arrays -/
theorem ld_nI {f : Nat → Int32} {n i : Nat} (h : i < n) (hn : n < 2 ^ 31) : ld_I f n (nI i) = some (f i) := by
  unfold ld_I
  rw [if_neg (by have := vp_in_nI h hn; exact this), nI_clamp (by omega)]
theorem st_nI {s : Ob_T} {k n i : Nat} {x : Int32} (h : i < n) (hn : n < 2 ^ 31) : st_A s k n (nI i) x = some (p_A s k (upd (o_A s k) i x)) := by
  unfold st_A
  rw [if_neg (by have := vp_in_nI h hn; exact this), nI_clamp (by omega)]
theorem ld_nJ {f : Nat → Int64} {n i : Nat} (h : i < n) (hn : n < 2 ^ 31) : ld_J f n (nI i) = some (f i) := by
  unfold ld_J
  rw [if_neg (by have := vp_in_nI h hn; exact this), nI_clamp (by omega)]
theorem st_nJ {s : Ob_T} {k n i : Nat} {x : Int64} (h : i < n) (hn : n < 2 ^ 31) : st_L s k n (nI i) x = some (p_L s k (vp_updL (o_L s k) i x)) := by
  unfold st_L
  rw [if_neg (by have := vp_in_nI h hn; exact this), nI_clamp (by omega)]
/-! ints -/
theorem i_lit (n : Nat) : (OfNat.ofNat n : Int32) = nI n := rfl
theorem i_lt (a b : Int32) : a < b ↔ a.toInt < b.toInt := Int32.lt_iff_toInt_lt
theorem i_le (a b : Int32) : a ≤ b ↔ a.toInt ≤ b.toInt := Int32.le_iff_toInt_le
theorem i_eq (a b : Int32) : a = b ↔ a.toInt = b.toInt := Int32.toInt_inj.symm
theorem l_lt (a b : Int64) : a < b ↔ a.toInt < b.toInt := Int64.lt_iff_toInt_lt
theorem l_le (a b : Int64) : a ≤ b ↔ a.toInt ≤ b.toInt := Int64.le_iff_toInt_le
theorem l_eq (a b : Int64) : a = b ↔ a.toInt = b.toInt := Int64.toInt_inj.symm
theorem i_wide (a : Int32) : a.toInt64.toInt = a.toInt := Int32.toInt_toInt64 a
theorem cmp_lt (x y : Int64) : lg_cmp x y < 0 ↔ x.toInt < y.toInt := by
  unfold lg_cmp
  by_cases h : x > y
  · rw [if_pos h]
    have h1 : y.toInt < x.toInt := (l_lt y x).mp h
    constructor
    · intro h2; exact absurd h2 (by decide)
    · intro h2; omega
  · rw [if_neg h]
    have h1 : ¬ y.toInt < x.toInt := fun z => h ((l_lt y x).mpr z)
    by_cases h2 : x = y
    · rw [if_pos h2]
      subst h2
      constructor
      · intro h3; exact absurd h3 (by decide)
      · intro h3; omega
    · rw [if_neg h2]
      have h3 : x.toInt ≠ y.toInt := fun z => h2 ((l_eq x y).mpr z)
      constructor
      · intro _; omega
      · intro _; decide
theorem cmp_gt (x y : Int64) : 0 < lg_cmp x y ↔ y.toInt < x.toInt := by
  unfold lg_cmp
  by_cases h : x > y
  · rw [if_pos h]
    have h1 : y.toInt < x.toInt := (l_lt y x).mp h
    exact ⟨fun _ => h1, fun _ => by decide⟩
  · rw [if_neg h]
    have h1 : ¬ y.toInt < x.toInt := fun z => h ((l_lt y x).mpr z)
    by_cases h2 : x = y
    · rw [if_pos h2]
      exact ⟨fun z => absurd z (by decide), fun z => absurd z h1⟩
    · rw [if_neg h2]
      exact ⟨fun z => absurd z (by decide), fun z => absurd z h1⟩
/-- in(v, least, most) -/
theorem f_in (a b c : Int64) : f_X9_in a b c = some (if b.toInt ≤ a.toInt ∧ a.toInt ≤ c.toInt then 1 else 0) := by
  unfold f_X9_in
  by_cases h1 : a.toInt < b.toInt
  · rw [if_pos ((cmp_lt a b).mpr h1), if_neg (by omega)]
  · rw [if_neg (fun z => h1 ((cmp_lt a b).mp z))]
    by_cases h2 : c.toInt < a.toInt
    · rw [if_pos ((cmp_gt a c).mpr h2), if_neg (by omega)]
    · rw [if_neg (fun z => h2 ((cmp_gt a c).mp z)), if_pos (by omega)]
