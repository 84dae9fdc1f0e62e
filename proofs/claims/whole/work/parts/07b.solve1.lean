/-! the solver's state, told in numbers: what each letter is (below 20000 a number, else 20000 and the least letter that it is alike), and what failed -/
abbrev Sv_ : Type := (Nat → Nat) × List Nat
def vl_ (V : Nat → Nat) (e : Nat) : Nat := if e < 20000 then e else V (e - 20000)
def sb_ (V : Nat → Nat) (r k : Nat) : Nat → Nat := fun l => if V l = 20000 + r then k else V l
def Rs_ (al is : Nat → Int32) (V : Nat → Nat) : Prop := ∃ r : Nat → Nat, (∀ l, l < 14 → r l ≤ l ∧ r (r l) = r l ∧ al l = nI (r l)) ∧ ∀ l, l < 14 → (is (r l) = -1 ∧ V l = 20000 + r l) ∨ ∃ k, k ≤ 9999 ∧ is (r l) = nI k ∧ V l = k
/-- a letter is a number up to 9999, or the least one that it is alike, which is itself -/
def Vk_ (V : Nat → Nat) : Prop := ∀ l, l < 14 → V l ≤ 9999 ∨ ∃ r, r ≤ l ∧ V l = 20000 + r ∧ V r = 20000 + r
theorem rs_vk {al is : Nat → Int32} {V : Nat → Nat} (h : Rs_ al is V) : Vk_ V := by
  obtain ⟨r, h1, h2⟩ := h
  intro l hl
  rcases h2 l hl with ⟨a, b⟩ | ⟨k, hk, a, b⟩
  · right
    have h3 := h1 l hl
    refine ⟨r l, h3.1, b, ?_⟩
    rcases h2 (r l) (by omega) with ⟨a', b'⟩ | ⟨k, hk, a', b'⟩
    · rw [b', h3.2.1]
    · rw [h3.2.1, a] at a'
      exact absurd a'.symm (nI_nm1 (by omega))
  · left; omega
theorem vk_vl {V : Nat → Nat} (h : Vk_ V) {e : Nat} (he : e_ok e) : vl_ V e ≤ 9999 ∨ ∃ r, r < 14 ∧ vl_ V e = 20000 + r ∧ V r = 20000 + r := by
  unfold vl_
  rcases he with he | he
  · rw [if_pos (by omega)]; left; omega
  · rw [if_neg (by omega)]
    rcases h (e - 20000) (by omega) with a | ⟨r, a, b, c⟩
    · left; exact a
    · right; exact ⟨r, by omega, b, c⟩
theorem m_solved {o : Ob_T} {V : Nat → Nat} (h : Rs_ (o_A o 31) (o_A o 32) V) {e : Nat} (he : e_ok e) : f_X9_solved o (nI e) = some (nI (vl_ V e)) := by
  unfold f_X9_solved vl_
  rcases he with he | he
  · rw [if_neg (show ¬ (20000 : Int32) ≤ nI e from nI_ge (b := 20000) (by omega) (by omega)), if_pos (by omega)]
  · obtain ⟨l, rfl⟩ : ∃ l, e = 20000 + l := ⟨e - 20000, by omega⟩
    obtain ⟨r, h1, h2⟩ := h
    have h3 := h1 l (by omega)
    rw [if_pos (show (20000 : Int32) ≤ nI (20000 + l) from nI_le (a := 20000) (by omega) (by omega)), if_neg (by omega)]
    rw [show nI (20000 + l) - 20000 = nI l from (pk_sub (b := 20000) (by omega)).trans (congrArg nI (by omega)), show 20000 + l - 20000 = l by omega]
    rw [ld_nI (by omega) (by omega), Option.bind_some, h3.2.2, ld_nI (by omega) (by omega), Option.bind_some]
    rcases h2 l (by omega) with ⟨a, b⟩ | ⟨k, hk, a, b⟩
    · rw [a, if_neg (by decide), b]
      exact congrArg some (nI_add 20000 (r l))
    · rw [a, if_pos (nI_pos' (by omega)), Option.bind_some, b]
theorem x_value {v : Ob_T} {V : Nat → Nat} (h : Rs_ (o_A v 2) (o_A v 3) V) {e : Nat} (he : e_ok e) : f_X5_valueOf v (nI e) = some (nI (vl_ V e)) := by
  unfold f_X5_valueOf vl_
  rcases he with he | he
  · rw [if_neg (show ¬ (20000 : Int32) ≤ nI e from nI_ge (b := 20000) (by omega) (by omega)), if_pos (by omega)]
  · obtain ⟨l, rfl⟩ : ∃ l, e = 20000 + l := ⟨e - 20000, by omega⟩
    obtain ⟨r, h1, h2⟩ := h
    have h3 := h1 l (by omega)
    rw [if_pos (show (20000 : Int32) ≤ nI (20000 + l) from nI_le (a := 20000) (by omega) (by omega)), if_neg (by omega)]
    rw [show nI (20000 + l) - 20000 = nI l from (pk_sub (b := 20000) (by omega)).trans (congrArg nI (by omega)), show 20000 + l - 20000 = l by omega]
    rw [ld_nI (by omega) (by omega), Option.bind_some, h3.2.2, ld_nI (by omega) (by omega), Option.bind_some]
    rcases h2 l (by omega) with ⟨a, b⟩ | ⟨k, hk, a, b⟩
    · rw [a, if_pos rfl, b]
      exact congrArg some (nI_add 20000 (r l))
    · rw [a, if_neg (nI_nm1 (by omega)), Option.bind_some, b]
theorem rs_root {r : Nat → Nat} {al is : Nat → Int32} {V : Nat → Nat} (h1 : ∀ l, l < 14 → r l ≤ l ∧ r (r l) = r l ∧ al l = nI (r l)) (h2 : ∀ l, l < 14 → (is (r l) = -1 ∧ V l = 20000 + r l) ∨ ∃ k, k ≤ 9999 ∧ is (r l) = nI k ∧ V l = k) {a : Nat} (ha : a < 14) (hV : V a = 20000 + a) : r a = a ∧ is a = -1 := by
  rcases h2 a ha with ⟨p, q⟩ | ⟨k, hk, p, q⟩
  · have : r a = a := by omega
    rw [this] at p
    exact ⟨this, p⟩
  · omega
theorem rs_set {al is : Nat → Int32} {V : Nat → Nat} (h : Rs_ al is V) {a k : Nat} (ha : a < 14) (hV : V a = 20000 + a) (hk : k ≤ 9999) : Rs_ al (upd is a (nI k)) (sb_ V a k) := by
  obtain ⟨r, h1, h2⟩ := h
  obtain ⟨ra, ia⟩ := rs_root h1 h2 ha hV
  refine ⟨r, h1, fun l hl => ?_⟩
  unfold sb_
  rw [updE]
  rcases h2 l hl with ⟨p, q⟩ | ⟨k', hk', p, q⟩
  · by_cases hr : r l = a
    · right
      exact ⟨k, hk, by rw [if_pos hr], by rw [if_pos (by omega)]⟩
    · left
      exact ⟨by rw [if_neg hr]; exact p, by rw [if_neg (by omega)]; exact q⟩
  · right
    refine ⟨k', hk', ?_, by rw [if_neg (by omega)]; exact q⟩
    rw [if_neg]
    · exact p
    · intro z
      rw [z, ia] at p
      exact nI_nm1 (by omega) p.symm
theorem rs_same {al al' is is' : Nat → Int32} {V V' : Nat → Nat} (h : Rs_ al is V) (e1 : ∀ l, l < 14 → al' l = al l) (e2 : ∀ l, l < 14 → is' l = is l) (e3 : ∀ l, l < 14 → V' l = V l) : Rs_ al' is' V' := by
  obtain ⟨r, h1, h2⟩ := h
  refine ⟨r, fun l hl => ⟨(h1 l hl).1, (h1 l hl).2.1, (e1 l hl).trans (h1 l hl).2.2⟩, fun l hl => ?_⟩
  have h3 := (h1 l hl).1
  rw [e2 (r l) (by omega), e3 l hl]
  exact h2 l hl
theorem rs_merge {al al' is : Nat → Int32} {V : Nat → Nat} (h : Rs_ al is V) {a b : Nat} (hab : a < b) (hb : b < 14) (ha : V a = 20000 + a) (hV : V b = 20000 + b) (e : ∀ l, l < 14 → al' l = if al l = nI b then nI a else al l) : Rs_ al' is (sb_ V b (20000 + a)) := by
  obtain ⟨r, h1, h2⟩ := h
  obtain ⟨ra, ia⟩ := rs_root h1 h2 (by omega) ha
  obtain ⟨rb, ib⟩ := rs_root h1 h2 hb hV
  refine ⟨fun l => if r l = b then a else r l, fun l hl => ?_, fun l hl => ?_⟩
  · have h3 := h1 l hl
    rw [e l hl, h3.2.2]
    by_cases c : r l = b
    · simp only [if_pos c]
      refine ⟨by omega, ?_, ?_⟩
      · rw [if_neg (by omega)]; exact ra
      · rw [if_pos (by rw [c])]
    · simp only [if_neg c]
      refine ⟨h3.1, ?_, ?_⟩
      · rw [if_neg (by omega)]; exact h3.2.1
      · rw [if_neg (fun z => c ((nI_eq (by omega) (by omega)).mp z))]
  · have h3 := h1 l hl
    unfold sb_
    by_cases c : r l = b
    · simp only [if_pos c]
      rcases h2 l hl with ⟨p, q⟩ | ⟨k', hk', p, q⟩
      · left
        exact ⟨ia, by rw [if_pos (by omega)]⟩
      · rw [c, ib] at p
        exact absurd p.symm (nI_nm1 (by omega))
    · simp only [if_neg c]
      rcases h2 l hl with ⟨p, q⟩ | ⟨k', hk', p, q⟩
      · left
        exact ⟨p, by rw [if_neg (by omega)]; exact q⟩
      · right
        exact ⟨k', hk', p, by rw [if_neg (by omega)]; exact q⟩
/-- replacing b by a at the places below i -/
def mk_ (f : Nat → Int32) (a b : Int32) (i : Nat) : Nat → Int32 := fun l => if l < i ∧ f l = b then a else f l
theorem mk_0 (f : Nat → Int32) (a b : Int32) : mk_ f a b 0 = f := by
  funext l
  unfold mk_
  rw [if_neg (by omega)]
theorem mk_s1 (f : Nat → Int32) (a b : Int32) (i : Nat) (h : f i = b) : upd (mk_ f a b i) i a = mk_ f a b (i + 1) := by
  funext l
  rw [updE]
  unfold mk_
  by_cases hl : l = i
  · subst hl
    rw [if_pos rfl, if_pos ⟨by omega, h⟩]
  · rw [if_neg hl]
    by_cases h2 : l < i ∧ f l = b
    · rw [if_pos h2, if_pos ⟨by omega, h2.2⟩]
    · rw [if_neg h2, if_neg (fun z => h2 ⟨by omega, z.2⟩)]
theorem mk_s2 (f : Nat → Int32) (a b : Int32) (i : Nat) (h : ¬ f i = b) : mk_ f a b i = mk_ f a b (i + 1) := by
  funext l
  unfold mk_
  by_cases hl : l = i
  · subst hl
    rw [if_neg (by omega), if_neg (fun z => h z.2)]
  · by_cases h2 : l < i ∧ f l = b
    · rw [if_pos h2, if_pos ⟨by omega, h2.2⟩]
    · rw [if_neg h2, if_neg (fun z => h2 ⟨by omega, z.2⟩)]
theorem mk_i (f : Nat → Int32) (a b : Int32) (i : Nat) : mk_ f a b i i = f i := by
  unfold mk_
  rw [if_neg (by omega)]
theorem upd_self (f : Nat → Int32) (i : Nat) : upd f i (f i) = f := by
  funext l
  rw [updE]
  by_cases h : l = i
  · rw [if_pos h, h]
  · rw [if_neg h]
theorem x_alike (v : Ob_T) (a b : Int32) : f_X5_makeAlike v a b = some (p_A v 2 (mk_ (o_A v 2) a b 14)) := by
  unfold f_X5_makeAlike
  refine lp_fu (P := fun r => r = some (p_A v 2 (mk_ (o_A v 2) a b 14))) (fun n x => ∃ i, i ≤ 14 ∧ n = 14 - i + 1 ∧ x = (a, b, nI i, p_A v 2 (mk_ (o_A v 2) a b i))) ?_ ?_ (14 - 0 + 1) _ ⟨0, by omega, rfl, by rw [mk_0, pA_self]; rfl⟩ (by omega)
  · rintro x ⟨i, h1, h2, -⟩
    omega
  · rintro n x rec ⟨i, h1, h2, rfl⟩ hr
    unfold f_X5_makeAlike_L2
    by_cases he : i = 14
    · subst he
      rw [if_pos (show (14 : Int32) ≤ nI 14 from Int32.le_refl _)]
    · rw [if_neg (show ¬ (14 : Int32) ≤ nI i from nI_ge (b := 14) (by omega) (by omega))]
      show (ld_I (mk_ (o_A v 2) a b i) 14 (nI i)).bind _ = _
      rw [ld_nI (by omega) (by omega), Option.bind_some, mk_i]
      by_cases hc : o_A v 2 i = b
      · rw [if_pos hc]
        show (st_A (p_A v 2 (mk_ (o_A v 2) a b i)) 2 14 (nI i) a).bind _ = _
        rw [st_nI (by omega) (by omega), Option.bind_some]
        refine hr _ ⟨i + 1, by omega, by omega, ?_⟩
        rw [pA_pA, oA_pA, if_pos rfl, mk_s1 _ _ _ _ hc, nI_1]
      · rw [if_neg hc]
        refine hr _ ⟨i + 1, by omega, by omega, ?_⟩
        rw [mk_s2 _ _ _ _ hc, nI_1]
theorem m_alikeJ (o : Ob_T) (a b : Int32) : f_X9_becomeAlike_J21 a b o = some (p_A o 31 (mk_ (o_A o 31) a b 14)) := by
  unfold f_X9_becomeAlike_J21
  refine lp_fu (P := fun r => r = some (p_A o 31 (mk_ (o_A o 31) a b 14))) (fun n x => ∃ i, i ≤ 14 ∧ n = 14 - i + 1 ∧ x = (a, b, nI i, p_A o 31 (mk_ (o_A o 31) a b i))) ?_ ?_ (14 - 0 + 1) _ ⟨0, by omega, rfl, by rw [mk_0, pA_self]; rfl⟩ (by omega)
  · rintro x ⟨i, h1, h2, -⟩
    omega
  · rintro n x rec ⟨i, h1, h2, rfl⟩ hr
    unfold f_X9_becomeAlike_L26
    by_cases he : i = 14
    · subst he
      rw [if_pos (show (14 : Int32) ≤ nI 14 from Int32.le_refl _)]
    · rw [if_neg (show ¬ (14 : Int32) ≤ nI i from nI_ge (b := 14) (by omega) (by omega))]
      show (ld_I (mk_ (o_A o 31) a b i) 14 (nI i)).bind _ = _
      rw [ld_nI (by omega) (by omega), Option.bind_some, mk_i]
      by_cases hc : o_A o 31 i = b
      · rw [if_pos hc]
        unfold f_X9_becomeAlike_J62
        rw [st_nI (by omega) (by omega), Option.bind_some]
        refine hr _ ⟨i + 1, by omega, by omega, ?_⟩
        show (a, b, nI i + 1, p_A (p_A o 31 (mk_ (o_A o 31) a b i)) 31 (upd (mk_ (o_A o 31) a b i) i a)) = _
        rw [pA_pA, mk_s1 _ _ _ _ hc, nI_1]
      · rw [if_neg hc]
        show (ld_I (mk_ (o_A o 31) a b i) 14 (nI i)).bind _ = _
        rw [ld_nI (by omega) (by omega), Option.bind_some]
        unfold f_X9_becomeAlike_J62
        rw [st_nI (by omega) (by omega), Option.bind_some]
        refine hr _ ⟨i + 1, by omega, by omega, ?_⟩
        show (a, b, nI i + 1, p_A (p_A o 31 (mk_ (o_A o 31) a b i)) 31 (upd (mk_ (o_A o 31) a b i) i (mk_ (o_A o 31) a b i i))) = _
        rw [pA_pA, upd_self, mk_s2 _ _ _ _ hc, nI_1]
theorem m_alike (o : Ob_T) {a b : Nat} (ha : a < 14) (hb : b < 14) : f_X9_becomeAlike o (nI a) (nI b) = some (p_A o 31 (mk_ (o_A o 31) (nI (min a b)) (nI (max a b)) 14)) := by
  unfold f_X9_becomeAlike f_X9_becomeAlike_J10
  by_cases h : b ≤ a
  · rw [if_pos (nI_le h (by omega)), if_pos (nI_le h (by omega)), m_alikeJ, show min a b = b by omega, show max a b = a by omega]
  · rw [if_neg (nI_ge (by omega) (by omega)), if_neg (nI_ge (by omega) (by omega)), m_alikeJ, show min a b = a by omega, show max a b = b by omega]
