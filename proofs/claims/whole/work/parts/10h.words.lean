/-- the words' letters, by kind; 7 is the word that begins anew -/
def wl_ (k : Nat) : List Nat := if k = 0 then [115, 104, 97, 112, 101] else if k = 1 then [101, 97, 99, 104] else if k = 2 then [106, 111, 105, 110] else if k = 3 then [116, 117, 114, 110] else if k = 4 then [102, 111, 108, 100] else if k = 5 then [114, 97, 118, 101, 108] else if k = 6 then [102, 111, 114, 109] else [112, 114, 111, 103, 114, 97, 109]
def wc_ (k i : Nat) : Nat := (wl_ k).getD i 0
def wz_ (k : Nat) : Nat := (wl_ k).length
/-- the class's wordOf: letters and length -/
def sw_ (x : Int32) : Nat := if x = 0 then 0 else if x = 1 then 1 else if x = 2 then 2 else if x = 3 then 3 else if x = 4 then 4 else if x = 5 then 5 else if x = 6 then 6 else 7
def f_X6_isWord_L15 (rec15 : Int32 → Option Int32) (x2 : Int32) (s_t : Ob_T) (f1 : Nat → Int32) (z1 : Nat) : Option Int32 :=
  if (Int32.ofNat z1) ≤ x2 then
  (some (1 : Int32))
  else
  ((ld_I f1 z1 x2).bind fun v1 =>
  (ld_I (o_A s_t 0) 200 ((o_F s_t 4) + x2)).bind fun v2 =>
  if v1 = v2 then
  (rec15 (x2 + (1 : Int32)))
  else
  (some (0 : Int32)))
def f_X6_isWord (s_t : Ob_T) (f1 : Nat → Int32) (z1 : Nat) : Option Int32 :=
  if (Int32.ofNat z1) = ((o_F s_t 5) - (o_F s_t 4)) then
  (Lp_ (fun (rec : Int32 → Option Int32) x => f_X6_isWord_L15 rec x s_t f1 z1) FU_ (0 : Int32))
  else
  (some (0 : Int32))
def f_X6_kindOfWord_L10 (rec10 : Int32 → Option Int32) (x1 : Int32) (s_t : Ob_T) : Option Int32 :=
  if (7 : Int32) < x1 then
  (some (-1 : Int32))
  else
  ((f_X6_isWord s_t (fun i => nI (wc_ (sw_ x1) i)) (wz_ (sw_ x1))).bind fun u1 =>
  if u1 = (0 : Int32) then
  (rec10 (x1 + (1 : Int32)))
  else
  (some x1))
def f_X6_kindOfWord (s_t : Ob_T) : Option Int32 :=
  if (o_F s_t 3) = (1 : Int32) then
  (Lp_ (fun (rec : Int32 → Option Int32) x => f_X6_kindOfWord_L10 rec x s_t) FU_ (0 : Int32))
  else
  (some (-1 : Int32))
section
variable {t o : Ob_T} {c : Nat → Nat} {L s e : Nat}
/-- the token is the word k -/
def Mq_ (c : Nat → Nat) (s e k : Nat) : Prop := e - s = wz_ k ∧ ∀ i, i < wz_ k → c (s + i) = wc_ k i
theorem wz_le : ∀ k, k < 8 → 4 ≤ wz_ k ∧ wz_ k ≤ 7 := by decide
theorem wc_so : ∀ k, k < 8 → so_ (wc_ k 0) = 1 := by decide
theorem wd_ne : ∀ k, k < 8 → ∀ k', k' < 8 → ¬ k = k' → wz_ k = wz_ k' → ∃ i, i < wz_ k ∧ ¬ wc_ k i = wc_ k' i := by decide
theorem mq_u {k k' : Nat} (hk : k < 8) (hk' : k' < 8) (h : Mq_ c s e k) (h' : Mq_ c s e k') : k = k' := by
  by_cases q : k = k'
  · exact q
  · obtain ⟨i, h1, h2⟩ := wd_ne k hk k' hk' q (by rw [← h.1, ← h'.1])
    exact absurd ((h.2 i h1).symm.trans (h'.2 i (by rw [← h'.1, h.1]; exact h1))) h2
theorem mq_so (h : Tk_ c L s e) {k : Nat} (hk : k < 8) (hm : Mq_ c s e k) : s < L ∧ so_ (c s) = 1 := by
  have z := wz_le k hk
  have h1 := hm.1
  rcases h with ⟨h2, h3⟩ | ⟨h2, -⟩
  · omega
  · exact ⟨h2, by have := hm.2 0 (by omega); rw [Nat.add_zero] at this; rw [this]; exact wc_so k hk⟩
theorem x_isWord (h : To2_ t o c L s e) (hs : s < L) {k : Nat} (hk : k < 8) : (Mq_ c s e k ∧ f_X6_isWord t (fun i => nI (wc_ k i)) (wz_ k) = some 1) ∨ (¬ Mq_ c s e k ∧ f_X6_isWord t (fun i => nI (wc_ k i)) (wz_ k) = some 0) := by
  obtain ⟨⟨hL, t1, o1, hc⟩, htk, t3, t4, t5, o18, o19⟩ := h
  have hle := tk_le htk
  have z := wz_le k hk
  have wc : ∀ i, i < wz_ k → wc_ k i < 256 := by
    intro i hi
    have fin : ∀ k, k < 8 → ∀ i, i < 8 → wc_ k i < 256 := by decide
    exact fin k hk i (by omega)
  unfold f_X6_isWord
  rw [t4, t5, pk_sub hle.1]
  by_cases q : e - s = wz_ k
  · rw [if_pos (show Int32.ofNat (wz_ k) = nI (e - s) by rw [q]; rfl)]
    by_cases m : ∀ i, i < wz_ k → c (s + i) = wc_ k i
    · refine Or.inl ⟨⟨q, m⟩, ?_⟩
      refine lp_fu (P := fun r => r = some 1) (fun f x => ∃ i, i ≤ wz_ k ∧ f = wz_ k - i + 1 ∧ x = nI i) ?_ ?_ (wz_ k - 0 + 1) _ ⟨0, by omega, rfl, rfl⟩ (by omega)
      · rintro x ⟨i, h1, h2, -⟩
        omega
      · rintro f x rec ⟨i, hi, hf, rfl⟩ hr
        unfold f_X6_isWord_L15
        by_cases e1 : i = wz_ k
        · rw [if_pos (show Int32.ofNat (wz_ k) ≤ nI i by rw [e1]; exact Int32.le_refl _)]
        · rw [if_neg (show ¬ Int32.ofNat (wz_ k) ≤ nI i from nI_ge (by omega) (by omega)), ld_nI (by omega) (by omega), Option.bind_some, t4, nI_add, ld_nI (by omega) (by omega), Option.bind_some, (hc (s + i) (by omega)).2.1, m i (by omega), if_pos rfl, nI_1]
          exact hr _ ⟨i + 1, by omega, by omega, rfl⟩
    · refine Or.inr ⟨fun w => m w.2, ?_⟩
      refine lp_fu (P := fun r => r = some 0) (fun f x => ∃ i, i ≤ wz_ k ∧ f = wz_ k - i + 1 ∧ x = nI i ∧ ∀ j, j < i → c (s + j) = wc_ k j) ?_ ?_ (wz_ k - 0 + 1) _ ⟨0, by omega, rfl, rfl, fun j hj => by omega⟩ (by omega)
      · rintro x ⟨i, h1, h2, -⟩
        omega
      · rintro f x rec ⟨i, hi, hf, rfl, hj⟩ hr
        unfold f_X6_isWord_L15
        by_cases e1 : i = wz_ k
        · subst e1
          exact absurd hj m
        · have := (hc (s + i) (by omega)).1
          rw [if_neg (show ¬ Int32.ofNat (wz_ k) ≤ nI i from nI_ge (by omega) (by omega)), ld_nI (by omega) (by omega), Option.bind_some, t4, nI_add, ld_nI (by omega) (by omega), Option.bind_some, (hc (s + i) (by omega)).2.1, nI_1]
          by_cases e2 : c (s + i) = wc_ k i
          · rw [e2, if_pos rfl]
            exact hr _ ⟨i + 1, by omega, by omega, rfl, fun j h => by
              by_cases ej : j = i
              · rw [ej]; exact e2
              · exact hj j (by omega)⟩
          · rw [if_neg (fun w => e2 ((nI_eq (by omega) (by have := wc i (by omega); omega)).mp w.symm))]
  · rw [if_neg (show ¬ Int32.ofNat (wz_ k) = nI (e - s) from fun w => q ((nI_eq (by omega) (by omega)).mp w.symm))]
    exact Or.inr ⟨fun w => q w.1, rfl⟩
theorem m_isWord (h : To2_ t o c L s e) {k z : Nat} (hk : k < 8) (ez : z = wz_ k) {f : Nat → Int32} (hf : ∀ i, i < wz_ k → f i = nI (wc_ k i)) : (Mq_ c s e k ∧ f_X9_isWord o f z = some 1) ∨ (¬ Mq_ c s e k ∧ f_X9_isWord o f z = some 0) := by
  subst ez
  obtain ⟨⟨hL, t1, o1, hc⟩, htk, t3, t4, t5, o18, o19⟩ := h
  have hle := tk_le htk
  have z := wz_le k hk
  have wc : ∀ i, i < wz_ k → wc_ k i < 256 := by
    intro i hi
    have fin : ∀ k, k < 8 → ∀ i, i < 8 → wc_ k i < 256 := by decide
    exact fin k hk i (by omega)
  unfold f_X9_isWord f_X9_isWord_J19
  rw [o18, o19, pk_sub hle.1]
  by_cases q : e - s = wz_ k
  · rw [if_pos (show nI (e - s) = Int32.ofNat (wz_ k) by rw [q]; rfl)]
    have loop : ∀ r i fu, r = wz_ k - i → i ≤ wz_ k → r < fu → (∀ j, j < i → c (s + j) = wc_ k j) → (Mq_ c s e k ∧ Lp_ (fun (rec : (Int32 × Int32) → Option Int32) x => f_X9_isWord_L22 rec x.1 x.2 o f (wz_ k)) fu (1, nI i) = some 1) ∨ (¬ Mq_ c s e k ∧ Lp_ (fun (rec : (Int32 × Int32) → Option Int32) x => f_X9_isWord_L22 rec x.1 x.2 o f (wz_ k)) fu (1, nI i) = some 0) := by
      intro r
      induction r with
      | zero =>
        intro i fu hr hi hfu hj
        obtain ⟨fu, rfl⟩ : ∃ f, fu = f + 1 := ⟨fu - 1, by omega⟩
        have : i = wz_ k := by omega
        subst this
        refine Or.inl ⟨⟨q, hj⟩, ?_⟩
        rw [Lp_s]
        unfold f_X9_isWord_L22
        dsimp only
        rw [if_pos (show Int32.ofNat (wz_ k) ≤ nI (wz_ k) from Int32.le_refl _)]
        rfl
      | succ r ih =>
        intro i fu hr hi hfu hj
        obtain ⟨fu, rfl⟩ : ∃ f, fu = f + 1 := ⟨fu - 1, by omega⟩
        rw [Lp_s]
        have ihn := ih (i + 1) fu
        have b1 := (hc (s + i) (by omega)).1
        have b2 := wc i (by omega)
        by_cases e2 : c (s + i) = wc_ k i
        · have st : f_X9_isWord_L22 (Lp_ (fun (rec : (Int32 × Int32) → Option Int32) x => f_X9_isWord_L22 rec x.1 x.2 o f (wz_ k)) fu) 1 (nI i) o f (wz_ k) = Lp_ (fun (rec : (Int32 × Int32) → Option Int32) x => f_X9_isWord_L22 rec x.1 x.2 o f (wz_ k)) fu (1, nI (i + 1)) := by
            generalize Lp_ (fun (rec : (Int32 × Int32) → Option Int32) x => f_X9_isWord_L22 rec x.1 x.2 o f (wz_ k)) fu = rc
            unfold f_X9_isWord_L22
            rw [if_neg (show ¬ Int32.ofNat (wz_ k) ≤ nI i from nI_ge (by omega) (by omega)), if_neg n_10, o18, nI_add, ld_nI (by omega) (by omega), Option.bind_some, ld_nI (by omega) (by omega), Option.bind_some, (hc (s + i) (by omega)).2.2, hf i (by omega), e2, if_pos rfl, nI_1]
          dsimp only
          rw [st]
          exact ihn (by omega) (by omega) (by omega) (fun j h => by
            by_cases ej : j = i
            · rw [ej]; exact e2
            · exact hj j (by omega))
        · refine Or.inr ⟨fun w => e2 (w.2 i (by omega)), ?_⟩
          obtain ⟨fu, rfl⟩ : ∃ f, fu = f + 1 := ⟨fu - 1, by omega⟩
          have st : ∀ rc, f_X9_isWord_L22 rc 1 (nI i) o f (wz_ k) = rc (0, nI (i + 1)) := by
            intro rc
            unfold f_X9_isWord_L22
            rw [if_neg (show ¬ Int32.ofNat (wz_ k) ≤ nI i from nI_ge (by omega) (by omega)), if_neg n_10, o18, nI_add, ld_nI (by omega) (by omega), Option.bind_some, ld_nI (by omega) (by omega), Option.bind_some, (hc (s + i) (by omega)).2.2, hf i (by omega), if_neg (fun w => e2 ((nI_eq (by omega) (by omega)).mp w)), nI_1]
          dsimp only
          rw [st, Lp_s]
          unfold f_X9_isWord_L22
          dsimp only
          by_cases q2 : Int32.ofNat (wz_ k) ≤ nI (i + 1)
          · rw [if_pos q2]; rfl
          · rw [if_neg q2, if_pos rfl]; rfl
    exact loop (wz_ k) 0 FU_ (by omega) (by omega) (by unfold FU_; omega) (fun j hj => by omega)
  · rw [if_neg (show ¬ nI (e - s) = Int32.ofNat (wz_ k) from fun w => q ((nI_eq (by omega) (by omega)).mp w))]
    refine Or.inr ⟨fun w => q w.1, ?_⟩
    rw [lp_u]
    unfold f_X9_isWord_L22
    dsimp only
    by_cases q2 : Int32.ofNat (wz_ k) ≤ 0
    · rw [if_pos q2]; rfl
    · rw [if_neg q2, if_pos rfl]; rfl
end
