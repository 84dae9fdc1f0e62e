section
variable {t o n : Ob_T} {c : Nat → Nat} {L s e k m : Nat}
def Ev_ (v : Nat) : Prop := v ≤ 9 ∨ (20000 ≤ v ∧ v < 20004)
/-- m extents of node k are told, by E -/
def NE_ (n0 n : Ob_T) (k m : Nat) (E : Nat → Nat) : Prop := Fr_ [4, 5] n0 n ∧ o_A n 4 k = nI m ∧ (∀ i, ¬ i = k → o_A n 4 i = o_A n0 4 i) ∧ (∀ l, (l < 6 * k ∨ 6 * k + 6 ≤ l) → o_A n 5 l = o_A n0 5 l) ∧ ∀ j, j < m → o_A n 5 (6 * k + j) = nI (E j) ∧ Ev_ (E j)
def OE_ (o0 o : Ob_T) (k m : Nat) (E : Nat → Nat) : Prop := Fr_ OF_ o0 o ∧ (∀ l, (l < 15 * k + 4 ∨ 15 * k + 8 ≤ l) → o_A o 1 l = o_A o0 1 l) ∧ o_A o 1 (15 * k + 4) = nI m ∧ ∀ j, j < m → o_A o 1 (15 * k + 5 + j) = nI (E j)
theorem x_plain (h : To2_ t o c L s e) : f_X6_isPlainLetter t = some (if s < L ∧ so_ (c s) = 1 ∧ e - s = 1 ∧ 117 ≤ c s ∧ c s ≤ 120 then 1 else 0) := by
  obtain ⟨⟨hL, t1, o1, hc⟩, htk, t3, t4, t5, o18, o19⟩ := h
  have hle := tk_le htk
  unfold f_X6_isPlainLetter
  rw [t3, t4, t5]
  unfold ts_
  by_cases hs : s < L
  · have hb := (hc s hs).1
    rw [if_pos hs, pk_sub hle.1, ld_nI (by omega) (by omega), Option.bind_some, Option.bind_some, (hc s hs).2.1]
    have s3 : so_ (c s) ≤ 3 := by rcases so_123 (c s) with q | q | q <;> omega
    by_cases q1 : so_ (c s) = 1
    · rw [if_pos (show nI (so_ (c s)) = 1 by rw [q1]; rfl)]
      by_cases q2 : e - s = 1
      · rw [if_pos (show nI (e - s) = 1 by rw [q2]; rfl)]
        by_cases q3 : 117 ≤ c s
        · rw [if_neg (show ¬ nI (c s) < 117 from fun z => by have := (nI_ltI (b := 117) (by omega) (by omega)).mp z; omega)]
          by_cases q4 : c s ≤ 120
          · rw [if_neg (show ¬ (120 : Int32) < nI (c s) from fun z => by have := (nI_ltI (a := 120) (by omega) (by omega)).mp z; omega), if_pos (show s < L ∧ so_ (c s) = 1 ∧ e - s = 1 ∧ 117 ≤ c s ∧ c s ≤ 120 from ⟨hs, q1, q2, q3, q4⟩)]
          · rw [if_pos (show (120 : Int32) < nI (c s) from nI_lt (a := 120) (by omega) (by omega)), if_neg (show ¬ (s < L ∧ so_ (c s) = 1 ∧ e - s = 1 ∧ 117 ≤ c s ∧ c s ≤ 120) from fun z => q4 z.2.2.2.2)]
        · rw [if_pos (show nI (c s) < 117 from nI_lt (b := 117) (by omega) (by omega)), if_neg (show ¬ (s < L ∧ so_ (c s) = 1 ∧ e - s = 1 ∧ 117 ≤ c s ∧ c s ≤ 120) from fun z => q3 z.2.2.2.1)]
      · rw [if_neg (show ¬ nI (e - s) = 1 from fun z => q2 ((nI_eq (b := 1) (by omega) (by omega)).mp z)), if_neg (show ¬ (s < L ∧ so_ (c s) = 1 ∧ e - s = 1 ∧ 117 ≤ c s ∧ c s ≤ 120) from fun z => q2 z.2.2.1)]
    · rw [if_neg (show ¬ nI (so_ (c s)) = 1 from fun z => q1 ((nI_eq (b := 1) (by omega) (by omega)).mp z)), if_neg (show ¬ (s < L ∧ so_ (c s) = 1 ∧ e - s = 1 ∧ 117 ≤ c s ∧ c s ≤ 120) from fun z => q1 z.2.1)]
  · rw [if_neg hs, if_neg (show ¬ nI 0 = 1 by decide), if_neg (show ¬ (s < L ∧ so_ (c s) = 1 ∧ e - s = 1 ∧ 117 ≤ c s ∧ c s ≤ 120) from fun z => hs z.1)]
theorem x_tell {n0 : Ob_T} {E : Nat → Nat} (hk : k < 10) (hm : m < 3) (h : NE_ n0 n k m E) (h6 : o_F n0 6 = nI (k + 1)) {v : Nat} (hv : Ev_ v) : ∃ n', f_X1_tell n (nI v) = some n' ∧ NE_ n0 n' k (m + 1) (fun j => if j = m then v else E j) := by
  obtain ⟨F, h1, h2, h3, h4⟩ := h
  unfold f_X1_tell
  have e6 : o_F n 6 - 1 = nI k := by rw [(F 6 (by decide)).1, h6, show (1 : Int32) = nI 1 from rfl, pk_sub (by omega)]; rfl
  rw [e6, if_neg (nI_pos (by omega)), ld_nI (by omega) (by omega), Option.bind_some, h1, if_pos (show nI m < 3 from nI_lt (b := 3) hm (by omega)), Option.bind_some, y_one (by omega) (by omega), Option.bind_some]
  dsimp only
  rw [show o_A (p_A n 5 (upd (o_A n 5) (6 * k + m) (nI v))) 4 = o_A n 4 from rfl, ld_nI (by omega) (by omega), Option.bind_some, h1, st_nI (by omega) (by omega), Option.bind_some, nI_1]
  refine ⟨_, rfl, fr_tr F (fr_tr (fr_pA (by decide)) (fr_pA (by decide))), ?_, fun i hi => ?_, fun l hl => ?_, fun j hj => ?_⟩
  · show upd (o_A n 4) k (nI (m + 1)) k = _
    rw [updE, if_pos rfl]
  · show upd (o_A n 4) k (nI (m + 1)) i = _
    rw [updE, if_neg hi]
    exact h2 i hi
  · show upd (o_A n 5) (6 * k + m) (nI v) l = _
    rw [updE, if_neg (by omega)]
    exact h3 l hl
  · show upd (o_A n 5) (6 * k + m) (nI v) (6 * k + j) = nI (if j = m then v else E j) ∧ Ev_ (if j = m then v else E j)
    rw [updE]
    by_cases q : j = m
    · rw [if_pos (by omega), if_pos q]; exact ⟨rfl, hv⟩
    · rw [if_neg (by omega), if_neg q]; exact h4 j (by omega)
/-- the reference puts one extent more -/
theorem m_tell {o0 : Ob_T} {E : Nat → Nat} (hk : k < 10) (hm : m < 3) (h : OE_ o0 o k m E) (v : Nat) {o2 : Ob_T} (hf : Fr_ [18, 19] (p_A o 1 (upd (o_A o 1) (15 * k + 5 + m) (nI v))) o2) : OE_ o0 (p_A o2 1 (upd (o_A o2 1) (15 * k + 4) (nI (m + 1)))) k (m + 1) (fun j => if j = m then v else E j) := by
  obtain ⟨F, h1, h2, h3⟩ := h
  have ef : o_A o2 1 = upd (o_A o 1) (15 * k + 5 + m) (nI v) := (hf 1 (by decide)).2
  refine ⟨fr_tr F (fr_tr (fr_pA (by decide)) (fr_tr (fr_mono hf (by decide)) (fr_pA (by decide)))), fun l hl => ?_, ?_, fun j hj => ?_⟩
  · show upd _ (15 * k + 4) (nI (m + 1)) l = _
    rw [updE, if_neg (by omega), ef, updE, if_neg (by omega)]
    exact h1 l hl
  · show upd _ (15 * k + 4) (nI (m + 1)) (15 * k + 4) = _
    rw [updE, if_pos rfl]
  · show upd _ (15 * k + 4) (nI (m + 1)) (15 * k + 5 + j) = nI (if j = m then v else E j)
    rw [updE, if_neg (by omega), ef, updE]
    by_cases q : j = m
    · rw [if_pos (by omega), if_pos q]
    · rw [if_neg (by omega), if_neg q]; exact h3 j (by omega)
theorem m_isEnd (h : To2_ t o c L s e) : f_X9_isEnd o = some (if s = L ∨ c s = 59 then 1 else 0) := by
  obtain ⟨⟨hL, t1, o1, hc⟩, htk, t3, t4, t5, o18, o19⟩ := h
  have hle := tk_le htk
  unfold f_X9_isEnd
  rw [o18, o1]
  by_cases hs : s = L
  · rw [if_pos (show nI s = nI L by rw [hs]), if_pos (show s = L ∨ c s = 59 from Or.inl hs)]
  · have hs2 : s < L := by omega
    have hb := (hc s hs2).1
    rw [if_neg (show ¬ nI s = nI L from fun z => hs ((nI_eq (by omega) (by omega)).mp z)), ld_nI (by omega) (by omega), Option.bind_some, (hc s hs2).2.2]
    by_cases q : c s = 59
    · rw [if_pos (show nI (c s) = 59 by rw [q]; rfl), if_pos (show s = L ∨ c s = 59 from Or.inr q)]
    · rw [if_neg (show ¬ nI (c s) = 59 from fun z => q ((nI_eq (b := 59) (by omega) (by omega)).mp z)), if_neg (show ¬ (s = L ∨ c s = 59) from fun z => by rcases z with z | z; exact hs z; exact q z)]
end
