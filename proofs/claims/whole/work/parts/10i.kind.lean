section
variable {t o : Ob_T} {c : Nat → Nat} {L s e : Nat}
theorem sw_nI : ∀ k, k < 8 → sw_ (nI k) = k := by decide
/-- the class's kind of the word -/
theorem x_kind (h : To2_ t o c L s e) : (∃ k, k < 8 ∧ Mq_ c s e k ∧ f_X6_kindOfWord t = some (nI k)) ∨ ((∀ k, k < 8 → ¬ Mq_ c s e k) ∧ f_X6_kindOfWord t = some (-1)) := by
  have h' := h
  obtain ⟨⟨hL, t1, o1, hc⟩, htk, t3, t4, t5, o18, o19⟩ := h'
  unfold f_X6_kindOfWord
  rw [t3]
  unfold ts_
  by_cases hs : s < L
  · rw [if_pos hs]
    by_cases q : so_ (c s) = 1
    · rw [if_pos (show nI (so_ (c s)) = 1 by rw [q]; rfl)]
      refine lp_fu (P := fun r => (∃ k, k < 8 ∧ Mq_ c s e k ∧ r = some (nI k)) ∨ ((∀ k, k < 8 → ¬ Mq_ c s e k) ∧ r = some (-1))) (fun f x => ∃ k, k ≤ 8 ∧ f = 8 - k + 1 ∧ x = nI k ∧ ∀ k', k' < k → ¬ Mq_ c s e k') ?_ ?_ (8 - 0 + 1) _ ⟨0, by omega, rfl, rfl, fun k' hk' => by omega⟩ (by omega)
      · rintro x ⟨k, h1, h2, -⟩
        omega
      · rintro f x rec ⟨k, hk, hf, rfl, hno⟩ hr
        unfold f_X6_kindOfWord_L10
        by_cases e8 : k = 8
        · subst e8
          rw [if_pos (show (7 : Int32) < nI 8 by decide)]
          exact Or.inr ⟨hno, rfl⟩
        · have hk8 : k < 8 := by omega
          rw [if_neg (show ¬ (7 : Int32) < nI k from fun z => by have := (nI_ltI (a := 7) (by omega) (by omega)).mp z; omega), sw_nI k hk8]
          rcases x_isWord h hs hk8 with ⟨m, e1⟩ | ⟨m, e1⟩
          · rw [e1, Option.bind_some, if_neg n_10]
            exact Or.inl ⟨k, hk8, m, rfl⟩
          · rw [e1, Option.bind_some, if_pos rfl, nI_1]
            refine hr _ ⟨k + 1, by omega, by omega, rfl, fun k' hk' => ?_⟩
            by_cases ek : k' = k
            · rw [ek]; exact m
            · exact hno k' (by omega)
    · rw [if_neg (show ¬ nI (so_ (c s)) = 1 from fun z => q ((nI_eq (b := 1) (by rcases so_123 (c s) with w | w | w <;> omega) (by omega)).mp z))]
      exact Or.inr ⟨fun k hk m => q (mq_so htk hk m).2, rfl⟩
  · rw [if_neg hs, if_neg (show ¬ nI 0 = 1 by decide)]
    exact Or.inr ⟨fun k hk m => hs (mq_so htk hk m).1, rfl⟩
/-- the reference's words -/
def Wd_ (o : Ob_T) : Prop := (∀ i, i < 7 → o_A o 22 i = nI (wc_ 7 i)) ∧ ∀ k, k < 7 → ∀ i, i < wz_ k → o_A o (23 + k) i = nI (wc_ k i)
theorem m_kind (h : To2_ t o c L s e) (hw : Wd_ o) : ((Mq_ c s e 7 ∧ f_X9_isWord o (o_A o 22) 7 = some 1) ∨ (¬ Mq_ c s e 7 ∧ f_X9_isWord o (o_A o 22) 7 = some 0)) ∧ ((∃ k, k < 7 ∧ Mq_ c s e k ∧ f_X9_kindHere o = some (nI k)) ∨ ((∀ k, k < 7 → ¬ Mq_ c s e k) ∧ f_X9_kindHere o = some (-1))) := by
  refine ⟨m_isWord h (k := 7) (by omega) rfl (fun i hi => hw.1 i hi), ?_⟩
  unfold f_X9_kindHere
  have w : ∀ k z, k < 7 → z = wz_ k → (Mq_ c s e k ∧ f_X9_isWord o (o_A o (23 + k)) z = some 1) ∨ (¬ Mq_ c s e k ∧ f_X9_isWord o (o_A o (23 + k)) z = some 0) := fun k z hk hz => m_isWord h (k := k) (by omega) hz (hw.2 k hk)
  rcases w 0 5 (by omega) rfl with ⟨m0, e0⟩ | ⟨m0, e0⟩
  · rw [show o_A o 23 = o_A o (23 + 0) from rfl, e0, Option.bind_some, if_neg n_10]; exact Or.inl ⟨0, by omega, m0, rfl⟩
  rw [show o_A o 23 = o_A o (23 + 0) from rfl, e0, Option.bind_some, if_pos rfl]
  rcases w 1 4 (by omega) rfl with ⟨m1, e1⟩ | ⟨m1, e1⟩
  · rw [show o_A o 24 = o_A o (23 + 1) from rfl, e1, Option.bind_some, if_neg n_10]; exact Or.inl ⟨1, by omega, m1, rfl⟩
  rw [show o_A o 24 = o_A o (23 + 1) from rfl, e1, Option.bind_some, if_pos rfl]
  rcases w 2 4 (by omega) rfl with ⟨m2, e2⟩ | ⟨m2, e2⟩
  · rw [show o_A o 25 = o_A o (23 + 2) from rfl, e2, Option.bind_some, if_neg n_10]; exact Or.inl ⟨2, by omega, m2, rfl⟩
  rw [show o_A o 25 = o_A o (23 + 2) from rfl, e2, Option.bind_some, if_pos rfl]
  rcases w 3 4 (by omega) rfl with ⟨m3, e3⟩ | ⟨m3, e3⟩
  · rw [show o_A o 26 = o_A o (23 + 3) from rfl, e3, Option.bind_some, if_neg n_10]; exact Or.inl ⟨3, by omega, m3, rfl⟩
  rw [show o_A o 26 = o_A o (23 + 3) from rfl, e3, Option.bind_some, if_pos rfl]
  rcases w 4 4 (by omega) rfl with ⟨m4, e4⟩ | ⟨m4, e4⟩
  · rw [show o_A o 27 = o_A o (23 + 4) from rfl, e4, Option.bind_some, if_neg n_10]; exact Or.inl ⟨4, by omega, m4, rfl⟩
  rw [show o_A o 27 = o_A o (23 + 4) from rfl, e4, Option.bind_some, if_pos rfl]
  rcases w 5 5 (by omega) rfl with ⟨m5, e5⟩ | ⟨m5, e5⟩
  · rw [show o_A o 28 = o_A o (23 + 5) from rfl, e5, Option.bind_some, if_neg n_10]; exact Or.inl ⟨5, by omega, m5, rfl⟩
  rw [show o_A o 28 = o_A o (23 + 5) from rfl, e5, Option.bind_some, if_pos rfl]
  rcases w 6 4 (by omega) rfl with ⟨m6, e6⟩ | ⟨m6, e6⟩
  · rw [show o_A o 29 = o_A o (23 + 6) from rfl, e6, Option.bind_some, if_neg n_10]; exact Or.inl ⟨6, by omega, m6, rfl⟩
  rw [show o_A o 29 = o_A o (23 + 6) from rfl, e6, Option.bind_some, if_pos rfl]
  refine Or.inr ⟨fun k hk => ?_, rfl⟩
  rcases (show k = 0 ∨ k = 1 ∨ k = 2 ∨ k = 3 ∨ k = 4 ∨ k = 5 ∨ k = 6 by omega) with rfl | rfl | rfl | rfl | rfl | rfl | rfl
  · exact m0
  · exact m1
  · exact m2
  · exact m3
  · exact m4
  · exact m5
  · exact m6
end
