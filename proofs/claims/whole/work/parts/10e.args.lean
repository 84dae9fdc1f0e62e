section
variable {t o : Ob_T} {c : Nat → Nat} {L s e k : Nat}
/-- the class's node number, and the step after it -/
theorem sm_nodeStep (h : To2_ t o c L s e) (hk : k < 10) {f q : Nat} (hf : f = 6 ∨ f = 7) (hq : q < 15) {a : Nat} {o1 : Ob_T} (e1 : f_X9_nextToken (p_F o 21 (nI a)) = some o1) : ∃ t' s' e', f_X6_step (p_F t f (nI a)) = some t' ∧ To2_ t' (p_A o1 1 (upd (o_A o1 1) (15 * k + q) (nI a))) c L s' e' ∧ o_F t' f = nI a ∧ Fr_ [3, 4, 5, f] t t' ∧ Fr_ OF_ o (p_A o1 1 (upd (o_A o1 1) (15 * k + q) (nI a))) ∧ o_A o1 1 = o_A o 1 ∧ o_F o1 3 = o_F o 3 := by
  have h2 : To2_ (p_F t f (nI a)) (p_F o 21 (nI a)) c L s e := to2_fr (S := [f]) (T := [21]) h (by rcases hf with rfl | rfl <;> decide) (by decide) (fr_pF (by rcases hf with rfl | rfl <;> decide)) (fr_pF (by decide))
  obtain ⟨t', o', s', e', a1, a2, a3, a4, a5⟩ := to2_step h2
  have : o' = o1 := Option.some.inj (a2.symm.trans e1)
  subst this
  have hm : f ∈ [3, 4, 5, f] := by simp
  refine ⟨t', s', e', a1, to2_fr (S := []) (T := [1]) a5 (by decide) (by decide) (fr_rf _ _) (fr_pA (by decide)), ?_, fr_tr (fr_pF hm) (fr_mono a3 (fun l hl => by simp at hl ⊢; omega)), fr_tr (fr_pF (by decide)) (fr_tr (fr_mono a4 (by decide)) (fr_pA (by decide))), ?_, ?_⟩
  · rw [(a3 f (by rcases hf with rfl | rfl <;> decide)).1, fF_]
  · rw [(a4 1 (by decide)).2]; rfl
  · rw [(a4 3 (by decide)).1]; rfl
/-- what the arguments have told -/
def Ar_ (K k : Nat) (t o o' : Ob_T) : Prop :=
  (K = 0 → o_F t 6 = -1 ∧ o_A o' 1 (15 * k + 1) = o_A o 1 (15 * k + 1)) ∧
  (K ≠ 0 → ∃ a, a < k ∧ o_F t 6 = nI a ∧ o_A o' 1 (15 * k + 1) = nI a) ∧
  ((K = 1 ∨ K = 2) → ∃ b, b < k ∧ o_F t 7 = nI b ∧ o_A o' 1 (15 * k + 2) = nI b) ∧
  (¬ (K = 1 ∨ K = 2) → o_F t 7 = -1 ∧ o_A o' 1 (15 * k + 2) = o_A o 1 (15 * k + 2)) ∧
  ((1 ≤ K ∧ K ≤ 5) → ∃ r, r ∈ rks_ ∧ o_F t 8 = r ∧ o_A o' 1 (15 * k + 3) = r) ∧
  (¬ (1 ≤ K ∧ K ≤ 5) → o_F t 8 = -11) ∧
  ∀ l, (l < 15 * k + 1 ∨ 15 * k + 3 < l) → o_A o' 1 l = o_A o 1 l
theorem sm_args (h : To2_ t o c L s e) (hk : k < 10) (h3 : o_F o 3 = nI k) {K : Nat} (hK : K ≤ 6) : (∃ t' o', f_X6_readArguments t (nI K) (nI k) = some (0, t') ∧ f_X9_readsArguments o (nI (15 * k)) (nI K) = some (0, o') ∧ At_ t' o' ∧ Fr_ TF_ t t' ∧ Fr_ OF_ o o') ∨ ∃ t' o' s' e', f_X6_readArguments t (nI K) (nI k) = some (1, t') ∧ To2_ t' o' c L s' e' ∧ Ar_ K k t' o o' ∧ Fr_ TF_ t t' ∧ Fr_ OF_ o o' ∧ ((K = 0 ∨ K = 6) → f_X9_readsArguments o (nI (15 * k)) (nI K) = f_X9_readsArguments_J62 (nI (15 * k)) o') ∧ ((1 ≤ K ∧ K ≤ 5) → f_X9_readsArguments o (nI (15 * k)) (nI K) = some (1, o')) := by
  unfold f_X6_readArguments f_X9_readsArguments
  simp only [Lt_E]
  have F3 : Fr_ TF_ t (p_F (p_F (p_F t 6 (-1)) 7 (-1)) 8 (-11)) := fr_tr (fr_pF (by decide)) (fr_tr (fr_pF (by decide)) (fr_pF (by decide)))
  have h1 : To2_ (p_F (p_F (p_F t 6 (-1)) 7 (-1)) 8 (-11)) o c L s e := to2_fr (S := [6, 7, 8]) (T := []) h (by decide) (by decide) (fr_tr (fr_pF (by decide)) (fr_tr (fr_pF (by decide)) (fr_pF (by decide)))) (fr_rf _ _)
  have g6 : o_F (p_F (p_F (p_F t 6 (-1)) 7 (-1)) 8 (-11)) 6 = -1 := by rw [fFn_ _ _ _ _ (by decide), fFn_ _ _ _ _ (by decide), fF_]
  have g7 : o_F (p_F (p_F (p_F t 6 (-1)) 7 (-1)) 8 (-11)) 7 = -1 := by rw [fFn_ _ _ _ _ (by decide), fF_]
  have g8 : o_F (p_F (p_F (p_F t 6 (-1)) 7 (-1)) 8 (-11)) 8 = -11 := fF_ _ _ _
  generalize p_F (p_F (p_F t 6 (-1)) 7 (-1)) 8 (-11) = t3 at F3 h1 g6 g7 g8 ⊢
  by_cases k0 : K = 0
  · subst k0
    rw [if_pos (show nI 0 = 0 from rfl), if_pos (show nI 0 = 0 from rfl)]
    exact Or.inr ⟨t3, o, s, e, rfl, h1, ⟨fun _ => ⟨g6, rfl⟩, fun z => absurd rfl z, fun z => by omega, fun _ => ⟨g7, rfl⟩, fun z => by omega, fun _ => g8, fun _ _ => rfl⟩, F3, fr_rf _ _, fun _ => rfl, fun z => by omega⟩
  · rw [if_neg (nI_ne0 (by omega) (by omega)), if_neg (nI_ne0 (by omega) (by omega))]
    rcases sm_nodeNo h1 hk h3 (q := 1) (j := 1) rfl (by omega) with ⟨o', a1, a2, a3, a4⟩ | ⟨a, ha, a1, a2, o1, a3, a4, a5⟩
    · rw [a1, a2, Option.bind_some, Option.bind_some, if_pos rfl, if_pos rfl]
      exact Or.inl ⟨t3, o', rfl, rfl, a3, F3, a4⟩
    · rw [a1, a2, a5, Option.bind_some, Option.bind_some, Option.bind_some, if_neg n_10, if_neg n_10]
      obtain ⟨t4, s4, e4, b1, b2, b3, b4, b5, b6, b7⟩ := sm_nodeStep h1 hk (f := 6) (q := 1) (Or.inl rfl) (by omega) a3
      rw [b1, Option.bind_some]
      have c1 : o_A (p_A o1 1 (upd (o_A o1 1) (15 * k + 1) (nI a))) 1 (15 * k + 1) = nI a := by
        show upd (o_A o1 1) (15 * k + 1) (nI a) (15 * k + 1) = _
        rw [updE, if_pos rfl]
      have c2 : ∀ l, ¬ l = 15 * k + 1 → o_A (p_A o1 1 (upd (o_A o1 1) (15 * k + 1) (nI a))) 1 l = o_A o 1 l := fun l hl => by
        show upd (o_A o1 1) (15 * k + 1) (nI a) l = _
        rw [updE, if_neg hl, b6]
      have c3 : o_F (p_A o1 1 (upd (o_A o1 1) (15 * k + 1) (nI a))) 3 = nI k := by
        show o_F o1 3 = _
        rw [b7, h3]
      generalize p_A o1 1 (upd (o_A o1 1) (15 * k + 1) (nI a)) = o4 at b2 b5 c1 c2 c3 ⊢
      have u7 : o_F t4 7 = -1 := by rw [(b4 7 (by decide)).1, g7]
      have u8 : o_F t4 8 = -11 := by rw [(b4 8 (by decide)).1, g8]
      have F4 : Fr_ TF_ t t4 := fr_tr F3 (fr_mono b4 (by decide))
      unfold f_X9_readsArguments_J13 f_X9_readsArguments_J18 f_X9_readsArguments_J42
      rw [if_neg n_10]
      -- the rank, after the nodes
      have rankE : ∀ (t5 o5 : Ob_T) s5 e5, To2_ t5 o5 c L s5 e5 → 1 ≤ K ∧ K ≤ 5 → Fr_ TF_ t t5 → Fr_ OF_ o o5 → (∀ l, (l < 15 * k + 1 ∨ 15 * k + 2 < l) → o_A o5 1 l = o_A o 1 l) → (∃ a, a < k ∧ o_F t5 6 = nI a ∧ o_A o5 1 (15 * k + 1) = nI a) → ((K = 1 ∨ K = 2) → ∃ b, b < k ∧ o_F t5 7 = nI b ∧ o_A o5 1 (15 * k + 2) = nI b) → (¬ (K = 1 ∨ K = 2) → o_F t5 7 = -1 ∧ o_A o5 1 (15 * k + 2) = o_A o 1 (15 * k + 2)) → (∃ t' o', f_X6_readArguments_J82 (nI K) t5 = some (0, t') ∧ f_X9_readsArguments_J47 (nI (15 * k)) (nI K) 1 o5 = some (0, o') ∧ At_ t' o' ∧ Fr_ TF_ t t' ∧ Fr_ OF_ o o') ∨ ∃ t' o' s' e', f_X6_readArguments_J82 (nI K) t5 = some (1, t') ∧ To2_ t' o' c L s' e' ∧ Ar_ K k t' o o' ∧ Fr_ TF_ t t' ∧ Fr_ OF_ o o' ∧ ((K = 0 ∨ K = 6) → f_X9_readsArguments_J47 (nI (15 * k)) (nI K) 1 o5 = f_X9_readsArguments_J62 (nI (15 * k)) o') ∧ ((1 ≤ K ∧ K ≤ 5) → f_X9_readsArguments_J47 (nI (15 * k)) (nI K) 1 o5 = some (1, o')) := by
        intro t5 o5 s5 e5 h5 hv Ft Fo hout hA hB hB'
        unfold f_X6_readArguments_J82 f_X9_readsArguments_J47
        rw [if_neg (show ¬ nI K = 6 from fun z => by have := (nI_eq (b := 6) (by omega) (by omega)).mp z; omega), if_neg n_10, if_neg (nI_ne0 (by omega) (by omega)), if_neg (show ¬ nI K = 6 from fun z => by have := (nI_eq (b := 6) (by omega) (by omega)).mp z; omega)]
        rcases sm_rank h5 hk with ⟨t', o', d1, d2, d3, d4, d5⟩ | ⟨t', o', s', e', r, d1, d2, d3, d4, d5, d6, d7, d8, d9⟩
        · rw [d1, d2, Option.bind_some, Option.bind_some, if_pos rfl, if_pos rfl]
          exact Or.inl ⟨t', o', rfl, rfl, d3, fr_tr Ft d4, fr_tr Fo d5⟩
        · rw [d1, d2, Option.bind_some, Option.bind_some, if_neg n_10, if_neg n_10]
          refine Or.inr ⟨t', o', s', e', rfl, d3, ⟨fun z => absurd z k0, fun _ => ?_, fun z => ?_, fun z => ?_, fun _ => ⟨r, d4, d5, d6⟩, fun z => absurd hv z, fun l hl => ?_⟩, fr_tr Ft (fr_mono d7 (by decide)), fr_tr Fo d8, fun z => by omega, fun _ => rfl⟩
          · obtain ⟨a', q1, q2, q3⟩ := hA
            exact ⟨a', q1, by rw [(d7 6 (by decide)).1]; exact q2, by rw [d9 _ (by omega)]; exact q3⟩
          · obtain ⟨b', q1, q2, q3⟩ := hB z
            exact ⟨b', q1, by rw [(d7 7 (by decide)).1]; exact q2, by rw [d9 _ (by omega)]; exact q3⟩
          · exact ⟨by rw [(d7 7 (by decide)).1]; exact (hB' z).1, by rw [d9 _ (by omega)]; exact (hB' z).2⟩
          · rw [d9 _ (by omega)]
            exact hout l (by omega)
      by_cases k12 : K = 1 ∨ K = 2
      · have two : (∃ t' o', f_X6_readArguments_J57 (nI K) (nI k) t4 = some (0, t') ∧ f_X9_readsArguments_J33 (nI (15 * k)) (nI K) o4 = some (0, o') ∧ At_ t' o' ∧ Fr_ TF_ t t' ∧ Fr_ OF_ o o') ∨ ∃ t' o' s' e', f_X6_readArguments_J57 (nI K) (nI k) t4 = some (1, t') ∧ To2_ t' o' c L s' e' ∧ Ar_ K k t' o o' ∧ Fr_ TF_ t t' ∧ Fr_ OF_ o o' ∧ ((K = 0 ∨ K = 6) → f_X9_readsArguments_J33 (nI (15 * k)) (nI K) o4 = f_X9_readsArguments_J62 (nI (15 * k)) o') ∧ ((1 ≤ K ∧ K ≤ 5) → f_X9_readsArguments_J33 (nI (15 * k)) (nI K) o4 = some (1, o')) := by
          unfold f_X6_readArguments_J57 f_X9_readsArguments_J33 f_X9_readsArguments_J46 f_X9_readsArguments_J42
          rcases sm_nodeNo b2 hk c3 (q := 2) (j := 2) rfl (by omega) with ⟨o', x1, x2, x3, x4⟩ | ⟨b, hb, x1, x2, o6, x3, x4, x5⟩
          · rw [x1, x2, Option.bind_some, Option.bind_some, if_pos rfl, if_pos rfl]
            unfold f_X9_readsArguments_J47
            rw [if_pos rfl]
            exact Or.inl ⟨t4, o', rfl, rfl, x3, F4, fr_tr b5 x4⟩
          · rw [x1, x2, x5, Option.bind_some, Option.bind_some, Option.bind_some, if_neg n_10, if_neg n_10, Lt_E]
            obtain ⟨t6, s6, e6, y1, y2, y3, y4, y5, y6, y7⟩ := sm_nodeStep b2 hk (f := 7) (q := 2) (Or.inr rfl) (by omega) x3
            rw [y1, Option.bind_some]
            have w1 : o_A (p_A o6 1 (upd (o_A o6 1) (15 * k + 2) (nI b))) 1 (15 * k + 2) = nI b := by
              show upd (o_A o6 1) (15 * k + 2) (nI b) (15 * k + 2) = _
              rw [updE, if_pos rfl]
            have w2 : ∀ l, ¬ l = 15 * k + 2 → o_A (p_A o6 1 (upd (o_A o6 1) (15 * k + 2) (nI b))) 1 l = o_A o4 1 l := fun l hl => by
              show upd (o_A o6 1) (15 * k + 2) (nI b) l = _
              rw [updE, if_neg hl, y6]
            generalize p_A o6 1 (upd (o_A o6 1) (15 * k + 2) (nI b)) = o7 at y2 y5 w1 w2 ⊢
            exact rankE t6 o7 s6 e6 y2 (by omega) (fr_tr F4 (fr_mono y4 (by decide))) (fr_tr b5 y5) (fun l hl => by rw [w2 l (by omega), c2 l (by omega)]) ⟨a, ha, by rw [(y4 6 (by decide)).1]; exact b3, by rw [w2 _ (by omega)]; exact c1⟩ (fun _ => ⟨b, hb, y3, w1⟩) (fun z => absurd k12 z)
        rcases k12 with rfl | rfl
        · rw [if_pos (show nI 1 = 1 from rfl), if_pos (show nI 1 = 1 from rfl)]
          exact two
        · rw [if_neg (show ¬ nI 2 = 1 by decide), if_pos (show nI 2 = 2 from rfl), if_neg (show ¬ nI 2 = 1 by decide), if_pos (show nI 2 = 2 from rfl)]
          exact two
      · have n1 : ¬ nI K = 1 := fun z => k12 (Or.inl ((nI_eq (b := 1) (by omega) (by omega)).mp z))
        have n2 : ¬ nI K = 2 := fun z => k12 (Or.inr ((nI_eq (b := 2) (by omega) (by omega)).mp z))
        rw [if_neg n1, if_neg n2, if_neg n1, if_neg n2]
        by_cases k6 : K = 6
        · subst k6
          refine Or.inr ⟨t4, o4, s4, e4, rfl, b2, ⟨fun z => absurd z k0, fun _ => ⟨a, ha, b3, c1⟩, fun z => absurd z k12, fun _ => ⟨u7, c2 _ (by omega)⟩, fun z => by omega, fun _ => u8, fun l hl => c2 l (by omega)⟩, F4, b5, fun _ => rfl, fun z => by omega⟩
        · exact rankE t4 o4 s4 e4 b2 (by omega) F4 b5 (fun l hl => c2 l (by omega)) ⟨a, ha, b3, c1⟩ (fun z => absurd z k12) (fun _ => ⟨u7, c2 _ (by omega)⟩)
end
