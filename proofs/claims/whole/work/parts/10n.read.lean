def f_X6_read_L17 (rec17 : (Int32 × Ob_T × Ob_T) → Option (Int32 × Ob_T × Ob_T)) (x2 : Int32) (s_t : Ob_T) (s_n : Ob_T) : Option (Int32 × Ob_T × Ob_T) :=
  if (24 : Int32) < x2 then
  (some ((o_F s_t 4), s_t, s_n))
  else
  ((f_X6_readClause s_t s_n).bind fun u2 =>
  if u2.1 = (-1 : Int32) then
  (Lt_ (p_F u2.2.1 2 x2) fun o3 =>
  if (o_F o3 3) = (0 : Int32) then
  (some ((-1 : Int32), o3, u2.2.2))
  else
  ((f_X6_isSign o3 (59 : Int32)).bind fun u4 =>
  if u4 = (0 : Int32) then
  (some ((o_F o3 4), o3, u2.2.2))
  else
  (if x2 = (24 : Int32) then
  (some ((o_F o3 4), o3, u2.2.2))
  else
  ((f_X6_step o3).bind fun u5 =>
  rec17 ((x2 + (1 : Int32)), u5, u2.2.2)))))
  else
  (some (u2.1, u2.2.1, u2.2.2)))
def f_X6_read (s_t : Ob_T) (s_n : Ob_T) : Option (Int32 × Ob_T × Ob_T) :=
  Lt_ (p_F s_t 5 (0 : Int32)) fun o1 =>
  Lt_ (p_F o1 2 (0 : Int32)) fun o2 =>
  (f_X6_step o2).bind fun u3 =>
  Lp_ (fun (rec : (Int32 × Ob_T × Ob_T) → Option (Int32 × Ob_T × Ob_T)) x => f_X6_read_L17 rec x.1 x.2.1 x.2.2) FU_ ((1 : Int32), u3, s_n)
section
variable {c : Nat → Nat} {L : Nat}
abbrev TR_ : List Nat := [2, 3, 4, 5, 6, 7, 8]
abbrev OR_ : List Nat := [1, 3, 18, 19, 20, 21, 30]
/-- what comes of reading: a fault at the same place, or the same program -/
def Re_ (t o : Ob_T) (rx : Option (Int32 × Ob_T × Ob_T)) (rm : Option (Int32 × Ob_T)) : Prop := ∃ t' n' o', Fr_ TR_ t t' ∧ Fr_ OR_ o o' ∧ ((∃ p, p ≤ 200 ∧ rx = some (nI p, t', n') ∧ rm = some (0, o') ∧ o_F o' 18 = nI p) ∨ (rx = some (-1, t', n') ∧ rm = some (1, o') ∧ o_F t' 2 = o_F o' 20 ∧ ∃ Q, Wf_ Q ∧ Rn_ n' Q ∧ Rm_ (o_A o' 1) Q ∧ o_F o' 3 = nI (g_N Q)))
theorem wd_fr {o o' : Ob_T} {S : List Nat} (h : Wd_ o) (F : Fr_ S o o') (hS : ∀ k, 22 ≤ k → k < 30 → k ∉ S) : Wd_ o' := ⟨fun i hi => by rw [(F 22 (hS 22 (by omega) (by omega))).2]; exact h.1 i hi, fun k hk i hi => by rw [(F (23 + k) (hS (23 + k) (by omega) (by omega))).2]; exact h.2 k hk i hi⟩
theorem sm_readL : ∀ r j fu fu' t n o s e Q (g : Ob_T → Ob_T), r = 24 - j → 1 ≤ j → j ≤ 24 → r < fu → r + 1 < fu' → To2_ t o c L s e → Wf_ Q → Rn_ n Q → Rm_ (o_A o 1) Q → o_F o 3 = nI (g_N Q) → Wd_ o → (∀ x, Fr_ OC_ o x → o_F (g x) 20 = nI j ∧ Fr_ [20] x (g x)) → Re_ t o (Lp_ (fun (rec : (Int32 × Ob_T × Ob_T) → Option (Int32 × Ob_T × Ob_T)) x => f_X6_read_L17 rec x.1 x.2.1 x.2.2) fu (nI j, t, n)) ((f_X9_readsClause o).bind fun u => Lp_ (fun (rec : (Int32 × Ob_T) → Option (Int32 × Ob_T)) x => f_X9_reads_L54 rec x.1 x.2) fu' (u.1, g u.2)) := by
  intro r
  induction r with
  | zero =>
    intro j fu fu' t n o s e Q g hr hj1 hj2 hf hf' h hW hn hm h3 hw hg
    have ej : j = 24 := by omega
    subst ej
    obtain ⟨fu, rfl⟩ : ∃ f, fu = f + 1 := ⟨fu - 1, by omega⟩
    obtain ⟨fu', rfl⟩ : ∃ f, fu' = f + 2 := ⟨fu' - 2, by omega⟩
    have l24 : ¬ (24 : Int32) < nI 24 := by decide
    have zero : ∀ f x, Lp_ (fun (rec : (Int32 × Ob_T) → Option (Int32 × Ob_T)) x => f_X9_reads_L54 rec x.1 x.2) (f + 1) (0, x) = some (0, x) := fun f x => by
      rw [Lp_s]
      unfold f_X9_reads_L54
      dsimp only
      rw [if_pos rfl]
      rfl
    rw [Lp_s]
    unfold f_X6_read_L17
    dsimp only
    rw [if_neg l24]
    rcases sm_clause h hW hn hm h3 hw with ⟨t', n', o', p, hp, e1, e2, e3, F, G⟩ | ⟨t', n', o', s', e', e1, e2, h', hs', hc', F, G⟩ | ⟨t', n', o', s', e', Q', e1, e2, h', hW', hn', hm', h3', F, G⟩
    · rw [e1, e2, Option.bind_some, Option.bind_some, if_neg (nI_nm1 (by omega))]
      dsimp only
      rw [show fu' + 2 = (fu' + 1) + 1 from rfl, zero]
      obtain ⟨g1, g2⟩ := hg o' G
      exact ⟨t', n', g o', fr_mono F (by decide), fr_tr (fr_mono G (by decide)) (fr_mono g2 (by decide)), Or.inl ⟨p, hp, rfl, rfl, by rw [(g2 18 (by decide)).1]; exact e3⟩⟩
    · rw [e1, e2, Option.bind_some, Option.bind_some, if_pos rfl, Lt_E]
      dsimp only
      rw [show fu' + 2 = (fu' + 1) + 1 from rfl, zero]
      obtain ⟨g1, g2⟩ := hg o' G
      have h2 : To2_ (p_F t' 2 (nI 24)) o' c L s' e' := to2_fr (S := [2]) (T := []) h' (by decide) (by decide) (fr_pF (by decide)) (fr_rf _ _)
      have st3 : o_F (p_F t' 2 (nI 24)) 3 = nI (so_ (c s')) := by rw [h2.2.2.1]; unfold ts_; rw [if_pos hs']
      rw [st3, if_neg (nI_ne0 (by rcases so_123 (c s') with q | q | q <;> omega) (by rcases so_123 (c s') with q | q | q <;> omega)), show (59 : Int32) = nI 59 from rfl, x_sign h2 (g := 59) (by omega) rfl, Option.bind_some, if_neg (show ¬ (s' < L ∧ c s' = 59) from fun z => hc' z.2), if_pos rfl, h2.2.2.2.1]
      exact ⟨_, n', g o', fr_tr (fr_mono F (by decide)) (fr_pF (by decide)), fr_tr (fr_mono G (by decide)) (fr_mono g2 (by decide)), Or.inl ⟨s', by have := h'.1.1; omega, rfl, rfl, by rw [(g2 18 (by decide)).1]; exact h'.2.2.2.2.2.1⟩⟩
    · rw [e1, e2, Option.bind_some, Option.bind_some, if_pos rfl, Lt_E]
      dsimp only
      obtain ⟨g1, g2⟩ := hg o' G
      have h2 : To2_ (p_F t' 2 (nI 24)) (g o') c L s' e' := to2_fr (S := [2]) (T := [20]) h' (by decide) (by decide) (fr_pF (by decide)) g2
      have hle := tk_le h'.2.1
      have hL := h'.1.1
      rw [show fu' + 2 = (fu' + 1) + 1 from rfl, Lp_s]
      have zero' := zero fu'
      generalize Lp_ (fun (rec : (Int32 × Ob_T) → Option (Int32 × Ob_T)) x => f_X9_reads_L54 rec x.1 x.2) (fu' + 1) = rm at zero' ⊢
      unfold f_X9_reads_L54
      dsimp only
      rw [if_neg n_10, h2.2.2.2.2.2.1, h2.1.2.2.1, h2.2.2.1, g1]
      unfold ts_
      by_cases hs' : s' < L
      · rw [if_pos hs', if_neg (nI_ne0 (by rcases so_123 (c s') with q | q | q <;> omega) (by rcases so_123 (c s') with q | q | q <;> omega)), show (59 : Int32) = nI 59 from rfl, x_sign h2 (g := 59) (by omega) rfl, Option.bind_some, if_neg (nI_ge hs' (by omega)), if_pos (show (24 : Int32) ≤ nI 24 by decide), if_pos (show nI 24 = 24 from rfl), h2.2.2.2.1]
        unfold f_X9_reads_J96 f_X9_reads_J97
        rw [if_pos rfl, zero']
        refine ⟨p_F t' 2 (nI 24), n', g o', fr_tr (fr_mono F (by decide)) (fr_pF (by decide)), fr_tr (fr_mono G (by decide)) (fr_mono g2 (by decide)), Or.inl ⟨s', by omega, ?_, rfl, h2.2.2.2.2.2.1⟩⟩
        by_cases q : s' < L ∧ c s' = 59
        · rw [if_pos q, if_neg n_10]
        · rw [if_neg q, if_pos rfl]
      · have hsL : s' = L := by omega
        subst hsL
        rw [if_neg hs', if_pos (show nI 0 = 0 from rfl), if_pos (Int32.le_refl _)]
        exact ⟨_, n', g o', fr_tr (fr_mono F (by decide)) (fr_pF (by decide)), fr_tr (fr_mono G (by decide)) (fr_mono g2 (by decide)), Or.inr ⟨rfl, rfl, by rw [fF_, g1], Q', hW', hn', by rw [(g2 1 (by decide)).2]; exact hm', by rw [(g2 3 (by decide)).1]; exact h3'⟩⟩
  | succ r ih =>
    intro j fu fu' t n o s e Q g hr hj1 hj2 hf hf' h hW hn hm h3 hw hg
    have hj : j < 24 := by omega
    obtain ⟨fu, rfl⟩ : ∃ f, fu = f + 1 := ⟨fu - 1, by omega⟩
    obtain ⟨fu', rfl⟩ : ∃ f, fu' = f + 2 := ⟨fu' - 2, by omega⟩
    have zero : ∀ f x, Lp_ (fun (rec : (Int32 × Ob_T) → Option (Int32 × Ob_T)) x => f_X9_reads_L54 rec x.1 x.2) (f + 1) (0, x) = some (0, x) := fun f x => by
      rw [Lp_s]
      unfold f_X9_reads_L54
      dsimp only
      rw [if_pos rfl]
      rfl
    rw [Lp_s]
    have ihj := ih (j + 1) fu (fu' + 1)
    generalize Lp_ (fun (rec : (Int32 × Ob_T × Ob_T) → Option (Int32 × Ob_T × Ob_T)) x => f_X6_read_L17 rec x.1 x.2.1 x.2.2) fu = rx at ihj ⊢
    unfold f_X6_read_L17
    dsimp only
    rw [if_neg (show ¬ (24 : Int32) < nI j from fun z => by have := (nI_ltI (a := 24) (by omega) (by omega)).mp z; omega)]
    rcases sm_clause h hW hn hm h3 hw with ⟨t', n', o', p, hp, e1, e2, e3, F, G⟩ | ⟨t', n', o', s', e', e1, e2, h', hs', hc', F, G⟩ | ⟨t', n', o', s', e', Q', e1, e2, h', hW', hn', hm', h3', F, G⟩
    · rw [e1, e2, Option.bind_some, Option.bind_some, if_neg (nI_nm1 (by omega))]
      dsimp only
      rw [show fu' + 2 = (fu' + 1) + 1 from rfl, zero]
      obtain ⟨g1, g2⟩ := hg o' G
      exact ⟨t', n', g o', fr_mono F (by decide), fr_tr (fr_mono G (by decide)) (fr_mono g2 (by decide)), Or.inl ⟨p, hp, rfl, rfl, by rw [(g2 18 (by decide)).1]; exact e3⟩⟩
    · rw [e1, e2, Option.bind_some, Option.bind_some, if_pos rfl, Lt_E]
      dsimp only
      rw [show fu' + 2 = (fu' + 1) + 1 from rfl, zero]
      obtain ⟨g1, g2⟩ := hg o' G
      have h2 : To2_ (p_F t' 2 (nI j)) o' c L s' e' := to2_fr (S := [2]) (T := []) h' (by decide) (by decide) (fr_pF (by decide)) (fr_rf _ _)
      have st3 : o_F (p_F t' 2 (nI j)) 3 = nI (so_ (c s')) := by rw [h2.2.2.1]; unfold ts_; rw [if_pos hs']
      rw [st3, if_neg (nI_ne0 (by rcases so_123 (c s') with q | q | q <;> omega) (by rcases so_123 (c s') with q | q | q <;> omega)), show (59 : Int32) = nI 59 from rfl, x_sign h2 (g := 59) (by omega) rfl, Option.bind_some, if_neg (show ¬ (s' < L ∧ c s' = 59) from fun z => hc' z.2), if_pos rfl, h2.2.2.2.1]
      exact ⟨_, n', g o', fr_tr (fr_mono F (by decide)) (fr_pF (by decide)), fr_tr (fr_mono G (by decide)) (fr_mono g2 (by decide)), Or.inl ⟨s', by have := h'.1.1; omega, rfl, rfl, by rw [(g2 18 (by decide)).1]; exact h'.2.2.2.2.2.1⟩⟩
    · rw [e1, e2, Option.bind_some, Option.bind_some, if_pos rfl, Lt_E]
      dsimp only
      obtain ⟨g1, g2⟩ := hg o' G
      have h2 : To2_ (p_F t' 2 (nI j)) (g o') c L s' e' := to2_fr (S := [2]) (T := [20]) h' (by decide) (by decide) (fr_pF (by decide)) g2
      have hle := tk_le h'.2.1
      have hL := h'.1.1
      rw [show fu' + 2 = (fu' + 1) + 1 from rfl, Lp_s]
      have zero' := zero fu'
      generalize Lp_ (fun (rec : (Int32 × Ob_T) → Option (Int32 × Ob_T)) x => f_X9_reads_L54 rec x.1 x.2) (fu' + 1) = rm at ihj zero' ⊢
      unfold f_X9_reads_L54
      dsimp only
      rw [if_neg n_10, h2.2.2.2.2.2.1, h2.1.2.2.1, h2.2.2.1, g1]
      unfold ts_
      by_cases hs' : s' < L
      · have hb := (h'.1.2.2.2 s' hs').1
        rw [if_pos hs', if_neg (nI_ne0 (by rcases so_123 (c s') with q | q | q <;> omega) (by rcases so_123 (c s') with q | q | q <;> omega)), show (59 : Int32) = nI 59 from rfl, x_sign h2 (g := 59) (by omega) rfl, Option.bind_some, if_neg (nI_ge hs' (by omega)), if_neg (show ¬ (24 : Int32) ≤ nI j from nI_ge (b := 24) hj (by omega)), if_neg (show ¬ nI j = 24 from fun z => by have := (nI_eq (b := 24) (by omega) (by omega)).mp z; omega), h2.2.2.2.1, ld_nI (by omega) (by omega), Option.bind_some, (h2.1.2.2.2 s' hs').2.2]
        unfold f_X9_reads_J96 f_X9_reads_J97
        by_cases q : c s' = 59
        · rw [if_pos (show s' < L ∧ c s' = 59 from ⟨hs', q⟩), if_neg n_10, if_pos (show nI (c s') = nI 59 by rw [q]), if_neg n_10]
          obtain ⟨t2, o2, s2, e2', a1, a2, a3, a4, a5⟩ := to2_step h2
          rw [a1, a2, Option.bind_some, Option.bind_some, nI_1]
          have fo2 : Fr_ OR_ o o2 := fr_tr (fr_mono G (by decide)) (fr_tr (fr_mono g2 (by decide)) (fr_mono a4 (by decide)))
          have c20 : o_F o2 20 = nI j := by rw [(a4 20 (by decide)).1, g1]
          have m2 : Rm_ (o_A o2 1) Q' := by rw [(a4 1 (by decide)).2, (g2 1 (by decide)).2]; exact hm'
          have n2 : o_F o2 3 = nI (g_N Q') := by rw [(a4 3 (by decide)).1, (g2 3 (by decide)).1]; exact h3'
          have w2 : Wd_ o2 := wd_fr hw fo2 (by
            intro k h1 h2 h3
            simp at h3
            omega)
          obtain ⟨t3, n3, o3, F3, G3, out⟩ := ihj t2 n' o2 s2 e2' Q' (fun x => p_F x 20 (o_F x 20 + 1)) (by omega) (by omega) (by omega) (by omega) (by omega) a5 hW' hn' m2 n2 w2 (fun x Fx => ⟨by rw [fF_, (Fx 20 (by decide)).1, c20, nI_1], fr_pF (by decide)⟩)
          exact ⟨t3, n3, o3, fr_tr (fr_mono F (by decide)) (fr_tr (fr_pF (by decide)) (fr_tr (fr_mono a3 (by decide)) F3)), fr_tr fo2 G3, out⟩
        · rw [if_neg (show ¬ (s' < L ∧ c s' = 59) from fun z => q z.2), if_pos rfl, if_neg (show ¬ nI (c s') = nI 59 from fun z => q ((nI_eq (by omega) (by omega)).mp z)), if_pos rfl, zero']
          exact ⟨_, n', g o', fr_tr (fr_mono F (by decide)) (fr_pF (by decide)), fr_tr (fr_mono G (by decide)) (fr_mono g2 (by decide)), Or.inl ⟨s', by omega, rfl, rfl, h2.2.2.2.2.2.1⟩⟩
      · have hsL : s' = L := by omega
        subst hsL
        rw [if_neg hs', if_pos (show nI 0 = 0 from rfl), if_pos (Int32.le_refl _)]
        exact ⟨_, n', g o', fr_tr (fr_mono F (by decide)) (fr_pF (by decide)), fr_tr (fr_mono G (by decide)) (fr_mono g2 (by decide)), Or.inr ⟨rfl, rfl, by rw [fF_, g1], Q', hW', hn', by rw [(g2 1 (by decide)).2]; exact hm', by rw [(g2 3 (by decide)).1]; exact h3'⟩⟩
end
