/-- whether kind k fits all that was seen -/
def Ft_ (q : Ob_T) (z k : Nat) : Prop := ∀ i, i < z → wa_ (nI k) (o_A q 0 i) = o_A q 1 i
def ft_ (q : Ob_T) (z k : Nat) : Bool := decide (∀ i, i < z → wa_ (nI k) (o_A q 0 i) = o_A q 1 i)
theorem x_fits {q : Ob_T} {z : Nat} (hz : z ≤ 6) (h2 : o_F q 2 = nI z) (k : Nat) : f_X3_fitsAll q (nI k) = some (if ft_ q z k then 1 else 0) := by
  unfold f_X3_fitsAll
  refine lp_fu (P := fun r => r = some (if ft_ q z k then 1 else 0)) (fun m x => ∃ i, i ≤ z ∧ m = z - i + 1 ∧ x = (nI k, nI i) ∧ ∀ j, j < i → wa_ (nI k) (o_A q 0 j) = o_A q 1 j) ?_ ?_ (z - 0 + 1) _ ⟨0, by omega, rfl, rfl, fun j hj => by omega⟩ (by omega)
  · rintro x ⟨i, h1, h2, -⟩
    omega
  · rintro m x rec ⟨i, hi, hm, rfl, hj⟩ hr
    unfold f_X3_fitsAll_L2
    dsimp only
    rw [h2]
    by_cases he : i = z
    · subst he
      rw [if_pos (Int32.le_refl _), if_pos (show ft_ q i k = true from decide_eq_true hj)]
    · rw [if_neg (nI_ge (by omega) (by omega)), ld_nI (by omega) (by omega), Option.bind_some, x_wa, Option.bind_some, ld_nI (by omega) (by omega), Option.bind_some]
      by_cases c : wa_ (nI k) (o_A q 0 i) = o_A q 1 i
      · rw [if_pos c]
        exact hr _ ⟨i + 1, by omega, by omega, by rw [nI_1], fun j h => by
          by_cases e : j = i
          · subst e; exact c
          · exact hj j (by omega)⟩
      · rw [if_neg c, if_neg (show ¬ ft_ q z k = true from fun w => c (of_decide_eq_true w i (by omega)))]
theorem x_kinds {q : Ob_T} {z : Nat} (hz : z ≤ 6) (h2 : o_F q 2 = nI z) : f_X3_kindsThatFit q = some (kf_ (ft_ q z)) := by
  unfold f_X3_kindsThatFit
  have step : ∀ rec b k, k ≤ 5 → f_X3_kindsThatFit_L4 rec b (nI k) q = rec (kb_ b (ft_ q z) k, nI (k + 1)) := by
    intro rec b k hk
    unfold f_X3_kindsThatFit_L4 kb_
    rw [if_neg (show ¬ (5 : Int32) < nI k from fun w => by have := (nI_ltI (a := 5) (by omega) (by omega)).mp w; omega), x_fits hz h2, Option.bind_some, nI_1]
    cases ft_ q z k
    · rfl
    · rfl
  show Lp_ _ (19994 + 6) (0, nI 1) = _
  generalize 19994 = f
  rw [Lp_s, step _ _ _ (by omega), Lp_s, step _ _ _ (by omega), Lp_s, step _ _ _ (by omega), Lp_s, step _ _ _ (by omega), Lp_s, step _ _ _ (by omega), Lp_s]
  rfl
theorem m_fitL {q o : Ob_T} {z : Nat} (hz : z ≤ 6) (h11 : o_F o 11 = nI z) (h : ∀ i, i < z → ∃ n a m, (1 ≤ n ∧ n ≤ 9 ∧ a ≤ 1 ∧ m ≤ 99) ∧ o_A q 0 i = nI n ∧ o_A q 1 i = sn_a a m ∧ o_A o 12 i = nI n ∧ o_A o 13 i = nI a ∧ o_A o 14 i = nI m) (k71 : Int32 → Int32 → Int32 → Option Int32) (b : Int32) {k : Nat} (hk : k ≤ 5) : Lp_ (fun (rec : (Int32 × Int32 × Int32 × Int32) → Option Int32) x => f_X9_kinds_L14 k71 rec x.1 x.2.1 x.2.2.1 x.2.2.2 o) FU_ (b, nI k, 1, 0) = k71 b (nI k) (if ft_ q z k then 1 else 0) := by
  refine lp_fu (P := fun r => r = k71 b (nI k) (if ft_ q z k then 1 else 0)) (fun m x => ∃ i y, i ≤ z ∧ m = z - i + 1 ∧ x = (b, nI k, y, nI i) ∧ ((y = 1 ∧ ∀ j, j < i → wa_ (nI k) (o_A q 0 j) = o_A q 1 j) ∨ (y = 0 ∧ ¬ Ft_ q z k))) ?_ ?_ (z - 0 + 1) _ ⟨0, 1, by omega, rfl, rfl, Or.inl ⟨rfl, fun j hj => by omega⟩⟩ (by omega)
  · rintro x ⟨i, y, h1, h2, -⟩
    omega
  · rintro m x rec ⟨i, y, hi, hm, rfl, hy⟩ hr
    unfold f_X9_kinds_L14
    dsimp only
    rw [h11]
    by_cases he : i = z
    · subst he
      rw [if_pos (Int32.le_refl _)]
      rcases hy with ⟨rfl, hj⟩ | ⟨rfl, hj⟩
      · rw [if_pos (show ft_ q i k = true from decide_eq_true hj)]
      · rw [if_neg (show ¬ ft_ q i k = true from fun w => hj (show ∀ j, j < i → wa_ (nI k) (o_A q 0 j) = o_A q 1 j from of_decide_eq_true w))]
    · rw [if_neg (nI_ge (by omega) (by omega))]
      rcases hy with ⟨rfl, hj⟩ | ⟨rfl, hj⟩
      · obtain ⟨n, a, m', ⟨b1, b2, b3, b4⟩, e1, e2, e3, e4, e5⟩ := h i (by omega)
        rw [if_neg n_10, ld_nI (by omega) (by omega), Option.bind_some, m_cm, Option.bind_some, ld_nI (by omega) (by omega), Option.bind_some, ld_nI (by omega) (by omega), Option.bind_some, e3, e4, e5]
        have key := wa_cm k (by omega) n (by omega) a (by omega) m' (by omega)
        by_cases c : cm_ (nI k) (nI n) = 100 * nI a + nI m'
        · rw [if_pos c]
          exact hr _ ⟨i + 1, 1, by omega, by omega, by rw [nI_1], Or.inl ⟨rfl, fun j h => by
            by_cases e : j = i
            · subst e; rw [e1, e2]; exact key.mpr c
            · exact hj j (by omega)⟩⟩
        · rw [if_neg c]
          exact hr _ ⟨i + 1, 0, by omega, by omega, by rw [nI_1], Or.inr ⟨rfl, fun w => c (key.mp (by have := w i (by omega); rw [e1, e2] at this; exact this))⟩⟩
      · rw [if_pos rfl]
        exact hr _ ⟨i + 1, 0, by omega, by omega, by rw [nI_1], Or.inr ⟨rfl, hj⟩⟩
theorem m_kinds {q o : Ob_T} {z : Nat} (hz : z ≤ 6) (h11 : o_F o 11 = nI z) (h : ∀ i, i < z → ∃ n a m, (1 ≤ n ∧ n ≤ 9 ∧ a ≤ 1 ∧ m ≤ 99) ∧ o_A q 0 i = nI n ∧ o_A q 1 i = sn_a a m ∧ o_A o 12 i = nI n ∧ o_A o 13 i = nI a ∧ o_A o 14 i = nI m) : f_X9_kinds o = some (kf_ (ft_ q z)) := by
  unfold f_X9_kinds
  have step : ∀ rec b k, k ≤ 5 → f_X9_kinds_L4 rec b (nI k) o = rec (kb_ b (ft_ q z) k, nI (k + 1)) := by
    intro rec b k hk
    unfold f_X9_kinds_L4 kb_
    rw [if_neg (show ¬ (5 : Int32) < nI k from fun w => by have := (nI_ltI (a := 5) (by omega) (by omega)).mp w; omega), m_fitL hz h11 h _ b hk]
    unfold f_X9_kinds_J71
    rw [nI_1]
    cases ft_ q z k
    · rfl
    · rfl
  show Lp_ _ (19994 + 6) (0, nI 1) = _
  generalize 19994 = f
  rw [Lp_s, step _ _ _ (by omega), Lp_s, step _ _ _ (by omega), Lp_s, step _ _ _ (by omega), Lp_s, step _ _ _ (by omega), Lp_s, step _ _ _ (by omega), Lp_s]
  rfl
theorem sm_kinds (x q o : Ob_T) (h : R_sn q o) : Tr_ (f_X8_kinds x q) (fun u => Tr_ (f_X9_kinds o) (fun w => u = w)) := by
  obtain ⟨z, hz, h2, h11, hh⟩ := h
  unfold f_X8_kinds
  rw [x_kinds hz h2, m_kinds hz h11 hh, Option.bind_some]
  exact tr_some (tr_some rfl)
theorem sm_ask (x q o : Ob_T) (h : R_sn q o) : Tr_ (f_X8_ask x q) (fun u => Tr_ (f_X9_ask o) (fun w => u = w)) := by
  obtain ⟨z, hz, h2, h11, hh⟩ := h
  unfold f_X8_ask f_X9_ask f_X3_bestToAsk
  rw [x_kinds hz h2, m_kinds hz h11 hh, Option.bind_some, Option.bind_some]
  have e0 : kf_ (ft_ q z) = kf_ (fun k => if k = 1 then ft_ q z 1 else if k = 2 then ft_ q z 2 else if k = 3 then ft_ q z 3 else if k = 4 then ft_ q z 4 else ft_ q z 5) := rfl
  rw [e0]
  have e1 := ask_fin (ft_ q z 1) (ft_ q z 2) (ft_ q z 3) (ft_ q z 4) (ft_ q z 5)
  have e2 := ask_some (ft_ q z 1) (ft_ q z 2) (ft_ q z 3) (ft_ q z 4) (ft_ q z 5)
  generalize kf_ (fun k => if k = 1 then ft_ q z 1 else if k = 2 then ft_ q z 2 else if k = 3 then ft_ q z 3 else if k = 4 then ft_ q z 4 else ft_ q z 5) = B at e1 e2 ⊢
  have fx : (fun (rec : (Int32 × Int32 × Int32 × Int32) → Option Int32) (x : Int32 × Int32 × Int32 × Int32) => f_X3_bestToAsk_L15 rec x.1 x.2.1 x.2.2.1 x.2.2.2 q) = (fun rec x => f_X3_bestToAsk_L15 rec x.1 x.2.1 x.2.2.1 x.2.2.2 ob_0) := by
    funext rec x
    unfold f_X3_bestToAsk_L15
    rfl
  have fm : (fun (rec : (Int32 × Int32 × Int32 × Int32) → Option Int32) (x : Int32 × Int32 × Int32 × Int32) => f_X9_ask_L15 rec x.1 x.2.1 x.2.2.1 x.2.2.2 o) = (fun rec x => f_X9_ask_L15 rec x.1 x.2.1 x.2.2.1 x.2.2.2 ob_0) := by
    funext rec x
    unfold f_X9_ask_L15 f_X9_ask_L28 f_X9_ask_L40 f_X9_ask_J97 f_X9_ask_J119 f_X9_ask_J131
    rfl
  rw [fx, fm]
  obtain ⟨w, hw⟩ := Option.isSome_iff_exists.mp e2
  rw [← e1, hw, Option.bind_some]
  exact tr_some (tr_some rfl)
theorem sm_count {P : Pg_} (x : Ob_T) {n o g q r t : Ob_T} (hW : Wf_ P) (hn : Rn_ n P) (hm : Rm_ (o_A o 0) P) (h2 : o_F o 2 = nI (g_N P)) (hgv : R_gv g o) (hq : R_sn q o) (hr : R_rw r o) (ht : R_tx t o) (x1 : Int32) : Tr_ (f_X8_count x t n g q r x1) (fun u => Tr_ (f_X9_count o x1) (fun w => u = w)) := by
  have hgo : ∀ l, l < 4 → gv_ok (o_A o 4 l) := fun l hl => (hgv.1 l hl).2
  unfold f_X8_count f_X9_count
  refine tr_if (fun c => ?_) (fun c => ?_)
  · rw [if_pos c]
    unfold f_X1_size
    rw [hn.1, h2, Option.bind_some]
    exact tr_some (tr_some rfl)
  rw [if_neg c]
  refine tr_if (fun c => ?_) (fun c => ?_)
  · rw [if_pos c, x_bits, m_givenOnes o hgo, Option.bind_some, Option.bind_some]
    refine tr_some (tr_some ?_)
    unfold bt_4
    rw [(hgv.1 0 (by omega)).1, (hgv.1 1 (by omega)).1, (hgv.1 2 (by omega)).1, (hgv.1 3 (by omega)).1]
  rw [if_neg c]
  refine tr_if (fun c => ?_) (fun c => ?_)
  · rw [if_pos c]
    obtain ⟨z, hz, e1, e2, -⟩ := hq
    unfold f_X3_size
    rw [e1, e2, Option.bind_some]
    exact tr_some (tr_some rfl)
  rw [if_neg c]
  refine tr_if (fun c => ?_) (fun c => ?_)
  · rw [if_pos c]
    -- all places
    have pl : ∀ k, k < 3 → (o_A r 1 k = -1 ∧ o_A o 16 k = -1) ∨ ∃ z, z ≤ 10 ∧ o_A r 1 k = nI z ∧ o_A o 16 k = nI z := fun k hk => by
      rcases hr k hk with e | ⟨z, st, hz, hst, e1, e2, -⟩
      · exact Or.inl e
      · exact Or.inr ⟨z, hz, e1, e2⟩
    have sx : ∀ rec b k, k < 3 → f_X2_allPlaces_L4 rec b (nI k) r = rec (b + (if o_A r 1 k = -1 then 0 else o_A r 1 k), nI (k + 1)) := by
      intro rec b k hk
      unfold f_X2_allPlaces_L4 f_X2_isMissing
      rw [if_neg (show ¬ (3 : Int32) ≤ nI k from nI_ge (b := 3) hk (by omega)), ld_nI (by omega) (by omega), Option.bind_some, Option.bind_some, nI_1]
      rcases pl k hk with ⟨e, -⟩ | ⟨z, hz, e, -⟩
      · rw [e, if_pos rfl, Option.bind_some, if_neg n_10, if_pos rfl]
      · rw [e, if_neg (nI_nm1 (by omega)), Option.bind_some, if_pos rfl, if_neg (nI_nm1 (by omega))]
    have sm : ∀ rec b k, k < 3 → f_X9_allPlaces_L4 rec b (nI k) o = rec (b + (if o_A r 1 k = -1 then 0 else o_A r 1 k), nI (k + 1)) := by
      intro rec b k hk
      unfold f_X9_allPlaces_L4
      rw [if_neg (show ¬ (3 : Int32) ≤ nI k from nI_ge (b := 3) hk (by omega)), ld_nI (by omega) (by omega), Option.bind_some, Option.bind_some, nI_1]
      rcases pl k hk with ⟨e, e'⟩ | ⟨z, hz, e, e'⟩
      · rw [e, e', if_neg (show ¬ (0 : Int32) ≤ -1 by decide), if_pos rfl]
      · rw [e, e', if_pos (nI_pos' (by omega)), if_neg (nI_nm1 (by omega))]
    unfold f_X2_allPlaces f_X9_allPlaces
    show Tr_ ((Lp_ _ (19996 + 4) (0, nI 0)).bind _) (fun u => Tr_ ((Lp_ _ (19996 + 4) (0, nI 0)).bind _) (fun w => u = w))
    generalize 19996 = f
    rw [Lp_s, sx _ _ _ (by omega), Lp_s, sx _ _ _ (by omega), Lp_s, sx _ _ _ (by omega), Lp_s, Lp_s, sm _ _ _ (by omega), Lp_s, sm _ _ _ (by omega), Lp_s, sm _ _ _ (by omega), Lp_s]
    exact tr_some (tr_some rfl)
  rw [if_neg c]
  refine tr_if (fun c => ?_) (fun c => ?_)
  · rw [if_pos c]
    obtain ⟨u, hu, e1, e2, -⟩ := hgv.2.1
    unfold f_X0_undoable
    rw [e1, e2, Option.bind_some]
    exact tr_some (tr_some rfl)
  rw [if_neg c]
  refine tr_if (fun c => ?_) (fun c => ?_)
  · rw [if_pos c]
    obtain ⟨L, hL, e1, e2, -⟩ := ht
    unfold f_X6_length
    rw [e1, e2, Option.bind_some]
    exact tr_some (tr_some rfl)
  rw [if_neg c]
  refine tr_if (fun c => ?_) (fun c => ?_)
  · rw [if_pos c]
    obtain ⟨B, e1, h1⟩ := x_told hW hn
    obtain ⟨B', e2, h2'⟩ := m_told hW hm h2
    rw [e1, e2, Option.bind_some, Option.bind_some]
    exact tr_some (tr_some (tb_same (Tb_ P) h1 h2'))
  rw [if_neg c]
  exact tr_some (tr_some rfl)
