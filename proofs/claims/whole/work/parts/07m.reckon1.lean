abbrev RK_ : List Nat := [31, 32, 34, 35, 36, 37, 38, 39, 40, 41, 42]
/-- the reference's two sides, as extents -/
def Rlr_ (o : Ob_T) (L R : List Nat) : Prop := (L.length ≤ 6 ∧ o_F o 39 = nI L.length ∧ ∀ k, k < L.length → o_A o 37 k = nI (L.getD k 0)) ∧ (R.length ≤ 6 ∧ o_F o 40 = nI R.length ∧ ∀ k, k < R.length → o_A o 38 k = nI (R.getD k 0))
theorem getD_snoc {L : List Nat} {v k : Nat} : (L ++ [v]).getD k 0 = if k < L.length then L.getD k 0 else if k = L.length then v else 0 := by
  by_cases h : k < L.length
  · rw [if_pos h, List.getD_eq_getElem?_getD, List.getElem?_append_left h, ← List.getD_eq_getElem?_getD]
  · rw [if_neg h, List.getD_eq_getElem?_getD, List.getElem?_append_right (by omega)]
    by_cases h2 : k = L.length
    · rw [if_pos h2, h2, Nat.sub_self]; rfl
    · rw [if_neg h2]
      obtain ⟨q, hq⟩ : ∃ q, k - L.length = q + 1 := ⟨k - L.length - 1, by omega⟩
      rw [hq]; rfl
theorem m_layL {o : Ob_T} {L R : List Nat} (h : Rlr_ o L R) (hl : L.length < 6) (e : Nat) : ∃ o', f_X9_layLeft o (nI e) = some o' ∧ Rlr_ o' (L ++ [e]) R ∧ Fr_ [37, 39] o o' := by
  obtain ⟨⟨h1, h2, h3⟩, h4⟩ := h
  unfold f_X9_layLeft
  rw [h2, st_nI hl (by omega), Option.bind_some, Lt_E]
  refine ⟨_, rfl, ⟨⟨by simp; omega, ?_, fun k hk => ?_⟩, h4⟩, fr_tr (fr_pA (by decide)) (fr_pF (by decide))⟩
  · show o_F o 39 + 1 = _
    rw [h2, nI_1, List.length_append]; rfl
  · show upd (o_A o 37) L.length (nI e) k = _
    rw [List.length_append] at hk
    have hk : k < L.length + 1 := hk
    rw [updE, getD_snoc]
    by_cases c : k = L.length
    · rw [if_pos c, if_neg (by omega), if_pos c]
    · rw [if_neg c, if_pos (by omega)]
      exact h3 k (by omega)
theorem m_layR {o : Ob_T} {L R : List Nat} (h : Rlr_ o L R) (hl : R.length < 6) (e : Nat) : ∃ o', f_X9_layRight o (nI e) = some o' ∧ Rlr_ o' L (R ++ [e]) ∧ Fr_ [38, 40] o o' := by
  obtain ⟨h4, ⟨h1, h2, h3⟩⟩ := h
  unfold f_X9_layRight
  rw [h2, st_nI hl (by omega), Option.bind_some, Lt_E]
  refine ⟨_, rfl, ⟨h4, ⟨by simp; omega, ?_, fun k hk => ?_⟩⟩, fr_tr (fr_pA (by decide)) (fr_pF (by decide))⟩
  · show o_F o 40 + 1 = _
    rw [h2, nI_1, List.length_append]; rfl
  · show upd (o_A o 38) R.length (nI e) k = _
    rw [List.length_append] at hk
    have hk : k < R.length + 1 := hk
    rw [updE, getD_snoc]
    by_cases c : k = R.length
    · rw [if_pos c, if_neg (by omega), if_pos c]
    · rw [if_neg c, if_pos (by omega)]
      exact h3 k (by omega)
theorem rlr_fr {o o' : Ob_T} {L R S : List Nat} (h : Rlr_ o L R) (hf : Fr_ S o o') (hs : 37 ∉ S ∧ 38 ∉ S ∧ 39 ∉ S ∧ 40 ∉ S) : Rlr_ o' L R := by
  unfold Rlr_ at h ⊢
  rw [(hf 37 hs.1).2, (hf 38 hs.2.1).2, (hf 39 hs.2.2.1).1, (hf 40 hs.2.2.2).1]
  exact h
/-- letters counted so far, and the one if it is one -/
def Run_ (o : Ob_T) (M : List Nat) : Prop := M.length ≤ 12 ∧ o_F o 41 = nI (nl_ M) ∧ (nl_ M = 1 → o_F o 42 = nI (ol_ M))
theorem m_look {o : Ob_T} {V : Nat → Nat} (hV : Rs_ (o_A o 31) (o_A o 32) V) {M : List Nat} (h : Run_ o M) (hl : M.length < 12) {e : Nat} (he : e_ok e) : ∃ o', f_X9_lookFor o (nI e) = some o' ∧ Run_ o' (M ++ [vl_ V e]) ∧ Fr_ [41, 42] o o' := by
  obtain ⟨h1, h2, h3⟩ := h
  have hnl := nl_len M
  unfold f_X9_lookFor f_X9_lookFor_J23
  rw [m_solved hV he, Option.bind_some]
  have hv := vok_vl (rs_vk hV) he
  generalize vl_ V e = v at *
  by_cases c : v < 20000
  · rw [if_neg (show ¬ (20000 : Int32) ≤ nI v from nI_ge (b := 20000) c (by omega)), Lt_E, if_neg (show ¬ (20000 : Int32) ≤ nI v from nI_ge (b := 20000) c (by omega)), Lt_E]
    have en : nl_ (M ++ [v]) = nl_ M := by rw [nl_app, nl_1, if_pos c, Nat.add_zero]
    refine ⟨_, rfl, ⟨by simp; omega, ?_, fun z => ?_⟩, fr_tr (fr_pF (by decide)) (fr_pF (by decide))⟩
    · show o_F o 41 + 0 = _
      rw [h2, en, show nI (nl_ M) + 0 = nI (nl_ M + 0) from nI_add _ 0]; rfl
    · show o_F o 42 = _
      rw [ol_app0 _ _ c]
      exact h3 (by omega)
  · have hv2 : v < 20014 := by
      rcases hv with z | ⟨r, h1, h2⟩ <;> omega
    rw [if_pos (show (20000 : Int32) ≤ nI v from nI_le (a := 20000) (by omega) (by omega)), Lt_E, if_pos (show (20000 : Int32) ≤ nI v from nI_le (a := 20000) (by omega) (by omega)), Lt_E]
    have en : nl_ (M ++ [v]) = nl_ M + 1 := by rw [nl_app, nl_1, if_neg c]
    refine ⟨_, rfl, ⟨by simp; omega, ?_, fun z => ?_⟩, fr_tr (fr_pF (by decide)) (fr_pF (by decide))⟩
    · show o_F o 41 + 1 = _
      rw [h2, en, nI_1]
    · show nI v - 20000 = _
      rw [ol_app1 _ _ c (by omega)]
      exact pk_sub (b := 20000) (by omega)
theorem drop_getD : ∀ (L : List Nat) (k : Nat), k < L.length → L.drop k = L.getD k 0 :: L.drop (k + 1)
  | [], k, h => absurd h (by simp)
  | a :: l, 0, _ => rfl
  | a :: l, k + 1, h => drop_getD l k (by simpa using h)
theorem mem_getD {L : List Nat} {k : Nat} (h : k < L.length) : L.getD k 0 ∈ L := by
  rw [List.getD_eq_getElem?_getD, List.getElem?_eq_getElem h]
  exact List.getElem_mem h
theorem m_akL {o : Ob_T} {V : Nat → Nat} (hV : Rs_ (o_A o 31) (o_A o 32) V) {L R : List Nat} (hLR : Rlr_ o L R) (hL : ∀ e ∈ L, e_ok e) {M : List Nat} (hM : Run_ o M) (hlen : M.length + L.length ≤ 12) (k31 : Ob_T → Option (Int32 × Ob_T)) :
    ∃ o', Lp_ (fun (rec : (Int32 × Ob_T) → Option (Int32 × Ob_T)) x => f_X9_isAlmostKnown_L7 k31 rec x.1 x.2) FU_ (0, o) = k31 o' ∧ Run_ o' (M ++ L.map (vl_ V)) ∧ Fr_ [41, 42] o o' := by
  have hl6 := hLR.1.1
  refine lp_fu (P := fun r => ∃ o', r = k31 o' ∧ Run_ o' (M ++ L.map (vl_ V)) ∧ Fr_ [41, 42] o o')
    (fun n x => ∃ k o1 M1, k ≤ L.length ∧ n = L.length - k + 1 ∧ x = (nI k, o1) ∧ Run_ o1 M1 ∧ M1.length = M.length + k ∧ M1 ++ (L.drop k).map (vl_ V) = M ++ L.map (vl_ V) ∧ Fr_ [41, 42] o o1) ?_ ?_ (L.length - 0 + 1) _ ⟨0, o, M, Nat.zero_le _, rfl, rfl, hM, rfl, rfl, fr_rf _ _⟩ (by omega)
  · rintro x ⟨k, o1, M1, h1, h2, -⟩
    omega
  · rintro n x rec ⟨k, o1, M1, hk, hn, rfl, hM1, hlM, he, hF⟩ hr
    unfold f_X9_isAlmostKnown_L7
    dsimp only
    have hLR1 := rlr_fr hLR hF (by decide)
    rw [hLR1.1.2.1]
    by_cases c : k = L.length
    · subst c
      rw [if_pos (Int32.le_refl _)]
      rw [List.drop_length] at he
      refine ⟨o1, rfl, ?_, hF⟩
      rw [← he, List.map_nil, List.append_nil]
      exact hM1
    · rw [if_neg (nI_ge (by omega) (by omega)), ld_nI (by omega) (by omega), Option.bind_some, hLR1.1.2.2 k (by omega)]
      have hV1 : Rs_ (o_A o1 31) (o_A o1 32) V := by rw [(hF 31 (by decide)).2, (hF 32 (by decide)).2]; exact hV
      obtain ⟨o2, e2, hM2, hF2⟩ := m_look hV1 hM1 (by omega) (hL _ (mem_getD (show k < L.length by omega)))
      rw [e2, Option.bind_some]
      refine hr _ ⟨k + 1, o2, _, by omega, by omega, by rw [nI_1], hM2, by simp; omega, ?_, fr_tr hF hF2⟩
      rw [← he, drop_getD L k (by omega), List.map_cons, List.append_assoc]
      rfl
theorem m_akR {o : Ob_T} {V : Nat → Nat} (hV : Rs_ (o_A o 31) (o_A o 32) V) {L R : List Nat} (hLR : Rlr_ o L R) (hR : ∀ e ∈ R, e_ok e) {M : List Nat} (hM : Run_ o M) (hlen : M.length + R.length ≤ 12) (k57 : Ob_T → Option (Int32 × Ob_T)) :
    ∃ o', Lp_ (fun (rec : (Int32 × Ob_T) → Option (Int32 × Ob_T)) x => f_X9_isAlmostKnown_L33 k57 rec x.1 x.2) FU_ (0, o) = k57 o' ∧ Run_ o' (M ++ R.map (vl_ V)) ∧ Fr_ [41, 42] o o' := by
  have hl6 := hLR.2.1
  refine lp_fu (P := fun r => ∃ o', r = k57 o' ∧ Run_ o' (M ++ R.map (vl_ V)) ∧ Fr_ [41, 42] o o')
    (fun n x => ∃ k o1 M1, k ≤ R.length ∧ n = R.length - k + 1 ∧ x = (nI k, o1) ∧ Run_ o1 M1 ∧ M1.length = M.length + k ∧ M1 ++ (R.drop k).map (vl_ V) = M ++ R.map (vl_ V) ∧ Fr_ [41, 42] o o1) ?_ ?_ (R.length - 0 + 1) _ ⟨0, o, M, Nat.zero_le _, rfl, rfl, hM, rfl, rfl, fr_rf _ _⟩ (by omega)
  · rintro x ⟨k, o1, M1, h1, h2, -⟩
    omega
  · rintro n x rec ⟨k, o1, M1, hk, hn, rfl, hM1, hlM, he, hF⟩ hr
    unfold f_X9_isAlmostKnown_L33
    dsimp only
    have hLR1 := rlr_fr hLR hF (by decide)
    rw [hLR1.2.2.1]
    by_cases c : k = R.length
    · subst c
      rw [if_pos (Int32.le_refl _)]
      rw [List.drop_length] at he
      refine ⟨o1, rfl, ?_, hF⟩
      rw [← he, List.map_nil, List.append_nil]
      exact hM1
    · rw [if_neg (nI_ge (by omega) (by omega)), ld_nI (by omega) (by omega), Option.bind_some, hLR1.2.2.2 k (by omega)]
      have hV1 : Rs_ (o_A o1 31) (o_A o1 32) V := by rw [(hF 31 (by decide)).2, (hF 32 (by decide)).2]; exact hV
      obtain ⟨o2, e2, hM2, hF2⟩ := m_look hV1 hM1 (by omega) (hR _ (mem_getD (show k < R.length by omega)))
      rw [e2, Option.bind_some]
      refine hr _ ⟨k + 1, o2, _, by omega, by omega, by rw [nI_1], hM2, by simp; omega, ?_, fr_tr hF hF2⟩
      rw [← he, drop_getD R k (by omega), List.map_cons, List.append_assoc]
      rfl
theorem ol_appL : ∀ (L R : List Nat), 0 < nl_ L → ol_ (L ++ R) = ol_ L
  | [], R, h => absurd h (by decide)
  | v :: l, R, h => by
    have h1 : 0 < (if v < 20000 then 0 else 1) + nl_ l := h
    show (if v < 20000 then ol_ (l ++ R) else v - 20000) = if v < 20000 then ol_ l else v - 20000
    by_cases c : v < 20000
    · rw [if_pos c, if_pos c]
      rw [if_pos c] at h1
      exact ol_appL l R (by omega)
    · rw [if_neg c, if_neg c]
theorem ol_appR : ∀ (L R : List Nat), nl_ L = 0 → ol_ (L ++ R) = ol_ R
  | [], R, _ => rfl
  | v :: l, R, h => by
    have h1 : (if v < 20000 then 0 else 1) + nl_ l = 0 := h
    show (if v < 20000 then ol_ (l ++ R) else v - 20000) = ol_ R
    by_cases c : v < 20000
    · rw [if_pos c] at h1 ⊢
      exact ol_appR l R (by omega)
    · rw [if_neg c] at h1; omega
theorem m_almost {o : Ob_T} {V : Nat → Nat} (hV : Rs_ (o_A o 31) (o_A o 32) V) {L R : List Nat} (hLR : Rlr_ o L R) (hL : ∀ e, e ∈ L ∨ e ∈ R → e_ok e) : ∃ o', f_X9_isAlmostKnown o = some ((if 2 ≤ nl_ (L.map (vl_ V)) + nl_ (R.map (vl_ V)) then 0 else 1), o') ∧ o_F o' 41 = nI (nl_ (L.map (vl_ V)) + nl_ (R.map (vl_ V))) ∧ (nl_ (L.map (vl_ V)) + nl_ (R.map (vl_ V)) = 1 → o_F o' 42 = nI (ol_ (rs_l (L.map (vl_ V)) (R.map (vl_ V))))) ∧ Fr_ [41, 42] o o' := by
  have l1 := hLR.1.1
  have l2 := hLR.2.1
  unfold f_X9_isAlmostKnown
  rw [Lt_E]
  have hV0 : Rs_ (o_A (p_F o 41 0) 31) (o_A (p_F o 41 0) 32) V := hV
  obtain ⟨o1, e1, h1, F1⟩ := m_akL hV0 (R := R) (rlr_fr hLR (fr_pF (k := 41) (v := 0) (S := [41]) (by decide)) (by decide)) (fun e he => hL e (Or.inl he)) (M := []) ⟨by simp, rfl, fun z => absurd z (by decide)⟩ (by simp; omega) (fun t_o => f_X9_isAlmostKnown_J31 t_o)
  rw [e1]
  have hF01 : Fr_ [41, 42] o o1 := fr_tr (fr_pF (by decide)) F1
  have hV1 : Rs_ (o_A o1 31) (o_A o1 32) V := by rw [(hF01 31 (by decide)).2, (hF01 32 (by decide)).2]; exact hV
  unfold f_X9_isAlmostKnown_J31
  obtain ⟨o2, e2, h2, F2⟩ := m_akR hV1 (rlr_fr hLR hF01 (by decide)) (fun e he => hL e (Or.inr he)) h1 (by simp; omega) (fun t_o => f_X9_isAlmostKnown_J57 t_o)
  rw [e2]
  have hm : [] ++ L.map (vl_ V) ++ R.map (vl_ V) = L.map (vl_ V) ++ R.map (vl_ V) := rfl
  rw [hm] at h2
  have n1 := nl_len (L.map (vl_ V))
  have n2 := nl_len (R.map (vl_ V))
  rw [List.length_map] at n1 n2
  unfold f_X9_isAlmostKnown_J57
  obtain ⟨-, g2, g3⟩ := h2
  rw [nl_app] at g2 g3
  rw [g2]
  have tail : (nl_ (L.map (vl_ V)) + nl_ (R.map (vl_ V)) = 1 → o_F o2 42 = nI (ol_ (rs_l (L.map (vl_ V)) (R.map (vl_ V))))) := by
    intro z
    rw [g3 z]
    unfold rs_l
    by_cases c : nl_ (L.map (vl_ V)) = 1
    · rw [if_pos c, ol_appL _ _ (by omega)]
    · rw [if_neg c, ol_appR _ _ (by omega)]
  by_cases c : 2 ≤ nl_ (L.map (vl_ V)) + nl_ (R.map (vl_ V))
  · rw [if_pos (show (2 : Int32) ≤ nI _ from nI_le (a := 2) c (by omega)), if_pos c]
    exact ⟨o2, rfl, g2, tail, fr_tr hF01 F2⟩
  · rw [if_neg (show ¬ (2 : Int32) ≤ nI _ from nI_ge (b := 2) (by omega) (by omega)), if_neg c]
    exact ⟨o2, rfl, g2, tail, fr_tr hF01 F2⟩
