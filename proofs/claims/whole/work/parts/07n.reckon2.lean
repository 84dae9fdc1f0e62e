theorem pd_mono : ∀ (M : List Nat), 0 ∉ M → 1 ≤ pd_ M := fun M h => by rw [pd_pz M h]; exact pz_pos M
theorem m_prod {o : Ob_T} {V : Nat → Nat} (hV : Rs_ (o_A o 31) (o_A o 32) V) {f : Nat → Int32} {L : List Nat} (hl : L.length ≤ 6) (hf : ∀ k, k < L.length → f k = nI (L.getD k 0)) (hL : ∀ e ∈ L, e_ok e) : f_X9_productOf o (nI L.length) f 6 = some (if BD_ < pd_ (L.map (vl_ V)) then -1 else lN (pd_ (L.map (vl_ V)))) := by
  have hk := rs_vk hV
  have vo : ∀ w ∈ L.map (vl_ V), vok_ w := fun w hw => by
    obtain ⟨e, he, h2⟩ := List.mem_map.mp hw
    rw [← h2]; exact vok_vl hk (hL e he)
  -- the second loop: no nought is in it
  have two : 0 ∉ L.map (vl_ V) → f_X9_productOf_J30 (nI L.length) 1 o f 6 = some (if BD_ < pd_ (L.map (vl_ V)) then -1 else lN (pd_ (L.map (vl_ V)))) := by
    intro n0
    unfold f_X9_productOf_J30
    refine lp_fu (P := fun r => r = some (if BD_ < pd_ (L.map (vl_ V)) then -1 else lN (pd_ (L.map (vl_ V)))))
      (fun n x => ∃ k p, k ≤ L.length ∧ n = L.length - k + 1 ∧ x = (nI L.length, lN p, nI k) ∧ p ≤ BD_ ∧ p * pd_ ((L.drop k).map (vl_ V)) = pd_ (L.map (vl_ V))) ?_ ?_ (L.length - 0 + 1) _ ⟨0, 1, Nat.zero_le _, rfl, rfl, by unfold BD_; omega, by rw [List.drop_zero, Nat.one_mul]⟩ (by omega)
    · rintro x ⟨k, p, h1, h2, -⟩
      omega
    · rintro n x rec ⟨k, p, hk1, hn, rfl, hp, he⟩ hr
      unfold f_X9_productOf_L33
      dsimp only
      by_cases c : k = L.length
      · subst c
        rw [if_pos (Int32.le_refl _)]
        rw [List.drop_length] at he
        have he : p * 1 = pd_ (L.map (vl_ V)) := he
        rw [if_neg (by omega), ← he, Nat.mul_one]
      · have hke : e_ok (L.getD k 0) := hL _ (mem_getD (show k < L.length by omega))
        rw [if_neg (nI_ge (by omega) (by omega)), ld_nI (by omega) (by omega), Option.bind_some, hf k (by omega), m_solved hV hke, Option.bind_some]
        rw [drop_getD L k (by omega), List.map_cons] at he
        have hm0 : 0 ∉ (L.drop (k + 1)).map (vl_ V) := fun z => n0 (by
          obtain ⟨e, h1, h2⟩ := List.mem_map.mp z
          exact List.mem_map.mpr ⟨e, List.mem_of_mem_drop h1, h2⟩)
        have hge := pd_mono _ hm0
        have hv := vok_vl hk hke
        have he : p * ((if vl_ V (L.getD k 0) < 20000 then vl_ V (L.getD k 0) else 1) * pd_ ((L.drop (k + 1)).map (vl_ V))) = pd_ (L.map (vl_ V)) := he
        have nz : vl_ V (L.getD k 0) ≠ 0 := fun z => n0 (List.mem_map.mpr ⟨L.getD k 0, mem_getD (show k < L.length by omega), z⟩)
        generalize vl_ V (L.getD k 0) = v at *
        have bdl : BD_ < 2 ^ 63 := by unfold BD_; omega
        have go : ∀ q, p * (if v < 20000 then v else 1) = q → q < 2 ^ 63 → f_X9_productOf_J66 rec (nI L.length) (nI k) (lN q) o f 6 = some (if BD_ < pd_ (L.map (vl_ V)) then -1 else lN (pd_ (L.map (vl_ V)))) := by
          intro q hq hq2
          have he2 : q * pd_ ((L.drop (k + 1)).map (vl_ V)) = pd_ (L.map (vl_ V)) := by rw [← hq, Nat.mul_assoc]; exact he
          unfold f_X9_productOf_J66
          rw [b_lit]
          by_cases cb : q ≤ BD_
          · rw [if_pos ((lc_le hq2 bdl).mpr cb)]
            exact hr _ ⟨k + 1, q, by omega, by omega, by rw [nI_1], cb, he2⟩
          · rw [if_neg (fun z => cb ((lc_le hq2 bdl).mp z)), if_pos]
            rw [← he2]
            exact Nat.lt_of_lt_of_le (by omega) (Nat.le_mul_of_pos_right q hge)
        by_cases cv : v < 20000
        · rw [if_neg (show ¬ (20000 : Int32) ≤ nI v from nI_ge (b := 20000) cv (by omega)), nI_l (by omega), lN_mul]
          refine go _ (by rw [if_pos cv]) ?_
          have : p * v ≤ 999999999999 * 20000 := Nat.mul_le_mul (by unfold BD_ at hp; omega) (by omega)
          omega
        · have hv2 : v < 20014 := by rcases hv with z | ⟨r, h1, h2⟩ <;> omega
          rw [if_pos (show (20000 : Int32) ≤ nI v from nI_le (a := 20000) (by omega) (by omega))]
          refine go _ (by rw [if_neg cv, Nat.mul_one]) (by omega)
  unfold f_X9_productOf
  refine lp_fu (P := fun r => r = some (if BD_ < pd_ (L.map (vl_ V)) then -1 else lN (pd_ (L.map (vl_ V)))))
    (fun n x => ∃ k, k ≤ L.length ∧ n = L.length - k + 1 ∧ x = (nI L.length, 1, nI k) ∧ (0 ∈ L.map (vl_ V) → 0 ∈ (L.drop k).map (vl_ V))) ?_ ?_ (L.length - 0 + 1) _ ⟨0, Nat.zero_le _, rfl, rfl, fun z => z⟩ (by omega)
  · rintro x ⟨k, h1, h2, -⟩
    omega
  · rintro n x rec ⟨k, hk1, hn, rfl, he⟩ hr
    unfold f_X9_productOf_L5
    dsimp only
    by_cases c : k = L.length
    · subst c
      rw [if_pos (Int32.le_refl _)]
      refine two (fun z => ?_)
      have := he z
      rw [List.drop_length] at this
      cases this
    · have hke : e_ok (L.getD k 0) := hL _ (mem_getD (show k < L.length by omega))
      rw [if_neg (nI_ge (by omega) (by omega)), ld_nI (by omega) (by omega), Option.bind_some, hf k (by omega), m_solved hV hke, Option.bind_some]
      have hv := vok_vl hk hke
      by_cases c0 : vl_ V (L.getD k 0) = 0
      · rw [if_pos (show nI (vl_ V (L.getD k 0)) = 0 by rw [c0]; rfl)]
        have z : 0 ∈ L.map (vl_ V) := List.mem_map.mpr ⟨L.getD k 0, mem_getD (show k < L.length by omega), c0⟩
        rw [pd_zero _ z, if_neg (by omega)]
        rfl
      · have hv2 : vl_ V (L.getD k 0) < 20014 := by rcases hv with z | ⟨r, h1, h2⟩ <;> omega
        rw [if_neg (nI_ne0 (by omega) (by omega))]
        refine hr _ ⟨k + 1, by omega, by omega, by rw [nI_1], fun z => ?_⟩
        have := he z
        rw [drop_getD L k (by omega), List.map_cons] at this
        rcases List.mem_cons.mp this with w | w
        · exact absurd w.symm c0
        · exact w
theorem m_onLeft {o : Ob_T} {V : Nat → Nat} (hV : Rs_ (o_A o 31) (o_A o 32) V) {L R : List Nat} (hLR : Rlr_ o L R) (hL : ∀ e ∈ L, e_ok e) : f_X9_isOnLeft o = some (if nl_ (L.map (vl_ V)) = 0 then 0 else 1) := by
  obtain ⟨⟨hl, h2, hf⟩, -⟩ := hLR
  have hk := rs_vk hV
  unfold f_X9_isOnLeft
  refine lp_fu (P := fun r => r = some (if nl_ (L.map (vl_ V)) = 0 then 0 else 1))
    (fun n x => ∃ (k : Nat) (b : Int32), k ≤ L.length ∧ n = L.length - k + 1 ∧ x = (b, nI k) ∧ ((b = 0 ∧ nl_ (L.map (vl_ V)) = nl_ ((L.drop k).map (vl_ V))) ∨ (b = 1 ∧ ¬ nl_ (L.map (vl_ V)) = 0))) ?_ ?_ (L.length - 0 + 1) _ ⟨0, 0, Nat.zero_le _, rfl, rfl, Or.inl ⟨rfl, rfl⟩⟩ (by omega)
  · rintro x ⟨k, b, h1, h2, -⟩
    omega
  · rintro n x rec ⟨k, b, hk1, hn, rfl, he⟩ hr
    unfold f_X9_isOnLeft_L4
    dsimp only
    rw [h2]
    by_cases c : k = L.length
    · subst c
      rw [if_pos (Int32.le_refl _)]
      rcases he with ⟨rfl, e⟩ | ⟨rfl, e⟩
      · rw [List.drop_length] at e
        have e : nl_ (L.map (vl_ V)) = 0 := e
        rw [if_pos e]; rfl
      · rw [if_neg e]; rfl
    · rw [if_neg (nI_ge (by omega) (by omega))]
      rcases he with ⟨rfl, e⟩ | ⟨rfl, e⟩
      · have hke : e_ok (L.getD k 0) := hL _ (mem_getD (show k < L.length by omega))
        rw [if_pos rfl, ld_nI (by omega) (by omega), Option.bind_some, hf k (by omega), m_solved hV hke, Option.bind_some]
        have hv := vok_vl hk hke
        rw [drop_getD L k (by omega), List.map_cons] at e
        have e : nl_ (L.map (vl_ V)) = (if vl_ V (L.getD k 0) < 20000 then 0 else 1) + nl_ ((L.drop (k + 1)).map (vl_ V)) := e
        by_cases cv : vl_ V (L.getD k 0) < 20000
        · rw [if_pos (show nI (vl_ V (L.getD k 0)) < 20000 from nI_lt (b := 20000) cv (by omega))]
          rw [if_pos cv] at e
          exact hr _ ⟨k + 1, 0, by omega, by omega, by rw [nI_1], Or.inl ⟨rfl, by omega⟩⟩
        · have hv2 : vl_ V (L.getD k 0) < 20014 := by rcases hv with z | ⟨r, h1, h2⟩ <;> omega
          rw [if_neg (show ¬ nI (vl_ V (L.getD k 0)) < 20000 from nI_nlt (b := 20000) (by omega) (by omega))]
          rw [if_neg cv] at e
          exact hr _ ⟨k + 1, 1, by omega, by omega, by rw [nI_1], Or.inr ⟨rfl, by omega⟩⟩
      · rw [if_neg n_10]
        exact hr _ ⟨k + 1, 1, by omega, by omega, by rw [nI_1], Or.inr ⟨rfl, e⟩⟩
/-- what the reference makes of an equation's answer -/
def Ro_ (o o' : Ob_T) (P : Pg_) (i : Nat) (S : Sv_) (a : Nat × Nat × Nat) : Prop := Rso_ o' (stp_ P i S.1 a) ∧ Fr_ [32, 34, 35, 36] o o' ∧ o_F o' 36 = if a.1 = 2 then 1 else o_F o 36
theorem ro_hold {o : Ob_T} {P : Pg_} {i : Nat} {S : Sv_} (hR : Rso_ o S) (hS : S.2 = []) {a : Nat × Nat × Nat} (ha : a.1 = 1) : Ro_ o o P i S a := by
  unfold Ro_ stp_
  rw [if_neg (show ¬ a.1 = 2 by omega), if_neg (show ¬ a.1 = 3 by omega), if_neg (show ¬ a.1 = 2 by omega)]
  exact ⟨⟨hR.1, Or.inl ⟨rfl, rso_f0 hR hS⟩⟩, fr_rf _ _, rfl⟩
theorem ro_fail {o : Ob_T} {P : Pg_} {i : Nat} (hi : i < 10) {S : Sv_} (hR : Rso_ o S) {k : Nat} (hk : k = if g_K P i = 2 then 3 else 4) {a : Nat × Nat × Nat} (ha : a.1 = 3) : ∃ o', f_X9_fail o (nI i) (nI k) 0 0 0 = some o' ∧ Ro_ o o' P i S a := by
  rw [m_fail]
  refine ⟨_, rfl, ?_⟩
  unfold Ro_ stp_
  rw [if_neg (show ¬ a.1 = 2 by omega), if_pos ha, if_neg (show ¬ a.1 = 2 by omega), ← hk]
  have : k ≤ 4 := by rw [hk]; by_cases c : g_K P i = 2 <;> simp [c]
  exact ⟨⟨hR.1, Or.inr ⟨fl5_rf (a := i) (b := k) (c := 0) (d := 0) (e := 0) ⟨by omega, by omega, by omega, by omega, by omega⟩, rfl⟩⟩, fr_tr (fr_pF (by decide)) (fr_pA (by decide)), rfl⟩
theorem ro_found {o : Ob_T} {P : Pg_} {i : Nat} {S : Sv_} (hR : Rso_ o S) (hS : S.2 = []) {a : Nat × Nat × Nat} (ha : a.1 = 2) (hl : a.2.1 < 14) (hV : S.1 a.2.1 = 20000 + a.2.1) (hk : a.2.2 ≤ 9999) (h42 : o_F o 42 = nI a.2.1) : ∃ o', f_X9_becomes o (nI a.2.2) = some o' ∧ Ro_ o o' P i S a := by
  unfold f_X9_becomes
  rw [h42, st_nI hl (by omega), Option.bind_some, Lt_E]
  refine ⟨_, rfl, ?_⟩
  unfold Ro_ stp_
  rw [if_pos ha, if_pos ha]
  have f0 := rso_f0 hR hS
  exact ⟨⟨rs_set hR.1 hl hV hk, Or.inl ⟨rfl, f0⟩⟩, fr_tr (fr_pA (by decide)) (fr_pF (by decide)), rfl⟩
