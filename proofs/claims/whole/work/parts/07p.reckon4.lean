theorem vk_sb {V : Nat → Nat} (h : Vk_ V) {l k : Nat} (hk : k ≤ 9999) : Vk_ (sb_ V l k) := by
  intro j hj
  unfold sb_
  by_cases c : V j = 20000 + l
  · rw [if_pos c]; exact Or.inl hk
  · rw [if_neg c]
    rcases h j hj with z | ⟨r, a, b, d⟩
    · exact Or.inl z
    · exact Or.inr ⟨r, a, b, by rw [if_neg (by omega)]; exact d⟩
theorem eqn_found {P : Pg_} (hW : Wf_ P) {i : Nat} (hi : i < g_N P) (hE : isE_ P i) {V : Nat → Nat} (hV : Vk_ V) (h : (eqn_ P i V).1 = 2) : (eqn_ P i V).2.1 < 14 ∧ V (eqn_ P i V).2.1 = 20000 + (eqn_ P i V).2.1 ∧ (eqn_ P i V).2.2 ≤ 9999 := by
  unfold eqn_ at h ⊢
  by_cases h1 : nl_ ((eL_ P i).map (vl_ V)) + nl_ ((eR_ P i).map (vl_ V)) ≤ 1
  · obtain ⟨-, sp2, -⟩ := eqv_sp (g_K P i = 2) h1
    obtain ⟨q1, q2, q3⟩ := sp2 h
    have hmem : 20000 + ol_ (rs_l ((eL_ P i).map (vl_ V)) ((eR_ P i).map (vl_ V))) ∈ (eL_ P i).map (vl_ V) ∨ 20000 + ol_ (rs_l ((eL_ P i).map (vl_ V)) ((eR_ P i).map (vl_ V))) ∈ (eR_ P i).map (vl_ V) := by
      unfold rs_l
      by_cases c : nl_ ((eL_ P i).map (vl_ V)) = 1
      · rw [if_pos c]; exact Or.inl (ol_mem _ (by omega))
      · rw [if_neg c]; exact Or.inr (ol_mem _ (by omega))
    obtain ⟨r1, r2⟩ := eLR_let hW hi hE hV _ hmem _ rfl
    rw [q2]
    exact ⟨r1, r2, q3⟩
  · unfold eqv_ at h
    rw [if_pos (by omega)] at h
    exact absurd (show (0 : Nat) = 2 from h) (by decide)
theorem m_rL {P : Pg_} {o : Ob_T} (hm : Rm_ (o_A o 1) P) (hN : g_N P ≤ 10) {i : Nat} (hi : i < g_N P) (hL6 : g_L P i ≤ 6) (hE : g_K P i = 5 ∨ g_K P i = 6) (hLR : Rlr_ o [] []) (x4 x5 : Int32) (k259 : Int32 → Int32 → Int32 → Ob_T → Option Ob_T) :
    ∃ o', Lp_ (fun (rec : (Int32 × Int32 × Int32 × Int32 × Int32 × Ob_T) → Option Ob_T) x => f_X9_reckon_L208 k259 rec x.1 x.2.1 x.2.2.1 x.2.2.2.1 x.2.2.2.2.1 x.2.2.2.2.2) FU_ (nI i, nI (g_K P i), x4, x5, 0, o) = k259 (nI i) x4 x5 o' ∧ Rlr_ o' (eL_ P i) [] ∧ Fr_ [37, 39] o o' := by
  -- what is laid, and how many
  obtain ⟨g, m, hm6, hg1, hg2, hg3⟩ : ∃ (g : Nat → Nat) (m : Nat), m ≤ 6 ∧ gt_ g m 0 = eL_ P i ∧ (g_K P i = 6 → m = g_L P i ∧ g = g_E P i) ∧ (¬ g_K P i = 6 → m = 1 ∧ ∀ k, g k = 20004 + i) := by
    by_cases c : g_K P i = 6
    · exact ⟨g_E P i, g_L P i, hL6, by unfold eL_; rw [if_pos c], fun _ => ⟨rfl, rfl⟩, fun z => absurd c z⟩
    · exact ⟨fun _ => 20004 + i, 1, by omega, by unfold eL_; rw [if_neg c]; rfl, fun z => absurd z c, fun _ => ⟨rfl, fun _ => rfl⟩⟩
  refine lp_fu (P := fun r => ∃ o', r = k259 (nI i) x4 x5 o' ∧ Rlr_ o' (eL_ P i) [] ∧ Fr_ [37, 39] o o')
    (fun n x => ∃ c k o1 L, n = c + 1 ∧ k + c = m ∧ x = (nI i, nI (g_K P i), x4, x5, nI k, o1) ∧ L.length = k ∧ Rlr_ o1 L [] ∧ L ++ gt_ g c k = eL_ P i ∧ Fr_ [37, 39] o o1) ?_ ?_ (m + 1) _ ⟨m, 0, o, [], rfl, by omega, rfl, rfl, hLR, hg1, fr_rf _ _⟩ (by omega)
  · rintro x ⟨c, k, o1, L, z, -⟩
    omega
  · rintro n x rec ⟨c, k, o1, L, hn, hk, rfl, hlL, hL1, he, hF⟩ hr
    unfold f_X9_reckon_L208
    dsimp only
    have hm1 : Rm_ (o_A o1 1) P := by rw [(hF 1 (by decide)).2]; exact hm
    have e0 : (if nI (g_K P i) = 6 then (f_X9_longOf o1 (nI i)).bind fun u10 => f_X9_reckon_J225 k259 rec (nI i) (nI (g_K P i)) x4 x5 (nI k) (nI k) u10 o1 else f_X9_reckon_J225 k259 rec (nI i) (nI (g_K P i)) x4 x5 (nI k) (nI k) 1 o1) = f_X9_reckon_J225 k259 rec (nI i) (nI (g_K P i)) x4 x5 (nI k) (nI k) (nI m) o1 := by
      rcases hE with z | z
      · rw [if_neg (show ¬ nI (g_K P i) = 6 by rw [z]; decide), (hg3 (by omega)).1]; rfl
      · rw [if_pos (show nI (g_K P i) = 6 by rw [z]; rfl), m_long hm1 hN hi, Option.bind_some, (hg2 z).1]
    rw [e0]
    unfold f_X9_reckon_J225
    match c, hn, hk, he with
    | 0, hn, hk, he =>
      rw [if_pos (nI_le (by omega) (by omega))]
      refine ⟨o1, rfl, ?_, hF⟩
      have he : L ++ [] = eL_ P i := he
      rw [← he, List.append_nil]
      exact hL1
    | c + 1, hn, hk, he =>
      rw [if_neg (nI_ge (by omega) (by omega))]
      obtain ⟨o2, e2, h2, F2⟩ := m_layL hL1 (by omega) (g k)
      have e1 : (if nI (g_K P i) = 6 then (f_X9_extentOf o1 (nI i) (nI k)).bind fun u9 => f_X9_reckon_J250 rec (nI i) (nI (g_K P i)) x4 x5 (nI k) u9 o1 else f_X9_reckon_J250 rec (nI i) (nI (g_K P i)) x4 x5 (nI k) (20004 + nI i) o1) = f_X9_reckon_J250 rec (nI i) (nI (g_K P i)) x4 x5 (nI k) (nI (g k)) o1 := by
        rcases hE with z | z
        · rw [if_neg (show ¬ nI (g_K P i) = 6 by rw [z]; decide), (hg3 (by omega)).2, show (20004 : Int32) + nI i = nI (20004 + i) from nI_add 20004 i]
        · have hml := (hg2 z).1
          rw [if_pos (show nI (g_K P i) = 6 by rw [z]; rfl), m_ext hm1 hN hi (by omega) hL6, Option.bind_some, (hg2 z).2]
      rw [e1]
      unfold f_X9_reckon_J250
      rw [e2, Option.bind_some]
      refine hr _ ⟨c, k + 1, o2, L ++ [g k], by omega, by omega, by rw [nI_1], by simp; omega, h2, ?_, fr_tr hF F2⟩
      rw [← he, List.append_assoc]
      rfl
theorem m_rR {P : Pg_} {o : Ob_T} (hm : Rm_ (o_A o 1) P) (hN : g_N P ≤ 10) {a f : Nat} (ha : a < g_N P) (hL6 : g_L P a ≤ 6) (hf : f ≤ g_L P a) {L : List Nat} (hLR : Rlr_ o L []) (x1 : Int32) (k292 : Int32 → Ob_T → Option Ob_T) :
    ∃ o', Lp_ (fun (rec : (Int32 × Int32 × Int32 × Ob_T) → Option Ob_T) x => f_X9_reckon_L263 k292 rec x.1 x.2.1 x.2.2.1 x.2.2.2) FU_ (x1, nI a, nI f, o) = k292 x1 o' ∧ Rlr_ o' L (gt_ (g_E P a) (g_L P a - f) f) ∧ Fr_ [38, 40] o o' := by
  refine lp_fu (P := fun r => ∃ o', r = k292 x1 o' ∧ Rlr_ o' L (gt_ (g_E P a) (g_L P a - f) f) ∧ Fr_ [38, 40] o o')
    (fun n x => ∃ c k o1 R, n = c + 1 ∧ k + c = g_L P a ∧ x = (x1, nI a, nI k, o1) ∧ R.length ≤ k ∧ Rlr_ o1 L R ∧ R ++ gt_ (g_E P a) c k = gt_ (g_E P a) (g_L P a - f) f ∧ Fr_ [38, 40] o o1) ?_ ?_ (g_L P a - f + 1) _ ⟨g_L P a - f, f, o, [], rfl, by omega, rfl, Nat.zero_le _, hLR, rfl, fr_rf _ _⟩ (by omega)
  · rintro x ⟨c, k, o1, L, z, -⟩
    omega
  · rintro n x rec ⟨c, k, o1, R, hn, hk, rfl, hlR, hL1, he, hF⟩ hr
    unfold f_X9_reckon_L263
    dsimp only
    have hm1 : Rm_ (o_A o1 1) P := by rw [(hF 1 (by decide)).2]; exact hm
    rw [m_long hm1 hN ha, Option.bind_some]
    match c, hn, hk, he with
    | 0, hn, hk, he =>
      rw [if_pos (nI_le (by omega) (by omega))]
      refine ⟨o1, rfl, ?_, hF⟩
      have he : R ++ [] = _ := he
      rw [← he, List.append_nil]
      exact hL1
    | c + 1, hn, hk, he =>
      rw [if_neg (nI_ge (by omega) (by omega)), m_ext hm1 hN ha (by omega) hL6, Option.bind_some]
      obtain ⟨o2, e2, h2, F2⟩ := m_layR hL1 (by omega) (g_E P a k)
      rw [e2, Option.bind_some]
      refine hr _ ⟨c, k + 1, o2, R ++ [g_E P a k], by omega, by omega, by rw [nI_1], by simp; omega, h2, ?_, fr_tr hF F2⟩
      rw [← he, List.append_assoc]
      rfl
/-- what a reckoning leaves -/
def Rk4_ (P : Pg_) (i : Nat) (o o' : Ob_T) (S : Sv_) : Prop := Rso_ o' (stp_ P i S.1 (eqn_ P i S.1)) ∧ Fr_ RK_ o o' ∧ o_F o' 36 = if (eqn_ P i S.1).1 = 2 then 1 else o_F o 36
theorem m_rEnd {P : Pg_} (hW : Wf_ P) {i : Nat} (hi : i < g_N P) (hE : isE_ P i) {o : Ob_T} {S : Sv_} (hR : Rso_ o S) (hS : S.2 = []) (hLR : Rlr_ o (eL_ P i) (eR_ P i)) :
    ∃ o1, f_X9_isAlmostKnown o = some ((if 2 ≤ nl_ ((eL_ P i).map (vl_ S.1)) + nl_ ((eR_ P i).map (vl_ S.1)) then 0 else 1), o1) ∧ (2 ≤ nl_ ((eL_ P i).map (vl_ S.1)) + nl_ ((eR_ P i).map (vl_ S.1)) → Rk4_ P i o o1 S) ∧ (¬ 2 ≤ nl_ ((eL_ P i).map (vl_ S.1)) + nl_ ((eR_ P i).map (vl_ S.1)) → Eq_ o1 S (eL_ P i) (eR_ P i) ∧ ∀ o', Ro_ o1 o' P i S (eqn_ P i S.1) → Rk4_ P i o o' S) := by
  have hok := eLR_ok hW hi hE
  obtain ⟨o1, e1, h41, h42, F1⟩ := m_almost hR.1 hLR hok
  have hR1 : Rso_ o1 S := by
    unfold Rso_
    rw [(F1 31 (by decide)).2, (F1 32 (by decide)).2, (F1 34 (by decide)).2, (F1 35 (by decide)).1]
    exact hR
  have F1' : Fr_ RK_ o o1 := fr_mono F1 (by decide)
  refine ⟨o1, e1, fun h2 => ?_, fun h2 => ⟨⟨hR1, hS, rlr_fr hLR F1 (by decide), hok, by omega, h41, fun z => ⟨h42 z, ?_⟩⟩, fun o' hr => ?_⟩⟩
  · have e0 : eqn_ P i S.1 = (0, 0, 0) := by unfold eqn_ eqv_; rw [if_pos h2]
    unfold Rk4_
    rw [e0]
    have es : stp_ P i S.1 (0, 0, 0) = S := by
      unfold stp_
      rw [if_neg (by decide), if_neg (by decide)]
      exact Prod.ext rfl hS.symm
    rw [es]
    exact ⟨hR1, F1', (F1 36 (by decide)).1⟩
  · have hmem : 20000 + ol_ (rs_l ((eL_ P i).map (vl_ S.1)) ((eR_ P i).map (vl_ S.1))) ∈ (eL_ P i).map (vl_ S.1) ∨ 20000 + ol_ (rs_l ((eL_ P i).map (vl_ S.1)) ((eR_ P i).map (vl_ S.1))) ∈ (eR_ P i).map (vl_ S.1) := by
      unfold rs_l
      by_cases c : nl_ ((eL_ P i).map (vl_ S.1)) = 1
      · rw [if_pos c]; exact Or.inl (ol_mem _ (by omega))
      · rw [if_neg c]; exact Or.inr (ol_mem _ (by omega))
    exact eLR_let hW hi hE (rs_vk hR.1) _ hmem _ rfl
  · obtain ⟨a, b, c⟩ := hr
    exact ⟨a, fr_tr F1' (fr_mono b (by decide)), by rw [c, (F1 36 (by decide)).1]⟩
theorem m_first {P : Pg_} {o : Ob_T} (hm : Rm_ (o_A o 1) P) (hN : g_N P ≤ 10) {a f : Nat} (ha : a < g_N P) (hL6 : g_L P a ≤ 6) (hf : f ≤ 6) {ω : Type} (K : Int32 → Option ω) : ((f_X9_longOf o (nI a)).bind fun u => if u ≤ nI f then K 1 else (f_X9_extentOf o (nI a) (nI f)).bind fun w => K w) = K (nI (fc_ P a f)) := by
  rw [m_long hm hN ha, Option.bind_some]
  unfold fc_
  by_cases c : f < g_L P a
  · rw [if_neg (nI_ge (by omega) (by omega)), m_ext hm hN ha c hL6, Option.bind_some, if_pos c]
  · rw [if_pos (nI_le (by omega) (by omega)), if_neg c]; rfl
theorem m_reckon {P : Pg_} (hW : Wf_ P) {i : Nat} (hi : i < g_N P) {o : Ob_T} (hm : Rm_ (o_A o 1) P) {S : Sv_} (hR : Rso_ o S) (hS : S.2 = []) : ∃ o', f_X9_reckon o (nI i) = some o' ∧ ((isE_ P i → Rk4_ P i o o' S) ∧ (¬ isE_ P i → Rso_ o' S ∧ Fr_ RK_ o o' ∧ o_F o' 36 = o_F o 36)) := by
  have hN := hW.1
  obtain ⟨w1, w2, w3, w4, w5, w6⟩ := hW.2 i hi
  unfold f_X9_reckon
  rw [l_K hm hN hi, Option.bind_some, ld15 (j := 1) (k := 1) rfl (by omega) (by omega), Option.bind_some, Lt_E, Lt_E]
  obtain ⟨o4, eo⟩ : ∃ z, z = p_F (p_F o 39 0) 40 0 := ⟨_, rfl⟩
  rw [← eo]
  have F4 : Fr_ [39, 40] o o4 := by rw [eo]; exact fr_tr (fr_pF (by decide)) (fr_pF (by decide))
  have hm4 : Rm_ (o_A o4 1) P := by rw [(F4 1 (by decide)).2]; exact hm
  have hR4 : Rso_ o4 S := by rw [eo]; exact hR
  have hLR4 : Rlr_ o4 [] [] := by rw [eo]; exact ⟨⟨by simp, rfl, fun k hk => by simp at hk⟩, ⟨by simp, rfl, fun k hk => by simp at hk⟩⟩
  clear eo
  have F4' : Fr_ RK_ o o4 := fr_mono F4 (by decide)
  have lift : ∀ o3 o', Fr_ RK_ o4 o3 → o_F o3 36 = o_F o4 36 → Rk4_ P i o3 o' S → Rk4_ P i o o' S := by
    intro o3 o' f3 e3 hk
    obtain ⟨a, b, c⟩ := hk
    exact ⟨a, fr_tr F4' (fr_tr f3 b), by rw [c, e3, (F4 36 (by decide)).1]⟩
  have rso : ∀ o3, Fr_ [37, 38, 39, 40] o4 o3 → Rso_ o3 S := by
    intro o3 f3
    unfold Rso_
    rw [(f3 31 (by decide)).2, (f3 32 (by decide)).2, (f3 34 (by decide)).2, (f3 35 (by decide)).1]
    exact hR4
  by_cases k2 : g_K P i = 2
  · have hv : vb_ P i := ⟨by omega, by omega⟩
    have hr := (w5 hv).1
    have ha := w3 (by omega)
    have hb := w4 (Or.inr k2)
    have ha2 : g_A P i < g_N P := by omega
    have hb2 : g_B P i < g_N P := by omega
    have haL := (hW.2 _ ha2).2.1
    have hbL := (hW.2 _ hb2).2.1
    have f1 := fr_le (g_R P i) (g_L P (g_A P i))
    have f2 := fr_le (g_R P i) (g_L P (g_B P i))
    have hE : isE_ P i := Or.inl k2
    rw [if_pos (show nI (g_K P i) = 2 by rw [k2]; rfl), (hm i hi).2.1 (by omega), l_B hm4 hN hi (Or.inr k2), Option.bind_some, m_long hm4 hN ha2, Option.bind_some, l_R hm4 hN hi hv, Option.bind_some, m_fr hr haL, Option.bind_some, m_long hm4 hN hb2, Option.bind_some, Option.bind_some, m_fr hr hbL, Option.bind_some, show (20004 : Int32) + nI i = nI (20004 + i) from nI_add 20004 i]
    obtain ⟨o5, e5, h5, F5⟩ := m_layL hLR4 (by simp) (20004 + i)
    have hm5 : Rm_ (o_A o5 1) P := by rw [(F5 1 (by decide)).2]; exact hm4
    rw [e5, Option.bind_some, m_first hm5 hN ha2 haL (by omega) (fun w => f_X9_reckon_J120 (nI i) (nI (g_B P i)) (nI (fr_ (g_R P i) (g_L P (g_B P i)))) w o5)]
    unfold f_X9_reckon_J120
    obtain ⟨o6, e6, h6, F6⟩ := m_layR h5 (by simp) (fc_ P (g_A P i) (fr_ (g_R P i) (g_L P (g_A P i))))
    have hm6 : Rm_ (o_A o6 1) P := by rw [(F6 1 (by decide)).2]; exact hm5
    rw [e6, Option.bind_some, m_first hm6 hN hb2 hbL (by omega) (fun w => f_X9_reckon_J147 (nI i) w o6)]
    unfold f_X9_reckon_J147
    obtain ⟨o7, e7, h7, F7⟩ := m_layR h6 (by simp) (fc_ P (g_B P i) (fr_ (g_R P i) (g_L P (g_B P i))))
    rw [e7, Option.bind_some]
    have F47 : Fr_ [37, 38, 39, 40] o4 o7 := fr_tr (fr_mono F5 (by decide)) (fr_tr (fr_mono F6 (by decide)) (fr_mono F7 (by decide)))
    have eL : eL_ P i = [20004 + i] := by unfold eL_; rw [if_neg (by omega)]
    have eR : eR_ P i = [fc_ P (g_A P i) (fA_ P i), fc_ P (g_B P i) (fB_ P i)] := by unfold eR_; rw [if_pos k2]
    have h7' : Rlr_ o7 (eL_ P i) (eR_ P i) := by rw [eL, eR]; exact h7
    obtain ⟨o8, e8, q1, q2⟩ := m_rEnd hW hi hE (rso o7 F47) hS h7'
    rw [e8, Option.bind_some]
    dsimp only
    have f36 : o_F o7 36 = o_F o4 36 := (F47 36 (by decide)).1
    by_cases c : 2 ≤ nl_ ((eL_ P i).map (vl_ S.1)) + nl_ ((eR_ P i).map (vl_ S.1))
    · rw [if_pos (show (if 2 ≤ nl_ ((eL_ P i).map (vl_ S.1)) + nl_ ((eR_ P i).map (vl_ S.1)) then (0 : Int32) else 1) = 0 by rw [if_pos c])]
      exact ⟨o8, rfl, fun _ => lift o7 o8 (fr_mono F47 (by decide)) f36 (q1 c), fun z => absurd hE z⟩
    · rw [if_neg (show ¬ (if 2 ≤ nl_ ((eL_ P i).map (vl_ S.1)) + nl_ ((eR_ P i).map (vl_ S.1)) then (0 : Int32) else 1) = 0 by rw [if_neg c]; decide)]
      obtain ⟨q3, q4⟩ := q2 c
      have q3' := q3
      rw [eL, eR] at q3'
      obtain ⟨o9, e9, h9⟩ := m_sumUp q3' (show i < 10 by omega) k2
      rw [e9, Option.bind_some]
      refine ⟨o9, rfl, fun _ => lift o7 o9 (fr_mono F47 (by decide)) f36 (q4 o9 ?_), fun z => absurd hE z⟩
      unfold eqn_
      rw [eL, eR]
      exact h9
  · rw [if_neg (show ¬ nI (g_K P i) = 2 from fun z => k2 ((nI_eq (b := 2) (by omega) (by omega)).mp z))]
    by_cases k56 : g_K P i = 5 ∨ g_K P i = 6
    · have hE : isE_ P i := Or.inr k56
      have ha := w3 (by rcases k56 with z | z <;> omega)
      have ha2 : g_A P i < g_N P := by omega
      have haL := (hW.2 _ ha2).2.1
      have f1 := fr_le (g_R P i) (g_L P (g_A P i))
      have e0 : (if nI (g_K P i) = 5 then f_X9_reckon_J176 (nI i) (15 * nI i) (nI (g_K P i)) (o_A o 1 (15 * i + 1)) o4 else if nI (g_K P i) = 6 then f_X9_reckon_J176 (nI i) (15 * nI i) (nI (g_K P i)) (o_A o 1 (15 * i + 1)) o4 else some o4) = f_X9_reckon_J203 (nI i) (nI (g_K P i)) (nI (g_A P i)) (nI (eF_ P i)) o4 := by
        rw [(hm i hi).2.1 (by rcases k56 with z | z <;> omega)]
        unfold f_X9_reckon_J176 eF_
        rcases k56 with z | z
        · have hv : vb_ P i := ⟨by omega, by omega⟩
          have hr := (w5 hv).1
          rw [if_pos (show nI (g_K P i) = 5 by rw [z]; rfl), if_neg (show ¬ nI (g_K P i) = 6 by rw [z]; decide), m_long hm4 hN ha2, Option.bind_some, l_R hm4 hN hi hv, Option.bind_some, m_fr hr haL, Option.bind_some, if_pos z]
          rfl
        · rw [if_neg (show ¬ nI (g_K P i) = 5 by rw [z]; decide), if_pos (show nI (g_K P i) = 6 by rw [z]; rfl), if_pos (show nI (g_K P i) = 6 by rw [z]; rfl), if_neg (show ¬ g_K P i = 5 by omega)]
          rfl
      rw [e0]
      unfold f_X9_reckon_J203
      obtain ⟨o5, e5, h5, F5⟩ := m_rL hm4 hN hi w2 k56 hLR4 (nI (g_A P i)) (nI (eF_ P i)) (fun y1 y4 y5 t_o => f_X9_reckon_J259 y1 y4 y5 t_o)
      rw [e5]
      have hm5 : Rm_ (o_A o5 1) P := by rw [(F5 1 (by decide)).2]; exact hm4
      unfold f_X9_reckon_J259
      have hef : eF_ P i ≤ g_L P (g_A P i) := by
        unfold eF_
        by_cases z : g_K P i = 5
        · rw [if_pos z]; exact f1
        · rw [if_neg z]; omega
      obtain ⟨o7, e7, h7, F7⟩ := m_rR hm5 hN ha2 haL hef h5 (nI i) (fun y1 t_o => f_X9_reckon_J292 y1 t_o)
      rw [e7]
      unfold f_X9_reckon_J292
      have F47 : Fr_ [37, 38, 39, 40] o4 o7 := fr_tr (fr_mono F5 (by decide)) (fr_mono F7 (by decide))
      have h7' : Rlr_ o7 (eL_ P i) (eR_ P i) := by unfold eR_; rw [if_neg k2]; exact h7
      obtain ⟨o8, e8, q1, q2⟩ := m_rEnd hW hi hE (rso o7 F47) hS h7'
      rw [e8, Option.bind_some]
      dsimp only
      have f36 : o_F o7 36 = o_F o4 36 := (F47 36 (by decide)).1
      by_cases c : 2 ≤ nl_ ((eL_ P i).map (vl_ S.1)) + nl_ ((eR_ P i).map (vl_ S.1))
      · rw [if_pos (show (if 2 ≤ nl_ ((eL_ P i).map (vl_ S.1)) + nl_ ((eR_ P i).map (vl_ S.1)) then (0 : Int32) else 1) = 0 by rw [if_pos c])]
        exact ⟨o8, rfl, fun _ => lift o7 o8 (fr_mono F47 (by decide)) f36 (q1 c), fun z => absurd hE z⟩
      · rw [if_neg (show ¬ (if 2 ≤ nl_ ((eL_ P i).map (vl_ S.1)) + nl_ ((eR_ P i).map (vl_ S.1)) then (0 : Int32) else 1) = 0 by rw [if_neg c]; decide)]
        obtain ⟨q3, q4⟩ := q2 c
        obtain ⟨o9, e9, h9⟩ := m_multiply q3 (show i < 10 by omega) k2
        rw [e9, Option.bind_some]
        exact ⟨o9, rfl, fun _ => lift o7 o9 (fr_mono F47 (by decide)) f36 (q4 o9 h9), fun z => absurd hE z⟩
    · have hE : ¬ isE_ P i := fun z => by rcases z with z | z; exact k2 z; exact k56 z
      rw [if_neg (show ¬ nI (g_K P i) = 5 from fun z => k56 (Or.inl ((nI_eq (b := 5) (by omega) (by omega)).mp z))), if_neg (show ¬ nI (g_K P i) = 6 from fun z => k56 (Or.inr ((nI_eq (b := 6) (by omega) (by omega)).mp z)))]
      exact ⟨o4, rfl, fun z => absurd z hE, fun _ => ⟨hR4, F4', (F4 36 (by decide)).1⟩⟩
