def ads_ (Ls : Nat → List Nat) (s : Nat) (l : List Nat) : Nat → List Nat := fun t => if t = s then Ls t ++ l else Ls t
def sd_ (L R : List Nat) : Nat → List Nat := fun t => if t = 0 then L else R
theorem rd_cg {d : Ob_T} {Ls Lt : Nat → List Nat} (h : Rd_ d Ls) (e0 : Ls 0 = Lt 0) (e1 : Ls 1 = Lt 1) : Rd_ d Lt := by
  have e : ∀ s, s < 2 → Ls s = Lt s := by
    intro s hs
    rcases (show s = 0 ∨ s = 1 by omega) with rfl | rfl
    · exact e0
    · exact e1
  obtain ⟨h1, h2, h3, h4, h5, h6⟩ := h
  rw [e0, e1] at h2 h3 h4 h5
  refine ⟨fun s hs => by rw [← e s hs]; exact h1 s hs, h2, h3, h4, fun z => ?_, fun l hl => by rw [← e0, ← e1]; exact h6 l hl⟩
  obtain ⟨s, hs, a, b, c⟩ := h5 z
  exact ⟨s, hs, a, by rw [← e s hs]; exact b, by rw [← e s hs]; exact c⟩
theorem nl_1 (v : Nat) : nl_ [v] = if v < 20000 then 0 else 1 := rfl
theorem nl_ads (Ls : Nat → List Nat) {s : Nat} (hs : s < 2) (v : Nat) : nl_ (ads_ Ls s [v] 0) + nl_ (ads_ Ls s [v] 1) = nl_ (Ls 0) + nl_ (Ls 1) + if v < 20000 then 0 else 1 := by
  unfold ads_
  rcases (show s = 0 ∨ s = 1 by omega) with rfl | rfl
  · rw [if_pos rfl, if_neg (by decide), nl_app, nl_1]; omega
  · rw [if_neg (by decide), if_pos rfl, nl_app, nl_1]; omega
theorem mem_ads (Ls : Nat → List Nat) {s : Nat} (hs : s < 2) (v x : Nat) : (x ∈ ads_ Ls s [v] 0 ∨ x ∈ ads_ Ls s [v] 1) ↔ (x ∈ Ls 0 ∨ x ∈ Ls 1) ∨ x = v := by
  unfold ads_
  rcases (show s = 0 ∨ s = 1 by omega) with rfl | rfl
  · rw [if_pos rfl, if_neg (by decide), List.mem_append, List.mem_singleton]
    exact ⟨fun h => by rcases h with (h | h) | h <;> simp [h], fun h => by rcases h with (h | h) | h <;> simp [h]⟩
  · rw [if_neg (by decide), if_pos rfl, List.mem_append, List.mem_singleton]
    exact ⟨fun h => by rcases h with h | h | h <;> simp [h], fun h => by rcases h with (h | h) | h <;> simp [h]⟩
theorem b_lit : (999999999999 : Int64) = lN BD_ := rfl
theorem x_addN {d : Ob_T} {Ls : Nat → List Nat} {s v : Nat} (hs : s < 2) (h : Rd_ d Ls) (hv : v ≤ 9999) (hb : su_ (Ls s) ≤ 1000000) : ∃ d', f_X4_add d (nI s) (nI v) = some d' ∧ Rd_ d' (ads_ Ls s [v]) := by
  obtain ⟨h1, h2, h3, h4, h5, h6⟩ := h
  obtain ⟨a1, a2, p, a3, a4⟩ := h1 s hs
  have hv2 : v < 20000 := by omega
  have hp : p < 2 ^ 63 := by
    rcases a4 with ⟨e, g⟩ | ⟨-, -, g⟩
    · unfold BD_ at g; omega
    · omega
  unfold f_X4_add
  rw [if_pos (show nI v < 20000 from nI_lt (b := 20000) hv2 (by omega)), ld_nJ hs (by omega), Option.bind_some, a2, nI_l (by omega), lN_add, st_nJ hs (by omega), Option.bind_some]
  -- all but this side's numbers stay
  have key : ∀ d' : Ob_T, o_L d' 0 = vp_updL (o_L d 0) s (lN (su_ (Ls s) + v)) → (∀ k, o_F d' k = o_F d k) → (∀ t, t < 2 → t ≠ s → o_L d' 1 t = o_L d 1 t) → (∃ q, o_L d' 1 s = lN q ∧ pr_ q (pd_ (Ls s ++ [v]))) → Rd_ d' (ads_ Ls s [v]) := by
    intro d' k1 k2 k3 k4
    have n0 := nl_ads Ls hs v
    rw [if_pos hv2, Nat.add_zero] at n0
    refine ⟨fun t ht => ?_, by rw [n0]; exact h2, by rw [n0, k2]; exact h3, fun z => by rw [k2]; exact h4 (by omega), fun z => ?_, fun l hl => ?_⟩
    · by_cases hts : t = s
      · subst hts
        have ea : ads_ Ls t [v] t = Ls t ++ [v] := by unfold ads_; rw [if_pos rfl]
        rw [ea, su_app, show su_ [v] = v by show (if v < 20000 then v else 0) + 0 = v; rw [if_pos hv2]; rfl, k1]
        exact ⟨by omega, pk_uLs, k4⟩
      · have ea : ads_ Ls s [v] t = Ls t := by unfold ads_; rw [if_neg hts]
        obtain ⟨c1, c2, c3⟩ := h1 t ht
        rw [ea, k1, pk_uLn hts, k3 t ht hts]
        exact ⟨c1, c2, c3⟩
    · obtain ⟨t, ht, b1, b2, b3⟩ := h5 (by omega)
      refine ⟨t, ht, by rw [k2]; exact b1, ?_, ?_⟩
      · by_cases hts : t = s
        · subst hts
          show nl_ (if t = t then Ls t ++ [v] else Ls t) = 1
          rw [if_pos rfl, nl_app, nl_1, if_pos hv2]; omega
        · show nl_ (if t = s then Ls t ++ [v] else Ls t) = 1
          rw [if_neg hts]; exact b2
      · rw [k2, b3]
        by_cases hts : t = s
        · subst hts
          show _ = nI (ol_ (if t = t then Ls t ++ [v] else Ls t))
          rw [if_pos rfl, ol_app0 _ _ hv2]
        · show _ = nI (ol_ (if t = s then Ls t ++ [v] else Ls t))
          rw [if_neg hts]
    · rw [mem_ads Ls hs, k2, h6 l hl]
      exact ⟨fun z => Or.inl z, fun z => by rcases z with z | z; exact z; omega⟩
  by_cases hv0 : v = 0
  · subst hv0
    rw [if_pos (show nI 0 = 0 from rfl), st_nJ hs (by omega), Option.bind_some]
    refine ⟨_, rfl, key _ rfl (fun _ => rfl) (fun t ht hts => ?_) ⟨0, ?_, ?_⟩⟩
    · show vp_updL (o_L d 1) s 0 t = o_L d 1 t
      exact pk_uLn hts
    · show vp_updL (o_L d 1) s 0 s = lN 0
      exact pk_uLs
    · rw [pd_zero _ (by simp)]
      exact Or.inl ⟨rfl, Nat.zero_le _⟩
  · have epd : pd_ (Ls s ++ [v]) = pd_ (Ls s) * v := by
      rw [pd_app, show pd_ [v] = v by show (if v < 20000 then v else 1) * 1 = v; rw [if_pos hv2, Nat.mul_one]]
    rw [if_neg (nI_ne0 (by omega) (by omega)), oL_pL, if_neg (by decide), ld_nJ hs (by omega), Option.bind_some, a3, b_lit]
    by_cases hp2 : BD_ < p
    · rw [if_pos ((lc_gt hp (by unfold BD_; omega)).mpr hp2)]
      refine ⟨_, rfl, key _ rfl (fun _ => rfl) (fun t ht hts => rfl) ⟨p, a3, ?_⟩⟩
      rcases a4 with ⟨e, g⟩ | ⟨g1, g2, g3⟩
      · omega
      · refine Or.inr ⟨g1, ?_, g3⟩
        rw [epd]
        exact Nat.lt_of_lt_of_le g2 (Nat.le_mul_of_pos_right _ (by omega))
    · rw [if_neg (fun z => hp2 ((lc_gt hp (by unfold BD_; omega)).mp z)), Option.bind_some, lN_mul, st_nJ hs (by omega), Option.bind_some]
      refine ⟨_, rfl, key _ rfl (fun _ => rfl) (fun t ht hts => pk_uLn hts) ⟨p * v, pk_uLs, ?_⟩⟩
      rw [epd]
      rcases a4 with ⟨e, g⟩ | ⟨g1, g2, g3⟩
      · rw [← e]
        rcases Nat.lt_or_ge BD_ (p * v) with z | z
        · refine Or.inr ⟨z, z, ?_⟩
          have : p * v ≤ 999999999999 * 9999 := Nat.mul_le_mul (by unfold BD_ at g; omega) hv
          omega
        · exact Or.inl ⟨rfl, z⟩
      · omega
theorem x_addL {d : Ob_T} {Ls : Nat → List Nat} {s l : Nat} (hs : s < 2) (h : Rd_ d Ls) (hl : l < 14) (hc : nl_ (Ls 0) + nl_ (Ls 1) ≤ 19) : ∃ d', f_X4_add d (nI s) (nI (20000 + l)) = some d' ∧ Rd_ d' (ads_ Ls s [20000 + l]) := by
  obtain ⟨h1, h2, h3, h4, h5, h6⟩ := h
  unfold f_X4_add
  rw [if_neg (show ¬ nI (20000 + l) < 20000 from nI_nlt (b := 20000) (by omega) (by omega))]
  rw [show nI (20000 + l) - 20000 = nI l from (pk_sub (b := 20000) (by omega)).trans (congrArg nI (by omega))]
  simp only [Lt_E]
  refine ⟨_, rfl, ?_⟩
  have n0 := nl_ads Ls hs (20000 + l)
  rw [if_neg (by omega)] at n0
  have e3 : nl_ [20000 + l] = 1 := by rw [nl_1, if_neg (by omega)]
  refine ⟨fun t ht => ?_, by omega, ?_, fun z => by omega, fun z => ?_, fun k hk => ?_⟩
  · obtain ⟨c1, c2, c3⟩ := h1 t ht
    by_cases hts : t = s
    · subst hts
      have ea : ads_ Ls t [20000 + l] t = Ls t ++ [20000 + l] := by unfold ads_; rw [if_pos rfl]
      rw [ea, su_app, show su_ [20000 + l] = 0 by show (if 20000 + l < 20000 then 20000 + l else 0) + 0 = 0; rw [if_neg (by omega)], Nat.add_zero, pd_app, show pd_ [20000 + l] = 1 by show (if 20000 + l < 20000 then 20000 + l else 1) * 1 = 1; rw [if_neg (by omega)], Nat.mul_one]
      exact ⟨c1, c2, c3⟩
    · have ea : ads_ Ls s [20000 + l] t = Ls t := by unfold ads_; rw [if_neg hts]
      rw [ea]
      exact ⟨c1, c2, c3⟩
  · show o_F d 2 + 1 = _
    rw [n0, h3, nI_1]
  · have hz : nl_ (Ls 0) + nl_ (Ls 1) = 0 := by omega
    have hz0 : nl_ (Ls s) = 0 := by rcases (show s = 0 ∨ s = 1 by omega) with rfl | rfl <;> omega
    refine ⟨s, hs, rfl, ?_, ?_⟩
    · show nl_ (if s = s then Ls s ++ [20000 + l] else Ls s) = 1
      rw [if_pos rfl, nl_app, e3, hz0]
    · show nI l = nI (ol_ (if s = s then Ls s ++ [20000 + l] else Ls s))
      rw [if_pos rfl, ol_app1 _ _ (by omega) hz0, show 20000 + l - 20000 = l by omega]
  · rw [mem_ads Ls hs, ← h6 k hk]
    show tb_ (o_F d 5 ||| ((1 : Int32) <<< (nI l &&& 31))) k = true ↔ _
    rw [tb_or, tb_sh l (by omega) k (by omega), Bool.or_eq_true, decide_eq_true_iff]
    exact ⟨fun z => by rcases z with z | z; exact Or.inl z; exact Or.inr (by omega), fun z => by rcases z with z | z; exact Or.inl z; exact Or.inr (by omega)⟩
theorem x_add {d : Ob_T} {Ls : Nat → List Nat} {s v : Nat} (hs : s < 2) (h : Rd_ d Ls) (hv : v ≤ 9999 ∨ ∃ r, r < 14 ∧ v = 20000 + r) (hb : su_ (Ls s) ≤ 1000000) (hc : nl_ (Ls 0) + nl_ (Ls 1) ≤ 19) : ∃ d', f_X4_add d (nI s) (nI v) = some d' ∧ Rd_ d' (ads_ Ls s [v]) := by
  rcases hv with hv | ⟨r, hr, rfl⟩
  · exact x_addN hs h hv hb
  · exact x_addL hs h hr hc
theorem x_clear (d : Ob_T) : ∃ d', f_X4_clear d = some d' ∧ Rd_ d' (sd_ [] []) := by
  have st : ∃ d1, f_X4_clear d = f_X4_clear_J27 d1 ∧ ∀ s, s < 2 → o_L d1 0 s = 0 ∧ o_L d1 1 s = 1 := by
    unfold f_X4_clear
    refine lp_fu (P := fun r => ∃ d1, r = f_X4_clear_J27 d1 ∧ ∀ s, s < 2 → o_L d1 0 s = 0 ∧ o_L d1 1 s = 1) (fun n x => ∃ i d1, i ≤ 2 ∧ n = 2 - i + 1 ∧ x = (nI i, d1) ∧ ∀ s, s < i → o_L d1 0 s = 0 ∧ o_L d1 1 s = 1) ?_ ?_ (2 - 0 + 1) _ ⟨0, d, by omega, rfl, rfl, fun l hl => absurd hl (by omega)⟩ (by omega)
    · rintro x ⟨i, v1, h1, h2, -⟩
      omega
    · rintro n x rec ⟨i, d1, h1, h2, rfl, hA⟩ hr
      unfold f_X4_clear_L2
      dsimp only
      by_cases he : i = 2
      · subst he
        rw [if_pos (show (2 : Int32) ≤ nI 2 from Int32.le_refl _)]
        exact ⟨d1, rfl, hA⟩
      · rw [if_neg (show ¬ (2 : Int32) ≤ nI i from nI_ge (b := 2) (by omega) (by omega)), st_nJ (by omega) (by omega), Option.bind_some, st_nJ (by omega) (by omega), Option.bind_some]
        refine hr _ ⟨i + 1, _, by omega, by omega, by rw [nI_1], fun s hs => ?_⟩
        show vp_updL (o_L d1 0) i 0 s = 0 ∧ vp_updL (o_L d1 1) i 1 s = 1
        by_cases hsi : s = i
        · subst hsi
          exact ⟨pk_uLs, pk_uLs⟩
        · rw [pk_uLn hsi, pk_uLn hsi]
          exact hA s (by omega)
  obtain ⟨d1, e1, h1⟩ := st
  rw [e1]
  unfold f_X4_clear_J27
  simp only [Lt_E]
  refine ⟨_, rfl, fun s hs => ?_, by show 0 + 0 ≤ 20; omega, rfl, fun _ => rfl, fun z => absurd z (by decide), fun l hl => ?_⟩
  · obtain ⟨b1, b2⟩ := h1 s hs
    have e : sd_ [] [] s = [] := by unfold sd_; by_cases z : s = 0 <;> simp [z]
    rw [e]
    exact ⟨by show 0 < _; omega, b1, 1, b2, Or.inl ⟨rfl, by show 1 ≤ BD_; unfold BD_; omega⟩⟩
  · show tb_ 0 l = true ↔ _
    rw [tb_0]
    simp [sd_]
