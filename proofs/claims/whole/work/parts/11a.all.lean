section
variable {x t n v w g q r o : Ob_T}
theorem x_keep0 {x1 : Int32} {u : Int32 × Ob_T} (h : f_X8_keep x g x1 = some u) : o_A u.2 0 = o_A g 0 := by
  unfold f_X8_keep f_X0_store at h
  by_cases c1 : x1 < 0
  · rw [if_pos c1] at h
    obtain rfl := Option.some.inj h
    rfl
  · rw [if_neg c1] at h
    by_cases c2 : x1 < 2
    · rw [if_pos c2] at h
      cases hc : cp_I (o_A g 0) (o_A g 3) 4 8 (0 : Int32) (x1 * (4 : Int32)) (4 : Int32) with
      | none => rw [hc] at h; cases (show (none : Option (Int32 × Ob_T)) = some u from h)
      | some w1 =>
        rw [hc, Option.bind_some, Lt_E] at h
        cases hs : st_A (p_A g 3 w1) 4 2 x1 (vp_nar .boolean (1 : Int32)) with
        | none => rw [hs] at h; cases (show (none : Option (Int32 × Ob_T)) = some u from h)
        | some o3 =>
          rw [hs, Option.bind_some, Option.bind_some] at h
          cases hh : f_X0_howMany o3 with
          | none => rw [hh] at h; cases (show (none : Option (Int32 × Ob_T)) = some u from h)
          | some u2 =>
            rw [hh, Option.bind_some] at h
            obtain rfl := Option.some.inj h
            unfold st_A at hs
            by_cases c3 : x1 < 0 ∨ 2 ≤ x1.toNatClampNeg
            · rw [if_pos c3] at hs; cases hs
            · rw [if_neg c3] at hs
              obtain rfl := Option.some.inj hs
              rfl
    · rw [if_neg c2] at h
      obtain rfl := Option.some.inj h
      rfl
theorem rc_cg {P : Pg_} {a b : Nat → Int32} (h : ∀ l, l < 4 → a l = b l) (hc : Rc_ x v P a) : Rc_ x v P b := by
  unfold Rc_ at hc ⊢
  rw [← SO_cg h]
  exact hc
theorem rr_write (h : RR_ x t n v w g q r o) (x1 : Int32) : Tr_ (f_X8_write x t x1) (fun u => Tr_ (f_X9_write o x1) (fun y => u.1 = y.1 ∧ RR_ x u.2 n v w g q r y.2)) := by
  obtain ⟨P, hW, hn, h2, hm, ht, hgv, hq, hr, hw, hc, hwy⟩ := h
  obtain ⟨u, eu, y, ey, e1, e2, F⟩ := sm_write x t o x1 ht
  exact ⟨u, eu, y, ey, e1, P, hW, hn, by rw [(F 2 (by decide)).1]; exact h2, by rw [(F 0 (by decide)).2]; exact hm, e2, R_gv_fr hgv F (by decide), R_sn_fr hq F (by decide), R_rw_fr hr F (by decide), wd_fr hw F (by intro k a b c; simp at c; omega), hc, hwy⟩
theorem rr_erase (h : RR_ x t n v w g q r o) : Tr_ (f_X8_erase x t) (fun u => Tr_ (f_X9_erase o) (fun y => u.1 = y.1 ∧ RR_ x u.2 n v w g q r y.2)) := by
  obtain ⟨P, hW, hn, h2, hm, ht, hgv, hq, hr, hw, hc, hwy⟩ := h
  obtain ⟨u, eu, y, ey, e1, e2, F⟩ := sm_erase x t o ht
  exact ⟨u, eu, y, ey, e1, P, hW, hn, by rw [(F 2 (by decide)).1]; exact h2, by rw [(F 0 (by decide)).2]; exact hm, e2, R_gv_fr hgv F (by decide), R_sn_fr hq F (by decide), R_rw_fr hr F (by decide), wd_fr hw F (by intro k a b c; simp at c; omega), hc, hwy⟩
theorem rr_seen (h : RR_ x t n v w g q r o) (x1 : Int32) (x2 : Int32) (x3 : Int32) : Tr_ (f_X8_seen x q x1 x2 x3) (fun u => Tr_ (f_X9_seen o x1 x2 x3) (fun y => u.1 = y.1 ∧ RR_ x t n v w g u.2 r y.2)) := by
  obtain ⟨P, hW, hn, h2, hm, ht, hgv, hq, hr, hw, hc, hwy⟩ := h
  obtain ⟨u, eu, y, ey, e1, e2, F⟩ := sm_seen x q o x1 x2 x3 hq
  exact ⟨u, eu, y, ey, e1, P, hW, hn, by rw [(F 2 (by decide)).1]; exact h2, by rw [(F 0 (by decide)).2]; exact hm, R_tx_fr ht (F 10 (by decide)).1 (F 9 (by decide)).2, R_gv_fr hgv F (by decide), e2, R_rw_fr hr F (by decide), wd_fr hw F (by intro k a b c; simp at c; omega), hc, hwy⟩
theorem rr_forget (h : RR_ x t n v w g q r o) : Tr_ (f_X8_forget x q) (fun u => Tr_ (f_X9_forget o) (fun y => u.1 = y.1 ∧ RR_ x t n v w g u.2 r y.2)) := by
  obtain ⟨P, hW, hn, h2, hm, ht, hgv, hq, hr, hw, hc, hwy⟩ := h
  obtain ⟨u, eu, y, ey, e1, e2, F⟩ := sm_forget x q o hq
  exact ⟨u, eu, y, ey, e1, P, hW, hn, by rw [(F 2 (by decide)).1]; exact h2, by rw [(F 0 (by decide)).2]; exact hm, R_tx_fr ht (F 10 (by decide)).1 (F 9 (by decide)).2, R_gv_fr hgv F (by decide), e2, R_rw_fr hr F (by decide), wd_fr hw F (by intro k a b c; simp at c; omega), hc, hwy⟩
theorem rr_drop (h : RR_ x t n v w g q r o) (x1 : Int32) : Tr_ (f_X8_drop x r x1) (fun u => Tr_ (f_X9_drop o x1) (fun y => u.1 = y.1 ∧ RR_ x t n v w g q u.2 y.2)) := by
  obtain ⟨P, hW, hn, h2, hm, ht, hgv, hq, hr, hw, hc, hwy⟩ := h
  obtain ⟨u, eu, y, ey, e1, e2, F⟩ := sm_drop x r o x1 hr
  exact ⟨u, eu, y, ey, e1, P, hW, hn, by rw [(F 2 (by decide)).1]; exact h2, by rw [(F 0 (by decide)).2]; exact hm, R_tx_fr ht (F 10 (by decide)).1 (F 9 (by decide)).2, R_gv_fr hgv F (by decide), R_sn_fr hq F (by decide), e2, wd_fr hw F (by intro k a b c; simp at c; omega), hc, hwy⟩
theorem rr_set (h : RR_ x t n v w g q r o) (x1 : Int32) (x2 : Int32) (x3 : Int32) (x4 : Int32) : Tr_ (f_X8_set x r x1 x2 x3 x4) (fun u => Tr_ (f_X9_set o x1 x2 x3 x4) (fun y => u.1 = y.1 ∧ RR_ x t n v w g q u.2 y.2)) := by
  obtain ⟨P, hW, hn, h2, hm, ht, hgv, hq, hr, hw, hc, hwy⟩ := h
  obtain ⟨u, eu, y, ey, e1, e2, F⟩ := sm_set x r o x1 x2 x3 x4 hr
  exact ⟨u, eu, y, ey, e1, P, hW, hn, by rw [(F 2 (by decide)).1]; exact h2, by rw [(F 0 (by decide)).2]; exact hm, R_tx_fr ht (F 10 (by decide)).1 (F 9 (by decide)).2, R_gv_fr hgv F (by decide), R_sn_fr hq F (by decide), e2, wd_fr hw F (by intro k a b c; simp at c; omega), hc, hwy⟩
theorem rr_row (h : RR_ x t n v w g q r o) (x1 : Int32) (x2 : Int32) (x3 : Int32) : Tr_ (f_X8_row x r x1 x2 x3) (fun u => Tr_ (f_X9_row o x1 x2 x3) (fun y => u.1 = y.1 ∧ RR_ x t n v w g q u.2 y.2)) := by
  obtain ⟨P, hW, hn, h2, hm, ht, hgv, hq, hr, hw, hc, hwy⟩ := h
  obtain ⟨u, eu, y, ey, e1, e2, F⟩ := sm_row x r o x1 x2 x3 hr
  exact ⟨u, eu, y, ey, e1, P, hW, hn, by rw [(F 2 (by decide)).1]; exact h2, by rw [(F 0 (by decide)).2]; exact hm, R_tx_fr ht (F 10 (by decide)).1 (F 9 (by decide)).2, R_gv_fr hgv F (by decide), R_sn_fr hq F (by decide), e2, wd_fr hw F (by intro k a b c; simp at c; omega), hc, hwy⟩
theorem rr_copy (h : RR_ x t n v w g q r o) (x1 : Int32) (x2 : Int32) (x3 : Int32) (x4 : Int32) (x5 : Int32) : Tr_ (f_X8_copy x r x1 x2 x3 x4 x5) (fun u => Tr_ (f_X9_copy o x1 x2 x3 x4 x5) (fun y => u.1 = y.1 ∧ RR_ x t n v w g q u.2 y.2)) := by
  obtain ⟨P, hW, hn, h2, hm, ht, hgv, hq, hr, hw, hc, hwy⟩ := h
  obtain ⟨u, eu, y, ey, e1, e2, F⟩ := sm_copy x r o x1 x2 x3 x4 x5 hr
  exact ⟨u, eu, y, ey, e1, P, hW, hn, by rw [(F 2 (by decide)).1]; exact h2, by rw [(F 0 (by decide)).2]; exact hm, R_tx_fr ht (F 10 (by decide)).1 (F 9 (by decide)).2, R_gv_fr hgv F (by decide), R_sn_fr hq F (by decide), e2, wd_fr hw F (by intro k a b c; simp at c; omega), hc, hwy⟩
theorem rr_append (h : RR_ x t n v w g q r o) (x1 : Int32) (x2 : Int32) : Tr_ (f_X8_append x r x1 x2) (fun u => Tr_ (f_X9_append o x1 x2) (fun y => u.1 = y.1 ∧ RR_ x t n v w g q u.2 y.2)) := by
  obtain ⟨P, hW, hn, h2, hm, ht, hgv, hq, hr, hw, hc, hwy⟩ := h
  obtain ⟨u, eu, y, ey, e1, e2, F⟩ := sm_append x r o x1 x2 hr
  exact ⟨u, eu, y, ey, e1, P, hW, hn, by rw [(F 2 (by decide)).1]; exact h2, by rw [(F 0 (by decide)).2]; exact hm, R_tx_fr ht (F 10 (by decide)).1 (F 9 (by decide)).2, R_gv_fr hgv F (by decide), R_sn_fr hq F (by decide), e2, wd_fr hw F (by intro k a b c; simp at c; omega), hc, hwy⟩
theorem rr_keep (h : RR_ x t n v w g q r o) (x1 : Int32) : Tr_ (f_X8_keep x g x1) (fun u => Tr_ (f_X9_keep o x1) (fun y => u.1 = y.1 ∧ RR_ x t n v w u.2 q r y.2)) := by
  obtain ⟨P, hW, hn, h2, hm, ht, hgv, hq, hr, hw, hc, hwy⟩ := h
  obtain ⟨u, eu, y, ey, e1, e2, F⟩ := sm_keep x g o x1 hgv
  have e0 := x_keep0 eu
  exact ⟨u, eu, y, ey, e1, P, hW, hn, by rw [(F 2 (by decide)).1]; exact h2, by rw [(F 0 (by decide)).2]; exact hm, R_tx_fr ht (F 10 (by decide)).1 (F 9 (by decide)).2, e2, R_sn_fr hq F (by decide), R_rw_fr hr F (by decide), wd_fr hw F (by intro k a b c; simp at c; omega), by rw [e0]; exact hc, by rw [e0]; exact hwy⟩
theorem rr_give (h : RR_ x t n v w g q r o) (x1 : Int32) (x2 : Int32) : Tr_ (f_X8_give x g x1 x2) (fun u => Tr_ (f_X9_give o x1 x2) (fun y => u.1 = y.1 ∧ RR_ u.2.1 t n v w u.2.2 q r y.2)) := by
  obtain ⟨P, hW, hn, h2, hm, ht, hgv, hq, hr, hw, hc, hwy⟩ := h
  obtain ⟨u, eu, y, ey, e1, e2, F, fg⟩ := sm_give x g o x1 x2 hgv
  have cs : Rc_ u.2.1 v P (o_A u.2.2 0) ∧ Rw_ u.2.1 w P (o_A u.2.2 0) := by
    rcases fg with ⟨z1, z2, -⟩ | ⟨z1, z2⟩
    · rw [z1, z2]; exact ⟨hc, hwy⟩
    · exact ⟨Or.inl z1, Or.inl z2⟩
  exact ⟨u, eu, y, ey, e1, P, hW, hn, by rw [(F 2 (by decide)).1]; exact h2, by rw [(F 0 (by decide)).2]; exact hm, R_tx_fr ht (F 10 (by decide)).1 (F 9 (by decide)).2, e2, R_sn_fr hq F (by decide), R_rw_fr hr F (by decide), wd_fr hw F (by intro k a b c; simp at c; omega), cs.1, cs.2⟩
theorem rr_free (h : RR_ x t n v w g q r o) (x1 : Int32) : Tr_ (f_X8_free x g x1) (fun u => Tr_ (f_X9_free o x1) (fun y => u.1 = y.1 ∧ RR_ u.2.1 t n v w u.2.2 q r y.2)) := by
  obtain ⟨P, hW, hn, h2, hm, ht, hgv, hq, hr, hw, hc, hwy⟩ := h
  obtain ⟨u, eu, y, ey, e1, e2, F, fg⟩ := sm_free x g o x1 hgv
  have cs : Rc_ u.2.1 v P (o_A u.2.2 0) ∧ Rw_ u.2.1 w P (o_A u.2.2 0) := by
    rcases fg with ⟨z1, z2, -⟩ | ⟨z1, z2⟩
    · rw [z1, z2]; exact ⟨hc, hwy⟩
    · exact ⟨Or.inl z1, Or.inl z2⟩
  exact ⟨u, eu, y, ey, e1, P, hW, hn, by rw [(F 2 (by decide)).1]; exact h2, by rw [(F 0 (by decide)).2]; exact hm, R_tx_fr ht (F 10 (by decide)).1 (F 9 (by decide)).2, e2, R_sn_fr hq F (by decide), R_rw_fr hr F (by decide), wd_fr hw F (by intro k a b c; simp at c; omega), cs.1, cs.2⟩
theorem rr_back (h : RR_ x t n v w g q r o) (x1 : Int32) : Tr_ (f_X8_back x g x1) (fun u => Tr_ (f_X9_back o x1) (fun y => u.1 = y.1 ∧ RR_ u.2.1 t n v w u.2.2 q r y.2)) := by
  obtain ⟨P, hW, hn, h2, hm, ht, hgv, hq, hr, hw, hc, hwy⟩ := h
  obtain ⟨u, eu, y, ey, e1, e2, F, fg⟩ := sm_back x g o x1 hgv
  have cs : Rc_ u.2.1 v P (o_A u.2.2 0) ∧ Rw_ u.2.1 w P (o_A u.2.2 0) := by
    rcases fg with ⟨z1, z2, -⟩ | ⟨z1, z2⟩
    · rw [z1, z2]; exact ⟨hc, hwy⟩
    · exact ⟨Or.inl z1, Or.inl z2⟩
  exact ⟨u, eu, y, ey, e1, P, hW, hn, by rw [(F 2 (by decide)).1]; exact h2, by rw [(F 0 (by decide)).2]; exact hm, R_tx_fr ht (F 10 (by decide)).1 (F 9 (by decide)).2, e2, R_sn_fr hq F (by decide), R_rw_fr hr F (by decide), wd_fr hw F (by intro k a b c; simp at c; omega), cs.1, cs.2⟩
theorem rr_undo (h : RR_ x t n v w g q r o) : Tr_ (f_X8_undo x g) (fun u => Tr_ (f_X9_undo o) (fun y => u.1 = y.1 ∧ RR_ u.2.1 t n v w u.2.2 q r y.2)) := by
  obtain ⟨P, hW, hn, h2, hm, ht, hgv, hq, hr, hw, hc, hwy⟩ := h
  obtain ⟨u, eu, y, ey, e1, e2, F, fg⟩ := sm_undo x g o hgv
  have cs : Rc_ u.2.1 v P (o_A u.2.2 0) ∧ Rw_ u.2.1 w P (o_A u.2.2 0) := by
    rcases fg with ⟨z1, z2, -⟩ | ⟨z1, z2⟩
    · rw [z1, z2]; exact ⟨hc, hwy⟩
    · exact ⟨Or.inl z1, Or.inl z2⟩
  exact ⟨u, eu, y, ey, e1, P, hW, hn, by rw [(F 2 (by decide)).1]; exact h2, by rw [(F 0 (by decide)).2]; exact hm, R_tx_fr ht (F 10 (by decide)).1 (F 9 (by decide)).2, e2, R_sn_fr hq F (by decide), R_rw_fr hr F (by decide), wd_fr hw F (by intro k a b c; simp at c; omega), cs.1, cs.2⟩
theorem rr_extent (h : RR_ x t n v w g q r o) (d : Ob_T) (x1 : Int32) (x2 : Int32) : Tr_ (f_X8_extent x n v d g x1 x2) (fun u => Tr_ (f_X9_extent o x1 x2) (fun y => u.1 = y.1 ∧ RR_ u.2.1 t n u.2.2.1 w g q r y.2)) := by
  obtain ⟨P, hW, hn, h2, hm, ht, hgv, hq, hr, hw, hc, hwy⟩ := h
  obtain ⟨u, eu, y, ey, e1, F, e2, e3⟩ := sm_extent (d := d) hW hn hm h2 hgv hc x1 x2
  exact ⟨u, eu, y, ey, e1, P, hW, hn, by rw [(F 2 (by decide)).1]; exact h2, by rw [(F 0 (by decide)).2]; exact hm, R_tx_fr ht (F 10 (by decide)).1 (F 9 (by decide)).2, R_gv_fr hgv F (by decide), R_sn_fr hq F (by decide), R_rw_fr hr F (by decide), wd_fr hw F (by intro k a b c; simp at c; omega), e2, by unfold Rw_ at hwy ⊢; rw [e3]; exact hwy⟩
theorem rr_letter (h : RR_ x t n v w g q r o) (d : Ob_T) (x1 : Int32) : Tr_ (f_X8_letter x n v d g x1) (fun u => Tr_ (f_X9_letter o x1) (fun y => u.1 = y.1 ∧ RR_ u.2.1 t n u.2.2.1 w g q r y.2)) := by
  obtain ⟨P, hW, hn, h2, hm, ht, hgv, hq, hr, hw, hc, hwy⟩ := h
  obtain ⟨u, eu, y, ey, e1, F, e2, e3⟩ := sm_letter (d := d) hW hn hm h2 hgv hc x1
  exact ⟨u, eu, y, ey, e1, P, hW, hn, by rw [(F 2 (by decide)).1]; exact h2, by rw [(F 0 (by decide)).2]; exact hm, R_tx_fr ht (F 10 (by decide)).1 (F 9 (by decide)).2, R_gv_fr hgv F (by decide), R_sn_fr hq F (by decide), R_rw_fr hr F (by decide), wd_fr hw F (by intro k a b c; simp at c; omega), e2, by unfold Rw_ at hwy ⊢; rw [e3]; exact hwy⟩
theorem rr_fails (h : RR_ x t n v w g q r o) (d : Ob_T) (x1 : Int32) : Tr_ (f_X8_fails x n v d g x1) (fun u => Tr_ (f_X9_fails o x1) (fun y => u.1 = y.1 ∧ RR_ u.2.1 t n u.2.2.1 w g q r y.2)) := by
  obtain ⟨P, hW, hn, h2, hm, ht, hgv, hq, hr, hw, hc, hwy⟩ := h
  obtain ⟨u, eu, y, ey, e1, F, e2, e3⟩ := sm_fails (d := d) hW hn hm h2 hgv hc x1
  exact ⟨u, eu, y, ey, e1, P, hW, hn, by rw [(F 2 (by decide)).1]; exact h2, by rw [(F 0 (by decide)).2]; exact hm, R_tx_fr ht (F 10 (by decide)).1 (F 9 (by decide)).2, R_gv_fr hgv F (by decide), R_sn_fr hq F (by decide), R_rw_fr hr F (by decide), wd_fr hw F (by intro k a b c; simp at c; omega), e2, by unfold Rw_ at hwy ⊢; rw [e3]; exact hwy⟩
theorem rr_open (h : RR_ x t n v w g q r o) (d : Ob_T) : Tr_ (f_X8_open x n v d g) (fun u => Tr_ (f_X9_open o) (fun y => u.1 = y.1 ∧ RR_ u.2.1 t n u.2.2.1 w g q r y.2)) := by
  obtain ⟨P, hW, hn, h2, hm, ht, hgv, hq, hr, hw, hc, hwy⟩ := h
  obtain ⟨u, eu, y, ey, e1, F, e2, e3⟩ := sm_open (d := d) hW hn hm h2 hgv hc
  exact ⟨u, eu, y, ey, e1, P, hW, hn, by rw [(F 2 (by decide)).1]; exact h2, by rw [(F 0 (by decide)).2]; exact hm, R_tx_fr ht (F 10 (by decide)).1 (F 9 (by decide)).2, R_gv_fr hgv F (by decide), R_sn_fr hq F (by decide), R_rw_fr hr F (by decide), wd_fr hw F (by intro k a b c; simp at c; omega), e2, by unfold Rw_ at hwy ⊢; rw [e3]; exact hwy⟩
theorem rr_ways (h : RR_ x t n v w g q r o) (d v3 d3 : Ob_T) : Tr_ (f_X8_ways x n v d g w v3 d3) (fun u => Tr_ (f_X9_ways o) (fun y => u.1 = y.1 ∧ RR_ u.2.1 t n u.2.2.1 u.2.2.2.2.1 g q r y.2)) := by
  obtain ⟨P, hW, hn, h2, hm, ht, hgv, hq, hr, hw, hc, hwy⟩ := h
  obtain ⟨u, eu, y, ey, e1, F, e2, e3⟩ := sm_ways (d := d) (v3 := v3) (d3 := d3) hW hn hm h2 hgv hc hwy
  exact ⟨u, eu, y, ey, e1, P, hW, hn, by rw [(F 2 (by decide)).1]; exact h2, by rw [(F 0 (by decide)).2]; exact hm, R_tx_fr ht (F 10 (by decide)).1 (F 9 (by decide)).2, R_gv_fr hgv F (by decide), R_sn_fr hq F (by decide), R_rw_fr hr F (by decide), wd_fr hw F (by intro k a b c; simp at c; omega), e2, e3⟩
theorem rr_way (h : RR_ x t n v w g q r o) (d v3 d3 : Ob_T) (x1 : Int32) : Tr_ (f_X8_way x n v d g w v3 d3 x1) (fun u => Tr_ (f_X9_way o x1) (fun y => u.1 = y.1 ∧ RR_ u.2.1 t n u.2.2.1 u.2.2.2.2.1 g q r y.2)) := by
  obtain ⟨P, hW, hn, h2, hm, ht, hgv, hq, hr, hw, hc, hwy⟩ := h
  obtain ⟨u, eu, y, ey, e1, F, e2, e3⟩ := sm_way (d := d) (v3 := v3) (d3 := d3) hW hn hm h2 hgv hc hwy x1
  exact ⟨u, eu, y, ey, e1, P, hW, hn, by rw [(F 2 (by decide)).1]; exact h2, by rw [(F 0 (by decide)).2]; exact hm, R_tx_fr ht (F 10 (by decide)).1 (F 9 (by decide)).2, R_gv_fr hgv F (by decide), R_sn_fr hq F (by decide), R_rw_fr hr F (by decide), wd_fr hw F (by intro k a b c; simp at c; omega), e2, e3⟩
theorem rr_odds (h : RR_ x t n v w g q r o) (d v3 d3 : Ob_T) (x1 : Int32) : Tr_ (f_X8_odds x n v d g w v3 d3 x1) (fun u => Tr_ (f_X9_odds o x1) (fun y => u.1 = y.1 ∧ RR_ u.2.1 t n u.2.2.1 u.2.2.2.2.1 g q r y.2)) := by
  obtain ⟨P, hW, hn, h2, hm, ht, hgv, hq, hr, hw, hc, hwy⟩ := h
  obtain ⟨u, eu, y, ey, e1, F, e2, e3⟩ := sm_odds (d := d) (v3 := v3) (d3 := d3) hW hn hm h2 hgv hc hwy x1
  exact ⟨u, eu, y, ey, e1, P, hW, hn, by rw [(F 2 (by decide)).1]; exact h2, by rw [(F 0 (by decide)).2]; exact hm, R_tx_fr ht (F 10 (by decide)).1 (F 9 (by decide)).2, R_gv_fr hgv F (by decide), R_sn_fr hq F (by decide), R_rw_fr hr F (by decide), wd_fr hw F (by intro k a b c; simp at c; omega), e2, e3⟩
theorem rr_load (h : RR_ x t n v w g q r o) (d : Ob_T) (x1 : Int32) (x2 : Int32) : Tr_ (f_X8_load x n v d g r x1 x2) (fun u => Tr_ (f_X9_load o x1 x2) (fun y => u.1 = y.1 ∧ RR_ u.2.1 t n u.2.2.1 w g q u.2.2.2.2 y.2)) := by
  obtain ⟨P, hW, hn, h2, hm, ht, hgv, hq, hr, hw, hc, hwy⟩ := h
  obtain ⟨u, eu, y, ey, e1, F, e4, e2, e3⟩ := sm_load (d := d) hW hn hm h2 hgv hc hr x1 x2
  exact ⟨u, eu, y, ey, e1, P, hW, hn, by rw [(F 2 (by decide)).1]; exact h2, by rw [(F 0 (by decide)).2]; exact hm, R_tx_fr ht (F 10 (by decide)).1 (F 9 (by decide)).2, R_gv_fr hgv F (by decide), R_sn_fr hq F (by decide), e4, wd_fr hw F (by intro k a b c; simp at c; omega), e2, by unfold Rw_ at hwy ⊢; rw [e3]; exact hwy⟩
theorem rr_mend (h : RR_ x t n v w g q r o) (d n2 v2 d2 : Ob_T) : Tr_ (f_X8_mend x n n2 v d v2 d2 g) (fun u => Tr_ (f_X9_mend o) (fun y => u.1 = y.1 ∧ RR_ u.2.1 t n u.2.2.2.1 w g q r y.2)) := by
  obtain ⟨P, hW, hn, h2, hm, ht, hgv, hq, hr, hw, hc, hwy⟩ := h
  obtain ⟨u, eu, y, ey, e1, F, e2, e3⟩ := sm_mend (d := d) hW hn hm h2 hgv hc n2 v2 d2
  exact ⟨u, eu, y, ey, e1, P, hW, hn, by rw [(F 2 (by decide)).1]; exact h2, by rw [(F 0 (by decide)).2]; exact hm, R_tx_fr ht (F 10 (by decide)).1 (F 9 (by decide)).2, R_gv_fr hgv F (by decide), R_sn_fr hq F (by decide), R_rw_fr hr F (by decide), wd_fr hw F (by intro k a b c; simp at c; omega), e2, by unfold Rw_ at hwy ⊢; rw [e3]; exact hwy⟩
theorem rr_fault (h : RR_ x t n v w g q r o) (n2 : Ob_T) : Tr_ (f_X8_fault x t n n2) (fun u => Tr_ (f_X9_fault o) (fun y => u.1 = y.1 ∧ RR_ x u.2.1 n v w g q r y.2)) := by
  obtain ⟨P, hW, hn, h2, hm, ht, hgv, hq, hr, hw, hc, hwy⟩ := h
  obtain ⟨u, eu, y, ey, e1, e2, F⟩ := sm_fault x n2 ht hW hn hm h2 hw
  exact ⟨u, eu, y, ey, e1, P, hW, hn, by rw [(F 2 (by decide)).1]; exact h2, by rw [(F 0 (by decide)).2]; exact hm, e2, R_gv_fr hgv F (by decide), R_sn_fr hq F (by decide), R_rw_fr hr F (by decide), wd_fr hw F (by intro k a b c; simp at c; omega), hc, hwy⟩
theorem rr_get (h : RR_ x t n v w g q r o) (x1 : Int32) (x2 : Int32) (x3 : Int32) : Tr_ (f_X8_get x r x1 x2 x3) (fun u => Tr_ (f_X9_get o x1 x2 x3) (fun y => u = y)) := by
  obtain ⟨P, hW, hn, h2, hm, ht, hgv, hq, hr, hw, hc, hwy⟩ := h
  exact sm_get x r o x1 x2 x3 hr
theorem rr_sum (h : RR_ x t n v w g q r o) (x1 : Int32) : Tr_ (f_X8_sum x r x1) (fun u => Tr_ (f_X9_sum o x1) (fun y => u = y)) := by
  obtain ⟨P, hW, hn, h2, hm, ht, hgv, hq, hr, hw, hc, hwy⟩ := h
  exact sm_sum x r o x1 hr
theorem rr_kinds (h : RR_ x t n v w g q r o) : Tr_ (f_X8_kinds x q) (fun u => Tr_ (f_X9_kinds o) (fun y => u = y)) := by
  obtain ⟨P, hW, hn, h2, hm, ht, hgv, hq, hr, hw, hc, hwy⟩ := h
  exact sm_kinds x q o hq
theorem rr_ask (h : RR_ x t n v w g q r o) : Tr_ (f_X8_ask x q) (fun u => Tr_ (f_X9_ask o) (fun y => u = y)) := by
  obtain ⟨P, hW, hn, h2, hm, ht, hgv, hq, hr, hw, hc, hwy⟩ := h
  exact sm_ask x q o hq
theorem rr_count (h : RR_ x t n v w g q r o) (x1 : Int32) : Tr_ (f_X8_count x t n g q r x1) (fun u => Tr_ (f_X9_count o x1) (fun y => u = y)) := by
  obtain ⟨P, hW, hn, h2, hm, ht, hgv, hq, hr, hw, hc, hwy⟩ := h
  exact sm_count x hW hn hm h2 hgv hq hr ht x1
theorem rr_node (h : RR_ x t n v w g q r o) (x1 : Int32) (x2 : Int32) : Tr_ (f_X8_node x n x1 x2) (fun u => Tr_ (f_X9_node o x1 x2) (fun y => u = y)) := by
  obtain ⟨P, hW, hn, h2, hm, ht, hgv, hq, hr, hw, hc, hwy⟩ := h
  exact sm_node (x := x) hW hn hm h2 x1 x2
theorem rr_as (h : RR_ x t n v w g q r o) (x1 : Int32) (x2 : Int32) : Tr_ (f_X8_as x n x1 x2) (fun u => Tr_ (f_X9_as o x1 x2) (fun y => u = y)) := by
  obtain ⟨P, hW, hn, h2, hm, ht, hgv, hq, hr, hw, hc, hwy⟩ := h
  exact sm_as x hW hn hm h2 x1 x2
end
