def vx_ (Q : Pg_) (K A B : Nat) (R : Int32) : Pg_ := ex_ Q K A B R (dv_L (ex_ Q K A B R 0 (fun _ => 0)) (g_N Q)) (dv_E (ex_ Q K A B R 0 (fun _ => 0)) (g_N Q))
section
variable {Q : Pg_} {K A B : Nat} {R : Int32} {n : Ob_T}
theorem vx_dv (hA : A < g_N Q) (hB : (K = 1 ∨ K = 2) → B < g_N Q) (hv : 1 ≤ K ∧ K ≤ 5) : g_L (vx_ Q K A B R) (g_N Q) = dv_L (vx_ Q K A B R) (g_N Q) ∧ ∀ j, g_E (vx_ Q K A B R) (g_N Q) j = dv_E (vx_ Q K A B R) (g_N Q) j := by
  have a := ex_at (Q := Q) (K := K) (A := A) (B := B) (R := R) (Lk := dv_L (ex_ Q K A B R 0 (fun _ => 0)) (g_N Q)) (Ek := dv_E (ex_ Q K A B R 0 (fun _ => 0)) (g_N Q))
  have d := ex_dv (Q := Q) (K := K) (A := A) (B := B) (R := R) (Lk := dv_L (ex_ Q K A B R 0 (fun _ => 0)) (g_N Q)) (Ek := dv_E (ex_ Q K A B R 0 (fun _ => 0)) (g_N Q)) (Lk' := 0) (Ek' := fun _ => 0) hA hB hv
  unfold vx_
  exact ⟨a.2.2.2.2.1.trans d.1.symm, fun j => (a.2.2.2.2.2 j).trans (d.2 j).symm⟩
theorem vx_wf (hW : Wf_ Q) (hN : g_N Q < 10) (hA : A < g_N Q) (hB : (K = 1 ∨ K = 2) → B < g_N Q) (hv : 1 ≤ K ∧ K ≤ 5) (hR : R ∈ rks_) (hL : dv_L (vx_ Q K A B R) (g_N Q) ≤ 6) : Wf_ (vx_ Q K A B R) := by
  have d := vx_dv (R := R) hA hB hv
  have a := ex_at (Q := Q) (K := K) (A := A) (B := B) (R := R) (Lk := dv_L (ex_ Q K A B R 0 (fun _ => 0)) (g_N Q)) (Ek := dv_E (ex_ Q K A B R 0 (fun _ => 0)) (g_N Q))
  have e1 : dv_L (ex_ Q K A B R 0 (fun _ => 0)) (g_N Q) = dv_L (vx_ Q K A B R) (g_N Q) := a.2.2.2.2.1.symm.trans d.1
  exact ex_wf hW hN (by omega) (fun _ => hA) hB (fun _ => ⟨hR, e1, fun j _ => (a.2.2.2.2.2 j).symm.trans (d.2 j)⟩) (by omega) (fun z => by omega)
theorem vx_va (hA : A < g_N Q) (hB : (K = 1 ∨ K = 2) → B < g_N Q) (hv : 1 ≤ K ∧ K ≤ 5) (hR : R ∈ rks_) : Va_ (vx_ Q K A B R) (g_N Q) := by
  have a := ex_at (Q := Q) (K := K) (A := A) (B := B) (R := R) (Lk := dv_L (ex_ Q K A B R 0 (fun _ => 0)) (g_N Q)) (Ek := dv_E (ex_ Q K A B R 0 (fun _ => 0)) (g_N Q))
  exact ⟨by show 1 ≤ g_K (ex_ _ _ _ _ _ _ _) _ ∧ g_K (ex_ _ _ _ _ _ _ _) _ ≤ 5; rw [a.1]; exact hv, by show g_R (ex_ _ _ _ _ _ _ _) _ ∈ _; rw [a.2.2.2.1]; exact hR, by show g_A (ex_ _ _ _ _ _ _ _) _ < _; rw [a.2.1]; exact hA, by show (g_K (ex_ _ _ _ _ _ _ _) _ = 1 ∨ g_K (ex_ _ _ _ _ _ _ _) _ = 2) → g_B (ex_ _ _ _ _ _ _ _) _ < _; rw [a.1, a.2.2.1]; exact hB⟩
theorem ra_ex {M : Pg_} (hW : Wf_ Q) (hn : Rn_ n Q) (hM : Aq_ Q M (g_N Q)) {n' : Ob_T} (h4 : ∀ i, i < g_N Q → o_A n' 4 i = o_A n 4 i) (h5 : ∀ l, l < 6 * g_N Q → o_A n' 5 l = o_A n 5 l) : Ra_ n' M (g_N Q) := by
  intro m hm
  obtain ⟨-, -, -, -, eL, eE⟩ := hM m hm
  obtain ⟨r1, r2, r3, r4, r5, r6, r7, r8, r9⟩ := hn.2 m hm
  have hL := (hW.2 m hm).2.1
  exact ⟨by omega, by rw [h4 m hm, r8, eL], fun j hj => by rw [h5 _ (by omega), r9 j (by omega), eE]⟩
theorem x_axv (hW : Wf_ Q) (hN : g_N Q < 10) (hn : Rn_ n Q) (hA : A < g_N Q) (hB : (K = 1 ∨ K = 2) → B < g_N Q) (hv : 1 ≤ K ∧ K ≤ 5) (hR : R ∈ rks_) (x3 : Int32) (h3 : (K = 1 ∨ K = 2) → x3 = nI B) {n' : Ob_T} (h4 : ∀ i, i < g_N Q → o_A n' 4 i = o_A n 4 i) (h5 : ∀ l, l < 6 * g_N Q → o_A n' 5 l = o_A n 5 l) : f_X1_axesOfVerb n' (nI K) (nI A) x3 R = some (nI (dv_L (vx_ Q K A B R) (g_N Q))) := by
  have a := ex_at (Q := Q) (K := K) (A := A) (B := B) (R := R) (Lk := dv_L (ex_ Q K A B R 0 (fun _ => 0)) (g_N Q)) (Ek := dv_E (ex_ Q K A B R 0 (fun _ => 0)) (g_N Q))
  have h := x_axes (P := vx_ Q K A B R) (i := g_N Q) hN (vx_va hA hB hv hR) (ra_ex hW hn ex_ag h4 h5) x3 (by
    show (g_K (ex_ _ _ _ _ _ _ _) _ = 1 ∨ g_K (ex_ _ _ _ _ _ _ _) _ = 2) → x3 = nI (g_B (ex_ _ _ _ _ _ _ _) _)
    rw [a.1, a.2.2.1]; exact h3)
  have e1 : g_K (vx_ Q K A B R) (g_N Q) = K := a.1
  have e2 : g_A (vx_ Q K A B R) (g_N Q) = A := a.2.1
  have e4 : g_R (vx_ Q K A B R) (g_N Q) = R := a.2.2.2.1
  rw [e1, e2, e4] at h
  exact h
/-- the rows of the nodes ahead stay -/
theorem rn_ex {M : Pg_} (hn : Rn_ n Q) (hM : Aq_ Q M (g_N Q)) (hMN : g_N M = g_N Q + 1) {n' : Ob_T} (h6 : o_F n' 6 = nI (g_N Q + 1)) (hlo : ∀ f, f < 5 → ∀ i, i < g_N Q → o_A n' f i = o_A n f i) (h5 : ∀ l, l < 6 * g_N Q → o_A n' 5 l = o_A n 5 l) (hW : Wf_ Q) (hk : o_A n' 0 (g_N Q) = nI (g_K M (g_N Q)) ∧ (g_K M (g_N Q) ≠ 0 → o_A n' 1 (g_N Q) = nI (g_A M (g_N Q))) ∧ (g_K M (g_N Q) = 0 → o_A n' 1 (g_N Q) = -1) ∧ ((g_K M (g_N Q) = 1 ∨ g_K M (g_N Q) = 2) → o_A n' 2 (g_N Q) = nI (g_B M (g_N Q))) ∧ (¬ (g_K M (g_N Q) = 1 ∨ g_K M (g_N Q) = 2) → o_A n' 2 (g_N Q) = -1) ∧ (vb_ M (g_N Q) → o_A n' 3 (g_N Q) = g_R M (g_N Q)) ∧ (¬ vb_ M (g_N Q) → o_A n' 3 (g_N Q) = -11) ∧ o_A n' 4 (g_N Q) = nI (g_L M (g_N Q)) ∧ ∀ j, j < g_L M (g_N Q) → o_A n' 5 (6 * g_N Q + j) = nI (g_E M (g_N Q) j)) : Rn_ n' M := by
  refine ⟨by rw [hMN]; exact h6, fun i hi => ?_⟩
  by_cases q : i = g_N Q
  · subst q; exact hk
  · have hi' : i < g_N Q := by omega
    obtain ⟨eK, eA, eB, eR, eL, eE⟩ := hM i hi'
    obtain ⟨r1, r2, r3, r4, r5, r6, r7, r8, r9⟩ := hn.2 i hi'
    have hL := (hW.2 i hi').2.1
    have ev : vb_ M i ↔ vb_ Q i := by unfold vb_; rw [eK]
    rw [ev, eK, eA, eB, eR, eL, eE, hlo 0 (by omega) i hi', hlo 1 (by omega) i hi', hlo 2 (by omega) i hi', hlo 3 (by omega) i hi', hlo 4 (by omega) i hi']
    exact ⟨r1, r2, r3, r4, r5, r6, r7, r8, fun j hj => by rw [h5 _ (by omega)]; exact r9 j hj⟩
theorem x_plusN (hN : g_N Q < 10) (h6 : o_F n 6 = nI (g_N Q)) (x1 x2 x3 x4 : Int32) : ∃ n4, Fr_ [0, 1, 2, 3] n n4 ∧ (o_A n4 0 (g_N Q) = x1 ∧ o_A n4 1 (g_N Q) = x2 ∧ o_A n4 2 (g_N Q) = x3 ∧ o_A n4 3 (g_N Q) = x4) ∧ (∀ f, f < 4 → ∀ i, ¬ i = g_N Q → o_A n4 f i = o_A n f i) ∧ f_X1_add n x1 x2 x3 x4 = (f_X1_axesOfVerb n4 x1 x2 x3 x4).bind fun u5 => (f_X1_derive (p_A n4 4 (upd (o_A n4 4) (g_N Q) u5)) (nI (g_N Q))).bind fun u7 => some (p_F u7 6 (o_F u7 6 + 1)) := by
  unfold f_X1_add
  rw [h6, if_pos (show nI (g_N Q) < 10 from nI_lt (b := 10) hN (by omega)), st_nI hN (by omega), Option.bind_some]
  rw [show o_F (p_A n 0 (upd (o_A n 0) (g_N Q) x1)) 6 = nI (g_N Q) from h6, st_nI hN (by omega), Option.bind_some]
  rw [show o_F (p_A (p_A n 0 (upd (o_A n 0) (g_N Q) x1)) 1 (upd (o_A (p_A n 0 (upd (o_A n 0) (g_N Q) x1)) 1) (g_N Q) x2)) 6 = nI (g_N Q) from h6, st_nI hN (by omega), Option.bind_some]
  refine ⟨p_A (p_A (p_A (p_A n 0 (upd (o_A n 0) (g_N Q) x1)) 1 (upd (o_A n 1) (g_N Q) x2)) 2 (upd (o_A n 2) (g_N Q) x3)) 3 (upd (o_A n 3) (g_N Q) x4), fr_tr (fr_pA (by decide)) (fr_tr (fr_pA (by decide)) (fr_tr (fr_pA (by decide)) (fr_pA (by decide)))), ⟨?_, ?_, ?_, ?_⟩, fun f hf i hi => ?_, ?_⟩
  · show upd (o_A n 0) (g_N Q) x1 (g_N Q) = _; rw [updE, if_pos rfl]
  · show upd (o_A n 1) (g_N Q) x2 (g_N Q) = _; rw [updE, if_pos rfl]
  · show upd (o_A n 2) (g_N Q) x3 (g_N Q) = _; rw [updE, if_pos rfl]
  · show upd (o_A n 3) (g_N Q) x4 (g_N Q) = _; rw [updE, if_pos rfl]
  · rcases (show f = 0 ∨ f = 1 ∨ f = 2 ∨ f = 3 by omega) with rfl | rfl | rfl | rfl
    · show upd (o_A n 0) (g_N Q) x1 i = _; rw [updE, if_neg hi]
    · show upd (o_A n 1) (g_N Q) x2 i = _; rw [updE, if_neg hi]
    · show upd (o_A n 2) (g_N Q) x3 i = _; rw [updE, if_neg hi]
    · show upd (o_A n 3) (g_N Q) x4 i = _; rw [updE, if_neg hi]
  · have e6 : o_F (p_A (p_A (p_A n 0 (upd (o_A n 0) (g_N Q) x1)) 1 (upd (o_A n 1) (g_N Q) x2)) 2 (upd (o_A n 2) (g_N Q) x3)) 6 = nI (g_N Q) := h6
    show (st_A (p_A (p_A (p_A n 0 (upd (o_A n 0) (g_N Q) x1)) 1 (upd (o_A n 1) (g_N Q) x2)) 2 (upd (o_A n 2) (g_N Q) x3)) 3 10 (o_F (p_A (p_A (p_A n 0 (upd (o_A n 0) (g_N Q) x1)) 1 (upd (o_A n 1) (g_N Q) x2)) 2 (upd (o_A n 2) (g_N Q) x3)) 6) x4).bind _ = _
    rw [e6, st_nI hN (by omega), Option.bind_some, show o_A (p_A (p_A (p_A n 0 (upd (o_A n 0) (g_N Q) x1)) 1 (upd (o_A n 1) (g_N Q) x2)) 2 (upd (o_A n 2) (g_N Q) x3)) 3 = o_A n 3 from rfl]
    have e7 : o_F (p_A (p_A (p_A (p_A n 0 (upd (o_A n 0) (g_N Q) x1)) 1 (upd (o_A n 1) (g_N Q) x2)) 2 (upd (o_A n 2) (g_N Q) x3)) 3 (upd (o_A n 3) (g_N Q) x4)) 6 = nI (g_N Q) := h6
    show (f_X1_axesOfVerb (p_A (p_A (p_A (p_A n 0 (upd (o_A n 0) (g_N Q) x1)) 1 (upd (o_A n 1) (g_N Q) x2)) 2 (upd (o_A n 2) (g_N Q) x3)) 3 (upd (o_A n 3) (g_N Q) x4)) x1 x2 x3 x4).bind _ = _
    generalize p_A (p_A (p_A (p_A n 0 (upd (o_A n 0) (g_N Q) x1)) 1 (upd (o_A n 1) (g_N Q) x2)) 2 (upd (o_A n 2) (g_N Q) x3)) 3 (upd (o_A n 3) (g_N Q) x4) = n4 at e7 ⊢
    refine congrArg _ ?_
    funext u5
    rw [e7, st_nI hN (by omega), Option.bind_some, show o_F (p_A n4 4 (upd (o_A n4 4) (g_N Q) u5)) 6 = nI (g_N Q) from e7]
    rfl
end
