section
variable {Q : Pg_} {K A B : Nat} {R : Int32} {n : Ob_T}
theorem x_addV (hW : Wf_ Q) (hN : g_N Q < 10) (hn : Rn_ n Q) (hA : A < g_N Q) (hB : (K = 1 ∨ K = 2) → B < g_N Q) (hv : 1 ≤ K ∧ K ≤ 5) (hR : R ∈ rks_) (x3 : Int32) (h3 : (K = 1 ∨ K = 2) → x3 = nI B) (h3' : ¬ (K = 1 ∨ K = 2) → x3 = -1) (hL : dv_L (vx_ Q K A B R) (g_N Q) ≤ 6) : ∃ n', f_X1_add n (nI K) (nI A) x3 R = some n' ∧ Rn_ n' (vx_ Q K A B R) := by
  have a := ex_at (Q := Q) (K := K) (A := A) (B := B) (R := R) (Lk := dv_L (ex_ Q K A B R 0 (fun _ => 0)) (g_N Q)) (Ek := dv_E (ex_ Q K A B R 0 (fun _ => 0)) (g_N Q))
  have aK : g_K (vx_ Q K A B R) (g_N Q) = K := a.1
  have aA : g_A (vx_ Q K A B R) (g_N Q) = A := a.2.1
  have aB : g_B (vx_ Q K A B R) (g_N Q) = B := a.2.2.1
  have aR : g_R (vx_ Q K A B R) (g_N Q) = R := a.2.2.2.1
  have dv := vx_dv (Q := Q) (R := R) hA hB hv
  have hva := vx_va (Q := Q) hA hB hv hR
  obtain ⟨n4, F, ⟨c0, c1, c2, c3⟩, lo, e1⟩ := x_plusN (Q := Q) hN hn.1 (nI K) (nI A) x3 R
  have h44 : o_A n4 4 = o_A n 4 := (F 4 (by decide)).2
  have h45 : o_A n4 5 = o_A n 5 := (F 5 (by decide)).2
  rw [e1, x_axv hW hN hn hA hB hv hR x3 h3 (fun i _ => by rw [h44]) (fun l _ => by rw [h45]), Option.bind_some]
  have ra : Ra_ (p_A n4 4 (upd (o_A n4 4) (g_N Q) (nI (dv_L (vx_ Q K A B R) (g_N Q))))) (vx_ Q K A B R) (g_N Q) := ra_ex hW hn ex_ag (fun i hi => by
    show upd (o_A n4 4) _ _ i = _
    rw [updE, if_neg (by omega), h44]) (fun l _ => by show o_A n4 5 l = _; rw [h45])
  obtain ⟨f, e2, g1, g2⟩ := x_derive (n := p_A n4 4 (upd (o_A n4 4) (g_N Q) (nI (dv_L (vx_ Q K A B R) (g_N Q))))) (P := vx_ Q K A B R) (i := g_N Q) hN hva ra (by rw [aK]; exact c0) (by rw [aA]; exact c1) (by rw [aK, aB]; exact fun z => c2.trans (h3 z)) (by rw [aR]; exact c3) hL
  rw [e2, Option.bind_some]
  refine ⟨_, rfl, rn_ex (M := vx_ Q K A B R) hn ex_ag rfl ?_ (fun f' hf i hi => ?_) (fun l hl => ?_) hW ⟨?_, ?_, ?_, ?_, ?_, ?_, ?_, ?_, ?_⟩⟩
  · rw [fF_]
    show o_F n4 6 + 1 = _
    rw [(F 6 (by decide)).1, hn.1, nI_1]
  · rcases (show f' < 4 ∨ f' = 4 by omega) with q | q
    · show o_A (p_A (p_A n4 4 _) 5 f) f' i = _
      rw [oA_pA, if_neg (by omega), oA_pA, if_neg (by omega)]
      exact lo f' q i (by omega)
    · subst q
      show upd (o_A n4 4) _ _ i = _
      rw [updE, if_neg (by omega), h44]
  · show f l = _
    rw [g1 l (by omega)]
    show o_A n4 5 l = _
    rw [h45]
  · rw [aK]; exact c0
  · rw [aA]; exact fun _ => c1
  · rw [aK]; intro z; omega
  · rw [aK, aB]; exact fun z => c2.trans (h3 z)
  · rw [aK]; exact fun z => c2.trans (h3' z)
  · rw [aR]; exact fun _ => c3
  · exact fun z => absurd hva.1 z
  · show upd (o_A n4 4) _ _ (g_N Q) = _
    rw [updE, if_pos rfl, dv.1]
  · intro j hj
    show f (6 * g_N Q + j) = _
    rw [g2 j (by rw [dv.1] at hj; exact hj), dv.2 j]
/-- a told node, without extents yet -/
theorem x_addT (hW : Wf_ Q) (hN : g_N Q < 10) (hn : Rn_ n Q) (hK : K = 0 ∨ K = 6) (x2 : Int32) (h0 : K = 0 → x2 = -1) (h6 : K = 6 → x2 = nI A) : f_X1_axesOfVerb n (nI K) x2 (-1) (-11) = some 0 ∧ ∃ n', f_X1_add n (nI K) x2 (-1) (-11) = some n' ∧ o_F n' 6 = nI (g_N Q + 1) ∧ (∀ f, f < 5 → ∀ i, i < g_N Q → o_A n' f i = o_A n f i) ∧ o_A n' 5 = o_A n 5 ∧ o_A n' 0 (g_N Q) = nI K ∧ o_A n' 1 (g_N Q) = x2 ∧ o_A n' 2 (g_N Q) = -1 ∧ o_A n' 3 (g_N Q) = -11 ∧ o_A n' 4 (g_N Q) = nI 0 := by
  have ax : ∀ m : Ob_T, f_X1_axesOfVerb m (nI K) x2 (-1) (-11) = some 0 := by
    intro m
    unfold f_X1_axesOfVerb
    rcases hK with rfl | rfl
    · rw [if_neg (show ¬ nI 0 = 1 by decide), if_neg (show ¬ nI 0 = 2 by decide), if_neg (show ¬ nI 0 = 3 by decide), if_neg (show ¬ nI 0 = 4 by decide), if_neg (show ¬ nI 0 = 5 by decide)]
    · rw [if_neg (show ¬ nI 6 = 1 by decide), if_neg (show ¬ nI 6 = 2 by decide), if_neg (show ¬ nI 6 = 3 by decide), if_neg (show ¬ nI 6 = 4 by decide), if_neg (show ¬ nI 6 = 5 by decide)]
  refine ⟨ax n, ?_⟩
  obtain ⟨n4, F, ⟨c0, c1, c2, c3⟩, lo, e1⟩ := x_plusN (Q := Q) hN hn.1 (nI K) x2 (-1) (-11)
  rw [e1, ax, Option.bind_some]
  have e2 : f_X1_derive (p_A n4 4 (upd (o_A n4 4) (g_N Q) 0)) (nI (g_N Q)) = some (p_A n4 4 (upd (o_A n4 4) (g_N Q) 0)) := by
    unfold f_X1_derive
    rw [ld_nI (by omega) (by omega), Option.bind_some, ld_nI (by omega) (by omega), Option.bind_some, show o_A (p_A n4 4 (upd (o_A n4 4) (g_N Q) 0)) 0 (g_N Q) = nI K from c0]
    rcases hK with rfl | rfl
    · rw [if_neg (show ¬ nI 0 = 1 by decide), if_neg (show ¬ nI 0 = 2 by decide), if_neg (show ¬ nI 0 = 3 by decide), if_neg (show ¬ nI 0 = 4 by decide), if_neg (show ¬ nI 0 = 5 by decide)]
    · rw [if_neg (show ¬ nI 6 = 1 by decide), if_neg (show ¬ nI 6 = 2 by decide), if_neg (show ¬ nI 6 = 3 by decide), if_neg (show ¬ nI 6 = 4 by decide), if_neg (show ¬ nI 6 = 5 by decide)]
  rw [e2, Option.bind_some]
  refine ⟨_, rfl, ?_, fun f hf i hi => ?_, ?_, c0, c1, c2, c3, ?_⟩
  · rw [fF_]
    show o_F n4 6 + 1 = _
    rw [(F 6 (by decide)).1, hn.1, nI_1]
  · rcases (show f < 4 ∨ f = 4 by omega) with q | q
    · show o_A (p_A n4 4 _) f i = _
      rw [oA_pA, if_neg (by omega)]
      exact lo f q i (by omega)
    · subst q
      show upd (o_A n4 4) _ _ i = _
      rw [updE, if_neg (by omega), (F 4 (by decide)).2]
  · exact (F 5 (by decide)).2
  · show upd (o_A n4 4) _ _ (g_N Q) = _
    rw [updE, if_pos rfl]
    rfl
/-- the reference clears a row -/
theorem m_clear (o : Ob_T) {k : Nat} (hk : k < 10) (x1 x2 : Int32) (k82 : Int32 → Int32 → Int32 → Ob_T → Option (Int32 × Ob_T)) : ∃ f, Lp_ (fun (rec : (Int32 × Int32 × Int32 × Int32 × Ob_T) → Option (Int32 × Ob_T)) x => f_X9_readsClause_L59 k82 rec x.1 x.2.1 x.2.2.1 x.2.2.2.1 x.2.2.2.2) FU_ (x1, x2, nI (15 * k), 0, o) = k82 x1 x2 (nI (15 * k)) (p_A o 1 f) ∧ ∀ l, f l = if 15 * k ≤ l ∧ l < 15 * k + 15 then -1 else o_A o 1 l := by
  refine lp_fu (P := fun r => ∃ f, r = k82 x1 x2 (nI (15 * k)) (p_A o 1 f) ∧ ∀ l, f l = if 15 * k ≤ l ∧ l < 15 * k + 15 then -1 else o_A o 1 l) (fun m x => ∃ i f, i ≤ 15 ∧ m = 15 - i + 1 ∧ x = (x1, x2, nI (15 * k), nI i, p_A o 1 f) ∧ ∀ l, f l = if 15 * k ≤ l ∧ l < 15 * k + i then -1 else o_A o 1 l) ?_ ?_ (15 - 0 + 1) _ ⟨0, o_A o 1, by omega, rfl, by rw [pA_self]; rfl, fun l => by rw [if_neg (by omega)]⟩ (by omega)
  · rintro x ⟨i, f, h1, h2, -⟩
    omega
  · rintro m x rec ⟨i, f, hi, hm, rfl, hf⟩ hr
    unfold f_X9_readsClause_L59
    dsimp only
    by_cases e : i = 15
    · subst e
      rw [if_pos (show (15 : Int32) ≤ nI 15 by decide)]
      exact ⟨f, rfl, hf⟩
    · rw [if_neg (show ¬ (15 : Int32) ≤ nI i from nI_ge (b := 15) (by omega) (by omega)), nI_add, st_nI (by omega) (by omega), Option.bind_some, nI_1]
      refine hr _ ⟨i + 1, upd f (15 * k + i) (-1), by omega, by omega, by rw [pA_pA]; rfl, fun l => ?_⟩
      rw [updE, hf l]
      by_cases q : l = 15 * k + i
      · rw [if_pos q, if_pos (by omega)]
      · rw [if_neg q]
        by_cases q2 : 15 * k ≤ l ∧ l < 15 * k + i
        · rw [if_pos q2, if_pos (by omega)]
        · rw [if_neg q2, if_neg (by omega)]
end
