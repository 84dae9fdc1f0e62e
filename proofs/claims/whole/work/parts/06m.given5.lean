theorem m_undoL (o : Ob_T) {v : Nat} (hv : v < 8) (e : o_F o 6 = nI v) : Lp_ (fun (rec : (Int32 × Ob_T) → Option (Int32 × Ob_T)) x => f_X9_undo_L22 rec x.1 x.2) FU_ (0, o) = some (nI v, p_A o 4 (va_cpy (o_A o 5) (o_A o 4) (4 * v) 0 4)) := by
  refine lp_fu (P := fun r => r = some (nI v, p_A o 4 (va_cpy (o_A o 5) (o_A o 4) (4 * v) 0 4))) (fun n x => ∃ i, i ≤ 4 ∧ n = 4 - i + 1 ∧ x = (nI i, p_A o 4 (va_cpy (o_A o 5) (o_A o 4) (4 * v) 0 i))) ?_ ?_ (4 - 0 + 1) _ ⟨0, by omega, rfl, by rw [cpy_0, pA_self]; rfl⟩ (by omega)
  · rintro x ⟨i, h1, h2, -⟩
    omega
  · rintro n x rec ⟨i, h1, h2, rfl⟩ hr
    unfold f_X9_undo_L22
    by_cases he : i = 4
    · subst he
      rw [if_pos (show (4 : Int32) ≤ nI 4 from Int32.le_refl _)]
      show some (o_F o 6, _) = _
      rw [e]
    · rw [if_neg (show ¬ (4 : Int32) ≤ nI i from nI_ge (b := 4) (by omega) (by omega))]
      show (ld_I (o_A (p_A o 4 (va_cpy (o_A o 5) (o_A o 4) (4 * v) 0 i)) 5) 32 (4 * o_F o 6 + nI i)).bind _ = _
      rw [e, ix_4, ld_nI (by omega) (by omega), Option.bind_some]
      show (st_A (p_A o 4 (va_cpy (o_A o 5) (o_A o 4) (4 * v) 0 i)) 4 4 (nI i) (o_A o 5 (4 * v + i))).bind _ = _
      rw [st_nI (by omega) (by omega), Option.bind_some]
      refine hr _ ⟨i + 1, by omega, by omega, ?_⟩
      rw [pA_pA, oA_pA, if_pos rfl, ← cpy_s, Nat.zero_add, nI_1]
theorem sm_undo (x g o : Ob_T) (h : R_gv g o) : Tr_ (f_X8_undo x g) (fun u => Tr_ (f_X9_undo o) (fun w => u.1 = w.1 ∧ R_gv u.2.2 w.2 ∧ Fr_ [4, 5, 6, 7, 8] o w.2 ∧ Fg_ x u.2.1 g u.2.2 o w.2)) := by
  have h' := h
  obtain ⟨h1, ⟨u, hu, e1, e2, hc⟩, h3⟩ := h
  unfold f_X8_undo f_X9_undo f_X0_undoable
  rw [Option.bind_some, e1, e2]
  by_cases c0 : u = 0
  · subst c0
    rw [if_pos (show nI 0 = 0 from rfl), if_pos (show nI 0 = 0 from rfl)]
    exact tr_some (tr_some ⟨rfl, h', fr_rf _ _, Or.inl ⟨rfl, rfl, rfl⟩⟩)
  · obtain ⟨v, rfl⟩ : ∃ v, u = v + 1 := ⟨u - 1, by omega⟩
    have n0 : ¬ nI (v + 1) = 0 := nI_ne0 (by omega) (by omega)
    have ev : nI (v + 1) - 1 = nI v := nI_pred v
    obtain ⟨l, hl, a1, a2, a3⟩ := hc v (by omega)
    rw [if_neg n0, if_neg n0, ev]
    have tb : f_X0_takeBack g = some (p_A (p_F g 5 (nI v)) 0 (upd (o_A g 0) l (o_A g 2 v))) := by
      unfold f_X0_takeBack
      rw [e1, if_neg (nI_nle (by omega) (by omega)), ev]
      show (ld_I (o_A g 1) 8 (nI v)).bind _ = _
      rw [ld_nI (by omega) (by omega), Option.bind_some]
      show (ld_I (o_A g 2) 8 (nI v)).bind _ = _
      rw [ld_nI (by omega) (by omega), Option.bind_some, a1]
      show (st_A (p_F g 5 (nI v)) 0 4 (nI l) (o_A g 2 v)).bind _ = _
      rw [st_nI hl (by omega), Option.bind_some]
      rfl
    rw [bind_eq _ tb, bind_eq _ (x_forget x), Option.bind_some]
    refine tr_some (tr_let ?_)
    rw [m_undoL (p_F o 6 (nI v)) (by omega) rfl]
    have q : ∀ j, j < 4 → va_cpy (o_A o 5) (o_A o 4) (4 * v) 0 4 j = o_A o 5 (4 * v + j) := by
      intro j hj
      have b1 := cpy_in (f := o_A o 5) (g := o_A o 4) (a := 4 * v) (b := 0) hj
      rwa [Nat.zero_add] at b1
    have q2 : ∀ j, j < 4 → o_A o 5 (4 * v + j) = if j = l then o_A g 2 v else o_A o 4 j := by
      intro j hj
      have b2 := a3 j hj
      unfold sp_ at b2
      rw [if_neg (by omega), if_pos rfl] at b2
      exact b2
    have hsp : ∀ k, k ≤ v → ∀ j, j < 4 → sp_ (p_A (p_F o 6 (nI v)) 4 (va_cpy (o_A o 5) (o_A o 4) (4 * v) 0 4)) v k j = sp_ o (v + 1) k j := by
      intro k hk j hj
      unfold sp_
      rw [if_neg (show ¬ k = v + 1 by omega)]
      by_cases hkv : k = v
      · subst hkv
        rw [if_pos rfl]
        exact q j hj
      · rw [if_neg hkv]
        rfl
    refine tr_some ⟨rfl, ⟨fun j hj => ?_, ⟨v, by omega, rfl, rfl, fun i hi => ?_⟩, h3⟩, fr_tr (fr_pF (by decide)) (fr_pA (by decide)), fg_new _ _ _ _ _⟩
    · show upd (o_A g 0) l (o_A g 2 v) j = va_cpy (o_A o 5) (o_A o 4) (4 * v) 0 4 j ∧ gv_ok (va_cpy (o_A o 5) (o_A o 4) (4 * v) 0 4 j)
      rw [q j hj, q2 j hj, updE]
      by_cases hjl : j = l
      · rw [if_pos hjl, if_pos hjl]
        exact ⟨rfl, a2⟩
      · rw [if_neg hjl, if_neg hjl]
        exact h1 j hj
    · obtain ⟨l', hl', b1, b2, b3⟩ := hc i (by omega)
      refine ⟨l', hl', b1, b2, fun j hj => ?_⟩
      have b4 := b3 j hj
      rw [← hsp i (by omega) j hj, ← hsp (i + 1) (by omega) j hj] at b4
      exact b4
