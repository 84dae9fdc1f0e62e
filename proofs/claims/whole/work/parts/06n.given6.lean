def ch_x (g : Ob_T) (u l : Nat) (v : Int32) : Ob_T := p_A (p_F (p_A (p_A g 1 (upd (o_A g 1) u (nI l))) 2 (upd (o_A g 2) u (o_A g 0 l))) 5 (nI (u + 1))) 0 (upd (o_A g 0) l v)
def ch_m (o : Ob_T) (u l : Nat) (v : Int32) : Ob_T := p_A (p_F (p_A o 5 (va_cpy (o_A o 4) (o_A o 5) 0 (4 * u) 4)) 6 (nI (u + 1))) 4 (upd (o_A o 4) l v)
theorem x_changeJ (g : Ob_T) {u l : Nat} (hu : u < 8) (hl : l < 4) (e : o_F g 5 = nI u) (v : Int32) : f_X0_change_J45 (nI l) v g = some (ch_x g u l v) := by
  unfold f_X0_change_J45 ch_x
  rw [e, st_nI hu (by omega), Option.bind_some]
  show (ld_I (o_A g 0) 4 (nI l)).bind _ = _
  rw [ld_nI hl (by omega), Option.bind_some]
  show (st_A (p_A g 1 (upd (o_A g 1) u (nI l))) 2 8 (o_F g 5) (o_A g 0 l)).bind _ = _
  rw [e, st_nI hu (by omega), Option.bind_some]
  show (st_A (p_F (p_A (p_A g 1 (upd (o_A g 1) u (nI l))) 2 (upd (o_A g 2) u (o_A g 0 l))) 5 (o_F g 5 + 1)) 0 4 (nI l) v).bind _ = _
  rw [e, nI_1, st_nI hl (by omega), Option.bind_some]
  rfl
theorem m_becomeJ (o : Ob_T) {u l : Nat} (hu : u < 8) (hl : l < 4) (e : o_F o 6 = nI u) (v : Int32) : f_X9_become_J47 (nI l) v o = some (ch_m o u l v) := by
  unfold f_X9_become_J47
  refine lp_fu (P := fun r => r = some (ch_m o u l v)) (fun n x => ∃ i, i ≤ 4 ∧ n = 4 - i + 1 ∧ x = (nI l, v, nI i, p_A o 5 (va_cpy (o_A o 4) (o_A o 5) 0 (4 * u) i))) ?_ ?_ (4 - 0 + 1) _ ⟨0, by omega, rfl, by rw [cpy_0, pA_self]; rfl⟩ (by omega)
  · rintro x ⟨i, h1, h2, -⟩
    omega
  · rintro n x rec ⟨i, h1, h2, rfl⟩ hr
    unfold f_X9_become_L49
    by_cases he : i = 4
    · subst he
      rw [if_pos (show (4 : Int32) ≤ nI 4 from Int32.le_refl _)]
      show f_X9_become_J79 (nI l) v (p_A o 5 (va_cpy (o_A o 4) (o_A o 5) 0 (4 * u) 4)) = _
      unfold f_X9_become_J79 ch_m
      show (st_A (p_F (p_A o 5 (va_cpy (o_A o 4) (o_A o 5) 0 (4 * u) 4)) 6 (o_F o 6 + 1)) 4 4 (nI l) v).bind _ = _
      rw [e, nI_1, st_nI hl (by omega), Option.bind_some]
      rfl
    · rw [if_neg (show ¬ (4 : Int32) ≤ nI i from nI_ge (b := 4) (by omega) (by omega))]
      show (ld_I (o_A o 4) 4 (nI i)).bind _ = _
      rw [ld_nI (by omega) (by omega), Option.bind_some]
      show (st_A (p_A o 5 (va_cpy (o_A o 4) (o_A o 5) 0 (4 * u) i)) 5 32 (4 * o_F o 6 + nI i) (o_A o 4 i)).bind _ = _
      rw [e, ix_4, st_nI (by omega) (by omega), Option.bind_some]
      refine hr _ ⟨i + 1, by omega, by omega, ?_⟩
      rw [pA_pA, oA_pA, if_pos rfl, ← cpy_s, Nat.zero_add, nI_1]
theorem ch_R {g o : Ob_T} {u l : Nat} {v : Int32} (hu : u < 8) (hl : l < 4) (hv : gv_ok v) (h1 : ∀ l, l < 4 → o_A g 0 l = o_A o 4 l ∧ gv_ok (o_A o 4 l)) (hc : ∀ i, i < u → ∃ l, l < 4 ∧ o_A g 1 i = nI l ∧ gv_ok (o_A g 2 i) ∧ ∀ j, j < 4 → sp_ o u i j = if j = l then o_A g 2 i else sp_ o u (i + 1) j)
    (h3 : ∀ k, k < 2 → (o_A g 4 k = 0 ∧ o_A o 8 k = 0) ∨ (o_A g 4 k = 1 ∧ o_A o 8 k = 1 ∧ ∀ j, j < 4 → o_A g 3 (4 * k + j) = o_A o 7 (4 * k + j) ∧ gv_ok (o_A o 7 (4 * k + j)))) : R_gv (ch_x g u l v) (ch_m o u l v) := by
  have hsp : ∀ k, k ≤ u → ∀ j, j < 4 → sp_ (ch_m o u l v) (u + 1) k j = sp_ o u k j := by
    intro k hk j hj
    unfold sp_
    rw [if_neg (show ¬ k = u + 1 by omega)]
    show va_cpy (o_A o 4) (o_A o 5) 0 (4 * u) 4 (4 * k + j) = _
    by_cases hku : k = u
    · subst hku
      rw [if_pos rfl, cpy_in hj, Nat.zero_add]
    · rw [if_neg hku, cpy_out (by omega)]
  refine ⟨fun j hj => ?_, ⟨u + 1, by omega, rfl, rfl, fun i hi => ?_⟩, h3⟩
  · show upd (o_A g 0) l v j = upd (o_A o 4) l v j ∧ gv_ok (upd (o_A o 4) l v j)
    rw [updE, updE]
    by_cases hjl : j = l
    · rw [if_pos hjl, if_pos hjl]
      exact ⟨rfl, hv⟩
    · rw [if_neg hjl, if_neg hjl]
      exact h1 j hj
  · by_cases hiu : i = u
    · subst hiu
      refine ⟨l, hl, ?_, ?_, fun j hj => ?_⟩
      · show upd (o_A g 1) i (nI l) i = nI l
        rw [updE, if_pos rfl]
      · show gv_ok (upd (o_A g 2) i (o_A g 0 l) i)
        rw [updE, if_pos rfl, (h1 l hl).1]
        exact (h1 l hl).2
      · rw [hsp i (by omega) j hj]
        show sp_ o i i j = if j = l then upd (o_A g 2) i (o_A g 0 l) i else sp_ (ch_m o i l v) (i + 1) (i + 1) j
        rw [updE, if_pos rfl]
        unfold sp_
        rw [if_pos rfl, if_pos rfl]
        show o_A o 4 j = if j = l then o_A g 0 l else upd (o_A o 4) l v j
        by_cases hjl : j = l
        · rw [if_pos hjl, hjl, (h1 l hl).1]
        · rw [if_neg hjl, updE, if_neg hjl]
    · obtain ⟨l', hl', b1, b2, b3⟩ := hc i (by omega)
      refine ⟨l', hl', ?_, ?_, fun j hj => ?_⟩
      · show upd (o_A g 1) u (nI l) i = nI l'
        rw [updE, if_neg hiu]
        exact b1
      · show gv_ok (upd (o_A g 2) u (o_A g 0 l) i)
        rw [updE, if_neg hiu]
        exact b2
      · rw [hsp i (by omega) j hj, hsp (i + 1) (by omega) j hj]
        show sp_ o u i j = if j = l' then upd (o_A g 2) u (o_A g 0 l) i else sp_ o u (i + 1) j
        rw [updE, if_neg hiu]
        exact b3 j hj
