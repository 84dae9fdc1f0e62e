/-! where the rounds end well, each equation holds or is passed by -/
def Fin_ (P : Pg_) (F : Nat → Nat) : Prop := ∀ i, i < g_N P → isE_ P i → (eqn_ P i F).1 = 0 ∨ (eqn_ P i F).1 = 1
theorem eqn_4 (P : Pg_) (i : Nat) (V : Nat → Nat) : (eqn_ P i V).1 = 0 ∨ (eqn_ P i V).1 = 1 ∨ (eqn_ P i V).1 = 2 ∨ (eqn_ P i V).1 = 3 := by
  unfold eqn_
  by_cases h1 : nl_ ((eL_ P i).map (vl_ V)) + nl_ ((eR_ P i).map (vl_ V)) ≤ 1
  · exact Or.inr (eqv_sp _ h1).1
  · left
    unfold eqv_
    rw [if_pos (by omega)]
theorem rk_mono (P : Pg_) (i : Nat) {t : Tr4_} (h : t.2.1 ≤ 1) : t.2.1 ≤ (rk_ P i t).2.1 ∧ (rk_ P i t).2.1 ≤ 1 := by
  by_cases c : t.1.2 = [] ∧ isE_ P i
  · rw [rk_E c.1 c.2]
    dsimp only
    by_cases q : (eqn_ P i t.1.1).1 = 2
    · rw [if_pos q]; omega
    · rw [if_neg q]; omega
  · unfold rk_
    rw [if_neg (show ¬ (t.1.2 = [] ∧ (g_K P i = 2 ∨ g_K P i = 5 ∨ g_K P i = 6)) from c)]
    omega
theorem rds_mono (P : Pg_) : ∀ (c i : Nat) {t : Tr4_}, t.2.1 ≤ 1 → t.2.1 ≤ (rds_ P c i t).2.1
  | 0, _, _, _ => Nat.le_refl _
  | c + 1, i, t, h => Nat.le_trans (rk_mono P i h).1 (rds_mono P c (i + 1) (rk_mono P i h).2)
theorem rds_fin (P : Pg_) : ∀ (c i : Nat) {t : Tr4_}, t.2.1 ≤ 1 → (rds_ P c i t).2.1 = 0 → (rds_ P c i t).1.2 = [] → (rds_ P c i t).1 = t.1 ∧ ∀ j, i ≤ j → j < i + c → isE_ P j → (eqn_ P j t.1.1).1 = 0 ∨ (eqn_ P j t.1.1).1 = 1
  | 0, _, _, _, _, _ => ⟨rfl, fun j h1 h2 => absurd h2 (by omega)⟩
  | c + 1, i, t, ht, h1, h2 => by
    have h1' : (rds_ P c (i + 1) (rk_ P i t)).2.1 = 0 := h1
    obtain ⟨a, b⟩ := rds_fin P c (i + 1) (t := rk_ P i t) (rk_mono P i ht).2 h1 h2
    have f0 : (rk_ P i t).1.2 = [] := by rw [← a]; exact h2
    have p0 : (rk_ P i t).2.1 = 0 := by have := rds_mono P c (i + 1) (rk_mono P i ht).2; omega
    have key : (rk_ P i t).1 = t.1 ∧ (isE_ P i → (eqn_ P i t.1.1).1 = 0 ∨ (eqn_ P i t.1.1).1 = 1) := by
      by_cases f : t.1.2 = []
      · by_cases hE : isE_ P i
        · rw [rk_E f hE] at p0 f0 ⊢
          dsimp only at p0 f0 ⊢
          have n2 : ¬ (eqn_ P i t.1.1).1 = 2 := fun z => by rw [if_pos z] at p0; omega
          unfold stp_ at f0 ⊢
          rw [if_neg n2] at f0 ⊢
          have n3 : ¬ (eqn_ P i t.1.1).1 = 3 := fun z => by rw [if_pos z] at f0; exact absurd f0 (by simp)
          rw [if_neg n3]
          refine ⟨Prod.ext rfl f.symm, fun _ => ?_⟩
          rcases eqn_4 P i t.1.1 with z | z | z | z
          · exact Or.inl z
          · exact Or.inr z
          · exact absurd z n2
          · exact absurd z n3
        · rw [rk_n hE]
          exact ⟨rfl, fun z => absurd z hE⟩
      · rw [rk_f P i f] at f0
        exact absurd f0 f
    refine ⟨a.trans key.1, fun j hj1 hj2 hE => ?_⟩
    by_cases c : j = i
    · subst c; exact key.2 hE
    · have := b j (by omega) (by omega) hE
      rw [key.1] at this
      exact this
theorem sto_fin {P : Pg_} (hW : Wf_ P) : ∀ (r : Nat) (S : Sv_) (too : Nat), Vk_ S.1 → uc_ S.1 14 < r → (sto_ P r S too).1.2 = [] → Fin_ P (sto_ P r S too).1.1
  | 0, _, _, _, h, _ => absurd h (by omega)
  | r + 1, S, too, hV, hu, hf => by
    rw [sto_s] at hf ⊢
    obtain ⟨v1, v2⟩ := rnd_vk hW hV too
    by_cases c : (rnd_ P S too).2.1 = 1 ∧ (rnd_ P S too).1.2 = []
    · rw [if_pos c] at hf ⊢
      exact sto_fin hW r _ _ v1 (by omega) hf
    · rw [if_neg c] at hf ⊢
      have hf : (rnd_ P S too).1.2 = [] := hf
      have b1 := rnd_01 P S too
      have z : (rnd_ P S too).2.1 = 0 := by
        by_cases q : (rnd_ P S too).2.1 = 1
        · exact absurd ⟨q, hf⟩ c
        · omega
      obtain ⟨a, b⟩ := rds_fin P (g_N P) 0 (t := (S, 0, 0, too)) (by show 0 ≤ 1; omega) z hf
      have a : (rnd_ P S too).1 = S := a
      intro i hi hE
      show (eqn_ P i (rnd_ P S too).1.1).1 = 0 ∨ _
      rw [a]
      exact b i (by omega) (by omega) hE
/-! a state that a good end goes beyond -/
def Le_ (V F : Nat → Nat) : Prop := ∀ l, l < 14 → vl_ F (V l) = F l
theorem le_vl {V F : Nat → Nat} (h : Le_ V F) {e : Nat} (he : e_ok e) : vl_ F e = vl_ F (vl_ V e) := by
  rcases he with z | z
  · rw [show vl_ V e = e by unfold vl_; rw [if_pos (by omega)]]
  · have e1 : vl_ V e = V (e - 20000) := by unfold vl_; rw [if_neg (by omega)]
    rw [e1, h _ (by omega)]
    unfold vl_
    rw [if_neg (by omega)]
theorem eqv_tag (s : Prop) [Decidable s] {L R L' R' : List Nat} (h1 : nl_ L = nl_ L') (h2 : nl_ R = nl_ R') (h3 : su_ L = su_ L') (h4 : su_ R = su_ R') (h5 : pd_ L = pd_ L') (h6 : pd_ R = pd_ R') : (eqv_ s L R).1 = (eqv_ s L' R').1 := by
  have ts : ∀ n g r a b, (eqs_ n g r a).1 = (eqs_ n g r b).1 := by
    intro n g r a b
    unfold eqs_
    by_cases c0 : n = 0
    · rw [if_pos c0, if_pos c0]
    · rw [if_neg c0, if_neg c0]
      by_cases c1 : g < r ∨ 9999 < g - r
      · rw [if_pos c1, if_pos c1]
      · rw [if_neg c1, if_neg c1]
  have tp : ∀ n g r a b, (eqp_ n g r a).1 = (eqp_ n g r b).1 := by
    intro n g r a b
    unfold eqp_
    by_cases c : BD_ < g ∨ BD_ < r
    · rw [if_pos c, if_pos c]
    · rw [if_neg c, if_neg c]
      by_cases c0 : n = 0
      · rw [if_pos c0, if_pos c0]
      · rw [if_neg c0, if_neg c0]
        by_cases r0 : r = 0
        · rw [if_pos r0, if_pos r0]
        · rw [if_neg r0, if_neg r0]
          by_cases c1 : g % r ≠ 0 ∨ 9999 < g / r
          · rw [if_pos c1, if_pos c1]
          · rw [if_neg c1, if_neg c1]
  unfold eqv_
  rw [h1, h2, h3, h4, h5, h6]
  by_cases c : 2 ≤ nl_ L' + nl_ R'
  · rw [if_pos c, if_pos c]
  · rw [if_neg c, if_neg c]
    by_cases c1 : nl_ L' = 1
    · rw [if_pos c1, if_pos c1]
      by_cases cs : s
      · rw [if_pos cs, if_pos cs]; exact ts _ _ _ _ _
      · rw [if_neg cs, if_neg cs]; exact tp _ _ _ _ _
    · rw [if_neg c1, if_neg c1]
      by_cases cs : s
      · rw [if_pos cs, if_pos cs]; exact ts _ _ _ _ _
      · rw [if_neg cs, if_neg cs]; exact tp _ _ _ _ _
theorem nl1_ren {k : Nat} (hk : ¬ k < 20000) : ∀ (l : List Nat), nl_ l = 1 → nl_ (l.map (sv_ (ol_ l) k)) = 1 ∧ su_ (l.map (sv_ (ol_ l) k)) = su_ l ∧ pd_ (l.map (sv_ (ol_ l) k)) = pd_ l
  | [], h => absurd h (by decide)
  | w :: l, h => by
    have h : (if w < 20000 then 0 else 1) + nl_ l = 1 := h
    have eo : ol_ (w :: l) = if w < 20000 then ol_ l else w - 20000 := rfl
    rw [List.map_cons]
    show (if sv_ (ol_ (w :: l)) k w < 20000 then 0 else 1) + nl_ (l.map (sv_ (ol_ (w :: l)) k)) = 1 ∧ (if sv_ (ol_ (w :: l)) k w < 20000 then sv_ (ol_ (w :: l)) k w else 0) + su_ (l.map (sv_ (ol_ (w :: l)) k)) = (if w < 20000 then w else 0) + su_ l ∧ (if sv_ (ol_ (w :: l)) k w < 20000 then sv_ (ol_ (w :: l)) k w else 1) * pd_ (l.map (sv_ (ol_ (w :: l)) k)) = (if w < 20000 then w else 1) * pd_ l
    rw [eo]
    by_cases c : w < 20000
    · simp only [if_pos c]
      rw [if_pos c] at h
      have e : sv_ (ol_ l) k w = w := by unfold sv_; rw [if_neg (by omega)]
      obtain ⟨a, b, d⟩ := nl1_ren hk l (by omega)
      rw [e, if_pos c, if_pos c, if_pos c, a, b, d]
      exact ⟨rfl, rfl, rfl⟩
    · simp only [if_neg c]
      rw [if_neg c] at h
      have e : sv_ (w - 20000) k w = k := by unfold sv_; rw [if_pos (by omega)]
      have e2 : l.map (sv_ (w - 20000) k) = l := sv_id _ _ l (fun v hv => by have := nl0_lt l (by omega) v hv; omega)
      rw [e, e2, if_neg hk, if_neg hk, if_neg hk]
      exact ⟨by omega, rfl, rfl⟩
theorem vlF_0 (F : Nat → Nat) {l : List Nat} (h : nl_ l = 0) : l.map (vl_ F) = l := by
  have : l.map (vl_ F) = l.map id := List.map_congr_left (fun v hv => by
    have := nl0_lt l h v hv
    unfold vl_
    rw [if_pos this]; rfl)
  rw [this, List.map_id]
theorem vlF_1 (F : Nat → Nat) {l : List Nat} (h : nl_ l = 1) : l.map (vl_ F) = l.map (sv_ (ol_ l) (F (ol_ l))) := List.map_congr_left (fun v hv => by
  unfold vl_ sv_
  rcases nl1_mem l h v hv with z | z
  · rw [if_pos z, if_neg (by omega)]
  · rw [if_neg (by omega), if_pos z, z, show 20000 + ol_ l - 20000 = ol_ l by omega])
/-- what an equation answers, by what it answers at a good end -/
theorem eqv_le (s : Prop) [Decidable s] {L R : List Nat} {F : Nat → Nat} (hF : ∀ l, F l ≤ 9999 ∨ 20000 ≤ F l) (h1 : nl_ L + nl_ R ≤ 1) (hf : (eqv_ s (L.map (vl_ F)) (R.map (vl_ F))).1 = 0 ∨ (eqv_ s (L.map (vl_ F)) (R.map (vl_ F))).1 = 1) : ((eqv_ s L R).1 = 2 → F (eqv_ s L R).2.1 = (eqv_ s L R).2.2) ∧ ((eqv_ s L R).1 = 3 → (eqv_ s L R).2.1 = 1) := by
  obtain ⟨sp1, sp2, sp3⟩ := eqv_sp s h1
  rcases (show nl_ L + nl_ R = 0 ∨ nl_ L + nl_ R = 1 by omega) with z | z
  · rw [vlF_0 F (show nl_ L = 0 by omega), vlF_0 F (show nl_ R = 0 by omega)] at hf
    exact ⟨fun q => by omega, fun q => by omega⟩
  · -- the one letter, and what it is at the end
    have e1 : L.map (vl_ F) = L.map (sv_ (ol_ (rs_l L R)) (F (ol_ (rs_l L R)))) ∧ R.map (vl_ F) = R.map (sv_ (ol_ (rs_l L R)) (F (ol_ (rs_l L R)))) := by
      unfold rs_l
      by_cases w : nl_ L = 1
      · rw [if_pos w]
        exact ⟨vlF_1 F w, by rw [vlF_0 F (show nl_ R = 0 by omega), sv_id _ _ R (fun v hv => by have := nl0_lt R (by omega) v hv; omega)]⟩
      · rw [if_neg w]
        exact ⟨by rw [vlF_0 F (show nl_ L = 0 by omega), sv_id _ _ L (fun v hv => by have := nl0_lt L (by omega) v hv; omega)], vlF_1 F (by omega)⟩
    rw [e1.1, e1.2] at hf
    rcases hF (ol_ (rs_l L R)) with k | k
    · generalize hk : F (ol_ (rs_l L R)) = k' at *
      obtain ⟨a1, a2, a3⟩ : nl_ (L.map (sv_ (ol_ (rs_l L R)) k')) + nl_ (R.map (sv_ (ol_ (rs_l L R)) k')) = 0 ∧ (su_ (L.map (sv_ (ol_ (rs_l L R)) k')) = su_ (R.map (sv_ (ol_ (rs_l L R)) k')) ↔ su_ (rs_l L R) + k' = su_ (gl_ L R)) ∧ ((pd_ (L.map (sv_ (ol_ (rs_l L R)) k')) = pd_ (rs_l L R) * k' ∧ pd_ (R.map (sv_ (ol_ (rs_l L R)) k')) = pd_ (gl_ L R)) ∨ (pd_ (R.map (sv_ (ol_ (rs_l L R)) k')) = pd_ (rs_l L R) * k' ∧ pd_ (L.map (sv_ (ol_ (rs_l L R)) k')) = pd_ (gl_ L R))) := by
        unfold rs_l gl_
        by_cases w : nl_ L = 1
        · rw [if_pos w, if_pos w]
          obtain ⟨b1, b2, b3⟩ := nl1_sub (show k' < 20000 by omega) L w
          rw [sv_id _ _ R (fun v hv => by have := nl0_lt R (by omega) v hv; omega), b1, b2, b3]
          exact ⟨by omega, Iff.rfl, Or.inl ⟨rfl, rfl⟩⟩
        · rw [if_neg w, if_neg w]
          obtain ⟨b1, b2, b3⟩ := nl1_sub (show k' < 20000 by omega) R (by omega)
          rw [sv_id _ _ L (fun v hv => by have := nl0_lt L (by omega) v hv; omega), b1, b2, b3]
          exact ⟨by omega, ⟨fun z => z.symm, fun z => z.symm⟩, Or.inr ⟨rfl, rfl⟩⟩
      have h0 := (eqv_sp s (show nl_ (L.map (sv_ (ol_ (rs_l L R)) k')) + nl_ (R.map (sv_ (ol_ (rs_l L R)) k')) ≤ 1 by omega)).1
      rw [eqv_le1 s (by omega)] at hf h0
      have g1 : gl_ (L.map (sv_ (ol_ (rs_l L R)) k')) (R.map (sv_ (ol_ (rs_l L R)) k')) = L.map (sv_ (ol_ (rs_l L R)) k') := by rw [gl_, if_neg (by omega)]
      have g2 : rs_l (L.map (sv_ (ol_ (rs_l L R)) k')) (R.map (sv_ (ol_ (rs_l L R)) k')) = R.map (sv_ (ol_ (rs_l L R)) k') := by
        show (if nl_ (L.map (sv_ (ol_ (rs_l L R)) k')) = 1 then _ else _) = _
        rw [if_neg (by omega)]
      rw [g1, g2] at hf h0
      have ev := eqv_le1 s h1
      by_cases c : s
      · rw [if_pos c] at hf h0 ev
        unfold eqs_ at hf h0
        rw [if_pos a1] at hf h0
        have eq : su_ (rs_l L R) + k' = su_ (gl_ L R) := by
          by_cases q : su_ (L.map (sv_ (ol_ (rs_l L R)) k')) = su_ (R.map (sv_ (ol_ (rs_l L R)) k'))
          · exact a2.mp q
          · rw [if_neg q] at hf
            rcases hf with w | w
            · exact absurd (show (3 : Nat) = 0 from w) (by decide)
            · exact absurd (show (3 : Nat) = 1 from w) (by decide)
        unfold eqs_ at ev
        rw [if_neg (show ¬ nl_ L + nl_ R = 0 by omega), if_neg (by omega)] at ev
        refine ⟨fun q => ?_, fun q => ?_⟩
        · rw [ev]
          show F (ol_ (rs_l L R)) = su_ (gl_ L R) - su_ (rs_l L R)
          rw [hk]; omega
        · rw [ev] at q; exact absurd (show (2 : Nat) = 3 from q) (by decide)
      · rw [if_neg c] at hf h0 ev
        unfold eqp_ at hf h0
        by_cases qb : BD_ < pd_ (L.map (sv_ (ol_ (rs_l L R)) k')) ∨ BD_ < pd_ (R.map (sv_ (ol_ (rs_l L R)) k'))
        · rw [if_pos qb] at hf
          rcases hf with w | w
          · exact absurd (show (3 : Nat) = 0 from w) (by decide)
          · exact absurd (show (3 : Nat) = 1 from w) (by decide)
        · rw [if_neg qb, if_pos a1] at hf
          have eq : pd_ (rs_l L R) * k' = pd_ (gl_ L R) := by
            by_cases q : pd_ (L.map (sv_ (ol_ (rs_l L R)) k')) = pd_ (R.map (sv_ (ol_ (rs_l L R)) k'))
            · rcases a3 with ⟨x, y⟩ | ⟨x, y⟩ <;> omega
            · rw [if_neg q] at hf
              rcases hf with w | w
              · exact absurd (show (3 : Nat) = 0 from w) (by decide)
              · exact absurd (show (3 : Nat) = 1 from w) (by decide)
          unfold eqp_ at ev
          by_cases qg : BD_ < pd_ (gl_ L R) ∨ BD_ < pd_ (rs_l L R)
          · rw [if_pos qg] at ev
            refine ⟨fun q => ?_, fun q => ?_⟩
            · rw [ev] at q; exact absurd (show (3 : Nat) = 2 from q) (by decide)
            · rw [ev]
          · rw [if_neg qg, if_neg (show ¬ nl_ L + nl_ R = 0 by omega)] at ev
            by_cases r0 : pd_ (rs_l L R) = 0
            · have g0 : pd_ (gl_ L R) = 0 := by rw [← eq, r0, Nat.zero_mul]
              rw [if_pos r0, if_pos g0] at ev
              refine ⟨fun q => ?_, fun q => ?_⟩
              · rw [ev] at q; exact absurd (show (1 : Nat) = 2 from q) (by decide)
              · rw [ev] at q; exact absurd (show (1 : Nat) = 3 from q) (by decide)
            · have d1 : pd_ (gl_ L R) / pd_ (rs_l L R) = k' := by rw [← eq]; exact Nat.mul_div_cancel_left k' (by omega)
              have d2 : pd_ (gl_ L R) % pd_ (rs_l L R) = 0 := by rw [← eq]; exact Nat.mul_mod_right _ _
              rw [if_neg r0, if_neg (by rw [d1, d2]; omega)] at ev
              refine ⟨fun q => ?_, fun q => ?_⟩
              · rw [ev]
                show F (ol_ (rs_l L R)) = pd_ (gl_ L R) / pd_ (rs_l L R)
                rw [hk, d1]
              · rw [ev] at q; exact absurd (show (2 : Nat) = 3 from q) (by decide)
    · -- it is a letter yet: the same answer
      have et : (eqv_ s (L.map (sv_ (ol_ (rs_l L R)) (F (ol_ (rs_l L R))))) (R.map (sv_ (ol_ (rs_l L R)) (F (ol_ (rs_l L R)))))).1 = (eqv_ s L R).1 := by
        unfold rs_l
        by_cases w : nl_ L = 1
        · rw [if_pos w]
          obtain ⟨b1, b2, b3⟩ := nl1_ren (show ¬ F (ol_ L) < 20000 by unfold rs_l at k; rw [if_pos w] at k; omega) L w
          rw [sv_id _ _ R (fun v hv => by have := nl0_lt R (by omega) v hv; omega)]
          exact eqv_tag s (by omega) rfl b2 rfl b3 rfl
        · rw [if_neg w]
          obtain ⟨b1, b2, b3⟩ := nl1_ren (show ¬ F (ol_ R) < 20000 by unfold rs_l at k; rw [if_neg w] at k; omega) R (by omega)
          rw [sv_id _ _ L (fun v hv => by have := nl0_lt L (by omega) v hv; omega)]
          exact eqv_tag s rfl (by omega) rfl b2 rfl b3
      rw [et] at hf
      exact ⟨fun q => by omega, fun q => by omega⟩
/-- as long as nothing failed the good end is beyond it; what fails is too great -/
def Pr_ (F : Nat → Nat) (t : Tr4_) : Prop := (t.1.2 = [] → Le_ t.1.1 F) ∧ (¬ t.1.2 = [] → t.2.2.2 = 1)
theorem vk_F {F : Nat → Nat} (h : Vk_ F) (hF : ∀ l, 14 ≤ l → 20000 ≤ F l) : ∀ l, F l ≤ 9999 ∨ 20000 ≤ F l := by
  intro l
  by_cases c : l < 14
  · rcases h l c with z | ⟨r, a, b, d⟩
    · exact Or.inl z
    · right; omega
  · exact Or.inr (hF l (by omega))
theorem rk_prune {P : Pg_} (hW : Wf_ P) {F : Nat → Nat} (hF : ∀ l, F l ≤ 9999 ∨ 20000 ≤ F l) (hfin : Fin_ P F) {i : Nat} (hi : i < g_N P) {t : Tr4_} (hV : Vk_ t.1.1) (h : Pr_ F t) : Pr_ F (rk_ P i t) := by
  by_cases f : t.1.2 = []
  · by_cases hE : isE_ P i
    · have hle := h.1 f
      rw [rk_E f hE]
      have hok := eLR_ok hW hi hE
      have eF : eqn_ P i F = eqv_ (g_K P i = 2) (((eL_ P i).map (vl_ t.1.1)).map (vl_ F)) (((eR_ P i).map (vl_ t.1.1)).map (vl_ F)) := by
        unfold eqn_
        rw [List.map_map, List.map_map]
        have e1 : (eL_ P i).map (vl_ F) = (eL_ P i).map (vl_ F ∘ vl_ t.1.1) := List.map_congr_left (fun e he => le_vl hle (hok e (Or.inl he)))
        have e2 : (eR_ P i).map (vl_ F) = (eR_ P i).map (vl_ F ∘ vl_ t.1.1) := List.map_congr_left (fun e he => le_vl hle (hok e (Or.inr he)))
        rw [e1, e2]
      have hf := hfin i hi hE
      rw [eF] at hf
      unfold Pr_ stp_
      dsimp only
      by_cases h1 : nl_ ((eL_ P i).map (vl_ t.1.1)) + nl_ ((eR_ P i).map (vl_ t.1.1)) ≤ 1
      · obtain ⟨p2, p3⟩ := eqv_le (g_K P i = 2) hF h1 hf
        by_cases t2 : (eqn_ P i t.1.1).1 = 2
        · rw [if_pos t2]
          obtain ⟨q1, q2, q3⟩ := eqn_found hW hi hE hV t2
          have ek : F (eqn_ P i t.1.1).2.1 = (eqn_ P i t.1.1).2.2 := p2 t2
          refine ⟨fun _ l hl => ?_, fun z => absurd rfl z⟩
          show vl_ F (sb_ t.1.1 _ _ l) = F l
          unfold sb_
          by_cases c : t.1.1 l = 20000 + (eqn_ P i t.1.1).2.1
          · rw [if_pos c]
            have := hle l hl
            rw [c] at this
            have e3 : vl_ F (20000 + (eqn_ P i t.1.1).2.1) = F (eqn_ P i t.1.1).2.1 := by unfold vl_; rw [if_neg (by omega), show 20000 + (eqn_ P i t.1.1).2.1 - 20000 = (eqn_ P i t.1.1).2.1 by omega]
            rw [← this, e3, ek]
            unfold vl_
            rw [if_pos (by omega)]
          · rw [if_neg c]; exact hle l hl
        · rw [if_neg t2]
          by_cases t3 : (eqn_ P i t.1.1).1 = 3
          · rw [if_pos t3, if_pos t3]
            exact ⟨fun z => absurd z (by simp), fun _ => p3 t3⟩
          · rw [if_neg t3, if_neg t3]
            exact ⟨fun _ => hle, fun z => absurd rfl z⟩
      · have e0 : eqn_ P i t.1.1 = (0, 0, 0) := by unfold eqn_ eqv_; rw [if_pos (by omega)]
        rw [e0, if_neg (by decide), if_neg (by decide), if_neg (by decide)]
        exact ⟨fun _ => hle, fun z => absurd rfl z⟩
    · rw [rk_n hE]; exact h
  · rw [rk_f P i f]; exact h
theorem rds_prune {P : Pg_} (hW : Wf_ P) {F : Nat → Nat} (hF : ∀ l, F l ≤ 9999 ∨ 20000 ≤ F l) (hfin : Fin_ P F) : ∀ (c i : Nat) {t : Tr4_}, i + c ≤ g_N P → Vk_ t.1.1 → Pr_ F t → Pr_ F (rds_ P c i t)
  | 0, _, _, _, _, h => h
  | c + 1, i, _, hi, hV, h => rds_prune hW hF hfin c (i + 1) (by omega) (rk_vk hW (by omega) hV).1 (rk_prune hW hF hfin (by omega) hV h)
theorem sto_prune {P : Pg_} (hW : Wf_ P) {F : Nat → Nat} (hF : ∀ l, F l ≤ 9999 ∨ 20000 ≤ F l) (hfin : Fin_ P F) : ∀ (r : Nat) (S : Sv_) (too : Nat), Vk_ S.1 → S.2 = [] → Le_ S.1 F → ((sto_ P r S too).1.2 = [] → Le_ (sto_ P r S too).1.1 F) ∧ (¬ (sto_ P r S too).1.2 = [] → (sto_ P r S too).2 = 1)
  | 0, S, _, _, hS, h => ⟨fun _ => h, fun z => absurd hS z⟩
  | r + 1, S, too, hV, hS, h => by
    rw [sto_s]
    have hp : Pr_ F (rnd_ P S too) := rds_prune hW hF hfin (g_N P) 0 (t := (S, 0, 0, too)) (by omega) hV ⟨fun _ => h, fun z => absurd hS z⟩
    by_cases c : (rnd_ P S too).2.1 = 1 ∧ (rnd_ P S too).1.2 = []
    · rw [if_pos c]
      exact sto_prune hW hF hfin r _ _ (rnd_vk hW hV too).1 c.2 (hp.1 c.2)
    · rw [if_neg c]
      exact hp
