def sv_ (r k v : Nat) : Nat := if v = 20000 + r then k else v
theorem vl_sb (V : Nat → Nat) (r k e : Nat) : vl_ (sb_ V r k) e = sv_ r k (vl_ V e) := by
  unfold vl_ sv_ sb_
  by_cases c : e < 20000
  · rw [if_pos c, if_pos c, if_neg (by omega)]
  · rw [if_neg c, if_neg c]
theorem sv_id (r k : Nat) : ∀ (l : List Nat), (∀ v ∈ l, v ≠ 20000 + r) → l.map (sv_ r k) = l
  | [], _ => rfl
  | v :: l, h => by
    rw [List.map_cons, sv_id r k l (fun w hw => h w (List.mem_cons_of_mem _ hw))]
    unfold sv_
    rw [if_neg (h v List.mem_cons_self)]
theorem nl0_lt : ∀ (l : List Nat), nl_ l = 0 → ∀ v ∈ l, v < 20000
  | [], _, v, hv => by cases hv
  | w :: l, h, v, hv => by
    have h : (if w < 20000 then 0 else 1) + nl_ l = 0 := h
    have hw : w < 20000 := by
      by_cases c : w < 20000
      · exact c
      · rw [if_neg c] at h; omega
    rcases List.mem_cons.mp hv with e | e
    · rw [e]; exact hw
    · exact nl0_lt l (by omega) v e
theorem nl1_mem : ∀ (l : List Nat), nl_ l = 1 → ∀ v ∈ l, v < 20000 ∨ v = 20000 + ol_ l
  | [], h, _, _ => absurd h (by decide)
  | w :: l, h, v, hv => by
    have h : (if w < 20000 then 0 else 1) + nl_ l = 1 := h
    show v < 20000 ∨ v = 20000 + (if w < 20000 then ol_ l else w - 20000)
    by_cases c : w < 20000
    · rw [if_pos c] at h ⊢
      rcases List.mem_cons.mp hv with e | e
      · left; omega
      · exact nl1_mem l (by omega) v e
    · rw [if_neg c] at h ⊢
      rcases List.mem_cons.mp hv with e | e
      · right; omega
      · left; exact nl0_lt l (by omega) v e
theorem nl1_sub {k : Nat} (hk : k < 20000) : ∀ (l : List Nat), nl_ l = 1 → nl_ (l.map (sv_ (ol_ l) k)) = 0 ∧ su_ (l.map (sv_ (ol_ l) k)) = su_ l + k ∧ pd_ (l.map (sv_ (ol_ l) k)) = pd_ l * k
  | [], h => absurd h (by decide)
  | w :: l, h => by
    have h : (if w < 20000 then 0 else 1) + nl_ l = 1 := h
    have eo : ol_ (w :: l) = if w < 20000 then ol_ l else w - 20000 := rfl
    rw [List.map_cons]
    show (if sv_ (ol_ (w :: l)) k w < 20000 then 0 else 1) + nl_ (l.map (sv_ (ol_ (w :: l)) k)) = 0 ∧ (if sv_ (ol_ (w :: l)) k w < 20000 then sv_ (ol_ (w :: l)) k w else 0) + su_ (l.map (sv_ (ol_ (w :: l)) k)) = (if w < 20000 then w else 0) + su_ l + k ∧ (if sv_ (ol_ (w :: l)) k w < 20000 then sv_ (ol_ (w :: l)) k w else 1) * pd_ (l.map (sv_ (ol_ (w :: l)) k)) = (if w < 20000 then w else 1) * pd_ l * k
    rw [eo]
    by_cases c : w < 20000
    · simp only [if_pos c]
      rw [if_pos c] at h
      have e : sv_ (ol_ l) k w = w := by unfold sv_; rw [if_neg (by omega)]
      obtain ⟨a, b, d⟩ := nl1_sub hk l (by omega)
      rw [e, if_pos c, if_pos c, if_pos c, a, b, d]
      exact ⟨rfl, by omega, (Nat.mul_assoc _ _ _).symm⟩
    · simp only [if_neg c]
      rw [if_neg c] at h
      have e : sv_ (w - 20000) k w = k := by unfold sv_; rw [if_pos (by omega)]
      have e2 : l.map (sv_ (w - 20000) k) = l := sv_id _ _ l (fun v hv => by have := nl0_lt l (by omega) v hv; omega)
      rw [e, e2, if_pos hk, if_pos hk, if_pos hk]
      exact ⟨by omega, by omega, by rw [Nat.one_mul, Nat.mul_comm]⟩
theorem pd_0mem : ∀ (l : List Nat), pd_ l = 0 → 0 ∈ l
  | [], h => absurd h (by decide)
  | v :: l, h => by
    have h : (if v < 20000 then v else 1) * pd_ l = 0 := h
    rcases Nat.mul_eq_zero.mp h with z | z
    · by_cases c : v < 20000
      · rw [if_pos c] at z; rw [z]; exact List.mem_cons_self
      · rw [if_neg c] at z; omega
    · exact List.mem_cons_of_mem _ (pd_0mem l z)
theorem pd_sv0 {l : List Nat} (h : pd_ l = 0) (r k : Nat) : pd_ (l.map (sv_ r k)) = 0 := by
  refine pd_zero _ (List.mem_map.mpr ⟨0, pd_0mem l h, ?_⟩)
  unfold sv_
  rw [if_neg (by omega)]
/-- what holds goes on to hold -/
theorem eqv_hold (s : Prop) [Decidable s] {L R : List Nat} {r k : Nat} (hk : k ≤ 9999) (h : (eqv_ s L R).1 = 1) : (eqv_ s (L.map (sv_ r k)) (R.map (sv_ r k))).1 = 1 := by
  by_cases h1 : nl_ L + nl_ R ≤ 1
  · rcases (show nl_ L + nl_ R = 0 ∨ nl_ L + nl_ R = 1 by omega) with z | z
    · rw [sv_id r k L (fun v hv => by have := nl0_lt L (by omega) v hv; omega), sv_id r k R (fun v hv => by have := nl0_lt R (by omega) v hv; omega)]
      exact h
    · rw [eqv_le1 s h1] at h
      by_cases c : s
      · rw [if_pos c] at h
        unfold eqs_ at h
        rw [if_neg (by omega)] at h
        by_cases q : su_ (gl_ L R) < su_ (rs_l L R) ∨ 9999 < su_ (gl_ L R) - su_ (rs_l L R)
        · rw [if_pos q] at h; exact absurd (show (3 : Nat) = 1 from h) (by decide)
        · rw [if_neg q] at h; exact absurd (show (2 : Nat) = 1 from h) (by decide)
      · rw [if_neg c] at h
        unfold eqp_ at h
        by_cases q : BD_ < pd_ (gl_ L R) ∨ BD_ < pd_ (rs_l L R)
        · rw [if_pos q] at h; exact absurd (show (3 : Nat) = 1 from h) (by decide)
        · rw [if_neg q, if_neg (show ¬ nl_ L + nl_ R = 0 by omega)] at h
          by_cases q0 : pd_ (rs_l L R) = 0
          · rw [if_pos q0] at h
            by_cases q1 : pd_ (gl_ L R) = 0
            · -- both are nought
              have pL : pd_ L = 0 := by
                unfold rs_l at q0; unfold gl_ at q1
                by_cases w : nl_ L = 1
                · rw [if_pos w] at q0; exact q0
                · rw [if_neg w] at q1; exact q1
              have pR : pd_ R = 0 := by
                unfold rs_l at q0; unfold gl_ at q1
                by_cases w : nl_ L = 1
                · rw [if_pos w] at q1; exact q1
                · rw [if_neg w] at q0; exact q0
              have pL' := pd_sv0 pL r k
              have pR' := pd_sv0 pR r k
              by_cases hr : ol_ (rs_l L R) = r
              · -- the letter is that now
                have n0 : nl_ (L.map (sv_ r k)) + nl_ (R.map (sv_ r k)) = 0 := by
                  rw [← hr]
                  unfold rs_l
                  by_cases w : nl_ L = 1
                  · rw [if_pos w, (nl1_sub (by omega) L w).1, sv_id _ _ R (fun v hv => by have := nl0_lt R (by omega) v hv; omega)]; omega
                  · rw [if_neg w, (nl1_sub (by omega) R (by omega)).1, sv_id _ _ L (fun v hv => by have := nl0_lt L (by omega) v hv; omega)]; omega
                rw [eqv_le1 s (by omega), if_neg c]
                unfold eqp_
                have g0 : pd_ (gl_ (L.map (sv_ r k)) (R.map (sv_ r k))) = 0 := by unfold gl_; rw [if_neg (by omega)]; exact pL'
                have r0 : pd_ (rs_l (L.map (sv_ r k)) (R.map (sv_ r k))) = 0 := by unfold rs_l; rw [if_neg (by omega)]; exact pR'
                rw [g0, r0, if_neg (by omega), if_pos n0, if_pos rfl]
              · have eL : L.map (sv_ r k) = L := sv_id r k L (fun v hv => by
                  by_cases w : nl_ L = 1
                  · have := nl1_mem L w v hv
                    unfold rs_l at hr
                    rw [if_pos w] at hr
                    omega
                  · have := nl0_lt L (by omega) v hv; omega)
                have eR : R.map (sv_ r k) = R := sv_id r k R (fun v hv => by
                  by_cases w : nl_ R = 1
                  · have := nl1_mem R w v hv
                    unfold rs_l at hr
                    rw [if_neg (by omega)] at hr
                    omega
                  · have := nl0_lt R (by omega) v hv; omega)
                rw [eL, eR, eqv_le1 s h1, if_neg c]
                unfold eqp_
                rw [if_neg q, if_neg (show ¬ nl_ L + nl_ R = 0 by omega), if_pos q0, if_pos q1]
            · rw [if_neg q1] at h; exact absurd (show (3 : Nat) = 1 from h) (by decide)
          · rw [if_neg q0] at h
            by_cases q2 : pd_ (gl_ L R) % pd_ (rs_l L R) ≠ 0 ∨ 9999 < pd_ (gl_ L R) / pd_ (rs_l L R)
            · rw [if_pos q2] at h; exact absurd (show (3 : Nat) = 1 from h) (by decide)
            · rw [if_neg q2] at h; exact absurd (show (2 : Nat) = 1 from h) (by decide)
  · unfold eqv_ at h
    rw [if_pos (by omega)] at h
    exact absurd (show (0 : Nat) = 1 from h) (by decide)
/-- what was found makes it hold -/
theorem eqv_fnd (s : Prop) [Decidable s] {L R : List Nat} (h : (eqv_ s L R).1 = 2) : (eqv_ s (L.map (sv_ (eqv_ s L R).2.1 (eqv_ s L R).2.2)) (R.map (sv_ (eqv_ s L R).2.1 (eqv_ s L R).2.2))).1 = 1 := by
  by_cases h1 : nl_ L + nl_ R ≤ 1
  · obtain ⟨-, sp2, -⟩ := eqv_sp s h1
    obtain ⟨n1, e1, e2⟩ := sp2 h
    rw [e1]
    have ev := eqv_le1 s h1
    generalize hk : (eqv_ s L R).2.2 = k at *
    -- the goal's side as it was, the letter's side with the number
    obtain ⟨a1, a2, a3⟩ : nl_ (L.map (sv_ (ol_ (rs_l L R)) k)) + nl_ (R.map (sv_ (ol_ (rs_l L R)) k)) = 0 ∧ (su_ (L.map (sv_ (ol_ (rs_l L R)) k)) = su_ (R.map (sv_ (ol_ (rs_l L R)) k)) ↔ su_ (rs_l L R) + k = su_ (gl_ L R)) ∧ ((pd_ (L.map (sv_ (ol_ (rs_l L R)) k)) = pd_ (rs_l L R) * k ∧ pd_ (R.map (sv_ (ol_ (rs_l L R)) k)) = pd_ (gl_ L R)) ∨ (pd_ (R.map (sv_ (ol_ (rs_l L R)) k)) = pd_ (rs_l L R) * k ∧ pd_ (L.map (sv_ (ol_ (rs_l L R)) k)) = pd_ (gl_ L R))) := by
      unfold rs_l gl_
      by_cases w : nl_ L = 1
      · rw [if_pos w, if_pos w]
        obtain ⟨b1, b2, b3⟩ := nl1_sub (show k < 20000 by omega) L w
        rw [sv_id _ _ R (fun v hv => by have := nl0_lt R (by omega) v hv; omega), b1, b2, b3]
        exact ⟨by omega, Iff.rfl, Or.inl ⟨rfl, rfl⟩⟩
      · rw [if_neg w, if_neg w]
        obtain ⟨b1, b2, b3⟩ := nl1_sub (show k < 20000 by omega) R (by omega)
        rw [sv_id _ _ L (fun v hv => by have := nl0_lt L (by omega) v hv; omega), b1, b2, b3]
        exact ⟨by omega, ⟨fun z => z.symm, fun z => z.symm⟩, Or.inr ⟨rfl, rfl⟩⟩
    rw [eqv_le1 s (by omega)]
    have g1 : gl_ (L.map (sv_ (ol_ (rs_l L R)) k)) (R.map (sv_ (ol_ (rs_l L R)) k)) = L.map (sv_ (ol_ (rs_l L R)) k) := by rw [gl_, if_neg (by omega)]
    have g2 : rs_l (L.map (sv_ (ol_ (rs_l L R)) k)) (R.map (sv_ (ol_ (rs_l L R)) k)) = R.map (sv_ (ol_ (rs_l L R)) k) := by
      show (if nl_ (L.map (sv_ (ol_ (rs_l L R)) k)) = 1 then _ else _) = _
      rw [if_neg (by omega)]
    rw [g1, g2]
    by_cases c : s
    · rw [if_pos c] at ev ⊢
      obtain ⟨-, q2, -⟩ := eqs_sp (nl_ L + nl_ R) (su_ (gl_ L R)) (su_ (rs_l L R)) (ol_ (rs_l L R))
      rw [← ev] at q2
      obtain ⟨-, -, p3, p4, p5⟩ := q2 h
      unfold eqs_
      rw [if_pos a1, if_pos (a2.mpr (by omega))]
    · rw [if_neg c] at ev ⊢
      obtain ⟨-, q2, -⟩ := eqp_sp (nl_ L + nl_ R) (pd_ (gl_ L R)) (pd_ (rs_l L R)) (ol_ (rs_l L R))
      rw [← ev] at q2
      obtain ⟨-, -, p3, p4, p5, p6, p7⟩ := q2 h
      have key : pd_ (rs_l L R) * k = pd_ (gl_ L R) := by
        rw [← hk, p3]
        exact Nat.mul_div_cancel' (Nat.dvd_of_mod_eq_zero p5)
      unfold eqp_
      rcases a3 with ⟨x, y⟩ | ⟨x, y⟩
      · rw [x, y, key, if_neg (by omega), if_pos a1, if_pos rfl]
      · rw [x, y, key, if_neg (by omega), if_pos a1, if_pos rfl]
  · unfold eqv_ at h
    rw [if_pos (by omega)] at h
    exact absurd (show (0 : Nat) = 2 from h) (by decide)
theorem eqn_sb (P : Pg_) (i : Nat) (V : Nat → Nat) (r k : Nat) : eqn_ P i (sb_ V r k) = eqv_ (g_K P i = 2) (((eL_ P i).map (vl_ V)).map (sv_ r k)) (((eR_ P i).map (vl_ V)).map (sv_ r k)) := by
  unfold eqn_
  rw [List.map_map, List.map_map]
  have e : vl_ (sb_ V r k) = sv_ r k ∘ vl_ V := funext (vl_sb V r k)
  rw [e]
def Hd_ (P : Pg_) (V : Nat → Nat) (m : Nat) : Prop := ∀ j, j < m → isE_ P j → (eqn_ P j V).1 = 1
theorem rk_hold {P : Pg_} (hW : Wf_ P) {i : Nat} (hi : i < g_N P) {t : Tr4_} (hV : Vk_ t.1.1) (h : t.2.2.1 = 0 → t.1.2 = [] → Hd_ P t.1.1 i) : (rk_ P i t).2.2.1 = 0 → (rk_ P i t).1.2 = [] → Hd_ P (rk_ P i t).1.1 (i + 1) := by
  intro p f
  by_cases c : t.1.2 = []
  · by_cases hE : isE_ P i
    · rw [rk_E c hE] at p f ⊢
      dsimp only at p f ⊢
      by_cases t0 : (eqn_ P i t.1.1).1 = 0
      · rw [if_pos t0] at p; omega
      · rw [if_neg t0] at p
        unfold stp_ at f ⊢
        by_cases t2 : (eqn_ P i t.1.1).1 = 2
        · rw [if_pos t2]
          obtain ⟨-, -, hk⟩ := eqn_found hW hi hE hV t2
          intro j hj hj2
          show (eqn_ P j (sb_ t.1.1 _ _)).1 = 1
          rw [eqn_sb]
          by_cases ji : j = i
          · subst ji
            exact eqv_fnd _ t2
          · exact eqv_hold _ hk (h p c j (by omega) hj2)
        · rw [if_neg t2] at f ⊢
          by_cases t3 : (eqn_ P i t.1.1).1 = 3
          · rw [if_pos t3] at f
            exact absurd f (by simp)
          · rw [if_neg t3]
            intro j hj hj2
            by_cases ji : j = i
            · subst ji
              show (eqn_ P j t.1.1).1 = 1
              have h1 : nl_ ((eL_ P j).map (vl_ t.1.1)) + nl_ ((eR_ P j).map (vl_ t.1.1)) ≤ 1 := by
                by_cases q : 2 ≤ nl_ ((eL_ P j).map (vl_ t.1.1)) + nl_ ((eR_ P j).map (vl_ t.1.1))
                · exact absurd (show (eqn_ P j t.1.1).1 = 0 by unfold eqn_ eqv_; rw [if_pos q]) t0
                · omega
              have := (eqv_sp (g_K P j = 2) h1).1
              unfold eqn_ at t2 t3 ⊢
              omega
            · exact h p c j (by omega) hj2
    · rw [rk_n hE] at p f ⊢
      intro j hj hj2
      by_cases ji : j = i
      · subst ji; exact absurd hj2 hE
      · exact h p f j (by omega) hj2
  · rw [rk_f P i c] at f
    exact absurd f c
theorem rds_hold {P : Pg_} (hW : Wf_ P) : ∀ (c i : Nat) {t : Tr4_}, i + c = g_N P → Vk_ t.1.1 → (t.2.2.1 = 0 → t.1.2 = [] → Hd_ P t.1.1 i) → (rds_ P c i t).2.2.1 = 0 → (rds_ P c i t).1.2 = [] → Hd_ P (rds_ P c i t).1.1 (g_N P)
  | 0, i, t, hi, _, h => by
    have : i = g_N P := by omega
    rw [this] at h
    exact h
  | c + 1, i, t, hi, hV, h => rds_hold hW c (i + 1) (by omega) (rk_vk hW (by omega) hV).1 (rk_hold hW (by omega) hV h)
theorem rds_same {P : Pg_} {V : Nat → Nat} (h : Hd_ P V (g_N P)) : ∀ (c i a b d : Nat), i + c = g_N P → rds_ P c i ((V, []), a, b, d) = ((V, []), a, b, d)
  | 0, _, _, _, _, _ => rfl
  | c + 1, i, a, b, d, hi => by
    show rds_ P c (i + 1) (rk_ P i ((V, []), a, b, d)) = _
    have e : rk_ P i ((V, []), a, b, d) = ((V, []), a, b, d) := by
      by_cases hE : isE_ P i
      · have t1 := h i (by omega) hE
        rw [rk_E rfl hE]
        dsimp only
        unfold stp_
        rw [if_neg (show ¬ (eqn_ P i V).1 = 2 by omega), if_neg (show ¬ (eqn_ P i V).1 = 3 by omega), if_neg (show ¬ (eqn_ P i V).1 = 2 by omega), if_neg (show ¬ (eqn_ P i V).1 = 0 by omega), if_neg (show ¬ (eqn_ P i V).1 = 3 by omega)]
      · exact rk_n hE
    rw [e]
    exact rds_same h c (i + 1) a b d (by omega)
theorem stc_sto {P : Pg_} (hW : Wf_ P) : ∀ (r : Nat) (S : Sv_) (too : Nat), Vk_ S.1 → stc_ P r S too = sto_ P r S too
  | 0, _, _, _ => rfl
  | r + 1, S, too, hV => by
    rw [stc_s, sto_s]
    have b1 := rnd_01 P S too
    by_cases c1 : (rnd_ P S too).2.1 = 1 ∧ (rnd_ P S too).1.2 = []
    · rw [if_pos c1]
      by_cases c2 : (rnd_ P S too).2.2.1 = 1
      · rw [if_pos ⟨c1.1, c2, c1.2⟩]
        exact stc_sto hW r _ _ (rnd_vk hW hV too).1
      · rw [if_neg (fun z => c2 z.2.1)]
        have hh := rds_hold hW (g_N P) 0 (t := (S, 0, 0, too)) (by omega) hV (fun _ _ j hj => absurd hj (by omega)) (show (rnd_ P S too).2.2.1 = 0 by omega) c1.2
        have hh : Hd_ P (rnd_ P S too).1.1 (g_N P) := hh
        have e1 : (rnd_ P S too).1 = ((rnd_ P S too).1.1, []) := Prod.ext rfl c1.2
        generalize (rnd_ P S too).2.2.2 = d
        rw [e1]
        generalize (rnd_ P S too).1.1 = V at hh ⊢
        cases r with
        | zero => rfl
        | succ r =>
          have e2 : rnd_ P (V, []) d = ((V, []), 0, 0, d) := rds_same hh _ _ _ _ _ (by omega)
          rw [sto_s, e2, if_neg (fun z => absurd (show (0 : Nat) = 1 from z.1) (by decide))]
    · rw [if_neg c1, if_neg (fun z => c1 ⟨z.1, z.2.2⟩)]
/-- the class's solve answers as the reference's -/
theorem x_solve {P : Pg_} (hW : Wf_ P) {n : Ob_T} (hn : Rn_ n P) (v d : Ob_T) {gv : Nat → Int32} (hg : ∀ l, l < 4 → gv_ok (gv l)) : ∃ v' d', f_X5_solve v d n gv 4 = some (v', d') ∧ Rsv_ v' (SO_ P gv) := by
  obtain ⟨v1, e1, hR1, -, h6⟩ := x_meetAll hW hn v hg
  unfold f_X5_solve
  rw [e1, Option.bind_some]
  by_cases hf : (MA_ P gv).2 = []
  · obtain ⟨v2, d2, e2, hR2, -, -⟩ := x_settle hW hn hR1 (too := 0) h6 (d := d) hf
    rw [e2, Option.bind_some]
    refine ⟨v2, d2, rfl, ?_⟩
    rw [stc_sto hW 15 _ _ (rs_vk hR1.1)] at hR2
    exact hR2
  · rw [x_settle_f hR1 hf, Option.bind_some]
    refine ⟨v1, d, rfl, ?_⟩
    unfold SO_
    rw [sto_s P 14, show rnd_ P (MA_ P gv) 0 = (MA_ P gv, 0, 0, 0) from rds_f P _ _ hf, if_neg (fun z => hf z.2)]
    exact hR1
