theorem lc_le0 {a : Nat} (ha : a < 2 ^ 63) : lg_cmp (lN a) 0 ≤ 0 ↔ a ≤ 0 := lc_le (b := 0) ha (by omega)
theorem cmp_m1 {c : Prop} [Decidable c] {p : Nat} (hp : ¬ c → p < 2 ^ 63) : lg_cmp (if c then (-1 : Int64) else lN p) (-1) = 0 ↔ c := by
  rw [lg_cmp_eq]
  by_cases h : c
  · rw [if_pos h]; exact ⟨fun _ => h, fun _ => rfl⟩
  · rw [if_neg h]
    refine ⟨fun z => ?_, fun z => absurd z h⟩
    have := congrArg Int64.toInt z
    rw [pk_lT (hp h)] at this
    have e : (-1 : Int64).toInt = -1 := rfl
    omega
/-- what is known where an equation is reckoned: its sides laid, the letters counted -/
def Eq_ (o : Ob_T) (S : Sv_) (L R : List Nat) : Prop := Rso_ o S ∧ S.2 = [] ∧ Rlr_ o L R ∧ (∀ e, e ∈ L ∨ e ∈ R → e_ok e) ∧ nl_ (L.map (vl_ S.1)) + nl_ (R.map (vl_ S.1)) ≤ 1 ∧ o_F o 41 = nI (nl_ (L.map (vl_ S.1)) + nl_ (R.map (vl_ S.1))) ∧ (nl_ (L.map (vl_ S.1)) + nl_ (R.map (vl_ S.1)) = 1 → o_F o 42 = nI (ol_ (rs_l (L.map (vl_ S.1)) (R.map (vl_ S.1)))) ∧ ol_ (rs_l (L.map (vl_ S.1)) (R.map (vl_ S.1))) < 14 ∧ S.1 (ol_ (rs_l (L.map (vl_ S.1)) (R.map (vl_ S.1)))) = 20000 + ol_ (rs_l (L.map (vl_ S.1)) (R.map (vl_ S.1))))
theorem m_multiply {P : Pg_} {o : Ob_T} {S : Sv_} {L R : List Nat} (h : Eq_ o S L R) {i : Nat} (hi : i < 10) (hK : ¬ g_K P i = 2) : ∃ o', f_X9_multiply o (nI i) = some o' ∧ Ro_ o o' P i S (eqv_ (g_K P i = 2) (L.map (vl_ S.1)) (R.map (vl_ S.1))) := by
  obtain ⟨hR, hS, hLR, hok, h1, h41, h42⟩ := h
  have eL := m_prod hR.1 hLR.1.1 hLR.1.2.2 (fun e he => hok e (Or.inl he))
  have eR := m_prod hR.1 hLR.2.1 hLR.2.2.2 (fun e he => hok e (Or.inr he))
  have eO := m_onLeft hR.1 hLR (fun e he => hok e (Or.inl he))
  obtain ⟨sp1, sp2, sp3⟩ := eqv_sp (g_K P i = 2) h1
  have ev := eqv_le1 (g_K P i = 2) h1
  rw [if_neg hK] at ev
  generalize hLv : L.map (vl_ S.1) = Lv at *
  generalize hRv : R.map (vl_ S.1) = Rv at *
  generalize ha : eqv_ (g_K P i = 2) Lv Rv = a at *
  have bdl : BD_ < 2 ^ 63 := by unfold BD_; omega
  have hk4 : (4 : Nat) = if g_K P i = 2 then 3 else 4 := by rw [if_neg hK]
  -- to the place where own and other are known
  have e0 : f_X9_multiply o (nI i) = f_X9_multiply_J55 (nI i) (if BD_ < pd_ Lv then -1 else lN (pd_ Lv)) (if BD_ < pd_ Rv then -1 else lN (pd_ Rv)) (if BD_ < pd_ (rs_l Lv Rv) then -1 else lN (pd_ (rs_l Lv Rv))) (if BD_ < pd_ (gl_ Lv Rv) then -1 else lN (pd_ (gl_ Lv Rv))) o := by
    unfold f_X9_multiply f_X9_multiply_J40
    rw [hLR.1.2.1, hLR.2.2.1, eL, Option.bind_some, eR, Option.bind_some, eO, Option.bind_some, Option.bind_some]
    by_cases c : nl_ Lv = 0
    · have g1 : rs_l Lv Rv = Rv := by unfold rs_l; rw [if_neg (by omega)]
      have g2 : gl_ Lv Rv = Lv := by unfold gl_; rw [if_neg (by omega)]
      rw [if_pos (show (if nl_ Lv = 0 then (0 : Int32) else 1) = 0 by rw [if_pos c]), if_pos (show (if nl_ Lv = 0 then (0 : Int32) else 1) = 0 by rw [if_pos c]), g1, g2]
    · have g1 : rs_l Lv Rv = Lv := by unfold rs_l; rw [if_pos (by omega)]
      have g2 : gl_ Lv Rv = Rv := by unfold gl_; rw [if_pos (by omega)]
      rw [if_neg (show ¬ (if nl_ Lv = 0 then (0 : Int32) else 1) = 0 by rw [if_neg c]; decide), Option.bind_some, if_neg (show ¬ (if nl_ Lv = 0 then (0 : Int32) else 1) = 0 by rw [if_neg c]; decide), g1, g2]
  rw [e0]
  have swap : (pd_ Lv = pd_ (rs_l Lv Rv) ∧ pd_ Rv = pd_ (gl_ Lv Rv)) ∨ (pd_ Rv = pd_ (rs_l Lv Rv) ∧ pd_ Lv = pd_ (gl_ Lv Rv)) := by
    unfold rs_l gl_
    by_cases c : nl_ Lv = 1
    · rw [if_pos c, if_pos c]; exact Or.inl ⟨rfl, rfl⟩
    · rw [if_neg c, if_neg c]; exact Or.inr ⟨rfl, rfl⟩
  unfold f_X9_multiply_J55
  have fl : a.1 = 3 → ∃ o', f_X9_multiply_J88 (nI i) o = some o' ∧ Ro_ o o' P i S a := by
    intro h3
    obtain ⟨o', e, r⟩ := ro_fail hi hR hk4 h3
    unfold f_X9_multiply_J88
    rw [show f_X9_fail o (nI i) 4 0 0 0 = some o' from e, Option.bind_some]
    exact ⟨o', rfl, r⟩
  have fl2 : a.1 = 3 → ∃ o', f_X9_multiply_J164 (nI i) o = some o' ∧ Ro_ o o' P i S a := fl
  unfold eqp_ at ev
  by_cases cb : BD_ < pd_ (gl_ Lv Rv) ∨ BD_ < pd_ (rs_l Lv Rv)
  · rw [if_pos cb] at ev
    have h3 : a.1 = 3 := by rw [ev]
    by_cases c1 : BD_ < pd_ Lv
    · rw [if_pos ((cmp_m1 (fun _ => by omega)).mpr c1)]; exact fl h3
    · rw [if_neg (fun z => c1 ((cmp_m1 (fun _ => by omega)).mp z)), if_pos ((cmp_m1 (fun _ => by omega)).mpr (show BD_ < pd_ Rv by rcases swap with ⟨s1, s2⟩ | ⟨s1, s2⟩ <;> rcases cb with z | z <;> omega))]
      exact fl h3
  · rw [if_neg cb] at ev
    have b1 : ¬ BD_ < pd_ Lv := by rcases swap with ⟨s1, s2⟩ | ⟨s1, s2⟩ <;> omega
    have b2 : ¬ BD_ < pd_ Rv := by rcases swap with ⟨s1, s2⟩ | ⟨s1, s2⟩ <;> omega
    have b3 : ¬ BD_ < pd_ (rs_l Lv Rv) := by omega
    have b4 : ¬ BD_ < pd_ (gl_ Lv Rv) := by omega
    rw [if_neg (fun z => b1 ((cmp_m1 (fun _ => by omega)).mp z)), if_neg (fun z => b2 ((cmp_m1 (fun _ => by omega)).mp z)), if_neg b1, if_neg b2, if_neg b3, if_neg b4, h41]
    unfold f_X9_multiply_J100 f_X9_multiply_J134
    rw [h41]
    rcases (show nl_ Lv + nl_ Rv = 0 ∨ nl_ Lv + nl_ Rv = 1 by omega) with z | z
    · rw [z, if_pos (show nI 0 = 0 from rfl)]
      rw [if_pos z] at ev
      by_cases e : pd_ Lv = pd_ Rv
      · rw [if_pos ((lc_eq (by omega) (by omega)).mpr e), if_neg (show ¬ nI 0 = 1 by decide), if_neg (show ¬ nI 0 = 1 by decide)]
        rw [if_pos (by rcases swap with ⟨s1, s2⟩ | ⟨s1, s2⟩ <;> omega)] at ev
        exact ⟨o, rfl, ro_hold hR hS (by rw [ev])⟩
      · rw [if_neg (fun w => e ((lc_eq (by omega) (by omega)).mp w))]
        rw [if_neg (by rcases swap with ⟨s1, s2⟩ | ⟨s1, s2⟩ <;> omega)] at ev
        exact fl (by rw [ev])
    · rw [z, if_neg (show ¬ nI 1 = 0 by decide), if_pos (show nI 1 = 1 from rfl)]
      rw [if_neg (by omega)] at ev
      generalize hrr : pd_ (rs_l Lv Rv) = r at *
      generalize hgg : pd_ (gl_ Lv Rv) = g at *
      by_cases r0 : r = 0
      · rw [if_pos ((lc_eq0 (by omega)).mpr r0)]
        rw [if_pos r0] at ev
        by_cases g0 : g = 0
        · rw [if_pos ((lc_le0 (a := g) (by omega)).mpr (by omega))]
          rw [if_pos g0] at ev
          exact ⟨o, rfl, ro_hold hR hS (by rw [ev])⟩
        · rw [if_neg (fun w => g0 (by have := (lc_le0 (a := g) (by omega)).mp w; omega))]
          rw [if_neg g0] at ev
          obtain ⟨o', e, rr⟩ := ro_fail hi hR hk4 (a := a) (by rw [ev])
          rw [show f_X9_fail o (nI i) 4 0 0 0 = some o' from e, Option.bind_some]
          exact ⟨o', rfl, rr⟩
      · have nz : ¬ lN r = 0 := fun w => r0 ((pk_lEQ (b := 0) (by omega) (by omega)).mp w)
        have dl : g / r < 2 ^ 63 := Nat.lt_of_le_of_lt (Nat.div_le_self g r) (by omega)
        have ml : g % r < 2 ^ 63 := Nat.lt_of_lt_of_le (Nat.mod_lt g (by omega)) (by omega)
        rw [if_neg r0] at ev
        rw [if_neg (fun w => r0 ((lc_eq0 (by omega)).mp w)), if_pos (show nI 1 = 1 from rfl), if_neg nz, pk_lRem (by omega) (by omega) (by omega), pk_lDiv (by omega) (by omega) (by omega)]
        by_cases c1 : g % r = 0
        · rw [if_pos ((lc_eq0 ml).mpr c1), if_neg nz]
          by_cases c2 : 9999 < g / r
          · rw [if_pos (Or.inr c2)] at ev
            rw [if_neg (fun w => by have := (lc_le9 dl).mp w; omega)]
            exact fl2 (by rw [ev])
          · rw [if_neg (by omega)] at ev
            rw [if_pos ((lc_le9 dl).mpr (by omega)), if_neg nz, lN_i]
            obtain ⟨w1, w2, w3⟩ := h42 z
            obtain ⟨o', e, rr⟩ := ro_found (P := P) (i := i) hR hS (a := a) (by rw [ev]) (by rw [ev]; exact w2) (by rw [ev]; exact w3) (by rw [ev]; show g / r ≤ 9999; omega) (by rw [ev]; exact w1)
            rw [show f_X9_becomes o (nI (g / r)) = some o' from by rw [ev] at e; exact e, Option.bind_some]
            exact ⟨o', rfl, rr⟩
        · rw [if_pos (Or.inl c1)] at ev
          rw [if_neg (fun w => c1 ((lc_eq0 ml).mp w))]
          exact fl2 (by rw [ev])
theorem m_sumUp {P : Pg_} {o : Ob_T} {S : Sv_} {l0 r0 r1 : Nat} (h : Eq_ o S [l0] [r0, r1]) {i : Nat} (hi : i < 10) (hK : g_K P i = 2) : ∃ o', f_X9_sumUp o (nI i) = some o' ∧ Ro_ o o' P i S (eqv_ (g_K P i = 2) ([l0].map (vl_ S.1)) ([r0, r1].map (vl_ S.1))) := by
  obtain ⟨hR, hS, hLR, hok, h1, h41, h42⟩ := h
  obtain ⟨sp1, sp2, sp3⟩ := eqv_sp (g_K P i = 2) h1
  have ev := eqv_le1 (g_K P i = 2) h1
  rw [if_pos hK] at ev
  have k0 := rs_vk hR.1
  have o0 := hok l0 (Or.inl (by simp))
  have o1 := hok r0 (Or.inr (by simp))
  have o2 := hok r1 (Or.inr (by simp))
  have v0 := vok_vl k0 o0
  have v1 := vok_vl k0 o1
  have v2 := vok_vl k0 o2
  have hk3 : (3 : Nat) = if g_K P i = 2 then 3 else 4 := by rw [if_pos hK]
  generalize ha : eqv_ (g_K P i = 2) ([l0].map (vl_ S.1)) ([r0, r1].map (vl_ S.1)) = a at *
  unfold f_X9_sumUp
  rw [show ld_I (o_A o 37) 6 0 = some (o_A o 37 0) from ld_nI (i := 0) (by omega) (by omega), Option.bind_some, show o_A o 37 0 = nI l0 from hLR.1.2.2 0 (by simp), m_solved hR.1 o0, Option.bind_some]
  rw [show ld_I (o_A o 38) 6 0 = some (o_A o 38 0) from ld_nI (i := 0) (by omega) (by omega), Option.bind_some, show o_A o 38 0 = nI r0 from hLR.2.2.2 0 (by simp), m_solved hR.1 o1, Option.bind_some]
  rw [show ld_I (o_A o 38) 6 1 = some (o_A o 38 1) from ld_nI (i := 1) (by omega) (by omega), Option.bind_some, show o_A o 38 1 = nI r1 from hLR.2.2.2 1 (by simp), m_solved hR.1 o2, Option.bind_some]
  have eL : [l0].map (vl_ S.1) = [vl_ S.1 l0] := rfl
  have eR : [r0, r1].map (vl_ S.1) = [vl_ S.1 r0, vl_ S.1 r1] := rfl
  rw [eL, eR] at h1 h41 h42 ev sp2
  generalize vl_ S.1 l0 = w at *
  generalize vl_ S.1 r0 = x at *
  generalize vl_ S.1 r1 = y at *
  have nL : nl_ [w] = if w < 20000 then 0 else 1 := rfl
  have nR : nl_ [x, y] = (if x < 20000 then 0 else 1) + ((if y < 20000 then 0 else 1) + 0) := rfl
  have sL : su_ [w] = if w < 20000 then w else 0 := rfl
  have sR : su_ [x, y] = (if x < 20000 then x else 0) + ((if y < 20000 then y else 0) + 0) := rfl
  have bw : w < 20014 := by rcases v0 with z | ⟨r, p, q⟩ <;> omega
  have bx : x < 20014 := by rcases v1 with z | ⟨r, p, q⟩ <;> omega
  have by' : y < 20014 := by rcases v2 with z | ⟨r, p, q⟩ <;> omega
  -- the end, where nothing or one is asked
  have fin0 : ∀ k0 : Int32, nl_ [w] + nl_ [x, y] = 0 → ∃ o', f_X9_sumUp_J65 (nI i) (nI w) (nI x) (nI y) k0 o = some o' ∧ Ro_ o o' P i S a := by
    intro k0 z
    rw [nL, nR] at z
    have hw : w < 20000 := by by_cases c : w < 20000; exact c; rw [if_neg c] at z; omega
    have hx : x < 20000 := by by_cases c : x < 20000; exact c; rw [if_neg c] at z; omega
    have hy : y < 20000 := by by_cases c : y < 20000; exact c; rw [if_neg c] at z; omega
    have z' : nl_ [w] + nl_ [x, y] = 0 := by rw [nL, nR, if_pos hw, if_pos hx, if_pos hy]
    have gl : gl_ [w] [x, y] = [w] := by unfold gl_; rw [if_neg (by omega)]
    have rl : rs_l [w] [x, y] = [x, y] := by unfold rs_l; rw [if_neg (by omega)]
    rw [gl, rl, sL, sR, if_pos hw, if_pos hx, if_pos hy] at ev
    unfold eqs_ at ev
    rw [if_pos z'] at ev
    unfold f_X9_sumUp_J65 f_X9_sumUp_J110 f_X9_sumUp_J98
    rw [h41, z', if_pos (show nI 0 = 0 from rfl), nI_add]
    by_cases e : w = x + y
    · rw [if_pos (by rw [e]), if_neg (show ¬ nI 0 = 1 by decide)]
      rw [if_pos (by omega)] at ev
      exact ⟨o, rfl, ro_hold hR hS (by rw [ev])⟩
    · rw [if_neg (fun q => e ((nI_eq (by omega) (by omega)).mp q))]
      rw [if_neg (by omega)] at ev
      obtain ⟨o', ee, rr⟩ := ro_fail hi hR hk3 (a := a) (by rw [ev])
      rw [show f_X9_fail o (nI i) 3 0 0 0 = some o' from ee, Option.bind_some]
      exact ⟨o', rfl, rr⟩
  have fin1 : ∀ (k0 : Int32) (g r : Nat), g < 2 ^ 30 → r < 2 ^ 30 → k0 = nI g - nI r → nl_ [w] + nl_ [x, y] = 1 → su_ (gl_ [w] [x, y]) = g → su_ (rs_l [w] [x, y]) = r → ∃ o', f_X9_sumUp_J65 (nI i) (nI w) (nI x) (nI y) k0 o = some o' ∧ Ro_ o o' P i S a := by
    intro k0 g r hg hr ek z eg er
    unfold eqs_ at ev
    rw [eg, er, if_neg (by omega)] at ev
    have ek2 : k0.toInt = (g : Int) - r := by rw [ek]; exact pk_sub_toInt hg hr
    unfold f_X9_sumUp_J65 f_X9_sumUp_J110 f_X9_sumUp_J98
    rw [h41, z, if_neg (show ¬ nI 1 = 0 by decide)]
    by_cases c : g < r ∨ 9999 < g - r
    · rw [if_pos c] at ev
      rw [f_in0 (a := 0) (b := 9999) (by rw [ek2]; intro q; have e1 : (0 : Int64).toInt = 0 := rfl; have e2 : (9999 : Int64).toInt = 9999 := rfl; omega), Option.bind_some, if_pos rfl]
      obtain ⟨o', ee, rr⟩ := ro_fail hi hR hk3 (a := a) (by rw [ev])
      rw [show f_X9_fail o (nI i) 3 0 0 0 = some o' from ee, Option.bind_some]
      exact ⟨o', rfl, rr⟩
    · rw [if_neg c] at ev
      rw [f_in1 (a := 0) (b := 9999) (by rw [ek2]; have e1 : (0 : Int64).toInt = 0 := rfl; have e2 : (9999 : Int64).toInt = 9999 := rfl; omega), Option.bind_some, if_neg n_10, if_pos (show nI 1 = 1 from rfl)]
      obtain ⟨w1, w2, w3⟩ := h42 z
      obtain ⟨o', ee, rr⟩ := ro_found (P := P) (i := i) hR hS (a := a) (by rw [ev]) (by rw [ev]; exact w2) (by rw [ev]; exact w3) (by rw [ev]; show g - r ≤ 9999; omega) (by rw [ev]; exact w1)
      rw [show k0 = nI (g - r) from ek.trans (pk_sub (by omega)), show f_X9_becomes o (nI (g - r)) = some o' from by rw [ev] at ee; exact ee, Option.bind_some]
      exact ⟨o', rfl, rr⟩
  by_cases cw : w < 20000
  · rw [if_pos (show nI w < 20000 from nI_lt (b := 20000) cw (by omega))]
    by_cases cx : x < 20000
    · rw [if_pos (show nI x < 20000 from nI_lt (b := 20000) cx (by omega))]
      by_cases cy : y < 20000
      · exact fin0 _ (by rw [nL, nR, if_pos cw, if_pos cx, if_pos cy] <;> omega)
      · have gl : gl_ [w] [x, y] = [w] := by unfold gl_; rw [if_neg (by rw [nL, if_pos cw] <;> omega)]
        have rl : rs_l [w] [x, y] = [x, y] := by unfold rs_l; rw [if_neg (by rw [nL, if_pos cw] <;> omega)]
        exact fin1 _ w x (by omega) (by omega) rfl (by rw [nL, nR, if_pos cw, if_pos cx, if_neg cy] <;> omega) (by rw [gl, sL, if_pos cw] <;> omega) (by rw [rl, sR, if_pos cx, if_neg cy] <;> omega)
    · rw [if_neg (show ¬ nI x < 20000 from nI_nlt (b := 20000) (by omega) (by omega))]
      have gl : gl_ [w] [x, y] = [w] := by unfold gl_; rw [if_neg (by rw [nL, if_pos cw] <;> omega)]
      have rl : rs_l [w] [x, y] = [x, y] := by unfold rs_l; rw [if_neg (by rw [nL, if_pos cw] <;> omega)]
      have cy : y < 20000 := by
        by_cases c : y < 20000
        · exact c
        · rw [nL, nR, if_pos cw, if_neg cx, if_neg c] at h1; omega
      exact fin1 _ w y (by omega) (by omega) rfl (by rw [nL, nR, if_pos cw, if_neg cx, if_pos cy] <;> omega) (by rw [gl, sL, if_pos cw] <;> omega) (by rw [rl, sR, if_neg cx, if_pos cy] <;> omega)
  · rw [if_neg (show ¬ nI w < 20000 from nI_nlt (b := 20000) (by omega) (by omega))]
    have cx : x < 20000 := by
      by_cases c : x < 20000
      · exact c
      · rw [nL, nR, if_neg cw, if_neg c] at h1; omega
    have cy : y < 20000 := by
      by_cases c : y < 20000
      · exact c
      · rw [nL, nR, if_neg cw, if_pos cx, if_neg c] at h1; omega
    have gl : gl_ [w] [x, y] = [x, y] := by unfold gl_; rw [if_pos (by rw [nL, if_neg cw] <;> omega)]
    have rl : rs_l [w] [x, y] = [w] := by unfold rs_l; rw [if_pos (by rw [nL, if_neg cw] <;> omega)]
    exact fin1 _ (x + y) 0 (by omega) (by omega) (by rw [nI_add]; exact ((pk_sub (b := 0) (Nat.zero_le _)).trans (congrArg nI (Nat.sub_zero _))).symm) (by rw [nL, nR, if_neg cw, if_pos cx, if_pos cy] <;> omega) (by rw [gl, sR, if_pos cx, if_pos cy] <;> omega) (by rw [rl, sL, if_neg cw] <;> omega)
