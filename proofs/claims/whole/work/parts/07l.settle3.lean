theorem eLR_ok {P : Pg_} (hW : Wf_ P) {i : Nat} (hi : i < g_N P) (hE : isE_ P i) : ∀ e, e ∈ eL_ P i ∨ e ∈ eR_ P i → e_ok e := by
  have hN := hW.1
  obtain ⟨w1, w2, w3, w4, w5, w6⟩ := hW.2 i hi
  have hk0 : g_K P i ≠ 0 := by rcases hE with z | z | z <;> omega
  have ha := w3 hk0
  have ha2 : g_A P i < g_N P := by omega
  intro e he
  rcases he with he | he
  · unfold eL_ at he
    by_cases c : g_K P i = 6
    · rw [if_pos c] at he
      obtain ⟨j, j1, j2, rfl⟩ := gt_mem _ _ _ _ he
      exact wf_e hW i hi j (by omega)
    · rw [if_neg c] at he
      rw [List.mem_singleton.mp he]
      exact Or.inr ⟨by omega, by omega⟩
  · unfold eR_ at he
    by_cases c : g_K P i = 2
    · have hb := w4 (Or.inr c)
      rw [if_pos c] at he
      rcases List.mem_cons.mp he with z | z
      · rw [z]; exact fc_ok hW ha2 _
      · rw [List.mem_singleton.mp z]; exact fc_ok hW (show g_B P i < g_N P by omega) _
    · rw [if_neg c] at he
      obtain ⟨j, j1, j2, rfl⟩ := gt_mem _ _ _ _ he
      exact wf_e hW _ ha2 j (by omega)
/-- a letter in a row of values is itself -/
theorem eLR_let {P : Pg_} (hW : Wf_ P) {i : Nat} (hi : i < g_N P) (hE : isE_ P i) {V : Nat → Nat} (hV : Vk_ V) : ∀ w, w ∈ (eL_ P i).map (vl_ V) ∨ w ∈ (eR_ P i).map (vl_ V) → ∀ r, w = 20000 + r → r < 14 ∧ V r = 20000 + r := by
  intro w hw r hr
  have : ∃ e, e_ok e ∧ vl_ V e = w := by
    rcases hw with h | h
    · obtain ⟨e, he, h2⟩ := List.mem_map.mp h
      exact ⟨e, eLR_ok hW hi hE e (Or.inl he), h2⟩
    · obtain ⟨e, he, h2⟩ := List.mem_map.mp h
      exact ⟨e, eLR_ok hW hi hE e (Or.inr he), h2⟩
  obtain ⟨e, he, h2⟩ := this
  rcases vk_vl hV he with z | ⟨r', a, b, c⟩
  · omega
  · have : r' = r := by omega
    rw [this] at a c
    exact ⟨a, c⟩
theorem eLR_vok {P : Pg_} (hW : Wf_ P) {i : Nat} (hi : i < g_N P) (hE : isE_ P i) {V : Nat → Nat} (hV : Vk_ V) : ∀ w, w ∈ (eL_ P i).map (vl_ V) ∨ w ∈ (eR_ P i).map (vl_ V) → vok_ w := by
  intro w hw
  rcases hw with h | h
  · obtain ⟨e, he, h2⟩ := List.mem_map.mp h
    rw [← h2]
    exact vok_vl hV (eLR_ok hW hi hE e (Or.inl he))
  · obtain ⟨e, he, h2⟩ := List.mem_map.mp h
    rw [← h2]
    exact vok_vl hV (eLR_ok hW hi hE e (Or.inr he))
theorem rk_E {P : Pg_} {i : Nat} {t : Tr4_} (h : t.1.2 = []) (hE : isE_ P i) : rk_ P i t = (stp_ P i t.1.1 (eqn_ P i t.1.1), if (eqn_ P i t.1.1).1 = 2 then 1 else t.2.1, if (eqn_ P i t.1.1).1 = 0 then 1 else t.2.2.1, if (eqn_ P i t.1.1).1 = 3 then (eqn_ P i t.1.1).2.1 else t.2.2.2) := by
  unfold rk_
  rw [if_pos ⟨h, hE⟩]
theorem rk_n {P : Pg_} {i : Nat} {t : Tr4_} (hE : ¬ isE_ P i) : rk_ P i t = t := by
  unfold rk_
  rw [if_neg (fun z => hE z.2)]
theorem x_round {P : Pg_} (hW : Wf_ P) {v d n : Ob_T} (hn : Rn_ n P) {S : Sv_} (hR : Rsv_ v S) {too : Nat} (h6 : o_F v 6 = nI too) (x2 : Int32) (k98 : Int32 → Int32 → Int32 → Ob_T → Ob_T → Option (Ob_T × Ob_T)) :
    ∃ v' d', Lp_ (fun (rec : (Int32 × Int32 × Int32 × Int32 × Ob_T × Ob_T) → Option (Ob_T × Ob_T)) x => f_X5_settle_L33 k98 rec x.1 x.2.1 x.2.2.1 x.2.2.2.1 x.2.2.2.2.1 x.2.2.2.2.2 n) FU_ (x2, 0, 0, 0, v, d) = k98 x2 (nI (rnd_ P S too).2.2.1) (nI (rnd_ P S too).2.1) v' d' ∧ Rsv_ v' (rnd_ P S too).1 ∧ (o_A v' 4 = o_A v 4 ∧ o_A v' 2 = o_A v 2) ∧ o_F v' 6 = nI (rnd_ P S too).2.2.2 := by
  have hN := hW.1
  refine lp_fu (P := fun r => ∃ v' d', r = k98 x2 (nI (rnd_ P S too).2.2.1) (nI (rnd_ P S too).2.1) v' d' ∧ Rsv_ v' (rnd_ P S too).1 ∧ (o_A v' 4 = o_A v 4 ∧ o_A v' 2 = o_A v 2) ∧ o_F v' 6 = nI (rnd_ P S too).2.2.2)
    (fun n x => ∃ c i v1 d1 t, n = c + 1 ∧ i + c = g_N P ∧ x = (x2, nI t.2.2.1, nI t.2.1, nI i, v1, d1) ∧ Rsv_ v1 t.1 ∧ (o_A v1 4 = o_A v 4 ∧ o_A v1 2 = o_A v 2) ∧ o_F v1 6 = nI t.2.2.2 ∧ rds_ P c i t = rnd_ P S too) ?_ ?_ (g_N P + 1) _ ⟨g_N P, 0, v, d, (S, 0, 0, too), rfl, by omega, rfl, hR, ⟨rfl, rfl⟩, h6, rfl⟩ (by omega)
  · rintro x ⟨c, k, o1, S1, t, z, -⟩
    omega
  · rintro n' x rec ⟨c, i, v1, d1, t, hn', hk, rfl, hR1, h4, h61, hS1⟩ hr'
    unfold f_X5_settle_L33 f_X1_size
    dsimp only
    rw [Option.bind_some, hn.1]
    match c, hn', hk, hS1 with
    | 0, hn', hk, hS1 =>
      rw [if_pos (nI_le (by omega) (by omega))]
      have hS1 : t = rnd_ P S too := hS1
      rw [← hS1]
      exact ⟨v1, d1, rfl, hR1, h4, h61⟩
    | c + 1, hn', hk, hS1 =>
      have hi : i < g_N P := by omega
      have hS1 : rds_ P c (i + 1) (rk_ P i t) = rnd_ P S too := hS1
      rw [if_neg (nI_ge (by omega) (by omega)), x_failed hR1, Option.bind_some]
      by_cases hf : t.1.2 = []
      · rw [if_pos (by rw [if_pos hf])]
        by_cases hE : isE_ P i
        · obtain ⟨d2, e2, hd⟩ := x_gather hW hn hR1.1 hi hE d1
          rw [e2, Option.bind_some]
          dsimp only
          rw [if_neg n_10]
          unfold f_X4_letters
          rw [Option.bind_some, hd.2.2.1]
          have hsd : nl_ (sd_ ((eL_ P i).map (vl_ t.1.1)) ((eR_ P i).map (vl_ t.1.1)) 0) + nl_ (sd_ ((eL_ P i).map (vl_ t.1.1)) ((eR_ P i).map (vl_ t.1.1)) 1) = nl_ ((eL_ P i).map (vl_ t.1.1)) + nl_ ((eR_ P i).map (vl_ t.1.1)) := rfl
          have hb : nl_ ((eL_ P i).map (vl_ t.1.1)) + nl_ ((eR_ P i).map (vl_ t.1.1)) ≤ 20 := hd.2.1
          rw [hsd]
          rw [rk_E hf hE] at hS1
          by_cases c1 : nl_ ((eL_ P i).map (vl_ t.1.1)) + nl_ ((eR_ P i).map (vl_ t.1.1)) ≤ 1
          · rw [if_pos (show nI _ ≤ (1 : Int32) from nI_le (b := 1) c1 (by omega))]
            obtain ⟨v3, e3, hR3, h43, h63⟩ := x_settleOne hW hn hR1 hf hi hd (eLR_let hW hi hE (rs_vk hR1.1)) c1
            rw [e3, Option.bind_some]
            have sp := (eqv_sp (g_K P i = 2) c1).1
            have e0 : ¬ (eqn_ P i t.1.1).1 = 0 := by unfold eqn_; omega
            rw [if_neg e0] at hS1
            have eq3 : o_F v3 6 = nI (if (eqn_ P i t.1.1).1 = 3 then (eqn_ P i t.1.1).2.1 else t.2.2.2) := by
              unfold eqn_
              rw [h63, h61]
              by_cases q : (eqv_ (g_K P i = 2) ((eL_ P i).map (vl_ t.1.1)) ((eR_ P i).map (vl_ t.1.1))).1 = 3
              · rw [if_pos q, if_pos q]
              · rw [if_neg q, if_neg q]
            by_cases q2 : (eqn_ P i t.1.1).1 = 2
            · have q2' : (eqv_ (g_K P i = 2) ((eL_ P i).map (vl_ t.1.1)) ((eR_ P i).map (vl_ t.1.1))).1 = 2 := q2
              rw [if_pos q2] at hS1
              rw [if_neg (show ¬ (if (eqv_ (g_K P i = 2) ((eL_ P i).map (vl_ t.1.1)) ((eR_ P i).map (vl_ t.1.1))).1 = 2 then (1 : Int32) else 0) = 0 by rw [if_pos q2']; decide)]
              exact hr' _ ⟨c, i + 1, v3, d2, _, by omega, by omega, by rw [nI_1]; rfl, hR3, ⟨h43.1.trans h4.1, h43.2.trans h4.2⟩, eq3, hS1⟩
            · have q2' : ¬ (eqv_ (g_K P i = 2) ((eL_ P i).map (vl_ t.1.1)) ((eR_ P i).map (vl_ t.1.1))).1 = 2 := q2
              rw [if_neg q2] at hS1
              rw [if_pos (show (if (eqv_ (g_K P i = 2) ((eL_ P i).map (vl_ t.1.1)) ((eR_ P i).map (vl_ t.1.1))).1 = 2 then (1 : Int32) else 0) = 0 by rw [if_neg q2'])]
              exact hr' _ ⟨c, i + 1, v3, d2, _, by omega, by omega, by rw [nI_1], hR3, ⟨h43.1.trans h4.1, h43.2.trans h4.2⟩, eq3, hS1⟩
          · rw [if_neg (show ¬ nI _ ≤ (1 : Int32) from nI_ge (a := 1) (by omega) (by omega))]
            have e0 : eqn_ P i t.1.1 = (0, 0, 0) := by unfold eqn_ eqv_; rw [if_pos (by omega)]
            rw [e0] at hS1
            have hS1 : rds_ P c (i + 1) (stp_ P i t.1.1 (0, 0, 0), t.2.1, 1, t.2.2.2) = rnd_ P S too := hS1
            have es : stp_ P i t.1.1 (0, 0, 0) = t.1 := by
              unfold stp_
              rw [if_neg (by decide), if_neg (by decide)]
              exact Prod.ext rfl hf.symm
            rw [es] at hS1
            exact hr' _ ⟨c, i + 1, v1, d2, (t.1, t.2.1, 1, t.2.2.2), by omega, by omega, by rw [nI_1]; rfl, hR1, h4, h61, hS1⟩
        · rw [x_gather0 hW hn hi hE, Option.bind_some]
          dsimp only
          rw [if_pos rfl]
          rw [rk_n hE] at hS1
          exact hr' _ ⟨c, i + 1, v1, d1, t, by omega, by omega, by rw [nI_1], hR1, h4, h61, hS1⟩
      · rw [if_neg (by rw [if_neg hf]; decide)]
        rw [rk_f P i hf, rds_f P _ _ hf] at hS1
        rw [← hS1]
        exact ⟨v1, d1, rfl, hR1, h4, h61⟩
/-- the class's rounds: another one only where one was found, one passed by, nothing failed -/
def stc_ (P : Pg_) : Nat → Sv_ → Nat → Sv_ × Nat
  | 0, S, too => (S, too)
  | r + 1, S, too => if (rnd_ P S too).2.1 = 1 ∧ (rnd_ P S too).2.2.1 = 1 ∧ (rnd_ P S too).1.2 = [] then stc_ P r (rnd_ P S too).1 (rnd_ P S too).2.2.2 else ((rnd_ P S too).1, (rnd_ P S too).2.2.2)
theorem stc_s (P : Pg_) (r : Nat) (S : Sv_) (too : Nat) : stc_ P (r + 1) S too = if (rnd_ P S too).2.1 = 1 ∧ (rnd_ P S too).2.2.1 = 1 ∧ (rnd_ P S too).1.2 = [] then stc_ P r (rnd_ P S too).1 (rnd_ P S too).2.2.2 else ((rnd_ P S too).1, (rnd_ P S too).2.2.2) := rfl
theorem rk_01 (P : Pg_) (i : Nat) {t : Tr4_} (h : t.2.1 ≤ 1 ∧ t.2.2.1 ≤ 1) : (rk_ P i t).2.1 ≤ 1 ∧ (rk_ P i t).2.2.1 ≤ 1 := by
  by_cases c : t.1.2 = [] ∧ isE_ P i
  · rw [rk_E c.1 c.2]
    constructor
    · show (if _ then 1 else t.2.1) ≤ 1
      by_cases q : (eqn_ P i t.1.1).1 = 2
      · rw [if_pos q]; omega
      · rw [if_neg q]; exact h.1
    · show (if _ then 1 else t.2.2.1) ≤ 1
      by_cases q : (eqn_ P i t.1.1).1 = 0
      · rw [if_pos q]; omega
      · rw [if_neg q]; exact h.2
  · unfold rk_
    rw [if_neg (show ¬ (t.1.2 = [] ∧ (g_K P i = 2 ∨ g_K P i = 5 ∨ g_K P i = 6)) from c)]
    exact h
theorem rds_01 (P : Pg_) : ∀ (c i : Nat) {t : Tr4_}, t.2.1 ≤ 1 ∧ t.2.2.1 ≤ 1 → (rds_ P c i t).2.1 ≤ 1 ∧ (rds_ P c i t).2.2.1 ≤ 1
  | 0, _, _, h => h
  | c + 1, i, _, h => rds_01 P c (i + 1) (rk_01 P i h)
theorem rnd_01 (P : Pg_) (S : Sv_) (too : Nat) : (rnd_ P S too).2.1 ≤ 1 ∧ (rnd_ P S too).2.2.1 ≤ 1 := rds_01 P _ _ ⟨by show 0 ≤ 1; omega, by show 0 ≤ 1; omega⟩
theorem x_settle {P : Pg_} (hW : Wf_ P) {v d n : Ob_T} (hn : Rn_ n P) {S : Sv_} (hR : Rsv_ v S) {too : Nat} (h6 : o_F v 6 = nI too) (hS : S.2 = []) : ∃ v' d', f_X5_settle v d n = some (v', d') ∧ Rsv_ v' (stc_ P 15 S too).1 ∧ (o_A v' 4 = o_A v 4 ∧ o_A v' 2 = o_A v 2) ∧ o_F v' 6 = nI (stc_ P 15 S too).2 := by
  unfold f_X5_settle
  rw [x_failed hR, Option.bind_some, if_pos (by rw [if_pos hS])]
  unfold f_X5_settle_J12
  refine lp_fu (P := fun r => ∃ v' d', r = some (v', d') ∧ Rsv_ v' (stc_ P 15 S too).1 ∧ (o_A v' 4 = o_A v 4 ∧ o_A v' 2 = o_A v 2) ∧ o_F v' 6 = nI (stc_ P 15 S too).2)
    (fun n x => ∃ r v1 d1, r ≤ 15 ∧ n = r + 1 ∧ (o_A v1 4 = o_A v 4 ∧ o_A v1 2 = o_A v 2) ∧ ((∃ S1 too1, x = (1, nI (15 - r), v1, d1) ∧ Rsv_ v1 S1 ∧ o_F v1 6 = nI too1 ∧ stc_ P r S1 too1 = stc_ P 15 S too) ∨ (x = (0, nI (15 - r), v1, d1) ∧ Rsv_ v1 (stc_ P 15 S too).1 ∧ o_F v1 6 = nI (stc_ P 15 S too).2))) ?_ ?_ (15 + 1) _ ⟨15, v, d, by omega, rfl, ⟨rfl, rfl⟩, Or.inl ⟨S, too, rfl, hR, h6, rfl⟩⟩ (by omega)
  · rintro x ⟨r, v1, d1, h1, z, -⟩
    omega
  · rintro n' x rec ⟨r, v1, d1, hr15, hn', h4, hx⟩ hr'
    rcases hx with ⟨S1, too1, rfl, hR1, h61, hS1⟩ | ⟨rfl, hR1, h61⟩
    · unfold f_X5_settle_L15
      dsimp only
      match r, hr15, hn', hS1 with
      | 0, hr15, hn', hS1 =>
        rw [if_pos (show (14 : Int32) < nI (15 - 0) by decide)]
        have hS1 : (S1, too1) = stc_ P 15 S too := hS1
        rw [← hS1]
        exact ⟨v1, d1, rfl, hR1, h4, h61⟩
      | r + 1, hr15, hn', hS1 =>
        rw [if_neg (show ¬ (14 : Int32) < nI (15 - (r + 1)) from nI_nlt (a := 14) (by omega) (by omega)), if_neg n_10]
        obtain ⟨v2, d2, e2, hR2, h42, h62⟩ := x_round hW hn hR1 (d := d1) h61 (nI (15 - (r + 1))) (fun y2 y3 y4 t_v t_d => f_X5_settle_J98 rec y2 y3 y4 t_v t_d n)
        rw [e2]
        unfold f_X5_settle_J98
        have b1 := rnd_01 P S1 too1
        rw [stc_s P r S1 too1] at hS1
        have e15 : nI (15 - (r + 1)) + 1 = nI (15 - r) := by rw [nI_1]; exact congrArg nI (by omega)
        rw [e15]
        have stop : ¬ ((rnd_ P S1 too1).2.1 = 1 ∧ (rnd_ P S1 too1).2.2.1 = 1 ∧ (rnd_ P S1 too1).1.2 = []) → ∃ v' d', rec (0, nI (15 - r), v2, d2) = some (v', d') ∧ Rsv_ v' (stc_ P 15 S too).1 ∧ (o_A v' 4 = o_A v 4 ∧ o_A v' 2 = o_A v 2) ∧ o_F v' 6 = nI (stc_ P 15 S too).2 := by
          intro hc
          rw [if_neg hc] at hS1
          refine hr' _ ⟨r, v2, d2, by omega, by omega, ⟨h42.1.trans h4.1, h42.2.trans h4.2⟩, Or.inr ⟨rfl, ?_, ?_⟩⟩
          · rw [← hS1]; exact hR2
          · rw [← hS1]; exact h62
        by_cases c1 : (rnd_ P S1 too1).2.1 = 1
        · rw [if_neg (show ¬ nI (rnd_ P S1 too1).2.1 = 0 by rw [c1]; decide)]
          by_cases c2 : (rnd_ P S1 too1).2.2.1 = 1
          · rw [if_neg (show ¬ nI (rnd_ P S1 too1).2.2.1 = 0 by rw [c2]; decide), x_failed hR2, Option.bind_some]
            by_cases c3 : (rnd_ P S1 too1).1.2 = []
            · rw [if_pos (by rw [if_pos c3])]
              rw [if_pos ⟨c1, c2, c3⟩] at hS1
              exact hr' _ ⟨r, v2, d2, by omega, by omega, ⟨h42.1.trans h4.1, h42.2.trans h4.2⟩, Or.inl ⟨_, _, rfl, hR2, h62, hS1⟩⟩
            · rw [if_neg (by rw [if_neg c3]; decide)]
              exact stop (fun z => c3 z.2.2)
          · rw [if_pos (show nI (rnd_ P S1 too1).2.2.1 = 0 by rw [show (rnd_ P S1 too1).2.2.1 = 0 by omega]; rfl)]
            exact stop (fun z => c2 z.2.1)
        · rw [if_pos (show nI (rnd_ P S1 too1).2.1 = 0 by rw [show (rnd_ P S1 too1).2.1 = 0 by omega]; rfl)]
          exact stop (fun z => c1 z.1)
    · unfold f_X5_settle_L15
      dsimp only
      by_cases q : (14 : Int32) < nI (15 - r)
      · rw [if_pos q]; exact ⟨v1, d1, rfl, hR1, h4, h61⟩
      · rw [if_neg q, if_pos rfl]; exact ⟨v1, d1, rfl, hR1, h4, h61⟩
theorem x_settle_f {v d n : Ob_T} {S : Sv_} (hR : Rsv_ v S) (hS : ¬ S.2 = []) : f_X5_settle v d n = some (v, d) := by
  unfold f_X5_settle
  rw [x_failed hR, Option.bind_some, if_neg (by rw [if_neg hS]; decide)]
  unfold f_X5_settle_J12
  rw [lp_u]
  dsimp only
  unfold f_X5_settle_L15
  rw [if_neg (by decide), if_pos rfl]
