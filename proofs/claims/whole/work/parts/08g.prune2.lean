/-- letters beyond the fourteen are by themselves -/
def Hi_ (V : Nat → Nat) : Prop := ∀ l, 14 ≤ l → V l = 20000 + l
theorem hi_sb {V : Nat → Nat} (h : Hi_ V) {r k : Nat} (hr : r < 14) : Hi_ (sb_ V r k) := by
  intro l hl
  unfold sb_
  rw [if_neg (by have := h l hl; omega)]
  exact h l hl
theorem hi_mt {S : Sv_} (hv : Vk_ S.1) (h : Hi_ S.1) {nd by_ ax x y : Nat} (hx : e_ok x) (hy : e_ok y) : Hi_ (mt_ S nd by_ ax x y).1 := by
  unfold mt_
  by_cases c : S.2 = []
  · rw [if_pos c]
    rcases vk_vl hv hx with ux | ⟨a, ha, ex, ea⟩
    · rw [if_pos (show vl_ S.1 x < 20000 by omega)]
      rcases vk_vl hv hy with uy | ⟨b, hb', ey, eb⟩
      · rw [if_pos (show vl_ S.1 y < 20000 by omega)]
        by_cases e : vl_ S.1 x = vl_ S.1 y
        · rw [if_pos e]; exact h
        · rw [if_neg e]; exact h
      · rw [if_neg (show ¬ vl_ S.1 y < 20000 by omega)]
        exact hi_sb h (by omega)
    · rw [if_neg (show ¬ vl_ S.1 x < 20000 by omega)]
      rcases vk_vl hv hy with uy | ⟨b, hb', ey, eb⟩
      · rw [if_pos (show vl_ S.1 y < 20000 by omega)]
        exact hi_sb h (by omega)
      · rw [if_neg (show ¬ vl_ S.1 y < 20000 by omega)]
        exact hi_sb h (by omega)
  · rw [if_neg c]; exact h
theorem hi_MA {P : Pg_} (hW : Wf_ P) {gv : Nat → Int32} (hg : ∀ l, l < 4 → gv_ok (gv l)) : Hi_ (MA_ P gv).1 := by
  have := mal_pres hW (Z := fun S => Vk_ S.1 ∧ Hi_ S.1) (fun S nd by_ ax a j b k ha hj hb hk h => ⟨vk_mt h.1 (wf_e hW a ha j hj) (wf_e hW b hb k hk), hi_mt h.1 h.2 (wf_e hW a ha j hj) (wf_e hW b hb k hk)⟩) (g_N P) 0 (by omega) (S := (v0_ gv, [])) ⟨vk_v0 hg, fun l hl => by
    show v0_ gv l = 20000 + l
    unfold v0_
    rw [if_neg (by omega)]⟩
  exact this.2
theorem vk_sg {c : Nat → Int32} (hc : Ch_ c) {V : Nat → Nat} (h : Vk_ V) : Vk_ (fun l => sg_ c (V l)) := by
  intro l hl
  dsimp only
  rcases h l hl with z | ⟨r, a, b, d⟩
  · left; rw [sg_num (by omega)]; exact z
  · by_cases q : r < 4 ∧ ¬ c r = -1
    · obtain ⟨k, hk, e1, e2⟩ := ch_dig hc q.1 q.2
      left; rw [b, sg_let q.1 q.2, e2]; omega
    · right
      exact ⟨r, a, by rw [b, sg_no q], by rw [d, sg_no q]⟩
theorem hi_sg {c : Nat → Int32} {V : Nat → Nat} (h : Hi_ V) : Hi_ (fun l => sg_ c (V l)) := by
  intro l hl
  dsimp only
  rw [h l hl, sg_no (by omega)]
/-- the rounds from a state -/
def rn_ (P : Pg_) (V : Nat → Nat) : Sv_ × Nat := sto_ P 15 (V, []) 0
def okc_ (P : Pg_) (V : Nat → Nat) (c : Nat → Int32) : Nat := if (rn_ P (fun l => sg_ c (V l))).1.2 = [] then 1 else 0
/-- a choice that a good one goes beyond: it does not fail but by too great a product, and what it finds is what is chosen -/
theorem ok_prune {P : Pg_} (hW : Wf_ P) {V : Nat → Nat} (hV : Vk_ V) (hH : Hi_ V) {c c' : Nat → Int32} (hc : Ch_ c) (hc' : Ch_ c') (hcc : ∀ l, l < 4 → ¬ c l = -1 → c' l = c l) (ho : ∀ l, l < 4 → ¬ c' l = -1 → V l = 20000 + l) (hok : okc_ P V c' = 1) :
    ((rn_ P (fun l => sg_ c (V l))).1.2 = [] → ∀ l, l < 4 → ¬ c' l = -1 → (rn_ P (fun l => sg_ c (V l))).1.1 l < 20000 → nI ((rn_ P (fun l => sg_ c (V l))).1.1 l) = c' l) ∧ (¬ (rn_ P (fun l => sg_ c (V l))).1.2 = [] → (rn_ P (fun l => sg_ c (V l))).2 = 1) := by
  have hok : (rn_ P (fun l => sg_ c' (V l))).1.2 = [] := by
    unfold okc_ at hok
    by_cases q : (rn_ P (fun l => sg_ c' (V l))).1.2 = []
    · exact q
    · rw [if_neg q] at hok; omega
  have vc := vk_sg hc hV
  have vc' := vk_sg hc' hV
  generalize hFd : (rn_ P (fun l => sg_ c' (V l))).1.1 = F
  have hfin : Fin_ P F := by
    rw [← hFd]
    exact sto_fin hW 15 (_, []) 0 vc' (by have := uc_le (fun l => sg_ c' (V l)) 14; show uc_ (fun l => sg_ c' (V l)) 14 < 15; omega) hok
  have hvF : Vk_ F ∧ Hi_ F := by
    rw [← hFd]
    exact sto_pres hW (Z := fun V => Vk_ V ∧ Hi_ V) (fun V l k _ hl _ hk h => ⟨vk_sb h.1 hk, hi_sb h.2 hl⟩) 15 (_, []) 0 vc' ⟨vc', hi_sg hH⟩
  have hF := vk_F hvF.1 (fun l hl => by have := hvF.2 l hl; omega)
  have hle : Le_ (fun l => sg_ c (V l)) F := by
    rw [← hFd]
    refine sto_pres hW (Z := Le_ (fun l => sg_ c (V l))) (fun W l k _ _ _ _ h j hj => ?_) 15 (_, []) 0 vc' (fun l hl => ?_)
    · rw [vl_sb, h j hj]; rfl
    · show vl_ (fun l => sg_ c' (V l)) (sg_ c (V l)) = sg_ c' (V l)
      rcases hV l hl with z | ⟨r, a, b, d⟩
      · rw [sg_num (by omega), sg_num (by omega)]
        unfold vl_
        rw [if_pos (by omega)]
      · rw [b]
        by_cases q : r < 4 ∧ ¬ c r = -1
        · obtain ⟨k, hk, e1, e2⟩ := ch_dig hc q.1 q.2
          have q2 := hcc r q.1 q.2
          rw [sg_let q.1 q.2, sg_let q.1 (by rw [q2]; exact q.2), q2, e2]
          unfold vl_
          rw [if_pos (by omega)]
        · rw [sg_no q, vl_sg]
          congr 1
          unfold vl_
          rw [if_neg (by omega), show 20000 + r - 20000 = r by omega, d]
  have hdig : ∀ l, l < 4 → ¬ c' l = -1 → F l = (c' l).toNatClampNeg := by
    intro l hl hcl
    rw [← hFd]
    obtain ⟨k, hk, e1, e2⟩ := ch_dig hc' hl hcl
    refine sto_pres hW (Z := fun W => W l = (c' l).toNatClampNeg) (fun W r j _ _ _ _ h => ?_) 15 (_, []) 0 vc' ?_
    · unfold sb_
      rw [if_neg (by rw [h, e2]; omega)]
      exact h
    · show sg_ c' (V l) = _
      rw [ho l hl hcl, sg_let hl hcl]
  obtain ⟨p1, p2⟩ := sto_prune hW hF hfin 15 ((fun l => sg_ c (V l)), []) 0 vc rfl hle
  refine ⟨fun q l hl hcl hlt => ?_, p2⟩
  have h1 := p1 q l (by omega)
  have h2 : vl_ F ((rn_ P (fun l => sg_ c (V l))).1.1 l) = F l := h1
  unfold vl_ at h2
  rw [if_pos hlt] at h2
  obtain ⟨k, hk, e1, e2⟩ := ch_dig hc' hl hcl
  rw [h2, hdig l hl hcl, e2, e1]
/-! letters that are in no equation -/
def Ag_ (P : Pg_) (V W : Nat → Nat) : Prop := ∀ i, i < g_N P → isE_ P i → ∀ e, e ∈ eL_ P i ∨ e ∈ eR_ P i → vl_ V e = vl_ W e
theorem ag_eqn {P : Pg_} {V W : Nat → Nat} (h : Ag_ P V W) {i : Nat} (hi : i < g_N P) (hE : isE_ P i) : eqn_ P i V = eqn_ P i W := by
  unfold eqn_
  rw [show (eL_ P i).map (vl_ V) = (eL_ P i).map (vl_ W) from List.map_congr_left (fun e he => h i hi hE e (Or.inl he)), show (eR_ P i).map (vl_ V) = (eR_ P i).map (vl_ W) from List.map_congr_left (fun e he => h i hi hE e (Or.inr he))]
theorem ag_sb {P : Pg_} {V W : Nat → Nat} (h : Ag_ P V W) (r k : Nat) : Ag_ P (sb_ V r k) (sb_ W r k) := by
  intro i hi hE e he
  rw [vl_sb, vl_sb, h i hi hE e he]
theorem rk_ag {P : Pg_} {i : Nat} (hi : i < g_N P) {t u : Tr4_} (h : Ag_ P t.1.1 u.1.1 ∧ t.1.2 = u.1.2 ∧ t.2 = u.2) : Ag_ P (rk_ P i t).1.1 (rk_ P i u).1.1 ∧ (rk_ P i t).1.2 = (rk_ P i u).1.2 ∧ (rk_ P i t).2 = (rk_ P i u).2 := by
  obtain ⟨h1, h2, h3⟩ := h
  by_cases f : t.1.2 = []
  · by_cases hE : isE_ P i
    · rw [rk_E f hE, rk_E (h2 ▸ f) hE, ← ag_eqn h1 hi hE, h3]
      dsimp only
      unfold stp_
      by_cases t2 : (eqn_ P i t.1.1).1 = 2
      · rw [if_pos t2, if_pos t2]
        exact ⟨ag_sb h1 _ _, rfl, rfl⟩
      · rw [if_neg t2, if_neg t2]
        by_cases t3 : (eqn_ P i t.1.1).1 = 3
        · rw [if_pos t3, if_pos t3]; exact ⟨h1, rfl, rfl⟩
        · rw [if_neg t3, if_neg t3]; exact ⟨h1, rfl, rfl⟩
    · rw [rk_n hE, rk_n hE]; exact ⟨h1, h2, h3⟩
  · rw [rk_f P i f, rk_f P i (h2 ▸ f)]; exact ⟨h1, h2, h3⟩
theorem rds_ag {P : Pg_} : ∀ (c i : Nat) {t u : Tr4_}, i + c ≤ g_N P → Ag_ P t.1.1 u.1.1 ∧ t.1.2 = u.1.2 ∧ t.2 = u.2 → Ag_ P (rds_ P c i t).1.1 (rds_ P c i u).1.1 ∧ (rds_ P c i t).1.2 = (rds_ P c i u).1.2 ∧ (rds_ P c i t).2 = (rds_ P c i u).2
  | 0, _, _, _, _, h => h
  | c + 1, i, _, _, hi, h => rds_ag c (i + 1) (by omega) (rk_ag (by omega) h)
theorem sto_ag {P : Pg_} : ∀ (r : Nat) (S T : Sv_) (too : Nat), Ag_ P S.1 T.1 → S.2 = T.2 → (sto_ P r S too).1.2 = (sto_ P r T too).1.2
  | 0, _, _, _, _, h => h
  | r + 1, S, T, too, h1, h2 => by
    obtain ⟨a, b, d⟩ := rds_ag (P := P) (g_N P) 0 (t := (S, 0, 0, too)) (u := (T, 0, 0, too)) (by omega) ⟨h1, h2, rfl⟩
    have a : Ag_ P (rnd_ P S too).1.1 (rnd_ P T too).1.1 := a
    have b : (rnd_ P S too).1.2 = (rnd_ P T too).1.2 := b
    have d : (rnd_ P S too).2 = (rnd_ P T too).2 := d
    rw [sto_s, sto_s, d, b]
    by_cases c : (rnd_ P T too).2.1 = 1 ∧ (rnd_ P T too).1.2 = []
    · rw [if_pos c, if_pos c]
      exact sto_ag r _ _ _ a b
    · rw [if_neg c, if_neg c]; exact b
/-- a letter is in some equation -/
def Ie_ (P : Pg_) (V : Nat → Nat) (l : Nat) : Prop := ∃ i, i < g_N P ∧ isE_ P i ∧ (20000 + l ∈ (eL_ P i).map (vl_ V) ∨ 20000 + l ∈ (eR_ P i).map (vl_ V))
theorem ok_ie {P : Pg_} {V : Nat → Nat} {l : Nat} (h : ¬ Ie_ P V l) {c c' : Nat → Int32} (hcc : ∀ j, j ≠ l → c j = c' j) : okc_ P V c = okc_ P V c' := by
  have e : (rn_ P (fun l => sg_ c (V l))).1.2 = (rn_ P (fun l => sg_ c' (V l))).1.2 := by
    refine sto_ag 15 (_, []) (_, []) 0 (fun i hi hE e he => ?_) rfl
    rw [vl_sg, vl_sg]
    have ne : vl_ V e ≠ 20000 + l := fun z => h ⟨i, hi, hE, by
      rcases he with he | he
      · exact Or.inl (List.mem_map.mpr ⟨e, he, z⟩)
      · exact Or.inr (List.mem_map.mpr ⟨e, he, z⟩)⟩
    unfold sg_
    by_cases q : 20000 ≤ vl_ V e
    · rw [hcc (vl_ V e - 20000) (by omega)]
    · rw [if_neg (fun z => q z.1), if_neg (fun z => q z.1)]
  unfold okc_
  rw [e]
