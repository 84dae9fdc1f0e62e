/-- so many of a row, from one on -/
def gt_ (g : Nat → Nat) : Nat → Nat → List Nat
  | 0, _ => []
  | c + 1, k => g k :: gt_ g c (k + 1)
theorem gt_len (g : Nat → Nat) : ∀ c k, (gt_ g c k).length = c
  | 0, _ => rfl
  | c + 1, k => by show (gt_ g c (k + 1)).length + 1 = c + 1; rw [gt_len g c (k + 1)]
theorem gt_mem (g : Nat → Nat) : ∀ c k x, x ∈ gt_ g c k → ∃ j, k ≤ j ∧ j < k + c ∧ x = g j
  | 0, _, _, h => by cases h
  | c + 1, k, x, h => by
    rcases List.mem_cons.mp h with e | e
    · exact ⟨k, by omega, by omega, e⟩
    · obtain ⟨j, h1, h2, h3⟩ := gt_mem g c (k + 1) x e
      exact ⟨j, by omega, by omega, h3⟩
/-- the first extent of a cell; 1 where it has none -/
def fc_ (P : Pg_) (a f : Nat) : Nat := if f < g_L P a then g_E P a f else 1
/-- both sides of a node's sum or product, as extents -/
def eF_ (P : Pg_) (i : Nat) : Nat := if g_K P i = 5 then fA_ P i else 0
def eL_ (P : Pg_) (i : Nat) : List Nat := if g_K P i = 6 then gt_ (g_E P i) (g_L P i) 0 else [20004 + i]
def eR_ (P : Pg_) (i : Nat) : List Nat := if g_K P i = 2 then [fc_ P (g_A P i) (fA_ P i), fc_ P (g_B P i) (fB_ P i)] else gt_ (g_E P (g_A P i)) (g_L P (g_A P i) - eF_ P i) (eF_ P i)
def isE_ (P : Pg_) (i : Nat) : Prop := g_K P i = 2 ∨ g_K P i = 5 ∨ g_K P i = 6
/-- values in a row that a side may hold -/
def vok_ (v : Nat) : Prop := v ≤ 9999 ∨ ∃ r, r < 14 ∧ v = 20000 + r
theorem vok_vl {V : Nat → Nat} (h : Vk_ V) {e : Nat} (he : e_ok e) : vok_ (vl_ V e) := by
  rcases vk_vl h he with z | ⟨r, h1, h2, -⟩
  · exact Or.inl z
  · exact Or.inr ⟨r, h1, h2⟩
theorem su_len : ∀ (l : List Nat), (∀ v ∈ l, vok_ v) → su_ l ≤ 9999 * l.length
  | [], _ => Nat.le_refl _
  | v :: l, h => by
    have h1 := su_len l (fun w hw => h w (List.mem_cons_of_mem _ hw))
    show (if v < 20000 then v else 0) + su_ l ≤ 9999 * (l.length + 1)
    rcases h v List.mem_cons_self with z | ⟨r, -, z⟩
    · rw [if_pos (by omega)]; omega
    · rw [if_neg (by omega)]; omega
theorem nl_len : ∀ (l : List Nat), nl_ l ≤ l.length
  | [] => Nat.le_refl _
  | v :: l => by
    have h1 := nl_len l
    show (if v < 20000 then 0 else 1) + nl_ l ≤ l.length + 1
    by_cases z : v < 20000
    · rw [if_pos z]; omega
    · rw [if_neg z]; omega
/-- adding a row of values to a side, one behind the other -/
theorem rd_add {d : Ob_T} {L R : List Nat} (h : Rd_ d (sd_ L R)) (hL : ∀ v ∈ L, vok_ v) (hR : ∀ v ∈ R, vok_ v) (hlen : L.length + R.length ≤ 13) : 
    (∀ v, vok_ v → ∃ d', f_X4_add d 0 (nI v) = some d' ∧ Rd_ d' (sd_ (L ++ [v]) R)) ∧ ∀ v, vok_ v → ∃ d', f_X4_add d 1 (nI v) = some d' ∧ Rd_ d' (sd_ L (R ++ [v])) := by
  have s1 := su_len L hL
  have s2 := su_len R hR
  have n1 := nl_len L
  have n2 := nl_len R
  constructor
  · intro v hv
    obtain ⟨d', e, h'⟩ := x_add (s := 0) (by omega) h hv (by show su_ L ≤ _; omega) (by show nl_ L + nl_ R ≤ 19; omega)
    exact ⟨d', e, rd_cg h' rfl rfl⟩
  · intro v hv
    obtain ⟨d', e, h'⟩ := x_add (s := 1) (by omega) h hv (by show su_ R ≤ _; omega) (by show nl_ L + nl_ R ≤ 19; omega)
    exact ⟨d', e, rd_cg h' rfl rfl⟩
theorem vok_snoc {L : List Nat} {v : Nat} (hL : ∀ v ∈ L, vok_ v) (hv : vok_ v) : ∀ w ∈ L ++ [v], vok_ w := by
  intro w hw
  rcases List.mem_append.mp hw with z | z
  · exact hL w z
  · rw [List.mem_singleton.mp z]; exact hv
theorem x_gL {P : Pg_} (hW : Wf_ P) {v n : Ob_T} (hn : Rn_ n P) {V : Nat → Nat} (hV : Rs_ (o_A v 2) (o_A v 3) V) {i f : Nat} (hi : i < g_N P) (hf : f ≤ g_L P i) {d : Ob_T} {R : List Nat} (hR : ∀ v ∈ R, vok_ v) (hlen : R.length ≤ 6) (h : Rd_ d (sd_ [] R)) (x3 : Int32) (k214 : Int32 → Int32 → Ob_T → Option (Int32 × Ob_T)) :
    ∃ d', Lp_ (fun (rec : (Int32 × Int32 × Int32 × Int32 × Ob_T) → Option (Int32 × Ob_T)) x => f_X5_gatherSides_L173 k214 rec x.1 x.2.1 x.2.2.1 x.2.2.2.1 x.2.2.2.2 v n) FU_ (nI i, x3, nI f, nI f, d) = k214 x3 (nI f) d' ∧ Rd_ d' (sd_ ((gt_ (g_E P i) (g_L P i - f) f).map (vl_ V)) R) := by
  have hN := hW.1
  have hk := rs_vk hV
  have hL6 := (hW.2 i hi).2.1
  refine lp_fu (P := fun r => ∃ d', r = k214 x3 (nI f) d' ∧ Rd_ d' (sd_ ((gt_ (g_E P i) (g_L P i - f) f).map (vl_ V)) R))
    (fun n x => ∃ c k d1 L, n = c + 1 ∧ k + c = g_L P i ∧ x = (nI i, x3, nI f, nI k, d1) ∧ (∀ v ∈ L, vok_ v) ∧ L.length ≤ k ∧ Rd_ d1 (sd_ L R) ∧ L ++ (gt_ (g_E P i) c k).map (vl_ V) = (gt_ (g_E P i) (g_L P i - f) f).map (vl_ V)) ?_ ?_ (g_L P i - f + 1) _ ⟨g_L P i - f, f, d, [], rfl, by omega, rfl, fun v hv => (by cases hv), Nat.zero_le _, h, rfl⟩ (by omega)
  · rintro x ⟨c, k, o1, S1, z, -⟩
    omega
  · rintro n' x rec ⟨c, k, d1, L, hn', hk', rfl, hL, hlL, hd, he⟩ hr'
    unfold f_X5_gatherSides_L173
    dsimp only
    rw [x_L hn hN hi, Option.bind_some]
    match c, hn', hk', he with
    | 0, hn', hk', he =>
      rw [if_pos (nI_le (by omega) (by omega))]
      refine ⟨d1, rfl, ?_⟩
      rw [← he, show (gt_ (g_E P i) 0 k).map (vl_ V) = [] from rfl, List.append_nil]
      exact hd
    | c + 1, hn', hk', he =>
      rw [if_neg (nI_ge (by omega) (by omega)), x_ext hn hN hi (by omega) hL6, Option.bind_some, x_value hV (wf_e hW i hi k (by omega)), Option.bind_some]
      have vo := vok_vl hk (wf_e hW i hi k (by omega))
      obtain ⟨d2, e2, h2⟩ := (rd_add hd hL hR (by omega)).1 _ vo
      rw [e2, Option.bind_some]
      refine hr' _ ⟨c, k + 1, d2, L ++ [vl_ V (g_E P i k)], by omega, by omega, by rw [nI_1], vok_snoc hL vo, by simp; omega, h2, ?_⟩
      rw [← he, List.append_assoc]
      rfl
theorem x_gR {P : Pg_} (hW : Wf_ P) {v n : Ob_T} (hn : Rn_ n P) {V : Nat → Nat} (hV : Rs_ (o_A v 2) (o_A v 3) V) {i f : Nat} (hi : i < g_N P) (hf : f ≤ g_L P i) {d : Ob_T} {L : List Nat} (hL : ∀ v ∈ L, vok_ v) (hlen : L.length ≤ 6) (h : Rd_ d (sd_ L [])) :
    ∃ d', f_X5_gatherSides_J214 (nI i) (nI f) d v n = some (1, d') ∧ Rd_ d' (sd_ L ((gt_ (g_E P i) (g_L P i - f) f).map (vl_ V))) := by
  have hN := hW.1
  have hk := rs_vk hV
  have hL6 := (hW.2 i hi).2.1
  unfold f_X5_gatherSides_J214
  refine lp_fu (P := fun r => ∃ d', r = some (1, d') ∧ Rd_ d' (sd_ L ((gt_ (g_E P i) (g_L P i - f) f).map (vl_ V))))
    (fun n x => ∃ c k d1 R, n = c + 1 ∧ k + c = g_L P i ∧ x = (nI i, nI k, d1) ∧ (∀ v ∈ R, vok_ v) ∧ R.length ≤ k ∧ Rd_ d1 (sd_ L R) ∧ R ++ (gt_ (g_E P i) c k).map (vl_ V) = (gt_ (g_E P i) (g_L P i - f) f).map (vl_ V)) ?_ ?_ (g_L P i - f + 1) _ ⟨g_L P i - f, f, d, [], rfl, by omega, rfl, fun v hv => (by cases hv), Nat.zero_le _, h, rfl⟩ (by omega)
  · rintro x ⟨c, k, o1, S1, z, -⟩
    omega
  · rintro n' x rec ⟨c, k, d1, R, hn', hk', rfl, hR, hlR, hd, he⟩ hr'
    unfold f_X5_gatherSides_L218
    dsimp only
    rw [x_L hn hN hi, Option.bind_some]
    match c, hn', hk', he with
    | 0, hn', hk', he =>
      rw [if_pos (nI_le (by omega) (by omega))]
      refine ⟨d1, rfl, ?_⟩
      rw [← he, show (gt_ (g_E P i) 0 k).map (vl_ V) = [] from rfl, List.append_nil]
      exact hd
    | c + 1, hn', hk', he =>
      rw [if_neg (nI_ge (by omega) (by omega)), x_ext hn hN hi (by omega) hL6, Option.bind_some, x_value hV (wf_e hW i hi k (by omega)), Option.bind_some]
      have vo := vok_vl hk (wf_e hW i hi k (by omega))
      obtain ⟨d2, e2, h2⟩ := (rd_add hd hL hR (by omega)).2 _ vo
      rw [e2, Option.bind_some]
      refine hr' _ ⟨c, k + 1, d2, R ++ [vl_ V (g_E P i k)], by omega, by omega, by rw [nI_1], vok_snoc hR vo, by simp; omega, h2, ?_⟩
      rw [← he, List.append_assoc]
      rfl
theorem fc_ok {P : Pg_} (hW : Wf_ P) {a : Nat} (ha : a < g_N P) (f : Nat) : e_ok (fc_ P a f) := by
  unfold fc_
  by_cases h : f < g_L P a
  · rw [if_pos h]; exact wf_e hW a ha f h
  · rw [if_neg h]; exact Or.inl (by omega)
theorem x_joined {P : Pg_} (hW : Wf_ P) {n : Ob_T} (hn : Rn_ n P) {a f : Nat} (ha : a < g_N P) (hf : f ≤ 6) : f_X1_joinedAt n (nI a) (nI f) = some (nI (fc_ P a f)) := by
  have hN := hW.1
  have hL6 := (hW.2 a ha).2.1
  have eL : (ld_I (o_A n 4) 10 (nI a)) = some (nI (g_L P a)) := by
    have := x_L hn hN ha
    unfold f_X1_axesOf at this
    cases h : ld_I (o_A n 4) 10 (nI a) with
    | none => rw [h] at this; cases this
    | some x => rw [h] at this; exact this
  unfold f_X1_joinedAt fc_
  rw [eL, Option.bind_some]
  by_cases h : f < g_L P a
  · have eE := x_ext hn hN ha h hL6
    unfold f_X1_at at eE
    rw [if_neg (nI_ge (by omega) (by omega)), if_pos h]
    exact eE
  · rw [if_pos (nI_le (by omega) (by omega)), if_neg h]
    rfl
theorem x_gather {P : Pg_} (hW : Wf_ P) {v n : Ob_T} (hn : Rn_ n P) {V : Nat → Nat} (hV : Rs_ (o_A v 2) (o_A v 3) V) {i : Nat} (hi : i < g_N P) (hE : isE_ P i) (d : Ob_T) : ∃ d', f_X5_gatherSides v d n (nI i) = some (1, d') ∧ Rd_ d' (sd_ ((eL_ P i).map (vl_ V)) ((eR_ P i).map (vl_ V))) := by
  have hN := hW.1
  have hk := rs_vk hV
  obtain ⟨w1, w2, w3, w4, w5, w6⟩ := hW.2 i hi
  have hk0 : g_K P i ≠ 0 := by rcases hE with z | z | z <;> omega
  have ha := w3 hk0
  have ha2 : g_A P i < g_N P := by omega
  have haL := (hW.2 _ ha2).2.1
  have own : e_ok (20004 + i) := Or.inr ⟨by omega, by omega⟩
  obtain ⟨d1, e1, h1⟩ := x_clear d
  have key : f_X5_gatherSides v d n (nI i) = f_X5_gatherSides_J27 (nI i) (nI (g_K P i)) d v n := by
    unfold f_X5_gatherSides
    rw [x_K hn hN hi, Option.bind_some]
    rcases hE with z | z | z
    · rw [z, if_pos (by decide)]
    · rw [z, if_neg (by decide), if_pos (by decide)]
    · rw [z, if_neg (by decide), if_neg (by decide), if_pos (by decide)]
  rw [key]
  unfold f_X5_gatherSides_J27
  rw [x_A hn hN hi hk0, Option.bind_some]
  have tail : ∀ f, f ≤ g_L P i → f ≤ g_L P (g_A P i) → f = eF_ P i → (gt_ (g_E P i) (g_L P i - f) f) = eL_ P i → ¬ g_K P i = 2 → ∃ d', f_X5_gatherSides_J167 (nI i) (nI (g_A P i)) (nI f) d1 v n = some (1, d') ∧ Rd_ d' (sd_ ((eL_ P i).map (vl_ V)) ((eR_ P i).map (vl_ V))) := by
    intro f f1 f2 f3 f4 f5
    obtain ⟨d2, e2, h2⟩ := x_gL hW hn hV hi f1 (d := d1) (R := []) (fun v hv => by cases hv) (by simp) h1 (nI (g_A P i)) (fun y3 y5 t_d => f_X5_gatherSides_J214 y3 y5 t_d v n)
    have hv2 : ∀ w ∈ (gt_ (g_E P i) (g_L P i - f) f).map (vl_ V), vok_ w := by
      intro w hw
      obtain ⟨x, hx, rfl⟩ := List.mem_map.mp hw
      obtain ⟨j, j1, j2, rfl⟩ := gt_mem _ _ _ _ hx
      exact vok_vl hk (wf_e hW i hi j (by omega))
    obtain ⟨d3, e3, h3⟩ := x_gR hW hn hV ha2 f2 hv2 (by rw [List.length_map, gt_len]; omega) h2
    refine ⟨d3, ?_, ?_⟩
    · unfold f_X5_gatherSides_J167
      exact e2.trans e3
    · unfold eR_
      rw [if_neg f5, ← f3, ← f4]
      exact h3
  rcases hE with z | z | z
  · have hv : vb_ P i := ⟨by omega, by omega⟩
    have hr := (w5 hv).1
    have hb := w4 (Or.inr z)
    have hb2 : g_B P i < g_N P := by omega
    have hbL := (hW.2 _ hb2).2.1
    have f1 := fr_le (g_R P i) (g_L P (g_A P i))
    have f2 := fr_le (g_R P i) (g_L P (g_B P i))
    rw [x_R hn hN hi hv, Option.bind_some, e1, Option.bind_some, z, if_pos (by decide)]
    unfold f_X1_ownLetter
    rw [Option.bind_some, show (20004 : Int32) + nI i = nI (20004 + i) from nI_add 20004 i, x_value hV own, Option.bind_some]
    have vo1 := vok_vl hk own
    have vo2 := vok_vl hk (fc_ok hW ha2 (fA_ P i))
    have vo3 := vok_vl hk (fc_ok hW hb2 (fB_ P i))
    obtain ⟨d2, e2, h2⟩ := (rd_add h1 (fun v hv => by cases hv) (fun v hv => by cases hv) (by simp)).1 _ vo1
    rw [e2, Option.bind_some, x_B hn hN hi (Or.inr z), Option.bind_some, x_fr hn hN ha2 hr haL, Option.bind_some, x_joined hW hn ha2 (by omega), Option.bind_some, x_value hV (fc_ok hW ha2 _), Option.bind_some]
    have hs1 : ∀ w ∈ [] ++ [vl_ V (20004 + i)], vok_ w := vok_snoc (fun v hv => by cases hv) vo1
    obtain ⟨d3, e3, h3⟩ := (rd_add h2 hs1 (fun v hv => by cases hv) (by simp)).2 _ vo2
    rw [show f_X4_add d2 1 (nI (vl_ V (fc_ P (g_A P i) (fr_ (g_R P i) (g_L P (g_A P i)))))) = some d3 from e3, Option.bind_some, x_fr hn hN hb2 hr hbL, Option.bind_some, x_joined hW hn hb2 (by omega), Option.bind_some, x_value hV (fc_ok hW hb2 _), Option.bind_some]
    obtain ⟨d4, e4, h4⟩ := (rd_add h3 hs1 (vok_snoc (fun v hv => by cases hv) vo2) (by simp)).2 _ vo3
    rw [show f_X4_add d3 1 (nI (vl_ V (fc_ P (g_B P i) (fr_ (g_R P i) (g_L P (g_B P i)))))) = some d4 from e4, Option.bind_some]
    refine ⟨d4, rfl, ?_⟩
    unfold eL_ eR_
    rw [if_neg (by omega), if_pos z]
    exact h4
  · have hv : vb_ P i := ⟨by omega, by omega⟩
    have hr := (w5 hv).1
    have f1 := fr_le (g_R P i) (g_L P (g_A P i))
    have hLi : g_L P i = fA_ P i + 1 := by
      rw [(w5 hv).2.1]
      unfold dv_L
      rw [if_neg (by omega), if_neg (by omega), if_neg (by omega), if_neg (by omega)]
    rw [x_R hn hN hi hv, Option.bind_some, e1, Option.bind_some, z, if_neg (by decide), if_pos (by decide), x_fr hn hN ha2 hr haL, Option.bind_some]
    refine tail (fA_ P i) (by omega) f1 (by unfold eF_; rw [if_pos z]) ?_ (by omega)
    unfold eL_
    rw [if_neg (by omega), hLi, show fA_ P i + 1 - fA_ P i = 1 by omega]
    show [g_E P i (fA_ P i)] = _
    rw [(w5 hv).2.2 (fA_ P i) (by omega)]
    unfold dv_E
    rw [if_neg (by omega), if_neg (by omega), if_neg (by omega), if_neg (by omega), if_neg (by omega)]
  · have hnv : ¬ vb_ P i := fun q => by unfold vb_ at q; omega
    have hrk : f_X1_rankOf n (nI i) = some (-11) := by
      unfold f_X1_rankOf
      rw [ld_nI (by omega) (by omega), Option.bind_some, (hn.2 i hi).2.2.2.2.2.2.1 hnv]
    rw [hrk, Option.bind_some, e1, Option.bind_some, z, if_neg (by decide), if_neg (by decide)]
    refine tail 0 (by omega) (by omega) (by unfold eF_; rw [if_neg (by omega)]) ?_ (by omega)
    unfold eL_
    rw [if_pos z, Nat.sub_zero]
theorem x_gather0 {P : Pg_} (hW : Wf_ P) {v n : Ob_T} (hn : Rn_ n P) {i : Nat} (hi : i < g_N P) (hE : ¬ isE_ P i) (d : Ob_T) : f_X5_gatherSides v d n (nI i) = some (0, d) := by
  have hN := hW.1
  have hK := (hW.2 i hi).1
  unfold f_X5_gatherSides
  unfold isE_ at hE
  rw [x_K hn hN hi, Option.bind_some, if_neg (show ¬ nI (g_K P i) = 2 from fun z => hE (Or.inl ((nI_eq (b := 2) (by omega) (by omega)).mp z))), if_neg (show ¬ nI (g_K P i) = 5 from fun z => hE (Or.inr (Or.inl ((nI_eq (b := 5) (by omega) (by omega)).mp z)))), if_neg (show ¬ nI (g_K P i) = 6 from fun z => hE (Or.inr (Or.inr ((nI_eq (b := 6) (by omega) (by omega)).mp z))))]
