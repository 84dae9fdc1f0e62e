/-! some open letters are chosen: a letter that is alike such a one is that number -/
def sg_ (c : Nat → Int32) (a : Nat) : Nat := if 20000 ≤ a ∧ a < 20004 ∧ ¬ c (a - 20000) = -1 then (c (a - 20000)).toNatClampNeg else a
def sgS_ (c : Nat → Int32) (S : Sv_) : Sv_ := (fun l => sg_ c (S.1 l), S.2)
/-- a choice: of letters 0 .. 3 digits, or none -/
def Ch_ (c : Nat → Int32) : Prop := ∀ l, l < 4 → gv_ok (c l)
theorem sg_num {c : Nat → Int32} {a : Nat} (h : a < 20000) : sg_ c a = a := by
  unfold sg_
  rw [if_neg (by omega)]
theorem sg_let {c : Nat → Int32} {l : Nat} (hl : l < 4) (hc : ¬ c l = -1) : sg_ c (20000 + l) = (c l).toNatClampNeg := by
  unfold sg_
  rw [show 20000 + l - 20000 = l by omega, if_pos ⟨by omega, by omega, hc⟩]
theorem sg_no {c : Nat → Int32} {l : Nat} (hc : ¬ (l < 4 ∧ ¬ c l = -1)) : sg_ c (20000 + l) = 20000 + l := by
  unfold sg_
  rw [show 20000 + l - 20000 = l by omega, if_neg (fun z => hc ⟨by omega, z.2.2⟩)]
theorem ch_dig {c : Nat → Int32} (h : Ch_ c) {l : Nat} (hl : l < 4) (hc : ¬ c l = -1) : ∃ k, k ≤ 9 ∧ c l = nI k ∧ (c l).toNatClampNeg = k := by
  rcases h l hl with z | ⟨k, hk, z⟩
  · exact absurd z hc
  · exact ⟨k, hk, z, by rw [z]; exact nI_clamp (by omega)⟩
theorem sg_cases {c : Nat → Int32} (h : Ch_ c) (a : Nat) : (sg_ c a = a) ∨ (sg_ c a ≤ 9 ∧ ∃ l, l < 4 ∧ ¬ c l = -1 ∧ a = 20000 + l) := by
  unfold sg_
  by_cases q : 20000 ≤ a ∧ a < 20004 ∧ ¬ c (a - 20000) = -1
  · rw [if_pos q]
    obtain ⟨k, hk, e1, e2⟩ := ch_dig h (show a - 20000 < 4 by omega) q.2.2
    exact Or.inr ⟨by omega, a - 20000, by omega, q.2.2, by omega⟩
  · rw [if_neg q]; exact Or.inl rfl
theorem vl_sg (c : Nat → Int32) (V : Nat → Nat) (e : Nat) : vl_ (fun l => sg_ c (V l)) e = sg_ c (vl_ V e) := by
  unfold vl_
  by_cases h : e < 20000
  · rw [if_pos h, if_pos h, sg_num h]
  · rw [if_neg h, if_neg h]
/-- substituting an unchosen letter, then choosing: the same the other way round -/
theorem sg_sb {c : Nat → Int32} (h : Ch_ c) (V : Nat → Nat) {r k : Nat} (hr : ¬ (r < 4 ∧ ¬ c r = -1)) : (fun l => sg_ c (sb_ V r k l)) = sb_ (fun l => sg_ c (V l)) r (sg_ c k) := by
  funext l
  unfold sb_
  dsimp only
  by_cases q : V l = 20000 + r
  · rw [if_pos q, if_pos (show sg_ c (V l) = 20000 + r by rw [q, sg_no hr])]
  · rw [if_neg q, if_neg]
    intro z
    rcases sg_cases h (V l) with w | ⟨w, -⟩
    · rw [w] at z; exact q z
    · omega
/-- nothing failed, and the chosen ones are by themselves -/
def Gd_ (c : Nat → Int32) (S : Sv_) : Prop := S.2 = [] ∧ ∀ l, l < 4 → ¬ c l = -1 → S.1 l = 20000 + l
theorem gd_mt {c : Nat → Int32} (hc : Ch_ c) {S : Sv_} (hV : Vk_ S.1) {nd by_ ax x y : Nat} (hx : e_ok x) (hy : e_ok y) (h : Gd_ c (mt_ S nd by_ ax x y)) : Gd_ c S ∧ mt_ (sgS_ c S) nd by_ ax x y = sgS_ c (mt_ S nd by_ ax x y) := by
  by_cases f : S.2 = []
  · -- the number of a letter that is set, or the letter that goes, is not chosen
    have hs2 : (sgS_ c S).2 = [] := f
    have vx : vl_ (sgS_ c S).1 x = sg_ c (vl_ S.1 x) := vl_sg c S.1 x
    have vy : vl_ (sgS_ c S).1 y = sg_ c (vl_ S.1 y) := vl_sg c S.1 y
    unfold mt_ at h ⊢
    rw [if_pos f] at h ⊢
    rw [if_pos hs2, vx, vy]
    have num : ∀ r k, k ≤ 9999 → S.1 r = 20000 + r → Gd_ c (sb_ S.1 r k, []) → Gd_ c S ∧ ¬ (r < 4 ∧ ¬ c r = -1) := by
      intro r k hk hr hg
      have nr : ¬ (r < 4 ∧ ¬ c r = -1) := by
        intro z
        have := hg.2 r z.1 z.2
        have : sb_ S.1 r k r = 20000 + r := this
        unfold sb_ at this
        rw [if_pos hr] at this; omega
      refine ⟨⟨f, fun l hl hcl => ?_⟩, nr⟩
      have := hg.2 l hl hcl
      have : sb_ S.1 r k l = 20000 + l := this
      unfold sb_ at this
      by_cases q : S.1 l = 20000 + r
      · rw [if_pos q] at this; omega
      · rw [if_neg q] at this; exact this
    rcases vk_vl hV hx with ux | ⟨a, ha, ex, ea⟩
    · rw [if_pos (show vl_ S.1 x < 20000 by omega)] at h ⊢
      rw [sg_num (show vl_ S.1 x < 20000 by omega), if_pos (show vl_ S.1 x < 20000 by omega)]
      rcases vk_vl hV hy with uy | ⟨b, hb', ey, eb⟩
      · rw [if_pos (show vl_ S.1 y < 20000 by omega)] at h ⊢
        rw [sg_num (show vl_ S.1 y < 20000 by omega), if_pos (show vl_ S.1 y < 20000 by omega)]
        by_cases e : vl_ S.1 x = vl_ S.1 y
        · rw [if_pos e] at h ⊢
          rw [if_pos e]
          exact ⟨h, rfl⟩
        · rw [if_neg e] at h
          exact absurd h.1 (by simp)
      · rw [if_neg (show ¬ vl_ S.1 y < 20000 by omega)] at h ⊢
        rw [ey, show 20000 + b - 20000 = b by omega] at h ⊢
        obtain ⟨g1, g2⟩ := num b _ ux eb h
        rw [sg_no g2, if_neg (by omega), show 20000 + b - 20000 = b by omega]
        refine ⟨g1, Prod.ext ?_ rfl⟩
        show sb_ (fun l => sg_ c (S.1 l)) b (vl_ S.1 x) = fun l => sg_ c (sb_ S.1 b (vl_ S.1 x) l)
        rw [sg_sb hc S.1 g2, sg_num (show vl_ S.1 x < 20000 by omega)]
    · rw [if_neg (show ¬ vl_ S.1 x < 20000 by omega)] at h ⊢
      rcases vk_vl hV hy with uy | ⟨b, hb', ey, eb⟩
      · rw [if_pos (show vl_ S.1 y < 20000 by omega)] at h ⊢
        rw [ex, show 20000 + a - 20000 = a by omega] at h ⊢
        obtain ⟨g1, g2⟩ := num a _ uy ea h
        rw [sg_no g2, if_neg (show ¬ 20000 + a < 20000 by omega), sg_num (show vl_ S.1 y < 20000 by omega), if_pos (show vl_ S.1 y < 20000 by omega), show 20000 + a - 20000 = a by omega]
        refine ⟨g1, Prod.ext ?_ rfl⟩
        show sb_ (fun l => sg_ c (S.1 l)) a (vl_ S.1 y) = fun l => sg_ c (sb_ S.1 a (vl_ S.1 y) l)
        rw [sg_sb hc S.1 g2, sg_num (show vl_ S.1 y < 20000 by omega)]
      · rw [if_neg (show ¬ vl_ S.1 y < 20000 by omega)] at h ⊢
        rw [ex, ey, show max (20000 + a) (20000 + b) - 20000 = max a b by omega, show min (20000 + a) (20000 + b) = 20000 + min a b by omega] at h ⊢
        have emin : S.1 (min a b) = 20000 + min a b := by
          rcases Nat.lt_or_ge a b with z | z
          · rw [show min a b = a by omega]; exact ea
          · rw [show min a b = b by omega]; exact eb
        have emax : S.1 (max a b) = 20000 + max a b := by
          rcases Nat.lt_or_ge a b with z | z
          · rw [show max a b = b by omega]; exact eb
          · rw [show max a b = a by omega]; exact ea
        have g1 : Gd_ c S := by
          refine ⟨f, fun l hl hcl => ?_⟩
          have q1 : sb_ S.1 (max a b) (20000 + min a b) l = 20000 + l := h.2 l hl hcl
          unfold sb_ at q1
          by_cases q : S.1 l = 20000 + max a b
          · rw [if_pos q] at q1
            have : l = min a b := by omega
            rw [this]; exact emin
          · rw [if_neg q] at q1; exact q1
        -- the greater one goes: it is not chosen, or it is the same
        have gm : max a b = min a b ∨ ¬ (max a b < 4 ∧ ¬ c (max a b) = -1) := by
          by_cases q : max a b = min a b
          · exact Or.inl q
          · right
            intro z
            have q1 : sb_ S.1 (max a b) (20000 + min a b) (max a b) = 20000 + max a b := h.2 _ z.1 z.2
            unfold sb_ at q1
            rw [if_pos emax] at q1; omega
        refine ⟨g1, ?_⟩
        by_cases hab : a = b
        · subst hab
          have e0 : (sb_ S.1 (max a a) (20000 + min a a)) = S.1 := by
            funext l
            unfold sb_
            rw [show max a a = a by omega, show min a a = a by omega]
            by_cases q : S.1 l = 20000 + a
            · rw [if_pos q, q]
            · rw [if_neg q]
          rw [e0, show ((S.1, []) : Sv_) = S from Prod.ext rfl f.symm]
          by_cases ca : a < 4 ∧ ¬ c a = -1
          · obtain ⟨k, hk, e1, e2⟩ := ch_dig hc ca.1 ca.2
            rw [sg_let ca.1 ca.2, if_pos (by omega), if_pos (by omega), if_pos rfl]
          · rw [sg_no ca, if_neg (by omega), if_neg (by omega), show max (20000 + a) (20000 + a) - 20000 = a by omega, show min (20000 + a) (20000 + a) = 20000 + a by omega]
            refine Prod.ext ?_ f.symm
            show sb_ (fun l => sg_ c (S.1 l)) a (20000 + a) = fun l => sg_ c (S.1 l)
            funext l
            unfold sb_
            by_cases q : sg_ c (S.1 l) = 20000 + a
            · rw [if_pos q, q]
            · rw [if_neg q]
        · have g2 : ¬ (max a b < 4 ∧ ¬ c (max a b) = -1) := by
            rcases gm with z | z
            · omega
            · exact z
          by_cases cm : min a b < 4 ∧ ¬ c (min a b) = -1
          · -- the lesser one is chosen: the other becomes that number
            obtain ⟨k, hk, e1, e2⟩ := ch_dig hc cm.1 cm.2
            have esg : sg_ c (20000 + min a b) = k := by rw [sg_let cm.1 cm.2, e2]
            have fin : (sb_ (fun l => sg_ c (S.1 l)) (max a b) k, []) = sgS_ c (sb_ S.1 (max a b) (20000 + min a b), []) := by
              refine Prod.ext ?_ rfl
              show sb_ (fun l => sg_ c (S.1 l)) (max a b) k = fun l => sg_ c (sb_ S.1 (max a b) (20000 + min a b) l)
              rw [sg_sb hc S.1 g2, esg]
            rcases Nat.lt_or_ge a b with z | z
            · rw [show min a b = a by omega] at esg
              rw [show max a b = b by omega] at g2
              rw [esg, sg_no g2, if_pos (by omega), if_neg (by omega), ← fin, show 20000 + b - 20000 = b by omega, show max a b = b by omega]
              rfl
            · rw [show min a b = b by omega] at esg
              rw [show max a b = a by omega] at g2
              rw [esg, sg_no g2, if_neg (by omega), if_pos (by omega), ← fin, show 20000 + a - 20000 = a by omega, show max a b = a by omega]
              rfl
          · have ga : ¬ (a < 4 ∧ ¬ c a = -1) := by
              rcases Nat.lt_or_ge a b with z | z
              · rw [show min a b = a by omega] at cm; exact cm
              · rw [show max a b = a by omega] at g2; exact g2
            have gb : ¬ (b < 4 ∧ ¬ c b = -1) := by
              rcases Nat.lt_or_ge a b with z | z
              · rw [show max a b = b by omega] at g2; exact g2
              · rw [show min a b = b by omega] at cm; exact cm
            rw [sg_no ga, sg_no gb, if_neg (by omega), if_neg (by omega), show max (20000 + a) (20000 + b) - 20000 = max a b by omega, show min (20000 + a) (20000 + b) = 20000 + min a b by omega]
            refine Prod.ext ?_ rfl
            show sb_ (fun l => sg_ c (S.1 l)) (max a b) (20000 + min a b) = fun l => sg_ c (sb_ S.1 (max a b) (20000 + min a b) l)
            rw [sg_sb hc S.1 g2, sg_no cm]
  · rw [mt_f f] at h
    exact absurd h.1 f
theorem gd_mlp {c : Nat → Int32} (hc : Ch_ c) {g : Nat → Nat × Nat} {nd by_ : Nat} : ∀ (n k : Nat), (∀ j, k ≤ j → j < k + n → e_ok (g j).1 ∧ e_ok (g j).2) → ∀ {S : Sv_}, Vk_ S.1 → Gd_ c (mlp_ g nd by_ n k S) → Gd_ c S ∧ mlp_ g nd by_ n k (sgS_ c S) = sgS_ c (mlp_ g nd by_ n k S)
  | 0, _, _, _, _, h => ⟨h, rfl⟩
  | n + 1, k, hg, S, hV, h => by
    have e := hg k (by omega) (by omega)
    obtain ⟨a, b⟩ := gd_mlp hc n (k + 1) (fun j h1 h2 => hg j (by omega) (by omega)) (S := mt_ S nd by_ k (g k).1 (g k).2) (vk_mt hV e.1 e.2) h
    obtain ⟨a2, b2⟩ := gd_mt hc hV e.1 e.2 a
    refine ⟨a2, ?_⟩
    show mlp_ g nd by_ n (k + 1) (mt_ (sgS_ c S) nd by_ k (g k).1 (g k).2) = _
    rw [b2, b]
    rfl
theorem vk_mlp {g : Nat → Nat × Nat} {nd by_ n k : Nat} (hg : ∀ j, k ≤ j → j < k + n → e_ok (g j).1 ∧ e_ok (g j).2) {S : Sv_} (hV : Vk_ S.1) : Vk_ (mlp_ g nd by_ n k S).1 :=
  mlp_pres (Z := fun S => Vk_ S.1) n k (fun S j h1 h2 h => vk_mt h (hg j h1 h2).1 (hg j h1 h2).2) hV
theorem gd_mnd {c : Nat → Int32} (hc : Ch_ c) {P : Pg_} (hW : Wf_ P) {i : Nat} (hi : i < g_N P) {S : Sv_} (hV : Vk_ S.1) (h : Gd_ c (mnd_ P i S)) : Gd_ c S ∧ mnd_ P i (sgS_ c S) = sgS_ c (mnd_ P i S) := by
  unfold mnd_ at h ⊢
  by_cases k : g_K P i = 1 ∨ g_K P i = 2
  · obtain ⟨⟨a1, a2, a3⟩, ⟨b1, b2, b3⟩, hr, hN⟩ := two_at hW ⟨hi, k⟩
    have hcA : cA_ P i = g_L P (g_A P i) - fA_ P i := rfl
    have hcB : cB_ P i = g_L P (g_B P i) - fB_ P i := rfl
    rw [if_pos k] at h ⊢
    rw [if_pos k]
    have eF : ∀ j, 0 ≤ j → j < 0 + min (fA_ P i) (fB_ P i) → e_ok (gF_ P i j).1 ∧ e_ok (gF_ P i j).2 := fun j _ hj => ⟨wf_e hW _ a1 j (by omega), wf_e hW _ b1 j (by omega)⟩
    have eC : ∀ j, g_K P i - 1 ≤ j → j < g_K P i - 1 + (min (cA_ P i) (cB_ P i) - (g_K P i - 1)) → e_ok (gC_ P i j).1 ∧ e_ok (gC_ P i j).2 := fun j _ hj => ⟨wf_e hW _ a1 (fA_ P i + j) (by omega), wf_e hW _ b1 (fB_ P i + j) (by omega)⟩
    obtain ⟨p1, p2⟩ := gd_mlp hc _ _ eC (vk_mlp eF hV) h
    obtain ⟨q1, q2⟩ := gd_mlp hc _ _ eF hV p1
    exact ⟨q1, by rw [q2, p2]⟩
  · rw [if_neg k] at h ⊢
    rw [if_neg k]
    exact ⟨h, rfl⟩
theorem gd_mal {c : Nat → Int32} (hc : Ch_ c) {P : Pg_} (hW : Wf_ P) : ∀ (n i : Nat), i + n ≤ g_N P → ∀ {S : Sv_}, Vk_ S.1 → Gd_ c (mal_ P n i S) → Gd_ c S ∧ mal_ P n i (sgS_ c S) = sgS_ c (mal_ P n i S)
  | 0, _, _, _, _, h => ⟨h, rfl⟩
  | n + 1, i, hi, S, hV, h => by
    have hv2 : Vk_ (mnd_ P i S).1 := mnd_pres hW (Z := fun S => Vk_ S.1) (fun S nd by_ ax a j b k ha hj hb hk h => vk_mt h (wf_e hW a ha j hj) (wf_e hW b hb k hk)) (by omega) hV
    obtain ⟨a, b⟩ := gd_mal hc hW n (i + 1) (by omega) (S := mnd_ P i S) hv2 h
    obtain ⟨a2, b2⟩ := gd_mnd hc hW (show i < g_N P by omega) hV a
    refine ⟨a2, ?_⟩
    show mal_ P n (i + 1) (mnd_ P i (sgS_ c S)) = _
    rw [b2, b]
    rfl
/-- given and chosen together -/
def gc_ (gv c : Nat → Int32) : Nat → Int32 := fun l => if c l = -1 then gv l else c l
/-- all that is equal, met with the chosen ones given: the same as met ahead, then chosen -/
theorem MA_choose {c : Nat → Int32} (hc : Ch_ c) {P : Pg_} (hW : Wf_ P) {gv : Nat → Int32} (hg : ∀ l, l < 4 → gv_ok (gv l)) (h : Gd_ c (MA_ P gv)) : MA_ P (gc_ gv c) = sgS_ c (MA_ P gv) := by
  unfold MA_ at h ⊢
  obtain ⟨a, b⟩ := gd_mal hc hW (g_N P) 0 (by omega) (S := (v0_ gv, [])) (vk_v0 hg) h
  rw [← b]
  refine congrArg _ (Prod.ext ?_ rfl)
  show v0_ (gc_ gv c) = fun l => sg_ c (v0_ gv l)
  funext l
  have a2 : ∀ l, l < 4 → ¬ c l = -1 → v0_ gv l = 20000 + l := a.2
  by_cases q : l < 4 ∧ ¬ c l = -1
  · rw [a2 l q.1 q.2, sg_let q.1 q.2]
    unfold v0_ gc_
    rw [if_neg q.2, if_pos ⟨q.1, q.2⟩]
  · have e : v0_ (gc_ gv c) l = v0_ gv l := by
      unfold v0_ gc_
      by_cases l4 : l < 4
      · have : c l = -1 := by
          by_cases z : c l = -1
          · exact z
          · exact absurd ⟨l4, z⟩ q
        rw [if_pos this]
      · rw [if_neg (fun z => l4 z.1), if_neg (fun z => l4 z.1)]
    rw [e]
    unfold v0_
    by_cases z : l < 4 ∧ ¬ gv l = -1
    · rw [if_pos z]
      rcases hg l z.1 with w | ⟨k, hk, w⟩
      · exact absurd w z.2
      · rw [w, nI_clamp (by omega), sg_num (by omega)]
    · rw [if_neg z, sg_no q]
