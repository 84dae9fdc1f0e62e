theorem rk_t1 (P : Pg_) (i : Nat) {t : Tr4_} (h : t.2.2.2 ≤ 1) : (rk_ P i t).2.2.2 ≤ 1 := by
  by_cases c : t.1.2 = [] ∧ isE_ P i
  · rw [rk_E c.1 c.2]
    dsimp only
    by_cases q : (eqn_ P i t.1.1).1 = 3
    · rw [if_pos q]
      unfold eqn_ at q ⊢
      by_cases h1 : nl_ ((eL_ P i).map (vl_ t.1.1)) + nl_ ((eR_ P i).map (vl_ t.1.1)) ≤ 1
      · rw [(eqv_sp _ h1).2.2 q]
        by_cases z : ¬ g_K P i = 2 ∧ (BD_ < pd_ ((eL_ P i).map (vl_ t.1.1)) ∨ BD_ < pd_ ((eR_ P i).map (vl_ t.1.1)))
        · rw [if_pos z]; omega
        · rw [if_neg z]; omega
      · unfold eqv_
        rw [if_pos (by omega)]
        exact Nat.zero_le _
    · rw [if_neg q]; exact h
  · unfold rk_
    rw [if_neg (show ¬ (t.1.2 = [] ∧ (g_K P i = 2 ∨ g_K P i = 5 ∨ g_K P i = 6)) from c)]
    exact h
theorem rds_t1 (P : Pg_) : ∀ (c i : Nat) {t : Tr4_}, t.2.2.2 ≤ 1 → (rds_ P c i t).2.2.2 ≤ 1
  | 0, _, _, h => h
  | c + 1, i, _, h => rds_t1 P c (i + 1) (rk_t1 P i h)
theorem sto_t1 {P : Pg_} : ∀ (r : Nat) (S : Sv_) (too : Nat), too ≤ 1 → (sto_ P r S too).2 ≤ 1
  | 0, _, _, h => h
  | r + 1, S, too, h => by
    rw [sto_s]
    have h1 : (rnd_ P S too).2.2.2 ≤ 1 := rds_t1 P _ _ h
    by_cases c : (rnd_ P S too).2.1 = 1 ∧ (rnd_ P S too).1.2 = []
    · rw [if_pos c]; exact sto_t1 r _ _ h1
    · rw [if_neg c]; exact h1
def Ww_ (w : Ob_T) (B I : Int32) (c : Nat → Int32) : Prop := o_F w 3 = B ∧ o_F w 4 = I ∧ ∀ l, l < 4 → o_A w 1 l = c l
/-- the first way: told where none was found ahead and one was found now -/
def Ff_ (w w' : Ob_T) (ah cn : Nat) (fw : Nat → Int32) : Prop := ((ah = 0 ∧ ¬ cn = 0) → ∀ l, l < 4 → o_A w' 2 l = fw l) ∧ (¬ (ah = 0 ∧ ¬ cn = 0) → ∀ l, l < 4 → o_A w' 2 l = o_A w 2 l)
section
variable {P : Pg_} {n : Ob_T} {V : Nat → Nat} {op : Nat → Bool} {B I : Int32}
/-- what the recursion needs of its world -/
def Wc_ (P : Pg_) (n : Ob_T) (V : Nat → Nat) (op : Nat → Bool) (B I : Int32) : Prop := Wf_ P ∧ Rn_ n P ∧ Vk_ V ∧ Hi_ V ∧ (∀ l, l < 4 → tb_ B l = op l) ∧ (∀ l, l < 4 → op l = true → V l = 20000 + l) ∧ ∀ l, l < 4 → (tb_ I l = true ↔ Ie_ P V l)
/-- the recursion's promise for so many letters -/
def Wp_ (P : Pg_) (n : Ob_T) (V : Nat → Nat) (op : Nat → Bool) (B I : Int32) (m : Nat) (slf : Ob_T → Ob_T → Ob_T → Ob_T → Int32 → Int32 → Option (Int32 × Ob_T × Ob_T × Ob_T)) : Prop :=
  ∀ (w v d : Ob_T) (c : Nat → Int32) (ah : Nat), Ww_ w B I c → Cf_ op (4 - m) c → Rs_ (o_A v 2) (o_A v 4) V → ah + 10 ^ m ≤ 20000 → ∃ w' v' d', slf w v d n (nI (4 - m)) (nI ah) = some (nI (cnA_ (okc_ P V) op m c), w', v', d') ∧ Ww_ w' B I c ∧ Ff_ w w' ah (cnA_ (okc_ P V) op m c) (fwA_ (okc_ P V) op m c) ∧ Rs_ (o_A v' 2) (o_A v' 4) V
theorem okc_le (P : Pg_) (V : Nat → Nat) (c : Nat → Int32) : okc_ P V c ≤ 1 := by
  unfold okc_
  by_cases q : (rn_ P (fun l => sg_ c (V l))).1.2 = []
  · rw [if_pos q]; omega
  · rw [if_neg q]; omega
theorem cf_open (hC : Wc_ P n V op B I) {l : Nat} {c : Nat → Int32} (h : Cf_ op l c) : ∀ j, j < 4 → ¬ c j = -1 → V j = 20000 + j := fun j hj hn => hC.2.2.2.2.2.1 j hj (h.2 j hj hn).1
theorem x_ways0 (hC : Wc_ P n V op B I) (dd : Nat) : Wp_ P n V op B I 0 (f_X7_waysFrom (dd + 1)) := by
  intro w v d c ah hw hc hR ha
  obtain ⟨hW, hn, hV, hH, -⟩ := id hC
  show ∃ w' v' d', f_X7_waysFrom_B (f_X7_waysFrom dd) w v d n (nI 4) (nI ah) = _ ∧ _
  unfold f_X7_waysFrom_B f_X7_waysAsSettled
  rw [if_neg (show ¬ nI 4 < 4 by decide)]
  obtain ⟨v1, d1, e1, hR1, -, a2, a4⟩ := x_with hW hn hR hw.2.2 hc.1 (cf_open hC hc) d
  rw [e1, Option.bind_some]
  dsimp only
  rw [x_failed hR1, Option.bind_some]
  have hR' : Rs_ (o_A v1 2) (o_A v1 4) V := by rw [a2, a4]; exact hR
  show ∃ w' v' d', _ = some (nI (okc_ P V c), w', v', d') ∧ Ww_ w' B I c ∧ Ff_ w w' ah (okc_ P V c) c ∧ _
  by_cases q : (rn_ P (fun l => sg_ c (V l))).1.2 = []
  · have ek : okc_ P V c = 1 := by unfold okc_; rw [if_pos q]
    rw [ek, if_pos q, if_pos rfl]
    by_cases a0 : ah = 0
    · subst a0
      rw [if_pos (show nI 0 = 0 from rfl), show cp_I (o_A w 1) (o_A w 2) 4 4 0 0 4 = some (va_cpy (o_A w 1) (o_A w 2) 0 0 4) from cp_nI (a := 0) (b := 0) (c := 4) (by omega) (by omega) (by omega) (by omega), Option.bind_some, Lt_E, Option.bind_some]
      refine ⟨p_A w 2 (va_cpy (o_A w 1) (o_A w 2) 0 0 4), v1, d1, rfl, hw, ⟨fun _ l hl => ?_, fun z => absurd ⟨rfl, by omega⟩ z⟩, hR'⟩
      show va_cpy (o_A w 1) (o_A w 2) 0 0 4 l = c l
      have := cpy_in (f := o_A w 1) (g := o_A w 2) (a := 0) (b := 0) (c := 4) hl
      rw [Nat.zero_add] at this
      rw [this]; exact hw.2.2 l hl
    · rw [if_neg (nI_ne0 (by omega) (by omega)), Option.bind_some]
      exact ⟨w, v1, d1, rfl, hw, ⟨fun z => absurd z.1 a0, fun _ _ _ => rfl⟩, hR'⟩
  · have ek : okc_ P V c = 0 := by unfold okc_; rw [if_neg q]
    rw [ek, if_neg q, if_neg n_10, Option.bind_some]
    exact ⟨w, v1, d1, rfl, hw, ⟨fun z => absurd rfl z.2, fun _ _ _ => rfl⟩, hR'⟩
/-- the loop over a letter's digits from lo to hi, none of the others having a way -/
theorem x_digits (hC : Wc_ P n V op B I) {m l lo hi : Nat} (hm : m ≤ 3) (hl : l = 3 - m) (hop : op l = true) {slf : Ob_T → Ob_T → Ob_T → Ob_T → Int32 → Int32 → Option (Int32 × Ob_T × Ob_T × Ob_T)} (ih : Wp_ P n V op B I m slf) {c : Nat → Int32} (hc : Cf_ op l c) {w v d : Ob_T} (hw : Ww_ w B I c) (hR : Rs_ (o_A v 2) (o_A v 4) V) {ah : Nat} (ha : ah + 10 ^ (m + 1) ≤ 20000) (hlh : lo ≤ hi) (hhi : hi ≤ 9)
    (z1 : ∀ d, d < lo → cnA_ (okc_ P V) op m (upd c l (nI d)) = 0) (z2 : ∀ d, hi < d → d < 10 → cnA_ (okc_ P V) op m (upd c l (nI d)) = 0) :
    ∃ w' v' d', f_X7_waysFrom_J172 slf (nI l) (nI ah) (nI lo) (nI hi) w v d n = some (nI (sB_ (fun d => cnA_ (okc_ P V) op m (upd c l (nI d))) 10), w', v', d') ∧ Ww_ w' B I c ∧ Ff_ w w' ah (sB_ (fun d => cnA_ (okc_ P V) op m (upd c l (nI d))) 10) (fwA_ (okc_ P V) op m (upd c l (nI (fd_ (fun d => cnA_ (okc_ P V) op m (upd c l (nI d))) 10)))) ∧ Rs_ (o_A v' 2) (o_A v' 4) V := by
  have hcl : c l = -1 := by
    by_cases q : c l = -1
    · exact q
    · exact absurd (hc.2 l (by omega) q).2 (by omega)
  have bl : ∀ d, cnA_ (okc_ P V) op m (upd c l (nI d)) ≤ 10 ^ m := fun d => cnA_le (okc_le P V) m _
  generalize hb : (fun d => cnA_ (okc_ P V) op m (upd c l (nI d))) = b at *
  have hbd : ∀ d, cnA_ (okc_ P V) op m (upd c l (nI d)) = b d := fun d => by rw [← hb]
  have eT := sB_tail (g := b) (k := hi + 1) (10 - (hi + 1)) (fun d h1 h2 => by rw [← hbd]; exact z2 d (by omega) (by omega))
  rw [show hi + 1 + (10 - (hi + 1)) = 10 by omega] at eT
  rw [eT.1, eT.2]
  unfold f_X7_waysFrom_J172
  refine lp_fu (P := fun r => ∃ w' v' d', r = some (nI (sB_ b (hi + 1)), w', v', d') ∧ Ww_ w' B I c ∧ Ff_ w w' ah (sB_ b (hi + 1)) (fwA_ (okc_ P V) op m (upd c l (nI (fd_ b (hi + 1))))) ∧ Rs_ (o_A v' 2) (o_A v' 4) V)
    (fun k x => ∃ dg w1 v1 d1, lo ≤ dg ∧ dg ≤ hi + 1 ∧ k = hi + 1 - dg + 1 ∧ x = (nI l, nI ah, nI hi, nI (sB_ b dg), nI dg, w1, v1, d1) ∧ (o_F w1 3 = B ∧ o_F w1 4 = I ∧ ∀ j, j < 4 → j ≠ l → o_A w1 1 j = c j) ∧ Ff_ w w1 ah (sB_ b dg) (fwA_ (okc_ P V) op m (upd c l (nI (fd_ b dg)))) ∧ Rs_ (o_A v1 2) (o_A v1 4) V) ?_ ?_ (hi + 1 - lo + 1) _ ⟨lo, w, v, d, by omega, by omega, rfl, by rw [sB_0 lo (fun d hd => by rw [← hbd]; exact z1 d hd)]; rfl, ⟨hw.1, hw.2.1, fun j hj _ => hw.2.2 j hj⟩, ⟨fun z => absurd (sB_0 lo (fun d hd => by rw [← hbd]; exact z1 d hd)) z.2, fun _ _ _ => rfl⟩, hR⟩ (by omega)
  · rintro x ⟨dg, w1, v1, d1, h1, h2, h3, -⟩
    omega
  · rintro k x rec ⟨dg, w1, v1, d1, h1, h2, h3, rfl, ⟨g1, g2, g3⟩, hff, hR1⟩ hr
    unfold f_X7_waysFrom_L181
    dsimp only
    by_cases he : dg = hi + 1
    · subst he
      rw [if_pos (nI_lt (by omega) (by omega))]
      unfold f_X7_waysFrom_J218
      rw [st_nI (by omega) (by omega), Option.bind_some]
      refine ⟨_, _, _, rfl, ⟨g1, g2, fun j hj => ?_⟩, hff, hR1⟩
      show upd (o_A w1 1) l (-1) j = c j
      rw [updE]
      by_cases q : j = l
      · rw [if_pos q, q, hcl]
      · rw [if_neg q]; exact g3 j hj q
    · have hdg : dg ≤ 9 := by omega
      rw [if_neg (nI_nlt (by omega) (by omega)), st_nI (by omega) (by omega), Option.bind_some]
      have hw2 : Ww_ (p_A w1 1 (upd (o_A w1 1) l (nI dg))) B I (upd c l (nI dg)) := by
        refine ⟨g1, g2, fun j hj => ?_⟩
        show upd (o_A w1 1) l (nI dg) j = upd c l (nI dg) j
        rw [updE, updE]
        by_cases q : j = l
        · rw [if_pos q, if_pos q]
        · rw [if_neg q, if_neg q]; exact g3 j hj q
      have hc2 := cf_upd hc hop (by omega) hdg
      rw [show l + 1 = 4 - m by omega] at hc2
      have sle : sB_ b dg ≤ dg * 10 ^ m := sB_le dg (fun d _ => by rw [← hbd]; exact bl d)
      have sle2 : dg * 10 ^ m ≤ 9 * 10 ^ m := Nat.mul_le_mul_right _ hdg
      have pw : 10 ^ (m + 1) = 10 * 10 ^ m := by rw [Nat.pow_succ, Nat.mul_comm]
      obtain ⟨w2, v2, d2, e2, p1, p2, p3⟩ := ih (p_A w1 1 (upd (o_A w1 1) l (nI dg))) v1 d1 (upd c l (nI dg)) (ah + sB_ b dg) hw2 hc2 hR1 (by omega)
      rw [nI_1, show l + 1 = 4 - m by omega, nI_add, e2, Option.bind_some]
      dsimp only
      rw [hbd] at p2
      have es : sB_ b (dg + 1) = sB_ b dg + b dg := rfl
      have ef : fd_ b (dg + 1) = if sB_ b dg = 0 ∧ ¬ b dg = 0 then dg else fd_ b dg := rfl
      refine hr _ ⟨dg + 1, w2, v2, d2, by omega, by omega, by omega, by rw [hbd, nI_add, nI_1]; rfl, ⟨p1.1, p1.2.1, fun j hj hjl => ?_⟩, ⟨fun z => ?_, fun z j hj => ?_⟩, p3⟩
      · rw [p1.2.2 j hj, updE, if_neg hjl]
      · by_cases q : sB_ b dg = 0
        · have hbn : ¬ b dg = 0 := by omega
          rw [ef, if_pos ⟨q, hbn⟩]
          exact p2.1 ⟨by omega, hbn⟩
        · rw [ef, if_neg (fun w => q w.1)]
          intro j hj
          rw [p2.2 (fun w => q (by omega)) j hj]
          exact hff.1 ⟨z.1, q⟩ j hj
      · have hn : ¬ (ah + sB_ b dg = 0 ∧ ¬ b dg = 0) := fun w => z ⟨by omega, by omega⟩
        rw [p2.2 hn j hj]
        exact hff.2 (fun w => z ⟨w.1, by omega⟩) j hj
theorem x_waysS (hC : Wc_ P n V op B I) {m : Nat} (hm : m ≤ 3) {dd : Nat} (ih : Wp_ P n V op B I m (f_X7_waysFrom dd)) : Wp_ P n V op B I (m + 1) (f_X7_waysFrom (dd + 1)) := by
  intro w v d c ah hw hc hR ha
  obtain ⟨hW, hn, hV, hH, hB, ho, hI⟩ := id hC
  have pw : 10 ^ (m + 1) = 10 * 10 ^ m := by rw [Nat.pow_succ, Nat.mul_comm]
  obtain ⟨l, hl⟩ : ∃ l, l = 3 - m := ⟨_, rfl⟩
  have e4 : 4 - (m + 1) = l := by omega
  rw [e4] at hc ⊢
  have hl4 : l < 4 := by omega
  have el : nI l + 1 = nI (4 - m) := by rw [nI_1]; exact congrArg nI (by omega)
  have ecn : cnA_ (okc_ P V) op (m + 1) c = if op l = true then sB_ (fun d => cnA_ (okc_ P V) op m (upd c l (nI d))) 10 else cnA_ (okc_ P V) op m c := by rw [hl]; rfl
  have efw : fwA_ (okc_ P V) op (m + 1) c = if op l = true then fwA_ (okc_ P V) op m (upd c l (nI (fd_ (fun d => cnA_ (okc_ P V) op m (upd c l (nI d))) 10))) else fwA_ (okc_ P V) op m c := by rw [hl]; rfl
  have hcl : c l = -1 := by
    by_cases q : c l = -1
    · exact q
    · exact absurd (hc.2 l hl4 q).2 (by omega)
  show ∃ w' v' d', f_X7_waysFrom_B (f_X7_waysFrom dd) w v d n (nI l) (nI ah) = _ ∧ _
  unfold f_X7_waysFrom_B f_X7_isOpen
  rw [if_pos (show nI l < 4 from nI_lt (b := 4) hl4 (by omega)), hw.1, tb_has B (by omega), hB l hl4, el, hw.2.1]
  cases hop : op l
  · -- not open
    rw [if_neg (by decide), Option.bind_some, if_pos rfl]
    rw [hop] at ecn efw
    rw [if_neg (by decide)] at ecn efw
    have hc2 : Cf_ op (4 - m) c := ⟨hc.1, fun j hj hn => ⟨(hc.2 j hj hn).1, by have := (hc.2 j hj hn).2; omega⟩⟩
    obtain ⟨w1, v1, d1, e1, p1, p2, p3⟩ := ih w v d c ah hw hc2 hR (by omega)
    rw [e1, Option.bind_some, ecn, efw]
    exact ⟨w1, v1, d1, rfl, p1, p2, p3⟩
  · rw [if_pos (by decide), Option.bind_some, if_neg n_10, tb_has I (by omega)]
    rw [hop] at ecn efw
    rw [if_pos rfl] at ecn efw
    cases hie : tb_ I l
    · -- in no equation: all digits are alike
      have nie : ¬ Ie_ P V l := fun z => by have := (hI l hl4).mpr z; rw [hie] at this; exact absurd this (by decide)
      rw [if_pos (by decide), st_nI (by omega) (by omega), Option.bind_some]
      have hw2 : Ww_ (p_A w 1 (upd (o_A w 1) l 0)) B I (upd c l (nI 0)) := by
        refine ⟨hw.1, hw.2.1, fun j hj => ?_⟩
        show upd (o_A w 1) l 0 j = upd c l (nI 0) j
        rw [updE, updE]
        by_cases q : j = l
        · rw [if_pos q, if_pos q]; rfl
        · rw [if_neg q, if_neg q]; exact hw.2.2 j hj
      have hc2 := cf_upd hc hop hl4 (show 0 ≤ 9 by omega)
      rw [show l + 1 = 4 - m by omega] at hc2
      obtain ⟨w1, v1, d1, e1, p1, p2, p3⟩ := ih _ v d _ ah hw2 hc2 hR (by omega)
      rw [e1, Option.bind_some]
      dsimp only
      rw [st_nI (by omega) (by omega), Option.bind_some]
      have const : ∀ dg, dg < 10 → cnA_ (okc_ P V) op m (upd c l (nI dg)) = cnA_ (okc_ P V) op m (upd c l (nI 0)) := by
        intro dg _
        refine cnA_ie (l := l) (fun c c' h => ok_ie nie h) m _ _ (fun j hj => ?_)
        rw [updE, updE, if_neg hj, if_neg hj]
      have esum := sB_const (g := fun d => cnA_ (okc_ P V) op m (upd c l (nI d))) (a := cnA_ (okc_ P V) op m (upd c l (nI 0))) 10 const
      rw [ecn, esum]
      refine ⟨p_A w1 1 (upd (o_A w1 1) l (-1)), v1, d1, by rw [show (10 : Int32) = nI 10 from rfl, pk_mul, Nat.mul_comm], ⟨p1.1, p1.2.1, fun j hj => ?_⟩, ⟨fun z j hj => ?_, fun z j hj => ?_⟩, p3⟩
      · show upd (o_A w1 1) l (-1) j = c j
        rw [updE]
        by_cases q : j = l
        · rw [if_pos q, q, hcl]
        · rw [if_neg q, p1.2.2 j hj, updE, if_neg q]
      · have hnz : ¬ cnA_ (okc_ P V) op m (upd c l (nI 0)) = 0 := by omega
        have := fd_const (g := fun d => cnA_ (okc_ P V) op m (upd c l (nI d))) hnz 10 (by omega)
        rw [efw, this.1]
        exact p2.1 ⟨z.1, hnz⟩ j hj
      · rw [show o_A (p_A w1 1 (upd (o_A w1 1) l (-1))) 2 = o_A w1 2 from rfl]
        rw [p2.2 (fun q => z ⟨q.1, by omega⟩) j hj]
        rfl
    · -- in an equation: what is chosen ahead may tell
      rw [if_neg (by decide)]
      obtain ⟨v1, d1, e1, hR1, h61, a2, a4⟩ := x_with hW hn hR hw.2.2 hc.1 (cf_open hC hc) d
      have hR' : Rs_ (o_A v1 2) (o_A v1 4) V := by rw [a2, a4]; exact hR
      rw [e1, Option.bind_some]
      dsimp only
      rw [x_failed hR1, Option.bind_some]
      -- a digit that has a way: it goes beyond what is chosen ahead
      have ext : ∀ dg, dg ≤ 9 → ¬ cnA_ (okc_ P V) op m (upd c l (nI dg)) = 0 → ∃ c', okc_ P V c' = 1 ∧ Ch_ c' ∧ (∀ j, j < 4 → ¬ c j = -1 → c' j = c j) ∧ (∀ j, j < 4 → ¬ c' j = -1 → V j = 20000 + j) ∧ c' l = nI dg := by
        intro dg hdg hnz
        have hc2 := cf_upd hc hop hl4 hdg
        rw [show l + 1 = 4 - m by omega] at hc2
        obtain ⟨c', q1, q2, q3⟩ := cnA_ex m _ (by omega) hc2 hnz
        refine ⟨c', by have := okc_le P V c'; omega, q2.1, fun j hj hn => ?_, fun j hj hn => ho j hj (q2.2 j hj hn).1, ?_⟩
        · have hjl : j ≠ l := fun z => by rw [z] at hn; exact hn hcl
          rw [q3 j hj (by rw [updE, if_neg hjl]; exact hn), updE, if_neg hjl]
        · rw [q3 l hl4 (by rw [updE, if_pos rfl]; exact nI_nm1 (by omega)), updE, if_pos rfl]
      have all : ∃ w' v' d', f_X7_waysFrom_J172 (f_X7_waysFrom dd) (nI l) (nI ah) (nI 0) (nI 9) w v1 d1 n = some (nI (sB_ (fun d => cnA_ (okc_ P V) op m (upd c l (nI d))) 10), w', v', d') ∧ Ww_ w' B I c ∧ Ff_ w w' ah (sB_ (fun d => cnA_ (okc_ P V) op m (upd c l (nI d))) 10) (fwA_ (okc_ P V) op m (upd c l (nI (fd_ (fun d => cnA_ (okc_ P V) op m (upd c l (nI d))) 10)))) ∧ Rs_ (o_A v' 2) (o_A v' 4) V :=
        x_digits hC hm hl hop ih hc hw hR' ha (by omega) (by omega) (fun d hd => absurd hd (by omega)) (fun d h1 h2 => absurd h2 (by omega))
      rw [ecn, efw]
      by_cases q : (rn_ P (fun l => sg_ c (V l))).1.2 = []
      · rw [if_pos (show (if (rn_ P (fun l => sg_ c (V l))).1.2 = [] then (0 : Int32) else 1) = 0 by rw [if_pos q])]
        unfold f_X7_waysFrom_J111
        rw [x_failed hR1, Option.bind_some, if_pos (show (if (rn_ P (fun l => sg_ c (V l))).1.2 = [] then (0 : Int32) else 1) = 0 by rw [if_pos q]), show (20000 : Int32) + nI l = nI (20000 + l) from nI_add 20000 l]
        have eo : e_ok (20000 + l) := Or.inr ⟨by omega, by omega⟩
        rw [x_value hR1.1 eo, Option.bind_some]
        have ev : vl_ (rn_ P (fun l => sg_ c (V l))).1.1 (20000 + l) = (rn_ P (fun l => sg_ c (V l))).1.1 l := by unfold vl_; rw [if_neg (by omega), show 20000 + l - 20000 = l by omega]
        have hv := vok_vl (rs_vk hR1.1) eo
        rw [ev] at hv ⊢
        unfold f_X7_waysFrom_J139 f_X7_waysFrom_J152
        by_cases qv : (rn_ P (fun l => sg_ c (V l))).1.1 l < 20000
        · -- only that digit
          have only : ∀ dg, dg ≤ 9 → ¬ dg = (rn_ P (fun l => sg_ c (V l))).1.1 l → cnA_ (okc_ P V) op m (upd c l (nI dg)) = 0 := by
            intro dg hdg hne
            by_cases z : cnA_ (okc_ P V) op m (upd c l (nI dg)) = 0
            · exact z
            · obtain ⟨c', q1, q2, q3, q4, q5⟩ := ext dg hdg z
              have pr := (ok_prune hW hV hH hc.1 q2 q3 q4 q1).1 q l hl4 (by rw [q5]; exact nI_nm1 (by omega)) qv
              rw [q5] at pr
              exact absurd ((nI_eq (by omega) (by omega)).mp pr).symm hne
          generalize hvv : (rn_ P (fun l => sg_ c (V l))).1.1 l = vv at *
          rw [if_neg (show ¬ (20000 : Int32) ≤ nI vv from nI_ge (b := 20000) qv (by omega)), if_neg (show ¬ (20000 : Int32) ≤ nI vv from nI_ge (b := 20000) qv (by omega))]
          by_cases q9 : vv ≤ 9
          · rw [if_neg (show ¬ (9 : Int32) < nI vv from nI_nlt (a := 9) (by omega) (by omega))]
            exact x_digits hC hm hl hop ih hc hw hR' ha (by omega) q9 (fun d hd => only d (by omega) (by omega)) (fun d h1 h2 => only d (by omega) (by omega))
          · rw [if_pos (show (9 : Int32) < nI vv from nI_lt (a := 9) (by omega) (by omega))]
            have es : sB_ (fun d => cnA_ (okc_ P V) op m (upd c l (nI d))) 10 = 0 := sB_0 10 (fun d hd => only d (by omega) (by omega))
            unfold f_X7_waysFrom_J172
            rw [lp_u]
            dsimp only
            unfold f_X7_waysFrom_L181
            rw [if_pos (show (9 : Int32) < nI vv from nI_lt (a := 9) (by omega) (by omega))]
            unfold f_X7_waysFrom_J218
            dsimp only
            rw [st_nI (by omega) (by omega), Option.bind_some, es]
            refine ⟨p_A w 1 (upd (o_A w 1) l (-1)), v1, d1, rfl, ⟨hw.1, hw.2.1, fun j hj => ?_⟩, ⟨fun z => absurd rfl z.2, fun _ _ _ => rfl⟩, hR'⟩
            show upd (o_A w 1) l (-1) j = c j
            rw [updE]
            by_cases qq : j = l
            · rw [if_pos qq, qq, hcl]
            · rw [if_neg qq]; exact hw.2.2 j hj
        · have hv2 : (rn_ P (fun l => sg_ c (V l))).1.1 l < 20014 := by rcases hv with z | ⟨r, h1, h2⟩ <;> omega
          rw [if_pos (show (20000 : Int32) ≤ nI _ from nI_le (a := 20000) (by omega) (by omega)), if_pos (show (20000 : Int32) ≤ nI _ from nI_le (a := 20000) (by omega) (by omega))]
          exact all
      · rw [if_neg (show ¬ (if (rn_ P (fun l => sg_ c (V l))).1.2 = [] then (0 : Int32) else 1) = 0 by rw [if_neg q]; decide)]
        unfold f_X5_hasTooGreat
        -- it is too great, or no digit has a way
        by_cases qt : (rn_ P (fun l => sg_ c (V l))).2 = 1
        · rw [h61, qt, show zb_ (nI 1) = some 1 from rfl, Option.bind_some, Option.bind_some, if_neg (show ¬ nI 1 = 0 by decide)]
          unfold f_X7_waysFrom_J111
          rw [x_failed hR1, Option.bind_some, if_neg (show ¬ (if (rn_ P (fun l => sg_ c (V l))).1.2 = [] then (0 : Int32) else 1) = 0 by rw [if_neg q]; decide)]
          unfold f_X7_waysFrom_J139 f_X7_waysFrom_J152
          rw [if_pos (Int32.le_refl _), if_pos (Int32.le_refl _)]
          exact all
        · have hz : ∀ d, d < 10 → cnA_ (okc_ P V) op m (upd c l (nI d)) = 0 := by
            intro dg hdg
            by_cases z : cnA_ (okc_ P V) op m (upd c l (nI dg)) = 0
            · exact z
            · obtain ⟨c', q1, q2, q3, q4, q5⟩ := ext dg (by omega) z
              exact absurd ((ok_prune hW hV hH hc.1 q2 q3 q4 q1).2 q) qt
          have es : sB_ (fun d => cnA_ (okc_ P V) op m (upd c l (nI d))) 10 = 0 := sB_0 10 hz
          have t01 : (rn_ P (fun l => sg_ c (V l))).2 = 0 := by
            have := sto_t1 (P := P) 15 ((fun l => sg_ c (V l)), []) 0 (by omega)
            have : (rn_ P (fun l => sg_ c (V l))).2 ≤ 1 := this
            omega
          rw [h61, t01, show zb_ (nI 0) = some 0 from rfl, Option.bind_some, Option.bind_some, if_pos (show nI 0 = 0 from rfl), es]
          exact ⟨w, v1, d1, rfl, hw, ⟨fun z => absurd rfl z.2, fun _ _ _ => rfl⟩, hR'⟩
end
