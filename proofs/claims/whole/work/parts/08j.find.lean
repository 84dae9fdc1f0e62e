theorem j_fill0 (s : Ob_T) {z : Nat} (v : Int32) (hz : z ≤ 10000) : f_J7_fill_53178 s v z = some (p_A s 0 (fl_ (o_A s 0) 0 z v)) := by
  unfold f_J7_fill_53178
  refine lp_fu (P := fun r => r = some (p_A s 0 (fl_ (o_A s 0) 0 z v))) (fun n x => ∃ i, i ≤ z ∧ n = z - i + 1 ∧ x = (v, nI i, nI z, p_A s 0 (fl_ (o_A s 0) 0 i v))) ?_ ?_ (z - 0 + 1) _ ⟨0, by omega, rfl, by rw [fl_0, pA_self]; rfl⟩ (by omega)
  · rintro x ⟨i, h1, h2, -⟩
    omega
  · rintro n x rec ⟨i, h1, h2, rfl⟩ hr
    unfold f_J7_fill_53178_L5
    dsimp only
    by_cases he : i = z
    · subst he
      rw [if_pos (Int32.le_refl _)]
    · rw [if_neg (nI_ge (by omega) (by omega)), st_nI (by omega) (by omega), Option.bind_some]
      refine hr _ ⟨i + 1, by omega, by omega, ?_⟩
      rw [pA_pA, oA_pA, if_pos rfl, fl_s _ (by omega), nI_1]
theorem fl_in {f : Nat → Int32} {z l : Nat} {v : Int32} (h : l < z) : fl_ f 0 z v l = v := by
  unfold fl_
  rw [if_pos (by omega)]
theorem x_findNone (w : Ob_T) (B : Int32) : ∃ w', f_X7_findNone w B = some w' ∧ o_F w' 3 = B ∧ o_F w' 5 = 0 ∧ (∀ l, l < 4 → o_A w' 1 l = -1) ∧ ∀ l, l < 4 → o_A w' 2 l = -1 := by
  unfold f_X7_findNone
  simp only [Lt_E]
  rw [j_fill0 _ _ (by omega), Option.bind_some, j_fill0 _ _ (by omega), Option.bind_some]
  exact ⟨_, rfl, rfl, rfl, fun l hl => fl_in hl, fun l hl => fl_in hl⟩
/-- nothing chosen -/
def c0_ : Nat → Int32 := fun _ => -1
def opn_ (B : Int32) : Nat → Bool := fun l => tb_ B l
/-- WAYS, in numbers -/
def cnP_ (P : Pg_) (gv : Nat → Int32) (B : Int32) : Nat := cnA_ (okc_ P (MA_ P gv).1) (opn_ B) 4 c0_
def fwP_ (P : Pg_) (gv : Nat → Int32) (B : Int32) : Nat → Int32 := fwA_ (okc_ P (MA_ P gv).1) (opn_ B) 4 c0_
/-- what the class's Ways hold once counted -/
def Wy_ (w : Ob_T) (P : Pg_) (gv : Nat → Int32) : Prop := ∃ B, o_F w 3 = B ∧ (∀ l, l < 32 → (tb_ B l = true ↔ Op_ P (SO_ P gv).1 l)) ∧ (¬ (SO_ P gv).2 = [] → o_F w 5 = 0 ∧ ∀ l, l < 4 → o_A w 2 l = -1) ∧ ((SO_ P gv).2 = [] → o_F w 5 = nI (cnP_ P gv B) ∧ (¬ cnP_ P gv B = 0 → ∀ l, l < 4 → o_A w 2 l = fwP_ P gv B l) ∧ (cnP_ P gv B = 0 → ∀ l, l < 4 → o_A w 2 l = -1))
theorem SO_MA {P : Pg_} {gv : Nat → Int32} (h : (SO_ P gv).2 = []) : (MA_ P gv).2 = [] := by
  by_cases hf : (MA_ P gv).2 = []
  · exact hf
  · unfold SO_ at h
    rw [sto_s P 14, show rnd_ P (MA_ P gv) 0 = (MA_ P gv, 0, 0, 0) from rds_f P _ _ hf, if_neg (fun z => hf z.2)] at h
    exact absurd h hf
theorem SO_root {P : Pg_} (hW : Wf_ P) {gv : Nat → Int32} (hg : ∀ l, l < 4 → gv_ok (gv l)) {l : Nat} (h : (SO_ P gv).1 l = 20000 + l) : (MA_ P gv).1 l = 20000 + l := by
  have := sto_pres hW (Z := fun V => V l = 20000 + l → (MA_ P gv).1 l = 20000 + l) (fun V r k _ _ _ hk hz e => ?_) 15 (MA_ P gv) 0 (vk_MA hW hg) (fun e => e)
  · exact this h
  · refine hz ?_
    unfold sb_ at e
    by_cases q : V l = 20000 + r
    · rw [if_pos q] at e; omega
    · rw [if_neg q] at e; exact e
theorem x_find {P : Pg_} (hW : Wf_ P) {n : Ob_T} (hn : Rn_ n P) {gv : Nat → Int32} (hg : ∀ l, l < 4 → gv_ok (gv l)) {B : Int32} (hB : ∀ l, l < 32 → (tb_ B l = true ↔ Op_ P (SO_ P gv).1 l)) (hS : (SO_ P gv).2 = []) (w v d : Ob_T) : ∃ w' v' d', f_X7_find w v d n B gv 4 = some (w', v', d') ∧ Wy_ w' P gv := by
  obtain ⟨w1, e1, a3, a5, a1, a2⟩ := x_findNone w B
  obtain ⟨v1, e2, hR1, hm, h6⟩ := x_meetAll hW hn v hg
  obtain ⟨I, d1, e3, hI⟩ := x_inEq hW hn hR1.1 d
  have hR : Rs_ (o_A v1 2) (o_A v1 4) (MA_ P gv).1 := rs_same hR1.1 (fun _ _ => rfl) hm (fun _ _ => rfl)
  have hC : Wc_ P n (MA_ P gv).1 (opn_ B) B I := by
    refine ⟨hW, hn, vk_MA hW hg, hi_MA hW hg, fun l _ => rfl, fun l hl ho => ?_, fun l hl => hI l (by omega)⟩
    exact SO_root hW hg ((hB l (by omega)).mp ho).2.2
  have w4 := x_ways0 hC 1
  have w3 := x_waysS hC (m := 0) (by omega) w4
  have w2 := x_waysS hC (m := 1) (by omega) w3
  have w1' := x_waysS hC (m := 2) (by omega) w2
  have w0 := x_waysS hC (m := 3) (by omega) w1'
  have hw1 : Ww_ (p_F w1 4 I) B I c0_ := ⟨a3, rfl, fun l hl => a1 l hl⟩
  have hc0 : Cf_ (opn_ B) (4 - 4) c0_ := ⟨fun l _ => Or.inl rfl, fun j _ hn => absurd rfl hn⟩
  obtain ⟨w2', v2, d2, e4, p1, p2, -⟩ := w0 (p_F w1 4 I) v1 d1 c0_ 0 hw1 hc0 hR (by decide)
  unfold f_X7_find
  rw [e1, Option.bind_some, e2, Option.bind_some, e3, Option.bind_some]
  dsimp only
  rw [Lt_E, show f_X7_waysFrom 6 (p_F w1 4 I) v1 d1 n 0 0 = some (nI (cnA_ (okc_ P (MA_ P gv).1) (opn_ B) 4 c0_), w2', v2, d2) from e4, Option.bind_some]
  dsimp only
  rw [Lt_E]
  refine ⟨_, _, _, rfl, B, p1.1, hB, fun z => absurd hS z, fun _ => ⟨rfl, fun z => ?_, fun z l hl => ?_⟩⟩
  · exact p2.1 ⟨rfl, z⟩
  · show o_A w2' 2 l = -1
    rw [p2.2 (fun q => q.2 z) l hl]
    exact a2 l hl
def Rw_ (x w : Ob_T) (P : Pg_) (gv : Nat → Int32) : Prop := o_F x 10 = 0 ∨ (o_F x 10 = 1 ∧ Wy_ w P gv)
theorem x_count {P : Pg_} (hW : Wf_ P) {x n v d g w v3 d3 : Ob_T} (hn : Rn_ n P) (hg : ∀ l, l < 4 → gv_ok (o_A g 0 l)) (hc : Rc_ x v P (o_A g 0)) (hw : Rw_ x w P (o_A g 0)) : ∃ x' v' d' w' v3' d3', f_X8_countNow x n v d g w v3 d3 = some (x', v', d', w', v3', d3') ∧ Rc_ x' v' P (o_A g 0) ∧ o_F x' 10 = 1 ∧ Wy_ w' P (o_A g 0) := by
  unfold f_X8_countNow
  rcases hw with h0 | ⟨h1, hy⟩
  · rw [h0, if_pos rfl]
    obtain ⟨x1, v1, d1, e1, q1, q2, q3⟩ := x_now hW hn (d := d) hg hc
    obtain ⟨B, e2, hB⟩ := x_open hW hn q3.1
    have hB' : ∀ l, l < 32 → (tb_ B l = true ↔ Op_ P (SO_ P (o_A g 0)).1 l) := fun l hl => by rw [hB l hl, op_iff hW (rs_vk q3.1) (to_SO hW hg)]
    rw [e1, Option.bind_some]
    dsimp only
    rw [x_failed q3, Option.bind_some]
    by_cases hS : (SO_ P (o_A g 0)).2 = []
    · rw [if_pos (show (if (SO_ P (o_A g 0)).2 = [] then (0 : Int32) else 1) = 0 by rw [if_pos hS]), e2, Option.bind_some]
      unfold f_X0_numbers
      rw [Option.bind_some]
      obtain ⟨w', v', d', e3, hy⟩ := x_find hW hn hg hB' hS w v3 d3
      rw [e3, Option.bind_some]
      dsimp only
      rw [Lt_E]
      exact ⟨_, _, _, _, _, _, rfl, Or.inr ⟨q1, q3⟩, rfl, hy⟩
    · rw [if_neg (show ¬ (if (SO_ P (o_A g 0)).2 = [] then (0 : Int32) else 1) = 0 by rw [if_neg hS]; decide), e2, Option.bind_some]
      obtain ⟨w', e3, a3, a5, a1, a2⟩ := x_findNone w B
      rw [e3, Option.bind_some, Lt_E]
      exact ⟨_, _, _, _, _, _, rfl, Or.inr ⟨q1, q3⟩, rfl, B, a3, hB', fun _ => ⟨a5, a2⟩, fun z => absurd z hS⟩
  · rw [h1, if_neg n_10]
    exact ⟨x, v, d, w, v3, d3, rfl, hc, h1, hy⟩
