/-! what is known at the law's entry -/
def gn_ : List Cond := flatC (Jvm.Cond.and given_1 narrow_1)
abbrev tmT_ (i : Nat) : Term := .string "ShapeFrames$Text" (ixT_ i)
theorem gn_ex : ∀ i, i < 8 → Cond.exactly (tmT_ i) "java/lang/String" ∈ gn_ := by decide +kernel
theorem gn_co : ∀ i, i < 8 → Cond.eq (.field (tmT_ i) "java/lang/String" "coder" "B") (.int 0) ∈ gn_ := by decide +kernel
theorem gn_ar : ∀ i, i < 8 → Cond.arrayOf (.field (tmT_ i) "java/lang/String" "value" "[B") .byte ∈ gn_ := by decide +kernel
theorem gn_le : ∀ i, i < 8 → Cond.eq (.length (.field (tmT_ i) "java/lang/String" "value" "[B")) (.int (Int32.ofNat (lenT_.getD i 0))) ∈ gn_ := by decide +kernel
theorem gn_el : ∀ i, i < 8 → ∀ j, j < lenT_.getD i 0 → Cond.eq (.elem (.field (tmT_ i) "java/lang/String" "value" "[B") (.int (Int32.ofNat j))) (.int ((bytT_.getD i []).getD j 0)) ∈ gn_ := by decide +kernel
theorem gn_ne : ∀ i, i < 8 → ∀ j, j < 8 → i ≠ j → Cond.not (Cond.eq (tmT_ i) (tmT_ j)) ∈ gn_ ∨ Cond.not (Cond.eq (tmT_ j) (tmT_ i)) ∈ gn_ := by decide +kernel
theorem gn_a1 : Cond.arrayOf (.static "ShapeFrames" "ABOVE" "[I") .int ∈ gn_ := by decide +kernel
theorem gn_a2 : Cond.eq (.length (.static "ShapeFrames" "ABOVE" "[I")) (.int 7) ∈ gn_ := by decide +kernel
theorem gn_a3 : ∀ j, j < 7 → Cond.eq (.elem (.static "ShapeFrames" "ABOVE" "[I") (.int (Int32.ofNat j))) (.int (ab_ j)) ∈ gn_ := by decide +kernel
theorem gn_cs : Cond.eq (.static "java/lang/String" "COMPACT_STRINGS" "Z") (.int 1) ∈ gn_ := by decide +kernel
theorem gn_si : Cond.isRef (.static "jdk/internal/util/Preconditions" "SIOOBE_FORMATTER" "Ljava/util/function/BiFunction;") ∈ gn_ := by decide +kernel
theorem st_ref : ∀ i, i < 8 → Cond.stringRef "ShapeFrames$Text" (ixT_ i) (txT_ i) ∈ lw_tbl := by
  intro i hi
  rcases (show i = 0 ∨ i = 1 ∨ i = 2 ∨ i = 3 ∨ i = 4 ∨ i = 5 ∨ i = 6 ∨ i = 7 by omega) with rfl | rfl | rfl | rfl | rfl | rfl | rfl | rfl
  · exact (tj_2 (List.mem_of_getElem? (i := 79) rfl))
  · exact (tj_2 (List.mem_of_getElem? (i := 80) rfl))
  · exact (tj_2 (List.mem_of_getElem? (i := 81) rfl))
  · exact (tj_2 (List.mem_of_getElem? (i := 82) rfl))
  · exact (tj_2 (List.mem_of_getElem? (i := 83) rfl))
  · exact (tj_2 (List.mem_of_getElem? (i := 84) rfl))
  · exact (tj_2 (List.mem_of_getElem? (i := 85) rfl))
  · exact (tj_2 (List.mem_of_getElem? (i := 86) rfl))
theorem ex_start {args : Array Value} {s : State} {A : Nat → Prop} (hts : ∀ w ∈ lw_tbl, w.before args s = true) (hgv : (Jvm.Cond.and given_1 narrow_1).before args s = true) (hA : ∀ a : Nat, a < s.heap.size → ¬ A a) : ∃ (adK adV : Nat → Nat) (tA : Nat), EX_ adK adV tA A s s.heap := by
  have hs : ∀ w ∈ gn_, w.before args s = true := flat_of_before _ hgv
  obtain ⟨adK, adV, hS, hev⟩ := vk_Sof (N := 8) (tm := tmT_) (len := lenT_) (byt := bytT_) (A := A) (by decide) (fun i hi => hs _ (gn_ex i hi)) (fun i hi => hs _ (gn_co i hi)) (fun i hi => hs _ (gn_ar i hi)) (fun i hi => hs _ (gn_le i hi)) (fun i hi j hj => hs _ (gn_el i hi j hj)) (fun i j hi hj hij => (gn_ne i hi j hj hij).imp (fun h => hs _ h) (fun h => hs _ h)) hA
  obtain ⟨tA, hT1, hT⟩ := va_Tof (tm := .static "ShapeFrames" "ABOVE" "[I") (ty := .int) (N := 7) (f := fun j => .int (ab_ j)) (A := A) (by decide) (hs _ gn_a1) (va_eqt (hs _ gn_a2)) (fun j hj => va_eqt (hs _ (gn_a3 j hj))) hA
  refine ⟨adK, adV, tA, hS, va_Zof (hts _ (tj_2 (List.mem_of_getElem? (i := 100) rfl))) (hts _ (tj_1 (List.mem_of_getElem? (i := 13) rfl))) (va_eqt (hs _ gn_cs)) hA, fun i hi => vk_R.of (hts _ (st_ref i hi)) (hev i hi), va_Zref (hts _ (tj_3 (List.mem_of_getElem? (i := 170) rfl))) (hts _ (tj_1 (List.mem_of_getElem? (i := 1) rfl))) hT1 hA, hT, ?_⟩
  rcases va_Zqof (A := A) (hts _ (tj_2 (List.mem_of_getElem? (i := 116) rfl))) (hts _ (tj_1 (List.mem_of_getElem? (i := 15) rfl))) (hs _ gn_si) hA with h | ⟨t, h⟩
  · exact ⟨.null, Or.inl rfl, h⟩
  · exact ⟨.ref t, Or.inr ⟨t, rfl⟩, h⟩
theorem k_start {args : Array Value} {s : State} (hts : ∀ w ∈ WL_, w.before args s = true) : ∃ (D : va_G) (aC : Nat → ClassId), va_K D vwCl (ty_all aC) s := by
  obtain ⟨c0, i0, h0⟩ := u_known (C := RX0) (T := TX0) (N := 6) (n := 6) hts iw_X0 (hts (.instantiable RX0 6) (wl_in (tj_1 (List.mem_of_getElem? (i := 146) rfl)) rfl))
  obtain ⟨c1, i1, h1⟩ := u_known (C := RX1) (T := TX1) (N := 7) (n := 7) hts iw_X1 (hts (.instantiable RX1 7) (wl_in (tj_1 (List.mem_of_getElem? (i := 63) rfl)) rfl))
  obtain ⟨c2, i2, h2⟩ := u_known (C := RX2) (T := TX2) (N := 3) (n := 3) hts iw_X2 (hts (.instantiable RX2 3) (wl_in (tj_1 (List.mem_of_getElem? (i := 216) rfl)) rfl))
  obtain ⟨c3, i3, h3⟩ := u_known (C := RX3) (T := TX3) (N := 3) (n := 3) hts iw_X3 (hts (.instantiable RX3 3) (wl_in (tj_1 (List.mem_of_getElem? (i := 200) rfl)) rfl))
  obtain ⟨c4, i4, h4⟩ := u_known (C := RX4) (T := TX4) (N := 6) (n := 6) hts iw_X4 (hts (.instantiable RX4 6) (wl_in (tj_1 (List.mem_of_getElem? (i := 98) rfl)) rfl))
  obtain ⟨c5, i5, h5⟩ := u_known (C := RX5) (T := TX5) (N := 7) (n := 7) hts iw_X5 (hts (.instantiable RX5 7) (wl_in (tj_1 (List.mem_of_getElem? (i := 92) rfl)) rfl))
  obtain ⟨c6, i6, h6⟩ := u_known (C := RX6) (T := TX6) (N := 9) (n := 9) hts iw_X6 (hts (.instantiable RX6 9) (wl_in (tj_1 (List.mem_of_getElem? (i := 28) rfl)) rfl))
  obtain ⟨c7, i7, h7⟩ := u_known (C := RX7) (T := TX7) (N := 6) (n := 6) hts iw_X7 (hts (.instantiable RX7 6) (wl_in (tj_1 (List.mem_of_getElem? (i := 175) rfl)) rfl))
  obtain ⟨c8, i8, h8⟩ := u_known (C := RX8) (T := TX8) (N := 11) (n := 11) hts iw_X8 (hts (.instantiable RX8 11) (wl_in (tj_1 (List.mem_of_getElem? (i := 20) rfl)) rfl))
  obtain ⟨c9, i9, h9⟩ := u_known (C := RX9) (T := TX9) (N := 44) (n := 44) hts iw_X9 (hts (.instantiable RX9 44) (wl_in (tj_5 (List.mem_of_getElem? (i := 34) rfl)) rfl))
  obtain ⟨b0, k0, e0, f0, g0, j0⟩ := Cond.arrayClass_spec (args := args) (first := s) (o := none) (s := s) (idx := []) (type := .int) (hts (.arrayClass .int) (wl_in (tj_1 (List.mem_of_getElem? (i := 90) rfl)) rfl))
  obtain ⟨b1, k1, e1, f1, g1, j1⟩ := Cond.arrayClass_spec (args := args) (first := s) (o := none) (s := s) (idx := []) (type := .boolean) (hts (.arrayClass .boolean) (wl_in (tj_1 (List.mem_of_getElem? (i := 173) rfl)) rfl))
  obtain ⟨b2, k2, e2, f2, g2, j2⟩ := Cond.arrayClass_spec (args := args) (first := s) (o := none) (s := s) (idx := []) (type := .long) (hts (.arrayClass .long) (wl_in (tj_1 (List.mem_of_getElem? (i := 122) rfl)) rfl))
  obtain ⟨b3, k3, e3, f3, g3, j3⟩ := Cond.arrayClass_spec (args := args) (first := s) (o := none) (s := s) (idx := []) (type := .char) (hts (.arrayClass .char) (wl_in (tj_1 (List.mem_of_getElem? (i := 61) rfl)) rfl))
  refine ⟨(fun k => [c0, c1, c2, c3, c4, c5, c6, c7, c8, c9].getD k c0, fun k => [i0, i1, i2, i3, i4, i5, i6, i7, i8, i9].getD k i0), fun k => [b0, b1, b2, b3].getD k b0, fun k q hq => ?_, fun k q hq => ?_⟩
  · match k, hq with
    | 0, hq => cases hq; exact h0
    | 1, hq => cases hq; exact h1
    | 2, hq => cases hq; exact h2
    | 3, hq => cases hq; exact h3
    | 4, hq => cases hq; exact h4
    | 5, hq => cases hq; exact h5
    | 6, hq => cases hq; exact h6
    | 7, hq => cases hq; exact h7
    | 8, hq => cases hq; exact h8
    | 9, hq => cases hq; exact h9
    | k + 10, hq => simp [vwCl] at hq
  · match k, hq with
    | 0, hq => cases hq; exact ⟨fun n z => ⟨fun k h => (by cases h), k0, g0, e0, j0⟩, f0⟩
    | 1, hq => cases hq; exact ⟨fun n z => ⟨fun k h => (by cases h), k1, g1, e1, j1⟩, f1⟩
    | 2, hq => cases hq; exact ⟨fun n z => ⟨fun k h => (by cases h), k2, g2, e2, j2⟩, f2⟩
    | 3, hq => cases hq; exact ⟨fun n z => ⟨fun k h => (by cases h), k3, g3, e3, j3⟩, f3⟩
    | k + 4, hq => simp [ty_all] at hq
theorem nw_start {args : Array Value} {s : State} (hts : ∀ w ∈ lw_tbl, w.before args s = true) : NW_ s := ⟨va_Nw.of rfl (hts (.methodLinkNest RX8 11 yX6_init "ShapeFrames") (tj_1 (List.mem_of_getElem? (i := 29) rfl))), va_Nw.of rfl (hts (.methodLinkNest RX8 18 yX1_init "ShapeFrames") (tj_1 (List.mem_of_getElem? (i := 64) rfl))), va_Nw.of rfl (hts (.methodLinkNest RX5 11 yX4_init "ShapeFrames") (tj_1 (List.mem_of_getElem? (i := 99) rfl))), va_Nw.of rfl (hts (.methodLinkNest RX8 56 yX3_init "ShapeFrames") (tj_1 (List.mem_of_getElem? (i := 201) rfl)))⟩
