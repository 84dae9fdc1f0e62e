/-! THE CLAIM OUT OF ONE WALK OF THE LAW'S BODY. Your part is whole_start (and what it stands on); all else here is the same for every law, but numbers. -/
def R_law : String := "ShapeFramesLaw"
def lw_P (b : Addr) (xs : List Int32) (args : Array Value) (s : State) : Prop := args = #[.ref b] ∧ s.IntsAt b xs ∧ xs.length ≤ 3072 ∧ (Jvm.Cond.and given_1 narrow_1).before args s = true
def lw_Q (_ : Array Value) (s : State) (o : Outcome) (t : State) : Prop := o = .returned (some (.int 1)) ∧ Framed s o t [] 600000 7302250
def lw_Z (below : List Frame) (a : Array Value) (s : State) : State → Prop := fun t => ∃ o, t.status = .running ∧ Ended t below o ∧ lw_Q a s o t
/-- the law's own end, with 1 on the stack, nothing written that was there before, its room as the claim has it -/
theorem lw_ret {p : Program} {l : Launch} {e : Env} {s : State} {m : MethodId} {below : List Frame} {meth : Method} {c : Code} {b : Nat} (hx : p.tables.exec = Jvm.exec) (hb : c.code = code) (hr : meth.sig.returnType = ret) (hlocks : meth.locks = false) {pc : Nat} {H : Heap} {ls : Array Slot} (hdg : decode code pc = .ok (.ireturn, 1)) : W p l e room_1 s m #[Value.ref b] below meth c H [] 600000 7302250 (lw_Z below #[Value.ref b] s) (F0 m pc ls [.int 1]) := by
  intro T hT X
  obtain ⟨fs, hret, hrun, hended, hW, hframe⟩ := X.leave (v := some (.int 1)) (hlocks := hlocks) (fun h => by rw [hr] at h; cases h)
  have hmeth' : T.vm.method? m = some meth := X.method'
  refine ⟨T.setFrames fs, ?_, .returned (some (.int 1)), hrun, hended, rfl, ⟨_, rfl⟩, hW, hframe⟩
  jvm_step X.here [X.here.top, hx, hb, hdg, hmeth', hr, ret, narrow_b1]
  (try refine ⟨rfl, ?_⟩); (try refine ⟨rfl, ?_⟩)
  first | (intro acts; rw [hret _ acts rfl rfl rfl]) | rw [hret _ _ rfl rfl rfl]
  exact Steps.refl _
/-- what holds at the law's entry: the machine, the code, the tables' words (any of lw_tbl by 'hts w (by decide +kernel)'), the script of L ints xs at the cell b, what the Statement gives of the start (any of its parts by flat_of_before) -/
def lw_At (p : Program) (s : State) (m : MethodId) (meth : Method) (c : Code) (b L : Nat) (xs : Nat → Int32) : Prop :=
  p.tables.exec = Jvm.exec ∧ c.code = code ∧ meth.sig.returnType = ret ∧ c.maxLocals = 4 ∧ s.vm.findClass R_law = some m.cls ∧ (∀ w ∈ lw_tbl, w.before #[Value.ref b] s = true) ∧ va_X b L xs s s.heap ∧ b < s.heap.size ∧ meth.locks = false ∧ (Jvm.Cond.and given_1 narrow_1).before #[Value.ref b] s = true
theorem and31 (v : Int32) : ∃ k, k < 32 ∧ v &&& 31 = nI k := by
  refine ⟨v.toBitVec.toNat % 32, Nat.mod_lt _ (by decide), ?_⟩
  apply Int32.toBitVec_inj.mp
  apply BitVec.eq_of_toNat_eq
  rw [Int32.toBitVec_and, BitVec.toNat_and, pk_tn (by have := Nat.mod_lt v.toBitVec.toNat (show 0 < 32 by decide); omega)]
  exact Nat.and_two_pow_sub_one_eq_mod v.toBitVec.toNat 5
theorem six_le {L i : Nat} (hL : L ≤ 3072) (hi : i ≤ L) (h : ¬ (nI L - 6 < nI i)) : i + 6 ≤ L := by
  rcases Nat.lt_or_ge L 6 with q | q
  · exfalso
    refine h (Int32.lt_of_lt_of_le (b := 0) ?_ (nI_pos' (by omega)))
    rcases (show L = 0 ∨ L = 1 ∨ L = 2 ∨ L = 3 ∨ L = 4 ∨ L = 5 by omega) with rfl | rfl | rfl | rfl | rfl | rfl <;> decide
  · have e : nI L - 6 = nI (L - 6) := by
      have e1 : nI L = nI (L - 6) + 6 := by
        show nI L = nI (L - 6) + nI 6
        rw [nI_add]
        congr 1
        omega
      rw [e1, Int32.add_sub_cancel]
    rw [e] at h
    rcases Nat.lt_or_ge (L - 6) i with z | z
    · exact absurd (nI_lt z (by omega)) h
    · omega
set_option maxHeartbeats 4000000 in
set_option maxRecDepth 100000 in
/-- at the loop's head, with i ints gone through: both objects answer alike -/
theorem law_loop {adK adV : Nat → Nat} {tA : Nat} {p : Program} {l : Launch} {e : Env} {s : State} {m : MethodId} {below : List Frame} {meth : Method} {c : Code} {D : va_G} {aC : Nat → ClassId} {a : Nat → Nat → Nat} {b L : Nat} {xs : Nat → Int32} (hE : EX_ adK adV tA (fun q : Nat => s.heap.size ≤ q) s s.heap) (hX : K_X p s m #[Value.ref b] meth c cL_law 4 WL_ RL D aC (fun q : Nat => s.heap.size ≤ q)) (hr : meth.sig.returnType = ret) (hSc : va_X b L xs s s.heap) (hbl : b < s.heap.size) (hL : L ≤ 3072) :
    ∀ (f i : Nat), i ≤ L → L + 1 ≤ i + f → ∀ (x t n n2 v d v2 d2 g w v3 d3 q r o : Ob_T) (H : Heap) (locs : List Loc) (ls : Array Slot), RR_ x t n v w g q r o → K_S D (fun q : Nat => s.heap.size ≤ q) s (FL (BK_ aC a x t n n2 v d v2 d2 g w v3 d3 q r o) A15) H locs → lv_has ls 4 [(0, .ref b), (1, .ref (a 0 0)), (2, .ref (a 14 0)), (3, .int (nI i))] → W p l e room_1 s m #[Value.ref b] below meth c H locs 86 1484 (lw_Z below #[Value.ref b] s) (F0 m 18 ls []) := by
  obtain ⟨hx, hb, hml, hown, hts, hK, hA, hlk⟩ := id hX
  have hbA : ¬ (fun q : Nat => s.heap.size ≤ q) b := Nat.not_le.mpr hbl
  intro f
  induction f with
  | zero =>
    intro i h1 h2
    exact absurd h2 (by omega)
  | succ f ih =>
    intro i hi hf x t n n2 v d v2 d2 g w v3 d3 q r o H locs ls h hZ hl
    refine lv_iload_n hx hb dL_law_18 rfl (lv_at hl 3 rfl) ?_
    refine lv_aload_n hx hb dL_law_19 rfl (lv_at hl 0 rfl) ?_
    refine va_slen hx hb hSc hbl hbA hZ.2.2 dL_law_20 ?_
    refine lv_bipush (v := 6) hx hb dL_law_21 (by decide) ?_
    refine lv_isub hx hb dL_law_23 ?_
    refine lv_icmp_gt (tgt := 1008) hx hb dL_law_24 (by decide) (fun cd => ?_) (fun cd => ?_)
    · refine lv_iconst (v := 1) hx hb dL_law_1008 (by decide) ?_
      refine va_forget (fun q hq => hZ.2.2.2.2 q hq) ?_
      refine W.widen (k := 600000) (n := 7302250) (by omega) (by omega) ?_
      exact lw_ret hx hb hr hlk dL_law_1009
    · have h6 : i + 6 ≤ L := six_le hL hi cd
      clear cd
      refine lv_aload_n hx hb dL_law_27 rfl (lv_at hl 0 rfl) ?_
      refine lv_iload_n hx hb dL_law_28 rfl (lv_at hl 3 rfl) ?_
      refine va_sld hx hb hSc hbl hbA hZ.2.2 (vp_in_nI (by omega) (by omega)) dL_law_29 ?_
      refine lv_bipush (v := 31) hx hb dL_law_30 (by decide) ?_
      refine lv_iand hx hb dL_law_32 ?_
      obtain ⟨k, hk, ek⟩ := and31 (xs (nI i).toNatClampNeg)
      rw [ek]
      clear ek
      have kk : ∀ (x t n n2 v d v2 d2 g w v3 d3 q r o : Ob_T) (H : Heap) (locs : List Loc), RR_ x t n v w g q r o → K_S D (fun q : Nat => s.heap.size ≤ q) s (FL (BK_ aC a x t n n2 v d v2 d2 g w v3 d3 q r o) A15) H locs → W p l e room_1 s m #[Value.ref b] below meth c H locs 86 1484 (lw_Z below #[Value.ref b] s) (F0 m 1002 ls []) := by
        intro x t n n2 v d v2 d2 g w v3 d3 q r o H locs h hZ
        refine lv_iinc (v := nI (i + 6)) (lv' := [(3, .int (nI (i + 6))), (0, .ref b), (1, .ref (a 0 0)), (2, .ref (a 14 0))]) hx hb dL_law_1002 hl (k := 3) rfl (by rw [← nI_add]; rfl) (by decide) rfl (fun ls hl => ?_)
        refine lv_goto (tgt := 18) hx hb dL_law_1005 (by decide) ?_
        exact ih (i + 6) (by omega) (by omega) _ _ _ _ _ _ _ _ _ _ _ _ _ _ _ _ _ ls h hZ (lv_sub hl [1, 2, 3, 0] rfl)
      rcases (show k = 0 ∨ k = 1 ∨ k = 2 ∨ k = 3 ∨ k = 4 ∨ k = 5 ∨ k = 6 ∨ k = 7 ∨ k = 8 ∨ k = 9 ∨ k = 10 ∨ k = 11 ∨ k = 12 ∨ k = 13 ∨ k = 14 ∨ k = 15 ∨ k = 16 ∨ k = 17 ∨ k = 18 ∨ k = 19 ∨ k = 20 ∨ k = 21 ∨ k = 22 ∨ k = 23 ∨ k = 24 ∨ k = 25 ∨ k = 26 ∨ k = 27 ∨ k = 28 ∨ k = 29 ∨ k = 30 ∨ k = 31 by omega) with rfl | rfl | rfl | rfl | rfl | rfl | rfl | rfl | rfl | rfl | rfl | rfl | rfl | rfl | rfl | rfl | rfl | rfl | rfl | rfl | rfl | rfl | rfl | rfl | rfl | rfl | rfl | rfl | rfl | rfl | rfl | rfl
      · refine lv_tableIn (tgt := 176) (off := 143) hx hb dL_law_33 (by decide) (by decide) rfl (by decide) ?_
        exact lc_write hE hX hSc hbl hbA h6 hL h hZ hl kk
      · refine lv_tableIn (tgt := 199) (off := 166) hx hb dL_law_33 (by decide) (by decide) rfl (by decide) ?_
        exact lc_erase hE hX hSc hbl hbA h6 hL h hZ hl kk
      · refine lv_tableIn (tgt := 212) (off := 179) hx hb dL_law_33 (by decide) (by decide) rfl (by decide) ?_
        exact lc_fault hE hX hSc hbl hbA h6 hL h hZ hl kk
      · refine lv_tableIn (tgt := 225) (off := 192) hx hb dL_law_33 (by decide) (by decide) rfl (by decide) ?_
        exact lc_program hE hX hSc hbl hbA h6 hL h hZ hl kk
      · refine lv_tableIn (tgt := 238) (off := 205) hx hb dL_law_33 (by decide) (by decide) rfl (by decide) ?_
        exact lc_node hE hX hSc hbl hbA h6 hL h hZ hl kk
      · refine lv_tableIn (tgt := 271) (off := 238) hx hb dL_law_33 (by decide) (by decide) rfl (by decide) ?_
        exact lc_extent hE hX hSc hbl hbA h6 hL h hZ hl kk
      · refine lv_tableIn (tgt := 304) (off := 271) hx hb dL_law_33 (by decide) (by decide) rfl (by decide) ?_
        exact lc_as hE hX hSc hbl hbA h6 hL h hZ hl kk
      · refine lv_tableIn (tgt := 337) (off := 304) hx hb dL_law_33 (by decide) (by decide) rfl (by decide) ?_
        exact lc_give hE hX hSc hbl hbA h6 hL h hZ hl kk
      · refine lv_tableIn (tgt := 370) (off := 337) hx hb dL_law_33 (by decide) (by decide) rfl (by decide) ?_
        exact lc_free hE hX hSc hbl hbA h6 hL h hZ hl kk
      · refine lv_tableIn (tgt := 393) (off := 360) hx hb dL_law_33 (by decide) (by decide) rfl (by decide) ?_
        exact lc_undo hE hX hSc hbl hbA h6 hL h hZ hl kk
      · refine lv_tableIn (tgt := 406) (off := 373) hx hb dL_law_33 (by decide) (by decide) rfl (by decide) ?_
        exact lc_keep hE hX hSc hbl hbA h6 hL h hZ hl kk
      · refine lv_tableIn (tgt := 429) (off := 396) hx hb dL_law_33 (by decide) (by decide) rfl (by decide) ?_
        exact lc_back hE hX hSc hbl hbA h6 hL h hZ hl kk
      · refine lv_tableIn (tgt := 452) (off := 419) hx hb dL_law_33 (by decide) (by decide) rfl (by decide) ?_
        exact lc_letter hE hX hSc hbl hbA h6 hL h hZ hl kk
      · refine lv_tableIn (tgt := 475) (off := 442) hx hb dL_law_33 (by decide) (by decide) rfl (by decide) ?_
        exact lc_fails hE hX hSc hbl hbA h6 hL h hZ hl kk
      · refine lv_tableIn (tgt := 498) (off := 465) hx hb dL_law_33 (by decide) (by decide) rfl (by decide) ?_
        exact lc_open hE hX hSc hbl hbA h6 hL h hZ hl kk
      · refine lv_tableIn (tgt := 511) (off := 478) hx hb dL_law_33 (by decide) (by decide) rfl (by decide) ?_
        exact lc_ways hE hX hSc hbl hbA h6 hL h hZ hl kk
      · refine lv_tableIn (tgt := 524) (off := 491) hx hb dL_law_33 (by decide) (by decide) rfl (by decide) ?_
        exact lc_way hE hX hSc hbl hbA h6 hL h hZ hl kk
      · refine lv_tableIn (tgt := 547) (off := 514) hx hb dL_law_33 (by decide) (by decide) rfl (by decide) ?_
        exact lc_odds hE hX hSc hbl hbA h6 hL h hZ hl kk
      · refine lv_tableIn (tgt := 570) (off := 537) hx hb dL_law_33 (by decide) (by decide) rfl (by decide) ?_
        exact lc_mend hE hX hSc hbl hbA h6 hL h hZ hl kk
      · refine lv_tableIn (tgt := 583) (off := 550) hx hb dL_law_33 (by decide) (by decide) rfl (by decide) ?_
        exact lc_seen hE hX hSc hbl hbA h6 hL h hZ hl kk
      · refine lv_tableIn (tgt := 626) (off := 593) hx hb dL_law_33 (by decide) (by decide) rfl (by decide) ?_
        exact lc_forget hE hX hSc hbl hbA h6 hL h hZ hl kk
      · refine lv_tableIn (tgt := 639) (off := 606) hx hb dL_law_33 (by decide) (by decide) rfl (by decide) ?_
        exact lc_kinds hE hX hSc hbl hbA h6 hL h hZ hl kk
      · refine lv_tableIn (tgt := 652) (off := 619) hx hb dL_law_33 (by decide) (by decide) rfl (by decide) ?_
        exact lc_ask hE hX hSc hbl hbA h6 hL h hZ hl kk
      · refine lv_tableIn (tgt := 665) (off := 632) hx hb dL_law_33 (by decide) (by decide) rfl (by decide) ?_
        exact lc_row hE hX hSc hbl hbA h6 hL h hZ hl kk
      · refine lv_tableIn (tgt := 708) (off := 675) hx hb dL_law_33 (by decide) (by decide) rfl (by decide) ?_
        exact lc_set hE hX hSc hbl hbA h6 hL h hZ hl kk
      · refine lv_tableIn (tgt := 761) (off := 728) hx hb dL_law_33 (by decide) (by decide) rfl (by decide) ?_
        exact lc_get hE hX hSc hbl hbA h6 hL h hZ hl kk
      · refine lv_tableIn (tgt := 804) (off := 771) hx hb dL_law_33 (by decide) (by decide) rfl (by decide) ?_
        exact lc_copy hE hX hSc hbl hbA h6 hL h hZ hl kk
      · refine lv_tableIn (tgt := 867) (off := 834) hx hb dL_law_33 (by decide) (by decide) rfl (by decide) ?_
        exact lc_append hE hX hSc hbl hbA h6 hL h hZ hl kk
      · refine lv_tableIn (tgt := 900) (off := 867) hx hb dL_law_33 (by decide) (by decide) rfl (by decide) ?_
        exact lc_load hE hX hSc hbl hbA h6 hL h hZ hl kk
      · refine lv_tableIn (tgt := 933) (off := 900) hx hb dL_law_33 (by decide) (by decide) rfl (by decide) ?_
        exact lc_sum hE hX hSc hbl hbA h6 hL h hZ hl kk
      · refine lv_tableIn (tgt := 956) (off := 923) hx hb dL_law_33 (by decide) (by decide) rfl (by decide) ?_
        exact lc_drop hE hX hSc hbl hbA h6 hL h hZ hl kk
      · refine lv_tableIn (tgt := 979) (off := 946) hx hb dL_law_33 (by decide) (by decide) rfl (by decide) ?_
        exact lc_count hE hX hSc hbl hbA h6 hL h hZ hl kk
