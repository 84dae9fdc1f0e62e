theorem dX6_isWord_0 : decode cX6_isWord 0 = .ok (.aload_n 1, 1) := by decide +kernel
theorem dX6_isWord_1 : decode cX6_isWord 1 = .ok (.invokevirtual 108, 3) := by decide +kernel
theorem dX6_isWord_4 : decode cX6_isWord 4 = .ok (.aload_n 0, 1) := by decide +kernel
theorem dX6_isWord_5 : decode cX6_isWord 5 = .ok (.getfield 22, 3) := by decide +kernel
theorem dX6_isWord_8 : decode cX6_isWord 8 = .ok (.aload_n 0, 1) := by decide +kernel
theorem dX6_isWord_9 : decode cX6_isWord 9 = .ok (.getfield 39, 3) := by decide +kernel
theorem dX6_isWord_12 : decode cX6_isWord 12 = .ok (.isub, 1) := by decide +kernel
theorem dX6_isWord_13 : decode cX6_isWord 13 = .ok (.if_icmp .eq 5, 3) := by decide +kernel
theorem dX6_isWord_16 : decode cX6_isWord 16 = .ok (.iconst 0, 1) := by decide +kernel
theorem dX6_isWord_17 : decode cX6_isWord 17 = .ok (.ireturn, 1) := by decide +kernel
theorem dX6_isWord_18 : decode cX6_isWord 18 = .ok (.iconst 0, 1) := by decide +kernel
theorem dX6_isWord_19 : decode cX6_isWord 19 = .ok (.istore_n 2, 1) := by decide +kernel
theorem dX6_isWord_20 : decode cX6_isWord 20 = .ok (.iload_n 2, 1) := by decide +kernel
theorem dX6_isWord_21 : decode cX6_isWord 21 = .ok (.aload_n 1, 1) := by decide +kernel
theorem dX6_isWord_22 : decode cX6_isWord 22 = .ok (.invokevirtual 108, 3) := by decide +kernel
theorem dX6_isWord_25 : decode cX6_isWord 25 = .ok (.if_icmp .ge 30, 3) := by decide +kernel
theorem dX6_isWord_28 : decode cX6_isWord 28 = .ok (.aload_n 1, 1) := by decide +kernel
theorem dX6_isWord_29 : decode cX6_isWord 29 = .ok (.iload_n 2, 1) := by decide +kernel
theorem dX6_isWord_30 : decode cX6_isWord 30 = .ok (.invokevirtual 112, 3) := by decide +kernel
theorem dX6_isWord_33 : decode cX6_isWord 33 = .ok (.aload_n 0, 1) := by decide +kernel
theorem dX6_isWord_34 : decode cX6_isWord 34 = .ok (.getfield 9, 3) := by decide +kernel
theorem dX6_isWord_37 : decode cX6_isWord 37 = .ok (.aload_n 0, 1) := by decide +kernel
theorem dX6_isWord_38 : decode cX6_isWord 38 = .ok (.getfield 39, 3) := by decide +kernel
theorem dX6_isWord_41 : decode cX6_isWord 41 = .ok (.iload_n 2, 1) := by decide +kernel
theorem dX6_isWord_42 : decode cX6_isWord 42 = .ok (.iadd, 1) := by decide +kernel
theorem dX6_isWord_43 : decode cX6_isWord 43 = .ok (.caload, 1) := by decide +kernel
theorem dX6_isWord_44 : decode cX6_isWord 44 = .ok (.if_icmp .eq 5, 3) := by decide +kernel
theorem dX6_isWord_47 : decode cX6_isWord 47 = .ok (.iconst 0, 1) := by decide +kernel
theorem dX6_isWord_48 : decode cX6_isWord 48 = .ok (.ireturn, 1) := by decide +kernel
theorem dX6_isWord_49 : decode cX6_isWord 49 = .ok (.iinc 2 1, 3) := by decide +kernel
theorem dX6_isWord_52 : decode cX6_isWord 52 = .ok (.goto (-32), 3) := by decide +kernel
theorem dX6_isWord_55 : decode cX6_isWord 55 = .ok (.iconst 1, 1) := by decide +kernel
theorem dX6_isWord_56 : decode cX6_isWord 56 = .ok (.ireturn, 1) := by decide +kernel
theorem wk_1 : Cond.methodLink RX6 108 yJ0_length_8abf5 ∈ WL_ := wl_in (tj_2 (List.mem_of_getElem? (i := 91) rfl)) rfl
theorem wk_2 : Cond.instanceMethod yJ0_length_8abf5 ∈ WL_ := wl_in (tj_2 (List.mem_of_getElem? (i := 92) rfl)) rfl
theorem wk_3 : Cond.selects RJ0 yJ0_length_8abf5 yJ0_length_8abf5 ∈ WL_ := wl_in (tj_2 (List.mem_of_getElem? (i := 93) rfl)) rfl
theorem wk_5 : Cond.code yJ0_length_8abf5 cJ0_length_8abf5 1 (some .int) ∈ WL_ := wl_in (tj_2 (List.mem_of_getElem? (i := 94) rfl)) rfl
theorem wk_6 : Cond.methodLink RX6 112 yJ0_charAt_5068e ∈ WL_ := wl_in (tj_2 (List.mem_of_getElem? (i := 101) rfl)) rfl
theorem wk_7 : Cond.instanceMethod yJ0_charAt_5068e ∈ WL_ := wl_in (tj_2 (List.mem_of_getElem? (i := 102) rfl)) rfl
theorem wk_8 : Cond.selects RJ0 yJ0_charAt_5068e yJ0_charAt_5068e ∈ WL_ := wl_in (tj_2 (List.mem_of_getElem? (i := 103) rfl)) rfl
theorem wk_9 : Cond.code yJ0_charAt_5068e cJ0_charAt_5068e 2 (some .char) ∈ WL_ := wl_in (tj_2 (List.mem_of_getElem? (i := 104) rfl)) rfl
theorem hd_J0_length : yJ0_length_8abf5.cls = "java/lang/String" ∧ yJ0_length_8abf5.cls ≠ "java/lang/invoke/MethodHandle" ∧ yJ0_length_8abf5.cls ≠ "java/lang/invoke/VarHandle" ∧ (parseMethodDescriptor yJ0_length_8abf5.desc).map (fun d => d.parameters.length) = some 0 := by decide +kernel
theorem hd_J0_charAt : yJ0_charAt_5068e.cls = "java/lang/String" ∧ yJ0_charAt_5068e.cls ≠ "java/lang/invoke/MethodHandle" ∧ yJ0_charAt_5068e.cls ≠ "java/lang/invoke/VarHandle" ∧ (parseMethodDescriptor yJ0_charAt_5068e.desc).map (fun d => d.parameters.length) = some 1 := by decide +kernel
def wlX6_isWord : List Cond := .code yX6_isWord cX6_isWord 3 (some .boolean) :: WL_
section
variable {adK adV : Nat → Nat} {tA : Nat}
theorem c_X6_isWord {l : Launch} {D : va_G} {aC : Nat → ClassId} {a_t : Nat → Nat} (s_t : Ob_T) {i : Nat} (hi : i < 8) {out : Int32} (h : f_X6_isWord s_t (fun j => nI (wc_ i j)) (wz_ i) = some out) : M_RE adK adV tA l yX6_isWord wlX6_isWord 4 85 D aC [.ref (a_t 0), .ref (adK i)] (wd_X6 aC a_t s_t) (some (.int out)) := by
  obtain ⟨h7, hz⟩ := len_7 i hi
  refine k_entRE (cc := cX6_isWord) (ret := (some .boolean)) (maxL := 3) (own := RX6) (by decide) rfl rfl rfl ?_
  intro p e s m below meth c ls hE hX hr hZ hl
  have hl : lv_has ls 3 [(0, .ref (a_t 0)), (1, .ref (adK i))] := hl
  generalize ([.ref (a_t 0), .ref (adK i)] : List Value).toArray = args at hX ⊢
  obtain ⟨hx, hb, hml, hown, hts, hK, hA, hlk⟩ := id hX
  unfold f_X6_isWord at h
  rw [← hz] at h
  have hF : ∀ q ∈ ([] : List Loc), False := fun _ h => nomatch h
  generalize ([] : List Loc) = locs at hF ⊢
  have hS : ∀ locs : List Loc, (∀ q ∈ locs, False) → va_S (fun q => s.heap.size ≤ q) s.heap s.heap locs := fun locs hF => ⟨Nat.le_refl _, fun _ _ _ => rfl, fun q hq => (hF q hq).elim⟩
  refine lv_aload_n hx hb dX6_isWord_0 rfl (lv_at hl 1 rfl) ?_
  refine k_cRR (v := some (.int (Int32.ofNat (lenT_.getD i 0)))) (k_runTE (Bf := fun sz q => sz ≤ q) (Qc := fun _ => Q_R (some (.int (Int32.ofNat (lenT_.getD i 0))))) (free := fun _ _ => False) (wc := wd_X6 aC a_t s_t) (As := []) (rest := []) hi (hS locs hF) hE hE hX hl.1 (c_J0_length hi) (gv_ wk_1 wk_2 wk_3 wj_a4 wk_5) rfl hd_J0_length ⟨rfl, rfl⟩ hZ.1 hZ.2 rfl rfl rfl dX6_isWord_1 ⟨rfl, rfl⟩) hF (fun locs hF => ?_)
  refine lv_aload_n hx hb dX6_isWord_4 rfl (lv_at hl 0 rfl) ?_
  refine k_get hX hZ.1 0 6 rfl rfl iw_X6 5 rfl (wm_560) (v := .int (o_F s_t 5)) rfl dX6_isWord_5 ?_
  refine lv_aload_n hx hb dX6_isWord_8 rfl (lv_at hl 0 rfl) ?_
  refine k_get hX hZ.1 0 6 rfl rfl iw_X6 4 rfl (wm_559) (v := .int (o_F s_t 4)) rfl dX6_isWord_9 ?_
  refine lv_isub hx hb dX6_isWord_12 ?_
  refine lv_icmp_eq (tgt := 18) hx hb dX6_isWord_13 (by decide) (fun cd => ?_) (fun cd => ?_)
  · replace h := k_t cd h
    clear cd
    refine lv_iconst (v := 0) hx hb dX6_isWord_18 (by decide) ?_
    refine lv_istore_n (lv' := [(2, .int (0 : Int32)), (0, .ref (a_t 0)), (1, .ref (adK i))]) hx hb dX6_isWord_19 rfl hl (by decide) rfl (fun ls hl => ?_)
    refine Lp_ok (body := (fun (rec : Int32 → Option Int32) x => f_X6_isWord_L15 rec x s_t (fun j => nI (wc_ i j)) (lenT_.getD i 0))) (out := out) (fun x => ∀ (locs : List Loc) (ls : Array Slot), (∀ q ∈ locs, False) → lv_has ls 3 [(2, .int x), (0, .ref (a_t 0)), (1, .ref (adK i))] → W p l e (R_m 4 85) s m args below meth c s.heap locs 0 0 (MQ below (Q_R (some (.int out))) args s 0 0 (fun _ => False)) (F0 m 20 ls [])) (fun rec hrec x2 h locs ls hF hl => ?_) FU_ (0 : Int32) h locs ls hF hl
    unfold f_X6_isWord_L15 at h
    refine lv_iload_n hx hb dX6_isWord_20 rfl (lv_at hl 0 rfl) ?_
    refine lv_aload_n hx hb dX6_isWord_21 rfl (lv_at hl 2 rfl) ?_
    refine k_cRR (v := some (.int (Int32.ofNat (lenT_.getD i 0)))) (k_runTE (Bf := fun sz q => sz ≤ q) (Qc := fun _ => Q_R (some (.int (Int32.ofNat (lenT_.getD i 0))))) (free := fun _ _ => False) (wc := wd_X6 aC a_t s_t) (As := []) (rest := [.int x2]) hi (hS locs hF) hE hE hX hl.1 (c_J0_length hi) (gv_ wk_1 wk_2 wk_3 wj_a4 wk_5) rfl hd_J0_length ⟨rfl, rfl⟩ hZ.1 hZ.2 rfl rfl rfl dX6_isWord_22 ⟨rfl, rfl⟩) hF (fun locs hF => ?_)
    refine lv_icmp_ge (tgt := 55) hx hb dX6_isWord_25 (by decide) (fun cd => ?_) (fun cd => ?_)
    · replace h := k_t cd h
      clear cd
      refine lv_iconst (v := 1) hx hb dX6_isWord_55 (by decide) ?_
      cases h
      exact k_zretR (v := (1 : Int32)) hX hr rfl hF dX6_isWord_56
    · replace h := k_f cd h
      clear cd
      obtain ⟨v1, hv1, h⟩ := k_bd h
      obtain ⟨k, hk, rfl, rfl⟩ : ∃ k, k < lenT_.getD i 0 ∧ x2 = nI k ∧ nI (wc_ i k) = v1 := by
        unfold ld_I at hv1
        by_cases hc : x2 < 0 ∨ lenT_.getD i 0 ≤ x2.toNatClampNeg
        · rw [if_pos hc] at hv1; cases hv1
        · rw [if_neg hc] at hv1
          refine ⟨x2.toNatClampNeg, Nat.lt_of_not_le (fun z => hc (Or.inr z)), ?_, Option.some.inj hv1⟩
          obtain ⟨q, hq, rfl⟩ := nI_of (x := x2) (fun z => hc (Or.inl z))
          show nI q = nI (nI q).toInt.toNat
          rw [nI_toInt (by omega)]
          exact congrArg nI (by omega)
      refine lv_aload_n hx hb dX6_isWord_28 rfl (lv_at hl 2 rfl) ?_
      refine lv_iload_n hx hb dX6_isWord_29 rfl (lv_at hl 0 rfl) ?_
      refine k_cRR (v := some (.int (nI (wc_ i k)))) (k_runTE (Bf := fun sz q => sz ≤ q) (Qc := fun _ => Q_R (some (.int (nI (wc_ i k))))) (free := fun _ _ => False) (wc := wd_X6 aC a_t s_t) (As := [.int (nI k)]) (rest := []) hi (hS locs hF) hE hE hX hl.1 (c_J0_charAt hi hk) (gv_ wk_6 wk_7 wk_8 wj_a4 wk_9) rfl hd_J0_charAt ⟨rfl, rfl⟩ hZ.1 hZ.2 rfl rfl rfl dX6_isWord_30 ⟨rfl, rfl⟩) hF (fun locs hF => ?_)
      refine lv_aload_n hx hb dX6_isWord_33 rfl (lv_at hl 1 rfl) ?_
      refine k_get hX hZ.1 0 6 rfl rfl iw_X6 0 rfl (wm_557) (v := .ref (a_t 1)) rfl dX6_isWord_34 ?_
      refine lv_aload_n hx hb dX6_isWord_37 rfl (lv_at hl 1 rfl) ?_
      refine k_get hX hZ.1 0 6 rfl rfl iw_X6 4 rfl (wm_559) (v := .int (o_F s_t 4)) rfl dX6_isWord_38 ?_
      refine lv_iload_n hx hb dX6_isWord_41 rfl (lv_at hl 0 rfl) ?_
      refine lv_iadd hx hb dX6_isWord_42 ?_
      refine k_cald hX hZ.1 1 rfl h dX6_isWord_43 (fun v2 h => ?_)
      refine lv_icmp_eq (tgt := 49) hx hb dX6_isWord_44 (by decide) (fun cd => ?_) (fun cd => ?_)
      · replace h := k_t cd h
        clear cd
        refine lv_iinc (v := (nI k + (1 : Int32))) (lv' := [(2, .int (nI k + (1 : Int32))), (0, .ref (a_t 0)), (1, .ref (adK i))]) hx hb dX6_isWord_49 hl (k := 0) rfl rfl (by decide) rfl (fun ls hl => ?_)
        refine lv_goto (tgt := 20) hx hb dX6_isWord_52 (by decide) ?_
        exact hrec (nI k + (1 : Int32)) h locs ls hF hl
      · replace h := k_f cd h
        clear cd
        refine lv_iconst (v := 0) hx hb dX6_isWord_47 (by decide) ?_
        cases h
        exact k_zretR (v := (0 : Int32)) hX hr rfl hF dX6_isWord_48
  · replace h := k_f cd h
    clear cd
    refine lv_iconst (v := 0) hx hb dX6_isWord_16 (by decide) ?_
    cases h
    exact k_zretR (v := (0 : Int32)) hX hr rfl hF dX6_isWord_17
end
