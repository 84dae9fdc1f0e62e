theorem dX6_kindOfWord_0 : decode cX6_kindOfWord 0 = .ok (.aload_n 0, 1) := by decide +kernel
theorem dX6_kindOfWord_1 : decode cX6_kindOfWord 1 = .ok (.getfield 32, 3) := by decide +kernel
theorem dX6_kindOfWord_4 : decode cX6_kindOfWord 4 = .ok (.iconst 1, 1) := by decide +kernel
theorem dX6_kindOfWord_5 : decode cX6_kindOfWord 5 = .ok (.if_icmp .eq 5, 3) := by decide +kernel
theorem dX6_kindOfWord_8 : decode cX6_kindOfWord 8 = .ok (.iconst (-1), 1) := by decide +kernel
theorem dX6_kindOfWord_9 : decode cX6_kindOfWord 9 = .ok (.ireturn, 1) := by decide +kernel
theorem dX6_kindOfWord_10 : decode cX6_kindOfWord 10 = .ok (.iconst 0, 1) := by decide +kernel
theorem dX6_kindOfWord_11 : decode cX6_kindOfWord 11 = .ok (.istore_n 1, 1) := by decide +kernel
theorem dX6_kindOfWord_12 : decode cX6_kindOfWord 12 = .ok (.iload_n 1, 1) := by decide +kernel
theorem dX6_kindOfWord_13 : decode cX6_kindOfWord 13 = .ok (.bipush 7, 2) := by decide +kernel
theorem dX6_kindOfWord_15 : decode cX6_kindOfWord 15 = .ok (.if_icmp .gt 22, 3) := by decide +kernel
theorem dX6_kindOfWord_18 : decode cX6_kindOfWord 18 = .ok (.aload_n 0, 1) := by decide +kernel
theorem dX6_kindOfWord_19 : decode cX6_kindOfWord 19 = .ok (.iload_n 1, 1) := by decide +kernel
theorem dX6_kindOfWord_20 : decode cX6_kindOfWord 20 = .ok (.invokestatic 100, 3) := by decide +kernel
theorem dX6_kindOfWord_23 : decode cX6_kindOfWord 23 = .ok (.invokevirtual 104, 3) := by decide +kernel
theorem dX6_kindOfWord_26 : decode cX6_kindOfWord 26 = .ok (.ifCond .eq 5, 3) := by decide +kernel
theorem dX6_kindOfWord_29 : decode cX6_kindOfWord 29 = .ok (.iload_n 1, 1) := by decide +kernel
theorem dX6_kindOfWord_30 : decode cX6_kindOfWord 30 = .ok (.ireturn, 1) := by decide +kernel
theorem dX6_kindOfWord_31 : decode cX6_kindOfWord 31 = .ok (.iinc 1 1, 3) := by decide +kernel
theorem dX6_kindOfWord_34 : decode cX6_kindOfWord 34 = .ok (.goto (-22), 3) := by decide +kernel
theorem dX6_kindOfWord_37 : decode cX6_kindOfWord 37 = .ok (.iconst (-1), 1) := by decide +kernel
theorem dX6_kindOfWord_38 : decode cX6_kindOfWord 38 = .ok (.ireturn, 1) := by decide +kernel
theorem wn_1 : Cond.methodLink RX6 100 yX6_wordOf ∈ WL_ := wl_in (tj_2 (List.mem_of_getElem? (i := 76) rfl)) rfl
theorem wn_2 : Cond.static yX6_wordOf ∈ WL_ := wl_in (tj_2 (List.mem_of_getElem? (i := 77) rfl)) rfl
theorem wn_4 : Cond.initialized RX6 ∈ WL_ := wl_in (tj_1 (List.mem_of_getElem? (i := 2) rfl)) rfl
theorem wn_5 : Cond.code yX6_wordOf cX6_wordOf 1 (some (.object "java/lang/String")) ∈ WL_ := wl_in (tj_2 (List.mem_of_getElem? (i := 78) rfl)) rfl
theorem wn_6 : Cond.methodLink RX6 104 yX6_isWord ∈ WL_ := wl_in (tj_2 (List.mem_of_getElem? (i := 87) rfl)) rfl
theorem wn_7 : Cond.instanceMethod yX6_isWord ∈ WL_ := wl_in (tj_2 (List.mem_of_getElem? (i := 89) rfl)) rfl
theorem wn_8 : Cond.selects RX6 yX6_isWord yX6_isWord ∈ WL_ := wl_in (List.mem_append_left _ (List.mem_of_getElem? (i := 3) rfl)) rfl
theorem wn_9 : Cond.code yX6_isWord cX6_isWord 3 (some .boolean) ∈ WL_ := wl_in (tj_2 (List.mem_of_getElem? (i := 90) rfl)) rfl
theorem hd_X6_wordOf : yX6_wordOf.cls ≠ "java/lang/invoke/MethodHandle" ∧ yX6_wordOf.cls ≠ "java/lang/invoke/VarHandle" ∧ (parseMethodDescriptor yX6_wordOf.desc).map (fun d => d.parameters.length) = some 1 := by decide +kernel
theorem hd_X6_isWord : yX6_isWord.cls = RX6 ∧ yX6_isWord.cls ≠ "java/lang/invoke/MethodHandle" ∧ yX6_isWord.cls ≠ "java/lang/invoke/VarHandle" ∧ (parseMethodDescriptor yX6_isWord.desc).map (fun d => d.parameters.length) = some 1 := by decide +kernel
def wlX6_kindOfWord : List Cond := .code yX6_kindOfWord cX6_kindOfWord 2 (some .int) :: WL_
section
variable {adK adV : Nat → Nat} {tA : Nat}
theorem c_X6_kindOfWord {l : Launch} {D : va_G} {aC : Nat → ClassId} {a_t : Nat → Nat} (s_t : Ob_T) {out : Int32} (h : f_X6_kindOfWord s_t = some out) : M_RE adK adV tA l yX6_kindOfWord wlX6_kindOfWord 5 107 D aC [.ref (a_t 0)] (wd_X6 aC a_t s_t) (some (.int out)) := by
  refine k_entRE (cc := cX6_kindOfWord) (ret := (some .int)) (maxL := 2) (own := RX6) (by decide) rfl rfl rfl ?_
  intro p e s m below meth c ls hE hX hr hZ hl
  have hl : lv_has ls 2 [(0, .ref (a_t 0))] := hl
  generalize ([.ref (a_t 0)] : List Value).toArray = args at hX ⊢
  obtain ⟨hx, hb, hml, hown, hts, hK, hA, hlk⟩ := id hX
  unfold f_X6_kindOfWord at h
  have hF : ∀ q ∈ ([] : List Loc), False := fun _ h => nomatch h
  generalize ([] : List Loc) = locs at hF ⊢
  refine lv_aload_n hx hb dX6_kindOfWord_0 rfl (lv_at hl 0 rfl) ?_
  refine k_get hX hZ.1 0 6 rfl rfl iw_X6 3 rfl (wm_561) (v := .int (o_F s_t 3)) rfl dX6_kindOfWord_1 ?_
  refine lv_iconst (v := 1) hx hb dX6_kindOfWord_4 (by decide) ?_
  refine lv_icmp_eq (tgt := 10) hx hb dX6_kindOfWord_5 (by decide) (fun cd => ?_) (fun cd => ?_)
  · replace h := k_t cd h
    clear cd
    refine lv_iconst (v := 0) hx hb dX6_kindOfWord_10 (by decide) ?_
    refine lv_istore_n (lv' := [(1, .int (0 : Int32)), (0, .ref (a_t 0))]) hx hb dX6_kindOfWord_11 rfl hl (by decide) rfl (fun ls hl => ?_)
    refine Lp_ok (body := (fun (rec : Int32 → Option Int32) x => f_X6_kindOfWord_L10 rec x s_t)) (out := out) (fun x => ∀ (locs : List Loc) (ls : Array Slot), (∃ k, k ≤ 8 ∧ x = nI k) → (∀ q ∈ locs, False) → lv_has ls 2 [(1, .int x), (0, .ref (a_t 0))] → W p l e (R_m 5 107) s m args below meth c s.heap locs 0 0 (MQ below (Q_R (some (.int out))) args s 0 0 (fun _ => False)) (F0 m 12 ls [])) (fun rec hrec x1 h locs ls hx1 hF hl => ?_) FU_ (0 : Int32) h locs ls ⟨0, by omega, rfl⟩ hF hl
    obtain ⟨k, hk, rfl⟩ := hx1
    unfold f_X6_kindOfWord_L10 at h
    refine lv_iload_n hx hb dX6_kindOfWord_12 rfl (lv_at hl 0 rfl) ?_
    refine lv_bipush (v := 7) hx hb dX6_kindOfWord_13 (by decide) ?_
    refine lv_icmp_gt (tgt := 37) hx hb dX6_kindOfWord_15 (by decide) (fun cd => ?_) (fun cd => ?_)
    · replace h := k_t cd h
      clear cd
      refine lv_iconst (v := -1) hx hb dX6_kindOfWord_37 (by decide) ?_
      cases h
      exact k_iretR hX hr hF dX6_kindOfWord_38
    · replace h := k_f cd h
      have hk8 : k < 8 := by
        rcases Nat.lt_or_ge k 8 with q | q
        · exact q
        · exact absurd (nI_lt (a := 7) (b := k) (by omega) (by omega)) cd
      clear cd
      obtain ⟨u1, hu, h⟩ := k_bd h
      rw [sw_nI k hk8] at hu
      refine lv_aload_n hx hb dX6_kindOfWord_18 rfl (lv_at hl 1 rfl) ?_
      refine lv_iload_n hx hb dX6_kindOfWord_19 rfl (lv_at hl 0 rfl) ?_
      refine k_cRR (v := some (.ref (adK k))) (k_runSE (Bf := fun sz q => sz ≤ q) (Qc := fun _ => Q_R (some (.ref (adK k)))) (free := fun _ _ => False) (wc := wd_X6 aC a_t s_t) (As := [.int (nI k)]) (rest := [.ref (a_t 0)]) hE hX hl.1 (c_X6_wordOf hk8) (gs_ wn_1 wn_2 wn_4 wn_5) rfl hd_X6_wordOf ⟨rfl, rfl⟩ hZ.1 hZ.2 rfl rfl rfl dX6_kindOfWord_20 ⟨rfl, rfl⟩) hF (fun locs hF => ?_)
      refine k_cRR (v := some (.int u1)) (k_runVE (Bf := fun sz q => sz ≤ q) (Qc := fun _ => Q_R (some (.int u1))) (free := fun _ _ => False) (wc := wd_X6 aC a_t s_t) (As := [.ref (adK k)]) (rest := []) hE hX hl.1 (c_X6_isWord s_t hk8 hu) (gv_ wn_6 wn_7 wn_8 wn_4 wn_9) rfl hd_X6_isWord ⟨rfl, rfl⟩ 6 0 rfl rfl hZ.1 hZ.2 rfl rfl rfl dX6_kindOfWord_23 ⟨rfl, rfl⟩) hF (fun locs hF => ?_)
      clear hu
      refine lv_if_eq (tgt := 31) hx hb dX6_kindOfWord_26 (by decide) (fun cd => ?_) (fun cd => ?_)
      · replace h := k_t cd h
        clear cd
        refine lv_iinc (v := (nI k + (1 : Int32))) (lv' := [(1, .int (nI k + (1 : Int32))), (0, .ref (a_t 0))]) hx hb dX6_kindOfWord_31 hl (k := 0) rfl rfl (by decide) rfl (fun ls hl => ?_)
        refine lv_goto (tgt := 12) hx hb dX6_kindOfWord_34 (by decide) ?_
        exact hrec (nI k + (1 : Int32)) h locs ls ⟨k + 1, by omega, nI_1 k⟩ hF hl
      · replace h := k_f cd h
        clear cd
        refine lv_iload_n hx hb dX6_kindOfWord_29 rfl (lv_at hl 0 rfl) ?_
        cases h
        exact k_iretR hX hr hF dX6_kindOfWord_30
  · replace h := k_f cd h
    clear cd
    refine lv_iconst (v := -1) hx hb dX6_kindOfWord_8 (by decide) ?_
    cases h
    exact k_iretR hX hr hF dX6_kindOfWord_9
end
