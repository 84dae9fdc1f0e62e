theorem dX8_as_0 : decode cX8_as 0 = .ok (.aload_n 0, 1) := by decide +kernel
theorem dX8_as_1 : decode cX8_as 1 = .ok (.getfield 19, 3) := by decide +kernel
theorem dX8_as_4 : decode cX8_as 4 = .ok (.iload_n 1, 1) := by decide +kernel
theorem dX8_as_5 : decode cX8_as 5 = .ok (.invokevirtual 102, 3) := by decide +kernel
theorem dX8_as_8 : decode cX8_as 8 = .ok (.ifCond .ne 6, 3) := by decide +kernel
theorem dX8_as_11 : decode cX8_as 11 = .ok (.bipush (-2), 2) := by decide +kernel
theorem dX8_as_13 : decode cX8_as 13 = .ok (.ireturn, 1) := by decide +kernel
theorem dX8_as_14 : decode cX8_as 14 = .ok (.iload_n 2, 1) := by decide +kernel
theorem dX8_as_15 : decode cX8_as 15 = .ok (.ifCond .lt 8, 3) := by decide +kernel
theorem dX8_as_18 : decode cX8_as 18 = .ok (.iload_n 2, 1) := by decide +kernel
theorem dX8_as_19 : decode cX8_as 19 = .ok (.iconst 5, 1) := by decide +kernel
theorem dX8_as_20 : decode cX8_as 20 = .ok (.if_icmp .le 6, 3) := by decide +kernel
theorem dX8_as_23 : decode cX8_as 23 = .ok (.bipush (-3), 2) := by decide +kernel
theorem dX8_as_25 : decode cX8_as 25 = .ok (.ireturn, 1) := by decide +kernel
theorem dX8_as_26 : decode cX8_as 26 = .ok (.aload_n 0, 1) := by decide +kernel
theorem dX8_as_27 : decode cX8_as 27 = .ok (.getfield 19, 3) := by decide +kernel
theorem dX8_as_30 : decode cX8_as 30 = .ok (.iload_n 1, 1) := by decide +kernel
theorem dX8_as_31 : decode cX8_as 31 = .ok (.invokevirtual 105, 3) := by decide +kernel
theorem dX8_as_34 : decode cX8_as 34 = .ok (.iload_n 2, 1) := by decide +kernel
theorem dX8_as_35 : decode cX8_as 35 = .ok (.invokestatic 131, 3) := by decide +kernel
theorem dX8_as_38 : decode cX8_as 38 = .ok (.ifCond .eq 7, 3) := by decide +kernel
theorem dX8_as_41 : decode cX8_as 41 = .ok (.iconst 1, 1) := by decide +kernel
theorem dX8_as_42 : decode cX8_as 42 = .ok (.goto 5, 3) := by decide +kernel
theorem dX8_as_45 : decode cX8_as 45 = .ok (.bipush (-4), 2) := by decide +kernel
theorem dX8_as_47 : decode cX8_as 47 = .ok (.ireturn, 1) := by decide +kernel
theorem wu_1 : Cond.methodLink RX8 131 yX8_isVerb ∈ WL_ := wl_in (tj_3 (List.mem_of_getElem? (i := 166) rfl)) rfl
theorem wu_2 : Cond.static yX8_isVerb ∈ WL_ := wl_in (tj_3 (List.mem_of_getElem? (i := 167) rfl)) rfl
theorem wu_4 : Cond.initialized RX8 ∈ WL_ := wl_in (tj_1 (List.mem_of_getElem? (i := 1) rfl)) rfl
theorem wu_5 : Cond.code yX8_isVerb cX8_isVerb 4 (some .boolean) ∈ WL_ := wl_in (tj_3 (List.mem_of_getElem? (i := 168) rfl)) rfl
theorem hd_X8_isVerb : yX8_isVerb.cls ≠ "java/lang/invoke/MethodHandle" ∧ yX8_isVerb.cls ≠ "java/lang/invoke/VarHandle" ∧ (parseMethodDescriptor yX8_isVerb.desc).map (fun d => d.parameters.length) = some 2 := by decide +kernel
def wlX8_as : List Cond := .code yX8_as cX8_as 3 (some .int) :: WL_
section
variable {adK adV : Nat → Nat} {tA : Nat}
theorem c_X8_as {l : Launch} {D : va_G} {aC : Nat → ClassId} {a_x : Nat → Nat} {a_n : Nat → Nat} {a_t : Nat → Nat} {a_n2 : Nat → Nat} {a_v : Nat → Nat} {a_v2 : Nat → Nat} {a_g : Nat → Nat} {a_w : Nat → Nat} {a_q : Nat → Nat} {a_r : Nat → Nat} (s_x : Ob_T) (s_n : Ob_T) (x1 : Int32) (x2 : Int32) {out : Int32} (h : f_X8_as s_x s_n x1 x2 = some out) : M_RE adK adV tA l yX8_as wlX8_as 1 23 D aC [.ref (a_x 0), .int x1, .int x2] (wd_X8 aC a_x (a_t 0) (a_n 0) (a_n2 0) (a_v 0) (a_v2 0) (a_g 0) (a_w 0) (a_q 0) (a_r 0) s_x ++ wd_X1 aC a_n s_n) (some (.int out)) := by
  refine k_entRE (cc := cX8_as) (ret := (some .int)) (maxL := 3) (own := RX8) (by decide) rfl rfl rfl ?_
  intro p e s m below meth c ls hE hX hr hZ hl
  have hl : lv_has ls 3 [(0, .ref (a_x 0)), (1, .int x1), (2, .int x2)] := hl
  generalize ([.ref (a_x 0), .int x1, .int x2] : List Value).toArray = args at hX ⊢
  obtain ⟨hx, hb, hml, hown, hts, hK, hA, hlk⟩ := id hX
  unfold f_X8_as at h
  have hF : ∀ q ∈ ([] : List Loc), False := fun _ h => nomatch h
  generalize ([] : List Loc) = locs at hF ⊢
  refine lv_aload_n hx hb dX8_as_0 rfl (lv_at hl 0 rfl) ?_
  refine k_get hX hZ.1 0 8 rfl rfl iw_X8 1 rfl (wm_651) (v := .ref (a_n 0)) rfl dX8_as_1 ?_
  refine lv_iload_n hx hb dX8_as_4 rfl (lv_at hl 1 rfl) ?_
  obtain ⟨u1, hu, h⟩ := k_bd h
  refine k_vRR (As := [.int x1]) (rest := []) (wc := wd_X1 aC a_n s_n) (v := some (.int u1)) (st1 := [.int u1]) hX hl.1 hZ hF (c_X1_has (a_n := a_n) s_n x1 hu) (gv_ wm_657 wm_323 wm_324 wm_321 wm_322) rfl hd_X1_has ⟨rfl, rfl⟩ 1 0 rfl rfl [1, 2, 3, 4, 5, 6, 7] rfl rfl rfl rfl rfl dX8_as_5 rfl ⟨rfl, rfl⟩ (fun locs hF => ?_)
  clear hu
  refine lv_if_ne (tgt := 14) hx hb dX8_as_8 (by decide) (fun cd => ?_) (fun cd => ?_)
  · replace h := k_f cd h
    refine lv_iload_n hx hb dX8_as_14 rfl (lv_at hl 2 rfl) ?_
    refine lv_if_lt (tgt := 23) hx hb dX8_as_15 (by decide) (fun cd => ?_) (fun cd => ?_)
    · replace h := k_t cd h
      refine lv_bipush (v := -3) hx hb dX8_as_23 (by decide) ?_
      cases h
      exact k_iretR hX hr hF dX8_as_25
    · replace h := k_f cd h
      refine lv_iload_n hx hb dX8_as_18 rfl (lv_at hl 2 rfl) ?_
      refine lv_iconst (v := 5) hx hb dX8_as_19 (by decide) ?_
      refine lv_icmp_le (tgt := 26) hx hb dX8_as_20 (by decide) (fun cd => ?_) (fun cd => ?_)
      · replace h := k_f (Int32.not_lt.mpr cd) h
        refine lv_aload_n hx hb dX8_as_26 rfl (lv_at hl 0 rfl) ?_
        refine k_get hX hZ.1 0 8 rfl rfl iw_X8 1 rfl (wm_651) (v := .ref (a_n 0)) rfl dX8_as_27 ?_
        refine lv_iload_n hx hb dX8_as_30 rfl (lv_at hl 1 rfl) ?_
        obtain ⟨u2, hu, h⟩ := k_bd h
        refine k_vRR (As := [.int x1]) (rest := []) (wc := wd_X1 aC a_n s_n) (v := some (.int u2)) (st1 := [.int u2]) hX hl.1 hZ hF (c_X1_kindOf (a_n := a_n) s_n x1 hu) (gv_ wm_652 wm_482 wm_483 wm_321 wm_481) rfl hd_X1_kindOf ⟨rfl, rfl⟩ 1 0 rfl rfl [1, 2, 3, 4, 5, 6, 7] rfl rfl rfl rfl rfl dX8_as_31 rfl ⟨rfl, rfl⟩ (fun locs hF => ?_)
        clear hu
        refine lv_iload_n hx hb dX8_as_34 rfl (lv_at hl 2 rfl) ?_
        obtain ⟨u3, hu, h⟩ := k_bd h
        refine k_cRR (v := some (.int u3)) (k_runSE (Bf := fun sz q => sz ≤ q) (Qc := fun _ => Q_R (some (.int u3))) (free := fun _ _ => False) (wc := []) (As := [.int u2, .int x2]) (rest := []) hE hX hl.1 (c_X8_isVerb u2 x2 hu) (gs_ wu_1 wu_2 wu_4 wu_5) rfl hd_X8_isVerb ⟨rfl, rfl⟩ (fun k q hk => by cases hk) ⟨fun i j x y hi => (by cases hi), fun k q hk => trivial⟩ rfl rfl rfl dX8_as_35 ⟨rfl, rfl⟩) hF (fun locs hF => ?_)
        clear hu
        refine lv_if_eq (tgt := 45) hx hb dX8_as_38 (by decide) (fun cd => ?_) (fun cd => ?_)
        · replace h := k_t cd h
          refine lv_bipush (v := -4) hx hb dX8_as_45 (by decide) ?_
          cases h
          exact k_iretR hX hr hF dX8_as_47
        · replace h := k_f cd h
          refine lv_iconst (v := 1) hx hb dX8_as_41 (by decide) ?_
          refine lv_goto (tgt := 47) hx hb dX8_as_42 (by decide) ?_
          cases h
          exact k_iretR hX hr hF dX8_as_47
      · replace h := k_t (Int32.not_le.mp cd) h
        refine lv_bipush (v := -3) hx hb dX8_as_23 (by decide) ?_
        cases h
        exact k_iretR hX hr hF dX8_as_25
  · replace h := k_t cd h
    refine lv_bipush (v := -2) hx hb dX8_as_11 (by decide) ?_
    cases h
    exact k_iretR hX hr hF dX8_as_13
end
