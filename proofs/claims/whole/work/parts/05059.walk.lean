def wlX1_toldLetters : List Cond := .code yX1_toldLetters cX1_toldLetters 4 (some .int) :: WL_
theorem hd_X1_toldLetters : yX1_toldLetters.cls = RX1 ∧ yX1_toldLetters.cls ≠ "java/lang/invoke/MethodHandle" ∧ yX1_toldLetters.cls ≠ "java/lang/invoke/VarHandle" ∧ (parseMethodDescriptor yX1_toldLetters.desc).map (fun d => d.parameters.length) = some 0 := by decide +kernel
theorem dX1_toldLetters_0 : decode cX1_toldLetters 0 = .ok (.iconst 0, 1) := by decide +kernel
theorem dX1_toldLetters_1 : decode cX1_toldLetters 1 = .ok (.istore_n 1, 1) := by decide +kernel
theorem dX1_toldLetters_2 : decode cX1_toldLetters 2 = .ok (.iconst 0, 1) := by decide +kernel
theorem dX1_toldLetters_3 : decode cX1_toldLetters 3 = .ok (.istore_n 2, 1) := by decide +kernel
theorem dX1_toldLetters_4 : decode cX1_toldLetters 4 = .ok (.iload_n 2, 1) := by decide +kernel
theorem dX1_toldLetters_5 : decode cX1_toldLetters 5 = .ok (.aload_n 0, 1) := by decide +kernel
theorem dX1_toldLetters_6 : decode cX1_toldLetters 6 = .ok (.getfield 30, 3) := by decide +kernel
theorem dX1_toldLetters_9 : decode cX1_toldLetters 9 = .ok (.if_icmp .ge 62, 3) := by decide +kernel
theorem dX1_toldLetters_12 : decode cX1_toldLetters 12 = .ok (.iconst 0, 1) := by decide +kernel
theorem dX1_toldLetters_13 : decode cX1_toldLetters 13 = .ok (.istore_n 3, 1) := by decide +kernel
theorem dX1_toldLetters_14 : decode cX1_toldLetters 14 = .ok (.aload_n 0, 1) := by decide +kernel
theorem dX1_toldLetters_15 : decode cX1_toldLetters 15 = .ok (.iload_n 2, 1) := by decide +kernel
theorem dX1_toldLetters_16 : decode cX1_toldLetters 16 = .ok (.invokevirtual 44, 3) := by decide +kernel
theorem dX1_toldLetters_19 : decode cX1_toldLetters 19 = .ok (.ifCond .eq 46, 3) := by decide +kernel
theorem dX1_toldLetters_22 : decode cX1_toldLetters 22 = .ok (.iload_n 3, 1) := by decide +kernel
theorem dX1_toldLetters_23 : decode cX1_toldLetters 23 = .ok (.aload_n 0, 1) := by decide +kernel
theorem dX1_toldLetters_24 : decode cX1_toldLetters 24 = .ok (.getfield 24, 3) := by decide +kernel
theorem dX1_toldLetters_27 : decode cX1_toldLetters 27 = .ok (.iload_n 2, 1) := by decide +kernel
theorem dX1_toldLetters_28 : decode cX1_toldLetters 28 = .ok (.iaload, 1) := by decide +kernel
theorem dX1_toldLetters_29 : decode cX1_toldLetters 29 = .ok (.if_icmp .ge 36, 3) := by decide +kernel
theorem dX1_toldLetters_32 : decode cX1_toldLetters 32 = .ok (.aload_n 0, 1) := by decide +kernel
theorem dX1_toldLetters_33 : decode cX1_toldLetters 33 = .ok (.iload_n 2, 1) := by decide +kernel
theorem dX1_toldLetters_34 : decode cX1_toldLetters 34 = .ok (.iload_n 3, 1) := by decide +kernel
theorem dX1_toldLetters_35 : decode cX1_toldLetters 35 = .ok (.invokevirtual 47, 3) := by decide +kernel
theorem dX1_toldLetters_38 : decode cX1_toldLetters 38 = .ok (.sipush 20000, 3) := by decide +kernel
theorem dX1_toldLetters_41 : decode cX1_toldLetters 41 = .ok (.if_icmp .lt 18, 3) := by decide +kernel
theorem dX1_toldLetters_44 : decode cX1_toldLetters 44 = .ok (.iload_n 1, 1) := by decide +kernel
theorem dX1_toldLetters_45 : decode cX1_toldLetters 45 = .ok (.iconst 1, 1) := by decide +kernel
theorem dX1_toldLetters_46 : decode cX1_toldLetters 46 = .ok (.aload_n 0, 1) := by decide +kernel
theorem dX1_toldLetters_47 : decode cX1_toldLetters 47 = .ok (.iload_n 2, 1) := by decide +kernel
theorem dX1_toldLetters_48 : decode cX1_toldLetters 48 = .ok (.iload_n 3, 1) := by decide +kernel
theorem dX1_toldLetters_49 : decode cX1_toldLetters 49 = .ok (.invokevirtual 47, 3) := by decide +kernel
theorem dX1_toldLetters_52 : decode cX1_toldLetters 52 = .ok (.sipush 20000, 3) := by decide +kernel
theorem dX1_toldLetters_55 : decode cX1_toldLetters 55 = .ok (.isub, 1) := by decide +kernel
theorem dX1_toldLetters_56 : decode cX1_toldLetters 56 = .ok (.ishl, 1) := by decide +kernel
theorem dX1_toldLetters_57 : decode cX1_toldLetters 57 = .ok (.ior, 1) := by decide +kernel
theorem dX1_toldLetters_58 : decode cX1_toldLetters 58 = .ok (.istore_n 1, 1) := by decide +kernel
theorem dX1_toldLetters_59 : decode cX1_toldLetters 59 = .ok (.iinc 3 1, 3) := by decide +kernel
theorem dX1_toldLetters_62 : decode cX1_toldLetters 62 = .ok (.goto (-48), 3) := by decide +kernel
theorem dX1_toldLetters_65 : decode cX1_toldLetters 65 = .ok (.iinc 2 1, 3) := by decide +kernel
theorem dX1_toldLetters_68 : decode cX1_toldLetters 68 = .ok (.goto (-64), 3) := by decide +kernel
theorem dX1_toldLetters_71 : decode cX1_toldLetters 71 = .ok (.iload_n 1, 1) := by decide +kernel
theorem dX1_toldLetters_72 : decode cX1_toldLetters 72 = .ok (.ireturn, 1) := by decide +kernel
set_option maxHeartbeats 4000000 in
set_option maxRecDepth 100000 in
theorem t_X1_toldLetters_L14 {p : Program} {l : Launch} {e : Env} {s : State} {m : MethodId} {args : Array Value} {below : List Frame} {meth : Method} {c : Code} {D : va_G} {aC : Nat → ClassId} {A : Nat → Prop} {a_n : Nat → Nat} {out : Int32} {s_n : Ob_T} {rec4 : (Int32 × Int32) → Option Int32} {rec14 : (Int32 × Int32 × Int32) → Option Int32} (hX : K_X p s m args meth c cX1_toldLetters 4 WL_ RX1 D aC A) (hr : meth.sig.returnType = (some .int)) (hZ : va_P D vwCl (wd_X1 aC a_n s_n) s.heap ∧ va_D (fun _ => True) (wd_X1 aC a_n s_n)) (hrec4 : ∀ x : Int32 × Int32, rec4 x = some out → ∀ (locs : List Loc) (ls : Array Slot), (∀ q ∈ locs, False) → lv_has ls 4 [(0, .ref (a_n 0)), (1, .int x.1), (2, .int x.2)] → W p l e (R_m 1 22) s m args below meth c s.heap locs 0 0 (MQ below (Q_R (some (.int out))) args s 0 0 (fun _ => False)) (F0 m 4 ls [])) (hrec14 : ∀ x : Int32 × Int32 × Int32, rec14 x = some out → ∀ (locs : List Loc) (ls : Array Slot), (∀ q ∈ locs, False) → lv_has ls 4 [(0, .ref (a_n 0)), (1, .int x.1), (2, .int x.2.1), (3, .int x.2.2)] → W p l e (R_m 1 22) s m args below meth c s.heap locs 0 0 (MQ below (Q_R (some (.int out))) args s 0 0 (fun _ => False)) (F0 m 14 ls [])) (x1 : Int32) (x2 : Int32) (x3 : Int32) (h : f_X1_toldLetters_L14 rec4 rec14 x1 x2 x3 s_n = some out) (locs : List Loc) (ls : Array Slot) (hF : ∀ q ∈ locs, False) (hl : lv_has ls 4 [(0, .ref (a_n 0)), (1, .int x1), (2, .int x2), (3, .int x3)]) : W p l e (R_m 1 22) s m args below meth c s.heap locs 0 0 (MQ below (Q_R (some (.int out))) args s 0 0 (fun _ => False)) (F0 m 14 ls []) := by
  obtain ⟨hx, hb, hml, hown, hts, hK, hA, hlk⟩ := id hX
  unfold f_X1_toldLetters_L14 at h
  refine lv_aload_n hx hb dX1_toldLetters_14 rfl (lv_at hl 0 rfl) ?_
  refine lv_iload_n hx hb dX1_toldLetters_15 rfl (lv_at hl 2 rfl) ?_
  obtain ⟨u1, hu, h⟩ := k_bd h
  refine k_vRRs (As := [.int x2]) (rest := []) (v := some (.int u1)) (st1 := [.int u1]) hX hl.1 hZ hF (c_X1_isTold (a_n := a_n) s_n x2 hu) (gv_ wm_329 wm_331 wm_332 wm_321 wm_330) rfl hd_X1_isTold ⟨rfl, rfl⟩ 1 0 rfl rfl rfl rfl rfl dX1_toldLetters_16 rfl ⟨rfl, rfl⟩ (fun locs hF => ?_)
  clear hu
  refine lv_if_eq (tgt := 65) hx hb dX1_toldLetters_19 (by decide) (fun cd => ?_) (fun cd => ?_)
  · replace h := k_t cd h
    clear cd
    refine lv_iinc (v := (x2 + (1 : Int32))) (lv' := [(2, .int (x2 + (1 : Int32))), (0, .ref (a_n 0)), (1, .int x1), (3, .int x3)]) hx hb dX1_toldLetters_65 hl (k := 2) rfl rfl (by decide) rfl (fun ls hl => ?_)
    refine lv_goto (tgt := 4) hx hb dX1_toldLetters_68 (by decide) ?_
    exact hrec4 (x1, (x2 + (1 : Int32))) h locs ls hF (lv_sub hl [1, 2, 0] rfl)
  · replace h := k_f cd h
    clear cd
    refine lv_iload_n hx hb dX1_toldLetters_22 rfl (lv_at hl 3 rfl) ?_
    refine lv_aload_n hx hb dX1_toldLetters_23 rfl (lv_at hl 0 rfl) ?_
    refine k_get hX hZ.1 0 1 rfl rfl iw_X1 4 rfl (wm_317) (v := .ref (a_n 5)) rfl dX1_toldLetters_24 ?_
    refine lv_iload_n hx hb dX1_toldLetters_27 rfl (lv_at hl 2 rfl) ?_
    refine k_iald hX hZ.1 5 rfl h dX1_toldLetters_28 (fun v2 h => ?_)
    refine lv_icmp_ge (tgt := 65) hx hb dX1_toldLetters_29 (by decide) (fun cd => ?_) (fun cd => ?_)
    · replace h := k_t cd h
      clear cd
      refine lv_iinc (v := (x2 + (1 : Int32))) (lv' := [(2, .int (x2 + (1 : Int32))), (0, .ref (a_n 0)), (1, .int x1), (3, .int x3)]) hx hb dX1_toldLetters_65 hl (k := 2) rfl rfl (by decide) rfl (fun ls hl => ?_)
      refine lv_goto (tgt := 4) hx hb dX1_toldLetters_68 (by decide) ?_
      exact hrec4 (x1, (x2 + (1 : Int32))) h locs ls hF (lv_sub hl [1, 2, 0] rfl)
    · replace h := k_f cd h
      clear cd
      refine lv_aload_n hx hb dX1_toldLetters_32 rfl (lv_at hl 0 rfl) ?_
      refine lv_iload_n hx hb dX1_toldLetters_33 rfl (lv_at hl 2 rfl) ?_
      refine lv_iload_n hx hb dX1_toldLetters_34 rfl (lv_at hl 3 rfl) ?_
      obtain ⟨u3, hu, h⟩ := k_bd h
      refine k_vRRs (As := [.int x2, .int x3]) (rest := []) (v := some (.int u3)) (st1 := [.int u3]) hX hl.1 hZ hF (c_X1_at (a_n := a_n) s_n x2 x3 hu) (gv_ wm_325 wm_327 wm_328 wm_321 wm_326) rfl hd_X1_at ⟨rfl, rfl⟩ 1 0 rfl rfl rfl rfl rfl dX1_toldLetters_35 rfl ⟨rfl, rfl⟩ (fun locs hF => ?_)
      clear hu
      refine lv_sipush (v := 20000) hx hb dX1_toldLetters_38 (by decide) ?_
      refine lv_icmp_lt (tgt := 59) hx hb dX1_toldLetters_41 (by decide) (fun cd => ?_) (fun cd => ?_)
      · replace h := k_t cd h
        clear cd
        refine lv_iinc (v := (x3 + (1 : Int32))) (lv' := [(3, .int (x3 + (1 : Int32))), (0, .ref (a_n 0)), (1, .int x1), (2, .int x2)]) hx hb dX1_toldLetters_59 hl (k := 3) rfl rfl (by decide) rfl (fun ls hl => ?_)
        refine lv_goto (tgt := 14) hx hb dX1_toldLetters_62 (by decide) ?_
        exact hrec14 (x1, x2, (x3 + (1 : Int32))) h locs ls hF (lv_sub hl [1, 2, 3, 0] rfl)
      · replace h := k_f cd h
        clear cd
        refine lv_iload_n hx hb dX1_toldLetters_44 rfl (lv_at hl 1 rfl) ?_
        refine lv_iconst (v := 1) hx hb dX1_toldLetters_45 (by decide) ?_
        refine lv_aload_n hx hb dX1_toldLetters_46 rfl (lv_at hl 0 rfl) ?_
        refine lv_iload_n hx hb dX1_toldLetters_47 rfl (lv_at hl 2 rfl) ?_
        refine lv_iload_n hx hb dX1_toldLetters_48 rfl (lv_at hl 3 rfl) ?_
        obtain ⟨u4, hu, h⟩ := k_bd h
        refine k_vRRs (As := [.int x2, .int x3]) (rest := [.int (1 : Int32), .int x1]) (v := some (.int u4)) (st1 := [.int u4, .int (1 : Int32), .int x1]) hX hl.1 hZ hF (c_X1_at (a_n := a_n) s_n x2 x3 hu) (gv_ wm_325 wm_327 wm_328 wm_321 wm_326) rfl hd_X1_at ⟨rfl, rfl⟩ 1 0 rfl rfl rfl rfl rfl dX1_toldLetters_49 rfl ⟨rfl, rfl⟩ (fun locs hF => ?_)
        clear hu
        refine lv_sipush (v := 20000) hx hb dX1_toldLetters_52 (by decide) ?_
        refine lv_isub hx hb dX1_toldLetters_55 ?_
        refine lv_ishl hx hb dX1_toldLetters_56 ?_
        refine lv_ior hx hb dX1_toldLetters_57 ?_
        refine lv_topi (fun e5 he => ?_)
        replace h := k_lt he h
        clear he
        refine lv_istore_n (lv' := [(1, .int e5), (0, .ref (a_n 0)), (2, .int x2), (3, .int x3)]) hx hb dX1_toldLetters_58 rfl hl (by decide) rfl (fun ls hl => ?_)
        refine lv_iinc (v := (x3 + (1 : Int32))) (lv' := [(3, .int (x3 + (1 : Int32))), (1, .int e5), (0, .ref (a_n 0)), (2, .int x2)]) hx hb dX1_toldLetters_59 hl (k := 3) rfl rfl (by decide) rfl (fun ls hl => ?_)
        refine lv_goto (tgt := 14) hx hb dX1_toldLetters_62 (by decide) ?_
        exact hrec14 (e5, x2, (x3 + (1 : Int32))) h locs ls hF (lv_sub hl [2, 1, 3, 0] rfl)
set_option maxHeartbeats 4000000 in
set_option maxRecDepth 100000 in
theorem t_X1_toldLetters_L4 {p : Program} {l : Launch} {e : Env} {s : State} {m : MethodId} {args : Array Value} {below : List Frame} {meth : Method} {c : Code} {D : va_G} {aC : Nat → ClassId} {A : Nat → Prop} {a_n : Nat → Nat} {out : Int32} {s_n : Ob_T} {rec4 : (Int32 × Int32) → Option Int32} (hX : K_X p s m args meth c cX1_toldLetters 4 WL_ RX1 D aC A) (hr : meth.sig.returnType = (some .int)) (hZ : va_P D vwCl (wd_X1 aC a_n s_n) s.heap ∧ va_D (fun _ => True) (wd_X1 aC a_n s_n)) (hrec4 : ∀ x : Int32 × Int32, rec4 x = some out → ∀ (locs : List Loc) (ls : Array Slot), (∀ q ∈ locs, False) → lv_has ls 4 [(0, .ref (a_n 0)), (1, .int x.1), (2, .int x.2)] → W p l e (R_m 1 22) s m args below meth c s.heap locs 0 0 (MQ below (Q_R (some (.int out))) args s 0 0 (fun _ => False)) (F0 m 4 ls [])) (x1 : Int32) (x2 : Int32) (h : f_X1_toldLetters_L4 rec4 x1 x2 s_n = some out) (locs : List Loc) (ls : Array Slot) (hF : ∀ q ∈ locs, False) (hl : lv_has ls 4 [(0, .ref (a_n 0)), (1, .int x1), (2, .int x2)]) : W p l e (R_m 1 22) s m args below meth c s.heap locs 0 0 (MQ below (Q_R (some (.int out))) args s 0 0 (fun _ => False)) (F0 m 4 ls []) := by
  obtain ⟨hx, hb, hml, hown, hts, hK, hA, hlk⟩ := id hX
  unfold f_X1_toldLetters_L4 at h
  refine lv_iload_n hx hb dX1_toldLetters_4 rfl (lv_at hl 2 rfl) ?_
  refine lv_aload_n hx hb dX1_toldLetters_5 rfl (lv_at hl 0 rfl) ?_
  refine k_get hX hZ.1 0 1 rfl rfl iw_X1 6 rfl (wm_312) (v := .int (o_F s_n 6)) rfl dX1_toldLetters_6 ?_
  refine lv_icmp_ge (tgt := 71) hx hb dX1_toldLetters_9 (by decide) (fun cd => ?_) (fun cd => ?_)
  · replace h := k_t cd h
    clear cd
    refine lv_iload_n hx hb dX1_toldLetters_71 rfl (lv_at hl 1 rfl) ?_
    cases h
    exact k_iretR hX hr hF dX1_toldLetters_72
  · replace h := k_f cd h
    clear cd
    refine lv_iconst (v := 0) hx hb dX1_toldLetters_12 (by decide) ?_
    refine lv_istore_n (lv' := [(3, .int (0 : Int32)), (0, .ref (a_n 0)), (1, .int x1), (2, .int x2)]) hx hb dX1_toldLetters_13 rfl hl (by decide) rfl (fun ls hl => ?_)
    exact Lp_ok (body := (fun (rec : (Int32 × Int32 × Int32) → Option Int32) x => f_X1_toldLetters_L14 rec4 rec x.1 x.2.1 x.2.2 s_n)) (out := out) (fun x => ∀ (locs : List Loc) (ls : Array Slot), (∀ q ∈ locs, False) → lv_has ls 4 [(0, .ref (a_n 0)), (1, .int x.1), (2, .int x.2.1), (3, .int x.2.2)] → W p l e (R_m 1 22) s m args below meth c s.heap locs 0 0 (MQ below (Q_R (some (.int out))) args s 0 0 (fun _ => False)) (F0 m 14 ls [])) (fun rec hrec x h locs ls hF hl => t_X1_toldLetters_L14 hX hr hZ hrec4 hrec x.1 x.2.1 x.2.2 h locs ls hF hl) FU_ (x1, x2, (0 : Int32)) h locs ls hF (lv_sub hl [1, 2, 3, 0] rfl)
set_option maxHeartbeats 4000000 in
set_option maxRecDepth 100000 in
theorem c_X1_toldLetters {l : Launch} {D : va_G} {aC : Nat → ClassId} {a_n : Nat → Nat} (s_n : Ob_T) {out : Int32} (h : f_X1_toldLetters s_n = some out) : M_R l yX1_toldLetters wlX1_toldLetters 1 22 D aC [.ref (a_n 0)] (wd_X1 aC a_n s_n) (some (.int out)) := by
  refine k_entR (cc := cX1_toldLetters) (ret := (some .int)) (maxL := 4) (own := RX1) (by decide) rfl rfl rfl ?_
  intro p e s m below meth c A ls hX hr hZ hl
  have hl : lv_has ls 4 [(0, .ref (a_n 0))] := hl
  generalize ([.ref (a_n 0)] : List Value).toArray = args at hX ⊢
  obtain ⟨hx, hb, hml, hown, hts, hK, hA, hlk⟩ := id hX
  unfold f_X1_toldLetters at h
  have hF : ∀ q ∈ ([] : List Loc), False := fun _ h => nomatch h
  generalize ([] : List Loc) = locs at hF ⊢
  refine lv_iconst (v := 0) hx hb dX1_toldLetters_0 (by decide) ?_
  refine lv_istore_n (lv' := [(1, .int (0 : Int32)), (0, .ref (a_n 0))]) hx hb dX1_toldLetters_1 rfl hl (by decide) rfl (fun ls hl => ?_)
  refine lv_iconst (v := 0) hx hb dX1_toldLetters_2 (by decide) ?_
  refine lv_istore_n (lv' := [(2, .int (0 : Int32)), (1, .int (0 : Int32)), (0, .ref (a_n 0))]) hx hb dX1_toldLetters_3 rfl hl (by decide) rfl (fun ls hl => ?_)
  exact Lp_ok (body := (fun (rec : (Int32 × Int32) → Option Int32) x => f_X1_toldLetters_L4 rec x.1 x.2 s_n)) (out := out) (fun x => ∀ (locs : List Loc) (ls : Array Slot), (∀ q ∈ locs, False) → lv_has ls 4 [(0, .ref (a_n 0)), (1, .int x.1), (2, .int x.2)] → W p l e (R_m 1 22) s m args below meth c s.heap locs 0 0 (MQ below (Q_R (some (.int out))) args s 0 0 (fun _ => False)) (F0 m 4 ls [])) (fun rec hrec x h locs ls hF hl => t_X1_toldLetters_L4 hX hr hZ hrec x.1 x.2 h locs ls hF hl) FU_ ((0 : Int32), (0 : Int32)) h locs ls hF (lv_sub hl [2, 1, 0] rfl)
def wlX1_frameOf : List Cond := .code yX1_frameOf cX1_frameOf 4 (some .int) :: WL_
theorem hd_X1_frameOf : yX1_frameOf.cls = RX1 ∧ yX1_frameOf.cls ≠ "java/lang/invoke/MethodHandle" ∧ yX1_frameOf.cls ≠ "java/lang/invoke/VarHandle" ∧ (parseMethodDescriptor yX1_frameOf.desc).map (fun d => d.parameters.length) = some 2 := by decide +kernel
theorem dX1_frameOf_0 : decode cX1_frameOf 0 = .ok (.aload_n 0, 1) := by decide +kernel
theorem dX1_frameOf_1 : decode cX1_frameOf 1 = .ok (.getfield 24, 3) := by decide +kernel
theorem dX1_frameOf_4 : decode cX1_frameOf 4 = .ok (.iload_n 1, 1) := by decide +kernel
theorem dX1_frameOf_5 : decode cX1_frameOf 5 = .ok (.iaload, 1) := by decide +kernel
theorem dX1_frameOf_6 : decode cX1_frameOf 6 = .ok (.istore_n 3, 1) := by decide +kernel
theorem dX1_frameOf_7 : decode cX1_frameOf 7 = .ok (.iload_n 2, 1) := by decide +kernel
theorem dX1_frameOf_8 : decode cX1_frameOf 8 = .ok (.ifCond .ge 16, 3) := by decide +kernel
theorem dX1_frameOf_11 : decode cX1_frameOf 11 = .ok (.iload_n 3, 1) := by decide +kernel
theorem dX1_frameOf_12 : decode cX1_frameOf 12 = .ok (.iload_n 2, 1) := by decide +kernel
theorem dX1_frameOf_13 : decode cX1_frameOf 13 = .ok (.ineg, 1) := by decide +kernel
theorem dX1_frameOf_14 : decode cX1_frameOf 14 = .ok (.if_icmp .ge 7, 3) := by decide +kernel
theorem dX1_frameOf_17 : decode cX1_frameOf 17 = .ok (.iload_n 3, 1) := by decide +kernel
theorem dX1_frameOf_18 : decode cX1_frameOf 18 = .ok (.goto 5, 3) := by decide +kernel
theorem dX1_frameOf_21 : decode cX1_frameOf 21 = .ok (.iload_n 2, 1) := by decide +kernel
theorem dX1_frameOf_22 : decode cX1_frameOf 22 = .ok (.ineg, 1) := by decide +kernel
theorem dX1_frameOf_23 : decode cX1_frameOf 23 = .ok (.ireturn, 1) := by decide +kernel
theorem dX1_frameOf_24 : decode cX1_frameOf 24 = .ok (.iload_n 3, 1) := by decide +kernel
theorem dX1_frameOf_25 : decode cX1_frameOf 25 = .ok (.iload_n 2, 1) := by decide +kernel
theorem dX1_frameOf_26 : decode cX1_frameOf 26 = .ok (.if_icmp .le 9, 3) := by decide +kernel
theorem dX1_frameOf_29 : decode cX1_frameOf 29 = .ok (.iload_n 3, 1) := by decide +kernel
theorem dX1_frameOf_30 : decode cX1_frameOf 30 = .ok (.iload_n 2, 1) := by decide +kernel
theorem dX1_frameOf_31 : decode cX1_frameOf 31 = .ok (.isub, 1) := by decide +kernel
theorem dX1_frameOf_32 : decode cX1_frameOf 32 = .ok (.goto 4, 3) := by decide +kernel
theorem dX1_frameOf_35 : decode cX1_frameOf 35 = .ok (.iconst 0, 1) := by decide +kernel
theorem dX1_frameOf_36 : decode cX1_frameOf 36 = .ok (.ireturn, 1) := by decide +kernel
set_option maxHeartbeats 4000000 in
set_option maxRecDepth 100000 in
theorem c_X1_frameOf {l : Launch} {D : va_G} {aC : Nat → ClassId} {a_n : Nat → Nat} (s_n : Ob_T) (x1 : Int32) (x2 : Int32) {out : Int32} (h : f_X1_frameOf s_n x1 x2 = some out) : M_R l yX1_frameOf wlX1_frameOf 0 0 D aC [.ref (a_n 0), .int x1, .int x2] (wd_X1 aC a_n s_n) (some (.int out)) := by
  refine k_entR (cc := cX1_frameOf) (ret := (some .int)) (maxL := 4) (own := RX1) (by decide) rfl rfl rfl ?_
  intro p e s m below meth c A ls hX hr hZ hl
  have hl : lv_has ls 4 [(0, .ref (a_n 0)), (1, .int x1), (2, .int x2)] := hl
  generalize ([.ref (a_n 0), .int x1, .int x2] : List Value).toArray = args at hX ⊢
  obtain ⟨hx, hb, hml, hown, hts, hK, hA, hlk⟩ := id hX
  unfold f_X1_frameOf at h
  have hF : ∀ q ∈ ([] : List Loc), False := fun _ h => nomatch h
  generalize ([] : List Loc) = locs at hF ⊢
  refine lv_aload_n hx hb dX1_frameOf_0 rfl (lv_at hl 0 rfl) ?_
  refine k_get hX hZ.1 0 1 rfl rfl iw_X1 4 rfl (wm_317) (v := .ref (a_n 5)) rfl dX1_frameOf_1 ?_
  refine lv_iload_n hx hb dX1_frameOf_4 rfl (lv_at hl 1 rfl) ?_
  refine k_iald hX hZ.1 5 rfl h dX1_frameOf_5 (fun v1 h => ?_)
  refine lv_istore_n (lv' := [(3, .int v1), (0, .ref (a_n 0)), (1, .int x1), (2, .int x2)]) hx hb dX1_frameOf_6 rfl hl (by decide) rfl (fun ls hl => ?_)
  refine lv_iload_n hx hb dX1_frameOf_7 rfl (lv_at hl 3 rfl) ?_
  refine lv_if_ge (tgt := 24) hx hb dX1_frameOf_8 (by decide) (fun cd => ?_) (fun cd => ?_)
  · replace h := k_t cd h
    clear cd
    refine lv_iload_n hx hb dX1_frameOf_24 rfl (lv_at hl 0 rfl) ?_
    refine lv_iload_n hx hb dX1_frameOf_25 rfl (lv_at hl 3 rfl) ?_
    refine lv_icmp_le (tgt := 35) hx hb dX1_frameOf_26 (by decide) (fun cd => ?_) (fun cd => ?_)
    · replace h := k_t cd h
      clear cd
      refine lv_iconst (v := 0) hx hb dX1_frameOf_35 (by decide) ?_
      cases h
      exact k_iretR hX hr hF dX1_frameOf_36
    · replace h := k_f cd h
      clear cd
      refine lv_iload_n hx hb dX1_frameOf_29 rfl (lv_at hl 0 rfl) ?_
      refine lv_iload_n hx hb dX1_frameOf_30 rfl (lv_at hl 3 rfl) ?_
      refine lv_isub hx hb dX1_frameOf_31 ?_
      refine lv_goto (tgt := 36) hx hb dX1_frameOf_32 (by decide) ?_
      cases h
      exact k_iretR hX hr hF dX1_frameOf_36
  · replace h := k_f cd h
    clear cd
    refine lv_iload_n hx hb dX1_frameOf_11 rfl (lv_at hl 0 rfl) ?_
    refine lv_iload_n hx hb dX1_frameOf_12 rfl (lv_at hl 3 rfl) ?_
    refine lv_ineg hx hb dX1_frameOf_13 ?_
    refine lv_icmp_ge (tgt := 21) hx hb dX1_frameOf_14 (by decide) (fun cd => ?_) (fun cd => ?_)
    · replace h := k_t cd h
      clear cd
      refine lv_iload_n hx hb dX1_frameOf_21 rfl (lv_at hl 3 rfl) ?_
      refine lv_ineg hx hb dX1_frameOf_22 ?_
      cases h
      exact k_iretR hX hr hF dX1_frameOf_23
    · replace h := k_f cd h
      clear cd
      refine lv_iload_n hx hb dX1_frameOf_17 rfl (lv_at hl 0 rfl) ?_
      refine lv_goto (tgt := 23) hx hb dX1_frameOf_18 (by decide) ?_
      cases h
      exact k_iretR hX hr hF dX1_frameOf_23
def wlX1_cellOf : List Cond := .code yX1_cellOf cX1_cellOf 3 (some .int) :: WL_
theorem hd_X1_cellOf : yX1_cellOf.cls = RX1 ∧ yX1_cellOf.cls ≠ "java/lang/invoke/MethodHandle" ∧ yX1_cellOf.cls ≠ "java/lang/invoke/VarHandle" ∧ (parseMethodDescriptor yX1_cellOf.desc).map (fun d => d.parameters.length) = some 2 := by decide +kernel
theorem dX1_cellOf_0 : decode cX1_cellOf 0 = .ok (.aload_n 0, 1) := by decide +kernel
theorem dX1_cellOf_1 : decode cX1_cellOf 1 = .ok (.getfield 24, 3) := by decide +kernel
theorem dX1_cellOf_4 : decode cX1_cellOf 4 = .ok (.iload_n 1, 1) := by decide +kernel
theorem dX1_cellOf_5 : decode cX1_cellOf 5 = .ok (.iaload, 1) := by decide +kernel
theorem dX1_cellOf_6 : decode cX1_cellOf 6 = .ok (.aload_n 0, 1) := by decide +kernel
theorem dX1_cellOf_7 : decode cX1_cellOf 7 = .ok (.iload_n 1, 1) := by decide +kernel
theorem dX1_cellOf_8 : decode cX1_cellOf 8 = .ok (.iload_n 2, 1) := by decide +kernel
theorem dX1_cellOf_9 : decode cX1_cellOf 9 = .ok (.invokevirtual 51, 3) := by decide +kernel
theorem dX1_cellOf_12 : decode cX1_cellOf 12 = .ok (.isub, 1) := by decide +kernel
theorem dX1_cellOf_13 : decode cX1_cellOf 13 = .ok (.ireturn, 1) := by decide +kernel
set_option maxHeartbeats 4000000 in
set_option maxRecDepth 100000 in
theorem c_X1_cellOf {l : Launch} {D : va_G} {aC : Nat → ClassId} {a_n : Nat → Nat} (s_n : Ob_T) (x1 : Int32) (x2 : Int32) {out : Int32} (h : f_X1_cellOf s_n x1 x2 = some out) : M_R l yX1_cellOf wlX1_cellOf 1 23 D aC [.ref (a_n 0), .int x1, .int x2] (wd_X1 aC a_n s_n) (some (.int out)) := by
  refine k_entR (cc := cX1_cellOf) (ret := (some .int)) (maxL := 3) (own := RX1) (by decide) rfl rfl rfl ?_
  intro p e s m below meth c A ls hX hr hZ hl
  have hl : lv_has ls 3 [(0, .ref (a_n 0)), (1, .int x1), (2, .int x2)] := hl
  generalize ([.ref (a_n 0), .int x1, .int x2] : List Value).toArray = args at hX ⊢
  obtain ⟨hx, hb, hml, hown, hts, hK, hA, hlk⟩ := id hX
  unfold f_X1_cellOf at h
  have hF : ∀ q ∈ ([] : List Loc), False := fun _ h => nomatch h
  generalize ([] : List Loc) = locs at hF ⊢
  refine lv_aload_n hx hb dX1_cellOf_0 rfl (lv_at hl 0 rfl) ?_
  refine k_get hX hZ.1 0 1 rfl rfl iw_X1 4 rfl (wm_317) (v := .ref (a_n 5)) rfl dX1_cellOf_1 ?_
  refine lv_iload_n hx hb dX1_cellOf_4 rfl (lv_at hl 1 rfl) ?_
  refine k_iald hX hZ.1 5 rfl h dX1_cellOf_5 (fun v1 h => ?_)
  refine lv_aload_n hx hb dX1_cellOf_6 rfl (lv_at hl 0 rfl) ?_
  refine lv_iload_n hx hb dX1_cellOf_7 rfl (lv_at hl 1 rfl) ?_
  refine lv_iload_n hx hb dX1_cellOf_8 rfl (lv_at hl 2 rfl) ?_
  obtain ⟨u2, hu, h⟩ := k_bd h
  refine k_vRRs (As := [.int x1, .int x2]) (rest := [.int v1]) (v := some (.int u2)) (st1 := [.int u2, .int v1]) hX hl.1 hZ hF (c_X1_frameOf (a_n := a_n) s_n x1 x2 hu) (gv_ wm_333 wm_335 wm_336 wm_321 wm_334) rfl hd_X1_frameOf ⟨rfl, rfl⟩ 1 0 rfl rfl rfl rfl rfl dX1_cellOf_9 rfl ⟨rfl, rfl⟩ (fun locs hF => ?_)
  clear hu
  refine lv_isub hx hb dX1_cellOf_12 ?_
  cases h
  exact k_iretR hX hr hF dX1_cellOf_13
