def wlX3_bestToAsk : List Cond := .code yX3_bestToAsk cX3_bestToAsk 6 (some .int) :: WL_
theorem hd_X3_bestToAsk : yX3_bestToAsk.cls = RX3 ∧ yX3_bestToAsk.cls ≠ "java/lang/invoke/MethodHandle" ∧ yX3_bestToAsk.cls ≠ "java/lang/invoke/VarHandle" ∧ (parseMethodDescriptor yX3_bestToAsk.desc).map (fun d => d.parameters.length) = some 0 := by decide +kernel
theorem dX3_bestToAsk_0 : decode cX3_bestToAsk 0 = .ok (.aload_n 0, 1) := by decide +kernel
theorem dX3_bestToAsk_1 : decode cX3_bestToAsk 1 = .ok (.invokevirtual 30, 3) := by decide +kernel
theorem dX3_bestToAsk_4 : decode cX3_bestToAsk 4 = .ok (.istore_n 1, 1) := by decide +kernel
theorem dX3_bestToAsk_5 : decode cX3_bestToAsk 5 = .ok (.iconst (-1), 1) := by decide +kernel
theorem dX3_bestToAsk_6 : decode cX3_bestToAsk 6 = .ok (.istore_n 2, 1) := by decide +kernel
theorem dX3_bestToAsk_7 : decode cX3_bestToAsk 7 = .ok (.iload_n 1, 1) := by decide +kernel
theorem dX3_bestToAsk_8 : decode cX3_bestToAsk 8 = .ok (.invokestatic 34, 3) := by decide +kernel
theorem dX3_bestToAsk_11 : decode cX3_bestToAsk 11 = .ok (.istore_n 3, 1) := by decide +kernel
theorem dX3_bestToAsk_12 : decode cX3_bestToAsk 12 = .ok (.iconst 1, 1) := by decide +kernel
theorem dX3_bestToAsk_13 : decode cX3_bestToAsk 13 = .ok (.istore 4, 2) := by decide +kernel
theorem dX3_bestToAsk_15 : decode cX3_bestToAsk 15 = .ok (.iload 4, 2) := by decide +kernel
theorem dX3_bestToAsk_17 : decode cX3_bestToAsk 17 = .ok (.bipush 9, 2) := by decide +kernel
theorem dX3_bestToAsk_19 : decode cX3_bestToAsk 19 = .ok (.if_icmp .gt 29, 3) := by decide +kernel
theorem dX3_bestToAsk_22 : decode cX3_bestToAsk 22 = .ok (.iload_n 1, 1) := by decide +kernel
theorem dX3_bestToAsk_23 : decode cX3_bestToAsk 23 = .ok (.iload 4, 2) := by decide +kernel
theorem dX3_bestToAsk_25 : decode cX3_bestToAsk 25 = .ok (.invokestatic 40, 3) := by decide +kernel
theorem dX3_bestToAsk_28 : decode cX3_bestToAsk 28 = .ok (.istore 5, 2) := by decide +kernel
theorem dX3_bestToAsk_30 : decode cX3_bestToAsk 30 = .ok (.iload 5, 2) := by decide +kernel
theorem dX3_bestToAsk_32 : decode cX3_bestToAsk 32 = .ok (.iload_n 3, 1) := by decide +kernel
theorem dX3_bestToAsk_33 : decode cX3_bestToAsk 33 = .ok (.if_icmp .ge 9, 3) := by decide +kernel
theorem dX3_bestToAsk_36 : decode cX3_bestToAsk 36 = .ok (.iload 4, 2) := by decide +kernel
theorem dX3_bestToAsk_38 : decode cX3_bestToAsk 38 = .ok (.istore_n 2, 1) := by decide +kernel
theorem dX3_bestToAsk_39 : decode cX3_bestToAsk 39 = .ok (.iload 5, 2) := by decide +kernel
theorem dX3_bestToAsk_41 : decode cX3_bestToAsk 41 = .ok (.istore_n 3, 1) := by decide +kernel
theorem dX3_bestToAsk_42 : decode cX3_bestToAsk 42 = .ok (.iinc 4 1, 3) := by decide +kernel
theorem dX3_bestToAsk_45 : decode cX3_bestToAsk 45 = .ok (.goto (-30), 3) := by decide +kernel
theorem dX3_bestToAsk_48 : decode cX3_bestToAsk 48 = .ok (.iload_n 2, 1) := by decide +kernel
theorem dX3_bestToAsk_49 : decode cX3_bestToAsk 49 = .ok (.ireturn, 1) := by decide +kernel
set_option maxHeartbeats 4000000 in
set_option maxRecDepth 100000 in
theorem t_X3_bestToAsk_L15 {p : Program} {l : Launch} {e : Env} {s : State} {m : MethodId} {args : Array Value} {below : List Frame} {meth : Method} {c : Code} {D : va_G} {aC : Nat → ClassId} {A : Nat → Prop} {a_q : Nat → Nat} {out : Int32} {s_q : Ob_T} {rec15 : (Int32 × Int32 × Int32 × Int32) → Option Int32} (hX : K_X p s m args meth c cX3_bestToAsk 6 WL_ RX3 D aC A) (hr : meth.sig.returnType = (some .int)) (hZ : va_P D vwCl (wd_X3 aC a_q s_q) s.heap ∧ va_D (fun _ => True) (wd_X3 aC a_q s_q)) (hrec15 : ∀ x : Int32 × Int32 × Int32 × Int32, rec15 x = some out → ∀ (locs : List Loc) (ls : Array Slot), (∀ q ∈ locs, False) → lv_has ls 6 [(1, .int x.1), (2, .int x.2.1), (3, .int x.2.2.1), (4, .int x.2.2.2)] → W p l e (R_m 3 66) s m args below meth c s.heap locs 0 0 (MQ below (Q_R (some (.int out))) args s 0 0 (fun _ => False)) (F0 m 15 ls [])) (x1 : Int32) (x2 : Int32) (x3 : Int32) (x4 : Int32) (h : f_X3_bestToAsk_L15 rec15 x1 x2 x3 x4 s_q = some out) (locs : List Loc) (ls : Array Slot) (hF : ∀ q ∈ locs, False) (hl : lv_has ls 6 [(1, .int x1), (2, .int x2), (3, .int x3), (4, .int x4)]) : W p l e (R_m 3 66) s m args below meth c s.heap locs 0 0 (MQ below (Q_R (some (.int out))) args s 0 0 (fun _ => False)) (F0 m 15 ls []) := by
  obtain ⟨hx, hb, hml, hown, hts, hK, hA, hlk⟩ := id hX
  unfold f_X3_bestToAsk_L15 at h
  refine lv_iload hx hb dX3_bestToAsk_15 (lv_at hl 3 rfl) ?_
  refine lv_bipush (v := 9) hx hb dX3_bestToAsk_17 (by decide) ?_
  refine lv_icmp_gt (tgt := 48) hx hb dX3_bestToAsk_19 (by decide) (fun cd => ?_) (fun cd => ?_)
  · replace h := k_t cd h
    clear cd
    refine lv_iload_n hx hb dX3_bestToAsk_48 rfl (lv_at hl 1 rfl) ?_
    cases h
    exact k_iretR hX hr hF dX3_bestToAsk_49
  · replace h := k_f cd h
    clear cd
    refine lv_iload_n hx hb dX3_bestToAsk_22 rfl (lv_at hl 0 rfl) ?_
    refine lv_iload hx hb dX3_bestToAsk_23 (lv_at hl 3 rfl) ?_
    obtain ⟨u3, hu, h⟩ := k_bd h
    refine k_sRR (As := [.int x1, .int x4]) (rest := []) (wc := []) (v := some (.int u3)) (st1 := [.int u3]) hX hl.1 hZ hF (c_X3_greatestPart  x1 x4 hu) (gs_ wm_409 wm_411 wm_401 wm_410) rfl hd_X3_greatestPart ⟨rfl, rfl⟩ [] rfl rfl rfl rfl rfl dX3_bestToAsk_25 rfl ⟨rfl, rfl⟩ (fun locs hF => ?_)
    clear hu
    refine lv_istore (lv' := [(5, .int u3), (1, .int x1), (2, .int x2), (3, .int x3), (4, .int x4)]) hx hb dX3_bestToAsk_28 hl (by decide) rfl (fun ls hl => ?_)
    refine lv_iload hx hb dX3_bestToAsk_30 (lv_at hl 0 rfl) ?_
    refine lv_iload_n hx hb dX3_bestToAsk_32 rfl (lv_at hl 3 rfl) ?_
    refine lv_icmp_ge (tgt := 42) hx hb dX3_bestToAsk_33 (by decide) (fun cd => ?_) (fun cd => ?_)
    · replace h := k_t cd h
      clear cd
      refine lv_iinc (v := (x4 + (1 : Int32))) (lv' := [(4, .int (x4 + (1 : Int32))), (5, .int u3), (1, .int x1), (2, .int x2), (3, .int x3)]) hx hb dX3_bestToAsk_42 hl (k := 4) rfl rfl (by decide) rfl (fun ls hl => ?_)
      refine lv_goto (tgt := 15) hx hb dX3_bestToAsk_45 (by decide) ?_
      exact hrec15 (x1, x2, x3, (x4 + (1 : Int32))) h locs ls hF (lv_sub hl [2, 3, 4, 0] rfl)
    · replace h := k_f cd h
      clear cd
      refine lv_iload hx hb dX3_bestToAsk_36 (lv_at hl 4 rfl) ?_
      refine lv_istore_n (lv' := [(2, .int x4), (5, .int u3), (1, .int x1), (3, .int x3), (4, .int x4)]) hx hb dX3_bestToAsk_38 rfl hl (by decide) rfl (fun ls hl => ?_)
      refine lv_iload hx hb dX3_bestToAsk_39 (lv_at hl 1 rfl) ?_
      refine lv_istore_n (lv' := [(3, .int u3), (2, .int x4), (5, .int u3), (1, .int x1), (4, .int x4)]) hx hb dX3_bestToAsk_41 rfl hl (by decide) rfl (fun ls hl => ?_)
      refine lv_iinc (v := (x4 + (1 : Int32))) (lv' := [(4, .int (x4 + (1 : Int32))), (3, .int u3), (2, .int x4), (5, .int u3), (1, .int x1)]) hx hb dX3_bestToAsk_42 hl (k := 4) rfl rfl (by decide) rfl (fun ls hl => ?_)
      refine lv_goto (tgt := 15) hx hb dX3_bestToAsk_45 (by decide) ?_
      exact hrec15 (x1, x4, u3, (x4 + (1 : Int32))) h locs ls hF (lv_sub hl [4, 2, 1, 0] rfl)
set_option maxHeartbeats 4000000 in
set_option maxRecDepth 100000 in
theorem c_X3_bestToAsk {l : Launch} {D : va_G} {aC : Nat → ClassId} {a_q : Nat → Nat} (s_q : Ob_T) {out : Int32} (h : f_X3_bestToAsk s_q = some out) : M_R l yX3_bestToAsk wlX3_bestToAsk 3 66 D aC [.ref (a_q 0)] (wd_X3 aC a_q s_q) (some (.int out)) := by
  refine k_entR (cc := cX3_bestToAsk) (ret := (some .int)) (maxL := 6) (own := RX3) (by decide) rfl rfl rfl ?_
  intro p e s m below meth c A ls hX hr hZ hl
  have hl : lv_has ls 6 [(0, .ref (a_q 0))] := hl
  generalize ([.ref (a_q 0)] : List Value).toArray = args at hX ⊢
  obtain ⟨hx, hb, hml, hown, hts, hK, hA, hlk⟩ := id hX
  unfold f_X3_bestToAsk at h
  have hF : ∀ q ∈ ([] : List Loc), False := fun _ h => nomatch h
  generalize ([] : List Loc) = locs at hF ⊢
  refine lv_aload_n hx hb dX3_bestToAsk_0 rfl (lv_at hl 0 rfl) ?_
  obtain ⟨u1, hu, h⟩ := k_bd h
  refine k_vRRs (As := []) (rest := []) (v := some (.int u1)) (st1 := [.int u1]) hX hl.1 hZ hF (c_X3_kindsThatFit (a_q := a_q) s_q hu) (gv_ wm_413 wm_415 wm_416 wm_401 wm_414) rfl hd_X3_kindsThatFit ⟨rfl, rfl⟩ 3 0 rfl rfl rfl rfl rfl dX3_bestToAsk_1 rfl ⟨rfl, rfl⟩ (fun locs hF => ?_)
  clear hu
  refine lv_istore_n (lv' := [(1, .int u1), (0, .ref (a_q 0))]) hx hb dX3_bestToAsk_4 rfl hl (by decide) rfl (fun ls hl => ?_)
  refine lv_iconst (v := -1) hx hb dX3_bestToAsk_5 (by decide) ?_
  refine lv_istore_n (lv' := [(2, .int (-1 : Int32)), (1, .int u1), (0, .ref (a_q 0))]) hx hb dX3_bestToAsk_6 rfl hl (by decide) rfl (fun ls hl => ?_)
  refine lv_iload_n hx hb dX3_bestToAsk_7 rfl (lv_at hl 1 rfl) ?_
  obtain ⟨u2, hu, h⟩ := k_bd h
  refine k_sRR (As := [.int u1]) (rest := []) (wc := []) (v := some (.int u2)) (st1 := [.int u2]) hX hl.1 hZ hF (c_J6_bitCount_0f7a4  u1 hu) (gs_ wm_412 wm_299 wm_297 wm_298) rfl hd_J6_bitCount_0f7a4 ⟨rfl, rfl⟩ [] rfl rfl rfl rfl rfl dX3_bestToAsk_8 rfl ⟨rfl, rfl⟩ (fun locs hF => ?_)
  clear hu
  refine lv_istore_n (lv' := [(3, .int u2), (2, .int (-1 : Int32)), (1, .int u1), (0, .ref (a_q 0))]) hx hb dX3_bestToAsk_11 rfl hl (by decide) rfl (fun ls hl => ?_)
  refine lv_iconst (v := 1) hx hb dX3_bestToAsk_12 (by decide) ?_
  refine lv_istore (lv' := [(4, .int (1 : Int32)), (3, .int u2), (2, .int (-1 : Int32)), (1, .int u1), (0, .ref (a_q 0))]) hx hb dX3_bestToAsk_13 hl (by decide) rfl (fun ls hl => ?_)
  exact Lp_ok (body := (fun (rec : (Int32 × Int32 × Int32 × Int32) → Option Int32) x => f_X3_bestToAsk_L15 rec x.1 x.2.1 x.2.2.1 x.2.2.2 s_q)) (out := out) (fun x => ∀ (locs : List Loc) (ls : Array Slot), (∀ q ∈ locs, False) → lv_has ls 6 [(1, .int x.1), (2, .int x.2.1), (3, .int x.2.2.1), (4, .int x.2.2.2)] → W p l e (R_m 3 66) s m args below meth c s.heap locs 0 0 (MQ below (Q_R (some (.int out))) args s 0 0 (fun _ => False)) (F0 m 15 ls [])) (fun rec hrec x h locs ls hF hl => t_X3_bestToAsk_L15 hX hr hZ hrec x.1 x.2.1 x.2.2.1 x.2.2.2 h locs ls hF hl) FU_ (u1, (-1 : Int32), u2, (1 : Int32)) h locs ls hF (lv_sub hl [3, 2, 1, 0] rfl)
def wlX4_clear : List Cond := .code yX4_clear cX4_clear 2 none :: WL_
theorem hd_X4_clear : yX4_clear.cls = RX4 ∧ yX4_clear.cls ≠ "java/lang/invoke/MethodHandle" ∧ yX4_clear.cls ≠ "java/lang/invoke/VarHandle" ∧ (parseMethodDescriptor yX4_clear.desc).map (fun d => d.parameters.length) = some 0 := by decide +kernel
theorem dX4_clear_0 : decode cX4_clear 0 = .ok (.iconst 0, 1) := by decide +kernel
theorem dX4_clear_1 : decode cX4_clear 1 = .ok (.istore_n 1, 1) := by decide +kernel
theorem dX4_clear_2 : decode cX4_clear 2 = .ok (.iload_n 1, 1) := by decide +kernel
theorem dX4_clear_3 : decode cX4_clear 3 = .ok (.iconst 2, 1) := by decide +kernel
theorem dX4_clear_4 : decode cX4_clear 4 = .ok (.if_icmp .ge 23, 3) := by decide +kernel
theorem dX4_clear_7 : decode cX4_clear 7 = .ok (.aload_n 0, 1) := by decide +kernel
theorem dX4_clear_8 : decode cX4_clear 8 = .ok (.getfield 9, 3) := by decide +kernel
theorem dX4_clear_11 : decode cX4_clear 11 = .ok (.iload_n 1, 1) := by decide +kernel
theorem dX4_clear_12 : decode cX4_clear 12 = .ok (.lconst 0, 1) := by decide +kernel
theorem dX4_clear_13 : decode cX4_clear 13 = .ok (.lastore, 1) := by decide +kernel
theorem dX4_clear_14 : decode cX4_clear 14 = .ok (.aload_n 0, 1) := by decide +kernel
theorem dX4_clear_15 : decode cX4_clear 15 = .ok (.getfield 15, 3) := by decide +kernel
theorem dX4_clear_18 : decode cX4_clear 18 = .ok (.iload_n 1, 1) := by decide +kernel
theorem dX4_clear_19 : decode cX4_clear 19 = .ok (.lconst 1, 1) := by decide +kernel
theorem dX4_clear_20 : decode cX4_clear 20 = .ok (.lastore, 1) := by decide +kernel
theorem dX4_clear_21 : decode cX4_clear 21 = .ok (.iinc 1 1, 3) := by decide +kernel
theorem dX4_clear_24 : decode cX4_clear 24 = .ok (.goto (-22), 3) := by decide +kernel
theorem dX4_clear_27 : decode cX4_clear 27 = .ok (.aload_n 0, 1) := by decide +kernel
theorem dX4_clear_28 : decode cX4_clear 28 = .ok (.iconst 0, 1) := by decide +kernel
theorem dX4_clear_29 : decode cX4_clear 29 = .ok (.putfield 18, 3) := by decide +kernel
theorem dX4_clear_32 : decode cX4_clear 32 = .ok (.aload_n 0, 1) := by decide +kernel
theorem dX4_clear_33 : decode cX4_clear 33 = .ok (.iconst 0, 1) := by decide +kernel
theorem dX4_clear_34 : decode cX4_clear 34 = .ok (.putfield 22, 3) := by decide +kernel
theorem dX4_clear_37 : decode cX4_clear 37 = .ok (.aload_n 0, 1) := by decide +kernel
theorem dX4_clear_38 : decode cX4_clear 38 = .ok (.iconst 0, 1) := by decide +kernel
theorem dX4_clear_39 : decode cX4_clear 39 = .ok (.putfield 25, 3) := by decide +kernel
theorem dX4_clear_42 : decode cX4_clear 42 = .ok (.aload_n 0, 1) := by decide +kernel
theorem dX4_clear_43 : decode cX4_clear 43 = .ok (.iconst 0, 1) := by decide +kernel
theorem dX4_clear_44 : decode cX4_clear 44 = .ok (.putfield 28, 3) := by decide +kernel
theorem dX4_clear_47 : decode cX4_clear 47 = .ok (.return_, 1) := by decide +kernel
set_option maxHeartbeats 4000000 in
set_option maxRecDepth 100000 in
theorem t_X4_clear_L2 {p : Program} {l : Launch} {e : Env} {s : State} {m : MethodId} {args : Array Value} {below : List Frame} {meth : Method} {c : Code} {D : va_G} {aC : Nat → ClassId} {A : Nat → Prop} {a_d : Nat → Nat} {out : Ob_T} {k27 : Ob_T → Option Ob_T} {rec2 : (Int32 × Ob_T) → Option Ob_T} (hX : K_X p s m args meth c cX4_clear 2 WL_ RX4 D aC A) (hr : meth.sig.returnType = none) (hk27 : ∀ (t_d : Ob_T), k27 t_d = some out → ∀ (H : Heap) (locs : List Loc) (ls : Array Slot), K_S D A s (wd_X4 aC a_d t_d) H locs → lv_has ls 2 [(0, .ref (a_d 0))] → W p l e (R_m 0 0) s m args below meth c H locs 0 0 (MQ below (Q_W (none) D A (wd_X4 aC a_d out)) args s 0 0 A) (F0 m 27 ls [])) (hrec2 : ∀ x : Int32 × Ob_T, rec2 x = some out → ∀ (H : Heap) (locs : List Loc) (ls : Array Slot), K_S D A s (wd_X4 aC a_d x.2) H locs → lv_has ls 2 [(0, .ref (a_d 0)), (1, .int x.1)] → W p l e (R_m 0 0) s m args below meth c H locs 0 0 (MQ below (Q_W (none) D A (wd_X4 aC a_d out)) args s 0 0 A) (F0 m 2 ls [])) (x1 : Int32) (s_d : Ob_T) (h : f_X4_clear_L2 k27 rec2 x1 s_d = some out) (H : Heap) (locs : List Loc) (ls : Array Slot) (hZ : K_S D A s (wd_X4 aC a_d s_d) H locs) (hl : lv_has ls 2 [(0, .ref (a_d 0)), (1, .int x1)]) : W p l e (R_m 0 0) s m args below meth c H locs 0 0 (MQ below (Q_W (none) D A (wd_X4 aC a_d out)) args s 0 0 A) (F0 m 2 ls []) := by
  obtain ⟨hx, hb, hml, hown, hts, hK, hA, hlk⟩ := id hX
  unfold f_X4_clear_L2 at h
  refine lv_iload_n hx hb dX4_clear_2 rfl (lv_at hl 1 rfl) ?_
  refine lv_iconst (v := 2) hx hb dX4_clear_3 (by decide) ?_
  refine lv_icmp_ge (tgt := 27) hx hb dX4_clear_4 (by decide) (fun cd => ?_) (fun cd => ?_)
  · replace h := k_t cd h
    clear cd
    exact hk27 s_d h H locs ls hZ (lv_sub hl [0] rfl)
  · replace h := k_f cd h
    clear cd
    refine lv_aload_n hx hb dX4_clear_7 rfl (lv_at hl 0 rfl) ?_
    refine k_get hX hZ.1 0 4 rfl rfl iw_X4 0 rfl (wm_417) (v := .ref (a_d 1)) rfl dX4_clear_8 ?_
    refine lv_iload_n hx hb dX4_clear_11 rfl (lv_at hl 1 rfl) ?_
    refine lv_lconst (v := 0) hx hb dX4_clear_12 (by decide) ?_
    refine k_last (wf := (fun o => wd_X4 aC a_d o)) (o := s_d) hX hZ 1 0 rfl (fun _ => rfl) h dX4_clear_13 (fun o1 H locs hZ h => ?_)
    refine lv_aload_n hx hb dX4_clear_14 rfl (lv_at hl 0 rfl) ?_
    refine k_get hX hZ.1 0 4 rfl rfl iw_X4 1 rfl (wm_418) (v := .ref (a_d 2)) rfl dX4_clear_15 ?_
    refine lv_iload_n hx hb dX4_clear_18 rfl (lv_at hl 1 rfl) ?_
    refine lv_lconst (v := 1) hx hb dX4_clear_19 (by decide) ?_
    refine k_last (wf := (fun o => wd_X4 aC a_d o)) (o := o1) hX hZ 2 1 rfl (fun _ => rfl) h dX4_clear_20 (fun o2 H locs hZ h => ?_)
    refine lv_iinc (v := (x1 + (1 : Int32))) (lv' := [(1, .int (x1 + (1 : Int32))), (0, .ref (a_d 0))]) hx hb dX4_clear_21 hl (k := 1) rfl rfl (by decide) rfl (fun ls hl => ?_)
    refine lv_goto (tgt := 2) hx hb dX4_clear_24 (by decide) ?_
    exact hrec2 ((x1 + (1 : Int32)), o2) h H locs ls hZ (lv_sub hl [1, 0] rfl)
set_option maxHeartbeats 4000000 in
set_option maxRecDepth 100000 in
theorem t_X4_clear_J27 {p : Program} {l : Launch} {e : Env} {s : State} {m : MethodId} {args : Array Value} {below : List Frame} {meth : Method} {c : Code} {D : va_G} {aC : Nat → ClassId} {A : Nat → Prop} {a_d : Nat → Nat} {out : Ob_T} (hX : K_X p s m args meth c cX4_clear 2 WL_ RX4 D aC A) (hr : meth.sig.returnType = none) (s_d : Ob_T) (h : f_X4_clear_J27 s_d = some out) (H : Heap) (locs : List Loc) (ls : Array Slot) (hZ : K_S D A s (wd_X4 aC a_d s_d) H locs) (hl : lv_has ls 2 [(0, .ref (a_d 0))]) : W p l e (R_m 0 0) s m args below meth c H locs 0 0 (MQ below (Q_W (none) D A (wd_X4 aC a_d out)) args s 0 0 A) (F0 m 27 ls []) := by
  obtain ⟨hx, hb, hml, hown, hts, hK, hA, hlk⟩ := id hX
  unfold f_X4_clear_J27 at h
  refine lv_aload_n hx hb dX4_clear_27 rfl (lv_at hl 0 rfl) ?_
  refine lv_iconst (v := 0) hx hb dX4_clear_28 (by decide) ?_
  refine k_put (wf := (fun o => wd_X4 aC a_d o)) (o := s_d) hX hZ 0 4 rfl rfl iw_X4 tyX4 tyX4_ok nmX4 2 rfl (wm_422) rfl rfl rfl rfl rfl h dX4_clear_29 (fun o3 H locs hZ h => ?_)
  refine lv_aload_n hx hb dX4_clear_32 rfl (lv_at hl 0 rfl) ?_
  refine lv_iconst (v := 0) hx hb dX4_clear_33 (by decide) ?_
  refine k_put (wf := (fun o => wd_X4 aC a_d o)) (o := o3) hX hZ 0 4 rfl rfl iw_X4 tyX4 tyX4_ok nmX4 3 rfl (wm_421) rfl rfl rfl rfl rfl h dX4_clear_34 (fun o4 H locs hZ h => ?_)
  refine lv_aload_n hx hb dX4_clear_37 rfl (lv_at hl 0 rfl) ?_
  refine lv_iconst (v := 0) hx hb dX4_clear_38 (by decide) ?_
  refine k_put (wf := (fun o => wd_X4 aC a_d o)) (o := o4) hX hZ 0 4 rfl rfl iw_X4 tyX4 tyX4_ok nmX4 4 rfl (wm_420) rfl rfl rfl rfl rfl h dX4_clear_39 (fun o5 H locs hZ h => ?_)
  refine lv_aload_n hx hb dX4_clear_42 rfl (lv_at hl 0 rfl) ?_
  refine lv_iconst (v := 0) hx hb dX4_clear_43 (by decide) ?_
  refine k_put (wf := (fun o => wd_X4 aC a_d o)) (o := o5) hX hZ 0 4 rfl rfl iw_X4 tyX4 tyX4_ok nmX4 5 rfl (wm_419) rfl rfl rfl rfl rfl h dX4_clear_44 (fun o6 H locs hZ h => ?_)
  cases h
  exact k_vretW hX hr hZ dX4_clear_47
set_option maxHeartbeats 4000000 in
set_option maxRecDepth 100000 in
theorem c_X4_clear {l : Launch} {D : va_G} {aC : Nat → ClassId} {a_d : Nat → Nat} (s_d : Ob_T) {out : Ob_T} (h : f_X4_clear s_d = some out) : M_W l yX4_clear wlX4_clear 0 0 D aC [.ref (a_d 0)] (wd_X4 aC a_d s_d) (none) (wd_X4 aC a_d out) := by
  refine k_entW (cc := cX4_clear) (ret := none) (maxL := 2) (own := RX4) (by decide) rfl rfl rfl ?_
  intro p e s m below meth c A ls hX hr hZ hl
  have hl : lv_has ls 2 [(0, .ref (a_d 0))] := hl
  generalize ([.ref (a_d 0)] : List Value).toArray = args at hX ⊢
  obtain ⟨hx, hb, hml, hown, hts, hK, hA, hlk⟩ := id hX
  unfold f_X4_clear at h
  generalize s.heap = H at hZ ⊢
  generalize ([] : List Loc) = locs at hZ ⊢
  refine lv_iconst (v := 0) hx hb dX4_clear_0 (by decide) ?_
  refine lv_istore_n (lv' := [(1, .int (0 : Int32)), (0, .ref (a_d 0))]) hx hb dX4_clear_1 rfl hl (by decide) rfl (fun ls hl => ?_)
  exact Lp_ok (body := (fun (rec : (Int32 × Ob_T) → Option Ob_T) x => f_X4_clear_L2 (fun t_d => f_X4_clear_J27 t_d) rec x.1 x.2)) (out := out) (fun x => ∀ (H : Heap) (locs : List Loc) (ls : Array Slot), K_S D A s (wd_X4 aC a_d x.2) H locs → lv_has ls 2 [(0, .ref (a_d 0)), (1, .int x.1)] → W p l e (R_m 0 0) s m args below meth c H locs 0 0 (MQ below (Q_W (none) D A (wd_X4 aC a_d out)) args s 0 0 A) (F0 m 2 ls [])) (fun rec hrec x h H locs ls hZ hl => t_X4_clear_L2 hX hr (fun t_d h H locs ls hZ hl => t_X4_clear_J27 hX hr t_d h H locs ls hZ (lv_sub hl [0] rfl)) hrec x.1 x.2 h H locs ls hZ hl) FU_ ((0 : Int32), s_d) h H locs ls hZ (lv_sub hl [1, 0] rfl)
