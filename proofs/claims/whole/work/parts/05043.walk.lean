def wlX9_isMended : List Cond := .code yX9_isMended cX9_isMended 5 (some .boolean) :: WL_
theorem hd_X9_isMended : yX9_isMended.cls = RX9 ∧ yX9_isMended.cls ≠ "java/lang/invoke/MethodHandle" ∧ yX9_isMended.cls ≠ "java/lang/invoke/VarHandle" ∧ (parseMethodDescriptor yX9_isMended.desc).map (fun d => d.parameters.length) = some 3 := by decide +kernel
theorem dX9_isMended_0 : decode cX9_isMended 0 = .ok (.aload_n 0, 1) := by decide +kernel
theorem dX9_isMended_1 : decode cX9_isMended 1 = .ok (.invokevirtual 290, 3) := by decide +kernel
theorem dX9_isMended_4 : decode cX9_isMended 4 = .ok (.aload_n 0, 1) := by decide +kernel
theorem dX9_isMended_5 : decode cX9_isMended 5 = .ok (.getfield 13, 3) := by decide +kernel
theorem dX9_isMended_8 : decode cX9_isMended 8 = .ok (.bipush 15, 2) := by decide +kernel
theorem dX9_isMended_10 : decode cX9_isMended 10 = .ok (.iload_n 1, 1) := by decide +kernel
theorem dX9_isMended_11 : decode cX9_isMended 11 = .ok (.imul, 1) := by decide +kernel
theorem dX9_isMended_12 : decode cX9_isMended 12 = .ok (.iconst 5, 1) := by decide +kernel
theorem dX9_isMended_13 : decode cX9_isMended 13 = .ok (.iadd, 1) := by decide +kernel
theorem dX9_isMended_14 : decode cX9_isMended 14 = .ok (.iload_n 2, 1) := by decide +kernel
theorem dX9_isMended_15 : decode cX9_isMended 15 = .ok (.iadd, 1) := by decide +kernel
theorem dX9_isMended_16 : decode cX9_isMended 16 = .ok (.iload_n 3, 1) := by decide +kernel
theorem dX9_isMended_17 : decode cX9_isMended 17 = .ok (.iastore, 1) := by decide +kernel
theorem dX9_isMended_18 : decode cX9_isMended 18 = .ok (.iconst 0, 1) := by decide +kernel
theorem dX9_isMended_19 : decode cX9_isMended 19 = .ok (.istore 4, 2) := by decide +kernel
theorem dX9_isMended_21 : decode cX9_isMended 21 = .ok (.iload 4, 2) := by decide +kernel
theorem dX9_isMended_23 : decode cX9_isMended 23 = .ok (.aload_n 0, 1) := by decide +kernel
theorem dX9_isMended_24 : decode cX9_isMended 24 = .ok (.getfield 144, 3) := by decide +kernel
theorem dX9_isMended_27 : decode cX9_isMended 27 = .ok (.if_icmp .ge 16, 3) := by decide +kernel
theorem dX9_isMended_30 : decode cX9_isMended 30 = .ok (.aload_n 0, 1) := by decide +kernel
theorem dX9_isMended_31 : decode cX9_isMended 31 = .ok (.iload 4, 2) := by decide +kernel
theorem dX9_isMended_33 : decode cX9_isMended 33 = .ok (.invokevirtual 167, 3) := by decide +kernel
theorem dX9_isMended_36 : decode cX9_isMended 36 = .ok (.pop, 1) := by decide +kernel
theorem dX9_isMended_37 : decode cX9_isMended 37 = .ok (.iinc 4 1, 3) := by decide +kernel
theorem dX9_isMended_40 : decode cX9_isMended 40 = .ok (.goto (-19), 3) := by decide +kernel
theorem dX9_isMended_43 : decode cX9_isMended 43 = .ok (.aload_n 0, 1) := by decide +kernel
theorem dX9_isMended_44 : decode cX9_isMended 44 = .ok (.invokevirtual 293, 3) := by decide +kernel
theorem dX9_isMended_47 : decode cX9_isMended 47 = .ok (.aload_n 0, 1) := by decide +kernel
theorem dX9_isMended_48 : decode cX9_isMended 48 = .ok (.getfield 217, 3) := by decide +kernel
theorem dX9_isMended_51 : decode cX9_isMended 51 = .ok (.ifCond .ne 7, 3) := by decide +kernel
theorem dX9_isMended_54 : decode cX9_isMended 54 = .ok (.iconst 1, 1) := by decide +kernel
theorem dX9_isMended_55 : decode cX9_isMended 55 = .ok (.goto 4, 3) := by decide +kernel
theorem dX9_isMended_58 : decode cX9_isMended 58 = .ok (.iconst 0, 1) := by decide +kernel
theorem dX9_isMended_59 : decode cX9_isMended 59 = .ok (.ireturn, 1) := by decide +kernel
set_option maxHeartbeats 4000000 in
set_option maxRecDepth 100000 in
theorem t_X9_isMended_L21 {p : Program} {l : Launch} {e : Env} {s : State} {m : MethodId} {args : Array Value} {below : List Frame} {meth : Method} {c : Code} {D : va_G} {aC : Nat → ClassId} {A : Nat → Prop} {a_o : Nat → Nat} {out : Int32 × Ob_T} {k43 : Ob_T → Option (Int32 × Ob_T)} {rec21 : (Int32 × Ob_T) → Option (Int32 × Ob_T)} (hX : K_X p s m args meth c cX9_isMended 5 WL_ RX9 D aC A) (hr : meth.sig.returnType = (some .boolean)) (hk43 : ∀ (t_o : Ob_T), k43 t_o = some out → ∀ (H : Heap) (locs : List Loc) (ls : Array Slot), K_S D A s (wd_X9 aC a_o t_o) H locs → lv_has ls 5 [(0, .ref (a_o 0))] → W p l e (R_m 5 125) s m args below meth c H locs 0 0 (MQ below (Q_W (some (.int out.1)) D A (wd_X9 aC a_o out.2)) args s 0 0 A) (F0 m 43 ls [])) (hrec21 : ∀ x : Int32 × Ob_T, rec21 x = some out → ∀ (H : Heap) (locs : List Loc) (ls : Array Slot), K_S D A s (wd_X9 aC a_o x.2) H locs → lv_has ls 5 [(0, .ref (a_o 0)), (4, .int x.1)] → W p l e (R_m 5 125) s m args below meth c H locs 0 0 (MQ below (Q_W (some (.int out.1)) D A (wd_X9 aC a_o out.2)) args s 0 0 A) (F0 m 21 ls [])) (x4 : Int32) (s_o : Ob_T) (h : f_X9_isMended_L21 k43 rec21 x4 s_o = some out) (H : Heap) (locs : List Loc) (ls : Array Slot) (hZ : K_S D A s (wd_X9 aC a_o s_o) H locs) (hl : lv_has ls 5 [(0, .ref (a_o 0)), (4, .int x4)]) : W p l e (R_m 5 125) s m args below meth c H locs 0 0 (MQ below (Q_W (some (.int out.1)) D A (wd_X9 aC a_o out.2)) args s 0 0 A) (F0 m 21 ls []) := by
  obtain ⟨hx, hb, hml, hown, hts, hK, hA, hlk⟩ := id hX
  unfold f_X9_isMended_L21 at h
  refine lv_iload hx hb dX9_isMended_21 (lv_at hl 1 rfl) ?_
  refine lv_aload_n hx hb dX9_isMended_23 rfl (lv_at hl 0 rfl) ?_
  refine k_get hX hZ.1 0 9 rfl rfl iw_X9 3 rfl (wm_42) (v := .int (o_F s_o 3)) rfl dX9_isMended_24 ?_
  refine lv_icmp_ge (tgt := 43) hx hb dX9_isMended_27 (by decide) (fun cd => ?_) (fun cd => ?_)
  · replace h := k_t cd h
    clear cd
    exact hk43 s_o h H locs ls hZ (lv_sub hl [0] rfl)
  · replace h := k_f cd h
    clear cd
    refine lv_aload_n hx hb dX9_isMended_30 rfl (lv_at hl 0 rfl) ?_
    refine lv_iload hx hb dX9_isMended_31 (lv_at hl 1 rfl) ?_
    obtain ⟨u3, hu, h⟩ := k_bd h
    refine k_vWs (As := [.int x4]) (rest := []) (v := some (.int u3.1)) (st1 := [.int u3.1]) hX hl.1 hZ (c_X9_laysShape (a_o := a_o) s_o x4 hu) (gv_ wm_95 wm_97 wm_98 wm_11 wm_96) rfl hd_X9_laysShape ⟨rfl, rfl⟩ 9 0 rfl rfl rfl rfl rfl dX9_isMended_33 rfl ⟨rfl, rfl⟩ rfl (fun H locs hZ => ?_)
    clear hu
    refine lv_pop hx hb dX9_isMended_36 rfl ?_
    refine lv_iinc (v := (x4 + (1 : Int32))) (lv' := [(4, .int (x4 + (1 : Int32))), (0, .ref (a_o 0))]) hx hb dX9_isMended_37 hl (k := 1) rfl rfl (by decide) rfl (fun ls hl => ?_)
    refine lv_goto (tgt := 21) hx hb dX9_isMended_40 (by decide) ?_
    exact hrec21 ((x4 + (1 : Int32)), u3.2) h H locs ls hZ (lv_sub hl [1, 0] rfl)
set_option maxHeartbeats 4000000 in
set_option maxRecDepth 100000 in
theorem t_X9_isMended_J43 {p : Program} {l : Launch} {e : Env} {s : State} {m : MethodId} {args : Array Value} {below : List Frame} {meth : Method} {c : Code} {D : va_G} {aC : Nat → ClassId} {A : Nat → Prop} {a_o : Nat → Nat} {out : Int32 × Ob_T} (hX : K_X p s m args meth c cX9_isMended 5 WL_ RX9 D aC A) (hr : meth.sig.returnType = (some .boolean)) (s_o : Ob_T) (h : f_X9_isMended_J43 s_o = some out) (H : Heap) (locs : List Loc) (ls : Array Slot) (hZ : K_S D A s (wd_X9 aC a_o s_o) H locs) (hl : lv_has ls 5 [(0, .ref (a_o 0))]) : W p l e (R_m 5 125) s m args below meth c H locs 0 0 (MQ below (Q_W (some (.int out.1)) D A (wd_X9 aC a_o out.2)) args s 0 0 A) (F0 m 43 ls []) := by
  obtain ⟨hx, hb, hml, hown, hts, hK, hA, hlk⟩ := id hX
  unfold f_X9_isMended_J43 at h
  refine lv_aload_n hx hb dX9_isMended_43 rfl (lv_at hl 0 rfl) ?_
  obtain ⟨u4, hu, h⟩ := k_bd h
  refine k_vWs (As := []) (rest := []) (v := none) (st1 := []) hX hl.1 hZ (c_X9_solve (a_o := a_o) s_o hu) (gv_ wm_198 wm_200 wm_201 wm_11 wm_199) rfl hd_X9_solve ⟨rfl, rfl⟩ 9 0 rfl rfl rfl rfl rfl dX9_isMended_44 rfl ⟨rfl, rfl⟩ rfl (fun H locs hZ => ?_)
  clear hu
  refine lv_aload_n hx hb dX9_isMended_47 rfl (lv_at hl 0 rfl) ?_
  refine k_get hX hZ.1 0 9 rfl rfl iw_X9 35 rfl (wm_126) (v := .int (o_F u4 35)) rfl dX9_isMended_48 ?_
  refine lv_if_ne (tgt := 58) hx hb dX9_isMended_51 (by decide) (fun cd => ?_) (fun cd => ?_)
  · replace h := k_f cd h
    clear cd
    refine lv_iconst (v := 0) hx hb dX9_isMended_58 (by decide) ?_
    cases h
    exact k_zretW (v := (0 : Int32)) hX hr rfl hZ dX9_isMended_59
  · replace h := k_t cd h
    clear cd
    refine lv_iconst (v := 1) hx hb dX9_isMended_54 (by decide) ?_
    refine lv_goto (tgt := 59) hx hb dX9_isMended_55 (by decide) ?_
    cases h
    exact k_zretW (v := (1 : Int32)) hX hr rfl hZ dX9_isMended_59
set_option maxHeartbeats 4000000 in
set_option maxRecDepth 100000 in
theorem c_X9_isMended {l : Launch} {D : va_G} {aC : Nat → ClassId} {a_o : Nat → Nat} (s_o : Ob_T) (x1 : Int32) (x2 : Int32) (x3 : Int32) {out : Int32 × Ob_T} (h : f_X9_isMended s_o x1 x2 x3 = some out) : M_W l yX9_isMended wlX9_isMended 5 125 D aC [.ref (a_o 0), .int x1, .int x2, .int x3] (wd_X9 aC a_o s_o) (some (.int out.1)) (wd_X9 aC a_o out.2) := by
  refine k_entW (cc := cX9_isMended) (ret := (some .boolean)) (maxL := 5) (own := RX9) (by decide) rfl rfl rfl ?_
  intro p e s m below meth c A ls hX hr hZ hl
  have hl : lv_has ls 5 [(0, .ref (a_o 0)), (1, .int x1), (2, .int x2), (3, .int x3)] := hl
  generalize ([.ref (a_o 0), .int x1, .int x2, .int x3] : List Value).toArray = args at hX ⊢
  obtain ⟨hx, hb, hml, hown, hts, hK, hA, hlk⟩ := id hX
  unfold f_X9_isMended at h
  generalize s.heap = H at hZ ⊢
  generalize ([] : List Loc) = locs at hZ ⊢
  refine lv_aload_n hx hb dX9_isMended_0 rfl (lv_at hl 0 rfl) ?_
  obtain ⟨u1, hu, h⟩ := k_bd h
  refine k_vWs (As := []) (rest := []) (v := none) (st1 := []) hX hl.1 hZ (c_X9_layNodes (a_o := a_o) s_o hu) (gv_ wm_202 wm_204 wm_205 wm_11 wm_203) rfl hd_X9_layNodes ⟨rfl, rfl⟩ 9 0 rfl rfl rfl rfl rfl dX9_isMended_1 rfl ⟨rfl, rfl⟩ rfl (fun H locs hZ => ?_)
  clear hu
  refine lv_aload_n hx hb dX9_isMended_4 rfl (lv_at hl 0 rfl) ?_
  refine k_get hX hZ.1 0 9 rfl rfl iw_X9 1 rfl (wm_31) (v := .ref (a_o 2)) rfl dX9_isMended_5 ?_
  refine lv_bipush (v := 15) hx hb dX9_isMended_8 (by decide) ?_
  refine lv_iload_n hx hb dX9_isMended_10 rfl (lv_at hl 1 rfl) ?_
  refine lv_imul hx hb dX9_isMended_11 ?_
  refine lv_iconst (v := 5) hx hb dX9_isMended_12 (by decide) ?_
  refine lv_iadd hx hb dX9_isMended_13 ?_
  refine lv_iload_n hx hb dX9_isMended_14 rfl (lv_at hl 2 rfl) ?_
  refine lv_iadd hx hb dX9_isMended_15 ?_
  refine lv_iload_n hx hb dX9_isMended_16 rfl (lv_at hl 3 rfl) ?_
  refine k_iast (wf := (fun o => wd_X9 aC a_o o)) (o := u1) hX hZ 2 1 rfl (fun _ => rfl) h dX9_isMended_17 (fun o2 H locs hZ h => ?_)
  refine lv_iconst (v := 0) hx hb dX9_isMended_18 (by decide) ?_
  refine lv_istore (lv' := [(4, .int (0 : Int32)), (0, .ref (a_o 0)), (1, .int x1), (2, .int x2), (3, .int x3)]) hx hb dX9_isMended_19 hl (by decide) rfl (fun ls hl => ?_)
  exact Lp_ok (body := (fun (rec : (Int32 × Ob_T) → Option (Int32 × Ob_T)) x => f_X9_isMended_L21 (fun t_o => f_X9_isMended_J43 t_o) rec x.1 x.2)) (out := out) (fun x => ∀ (H : Heap) (locs : List Loc) (ls : Array Slot), K_S D A s (wd_X9 aC a_o x.2) H locs → lv_has ls 5 [(0, .ref (a_o 0)), (4, .int x.1)] → W p l e (R_m 5 125) s m args below meth c H locs 0 0 (MQ below (Q_W (some (.int out.1)) D A (wd_X9 aC a_o out.2)) args s 0 0 A) (F0 m 21 ls [])) (fun rec hrec x h H locs ls hZ hl => t_X9_isMended_L21 hX hr (fun t_o h H locs ls hZ hl => t_X9_isMended_J43 hX hr t_o h H locs ls hZ (lv_sub hl [0] rfl)) hrec x.1 x.2 h H locs ls hZ hl) FU_ ((0 : Int32), o2) h H locs ls hZ (lv_sub hl [1, 0] rfl)
