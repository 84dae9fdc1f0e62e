def wlX1_putFrame : List Cond := .code yX1_putFrame cX1_putFrame 5 (some .int) :: WL_
theorem hd_X1_putFrame : yX1_putFrame.cls = RX1 ∧ yX1_putFrame.cls ≠ "java/lang/invoke/MethodHandle" ∧ yX1_putFrame.cls ≠ "java/lang/invoke/VarHandle" ∧ (parseMethodDescriptor yX1_putFrame.desc).map (fun d => d.parameters.length) = some 2 := by decide +kernel
theorem dX1_putFrame_0 : decode cX1_putFrame 0 = .ok (.aload_n 0, 1) := by decide +kernel
theorem dX1_putFrame_1 : decode cX1_putFrame 1 = .ok (.iload_n 2, 1) := by decide +kernel
theorem dX1_putFrame_2 : decode cX1_putFrame 2 = .ok (.aload_n 0, 1) := by decide +kernel
theorem dX1_putFrame_3 : decode cX1_putFrame 3 = .ok (.getfield 21, 3) := by decide +kernel
theorem dX1_putFrame_6 : decode cX1_putFrame 6 = .ok (.iload_n 1, 1) := by decide +kernel
theorem dX1_putFrame_7 : decode cX1_putFrame 7 = .ok (.iaload, 1) := by decide +kernel
theorem dX1_putFrame_8 : decode cX1_putFrame 8 = .ok (.invokevirtual 51, 3) := by decide +kernel
theorem dX1_putFrame_11 : decode cX1_putFrame 11 = .ok (.istore_n 3, 1) := by decide +kernel
theorem dX1_putFrame_12 : decode cX1_putFrame 12 = .ok (.iconst 0, 1) := by decide +kernel
theorem dX1_putFrame_13 : decode cX1_putFrame 13 = .ok (.istore 4, 2) := by decide +kernel
theorem dX1_putFrame_15 : decode cX1_putFrame 15 = .ok (.iload 4, 2) := by decide +kernel
theorem dX1_putFrame_17 : decode cX1_putFrame 17 = .ok (.iload_n 3, 1) := by decide +kernel
theorem dX1_putFrame_18 : decode cX1_putFrame 18 = .ok (.if_icmp .ge 24, 3) := by decide +kernel
theorem dX1_putFrame_21 : decode cX1_putFrame 21 = .ok (.aload_n 0, 1) := by decide +kernel
theorem dX1_putFrame_22 : decode cX1_putFrame 22 = .ok (.iload_n 1, 1) := by decide +kernel
theorem dX1_putFrame_23 : decode cX1_putFrame 23 = .ok (.iload 4, 2) := by decide +kernel
theorem dX1_putFrame_25 : decode cX1_putFrame 25 = .ok (.aload_n 0, 1) := by decide +kernel
theorem dX1_putFrame_26 : decode cX1_putFrame 26 = .ok (.iload_n 2, 1) := by decide +kernel
theorem dX1_putFrame_27 : decode cX1_putFrame 27 = .ok (.iload 4, 2) := by decide +kernel
theorem dX1_putFrame_29 : decode cX1_putFrame 29 = .ok (.invokevirtual 47, 3) := by decide +kernel
theorem dX1_putFrame_32 : decode cX1_putFrame 32 = .ok (.invokevirtual 70, 3) := by decide +kernel
theorem dX1_putFrame_35 : decode cX1_putFrame 35 = .ok (.pop, 1) := by decide +kernel
theorem dX1_putFrame_36 : decode cX1_putFrame 36 = .ok (.iinc 4 1, 3) := by decide +kernel
theorem dX1_putFrame_39 : decode cX1_putFrame 39 = .ok (.goto (-24), 3) := by decide +kernel
theorem dX1_putFrame_42 : decode cX1_putFrame 42 = .ok (.iload_n 3, 1) := by decide +kernel
theorem dX1_putFrame_43 : decode cX1_putFrame 43 = .ok (.ireturn, 1) := by decide +kernel
set_option maxHeartbeats 4000000 in
set_option maxRecDepth 100000 in
theorem t_X1_putFrame_L15 {p : Program} {l : Launch} {e : Env} {s : State} {m : MethodId} {args : Array Value} {below : List Frame} {meth : Method} {c : Code} {D : va_G} {aC : Nat → ClassId} {A : Nat → Prop} {a_n : Nat → Nat} {out : Int32 × Ob_T} {rec15 : (Int32 × Int32 × Int32 × Int32 × Ob_T) → Option (Int32 × Ob_T)} (hX : K_X p s m args meth c cX1_putFrame 5 WL_ RX1 D aC A) (hr : meth.sig.returnType = (some .int)) (hrec15 : ∀ x : Int32 × Int32 × Int32 × Int32 × Ob_T, rec15 x = some out → ∀ (H : Heap) (locs : List Loc) (ls : Array Slot), K_S D A s (wd_X1 aC a_n x.2.2.2.2) H locs → lv_has ls 5 [(0, .ref (a_n 0)), (1, .int x.1), (2, .int x.2.1), (3, .int x.2.2.1), (4, .int x.2.2.2.1)] → W p l e (R_m 1 23) s m args below meth c H locs 0 0 (MQ below (Q_W (some (.int out.1)) D A (wd_X1 aC a_n out.2)) args s 0 0 A) (F0 m 15 ls [])) (x1 : Int32) (x2 : Int32) (x3 : Int32) (x4 : Int32) (s_n : Ob_T) (h : f_X1_putFrame_L15 rec15 x1 x2 x3 x4 s_n = some out) (H : Heap) (locs : List Loc) (ls : Array Slot) (hZ : K_S D A s (wd_X1 aC a_n s_n) H locs) (hl : lv_has ls 5 [(0, .ref (a_n 0)), (1, .int x1), (2, .int x2), (3, .int x3), (4, .int x4)]) : W p l e (R_m 1 23) s m args below meth c H locs 0 0 (MQ below (Q_W (some (.int out.1)) D A (wd_X1 aC a_n out.2)) args s 0 0 A) (F0 m 15 ls []) := by
  obtain ⟨hx, hb, hml, hown, hts, hK, hA, hlk⟩ := id hX
  unfold f_X1_putFrame_L15 at h
  refine lv_iload hx hb dX1_putFrame_15 (lv_at hl 4 rfl) ?_
  refine lv_iload_n hx hb dX1_putFrame_17 rfl (lv_at hl 3 rfl) ?_
  refine lv_icmp_ge (tgt := 42) hx hb dX1_putFrame_18 (by decide) (fun cd => ?_) (fun cd => ?_)
  · replace h := k_t cd h
    clear cd
    refine lv_iload_n hx hb dX1_putFrame_42 rfl (lv_at hl 3 rfl) ?_
    cases h
    exact k_iretW hX hr hZ dX1_putFrame_43
  · replace h := k_f cd h
    clear cd
    refine lv_aload_n hx hb dX1_putFrame_21 rfl (lv_at hl 0 rfl) ?_
    refine lv_iload_n hx hb dX1_putFrame_22 rfl (lv_at hl 1 rfl) ?_
    refine lv_iload hx hb dX1_putFrame_23 (lv_at hl 4 rfl) ?_
    refine lv_aload_n hx hb dX1_putFrame_25 rfl (lv_at hl 0 rfl) ?_
    refine lv_iload_n hx hb dX1_putFrame_26 rfl (lv_at hl 2 rfl) ?_
    refine lv_iload hx hb dX1_putFrame_27 (lv_at hl 4 rfl) ?_
    obtain ⟨u3, hu, h⟩ := k_bd h
    refine k_vRs (As := [.int x2, .int x4]) (rest := [.int x4, .int x1, .ref (a_n 0)]) (v := some (.int u3)) (st1 := [.int u3, .int x4, .int x1, .ref (a_n 0)]) hX hl.1 hZ (c_X1_at (a_n := a_n) s_n x2 x4 hu) (gv_ wm_325 wm_327 wm_328 wm_321 wm_326) rfl hd_X1_at ⟨rfl, rfl⟩ 1 0 rfl rfl rfl rfl rfl dX1_putFrame_29 rfl ⟨rfl, rfl⟩ (fun locs hZ => ?_)
    clear hu
    obtain ⟨u4, hu, h⟩ := k_bd h
    refine k_vWs (As := [.int x1, .int x4, .int u3]) (rest := []) (v := some (.int u4.1)) (st1 := [.int u4.1]) hX hl.1 hZ (c_X1_putOne (a_n := a_n) s_n x1 x4 u3 hu) (gv_ wm_345 wm_347 wm_348 wm_321 wm_346) rfl hd_X1_putOne ⟨rfl, rfl⟩ 1 0 rfl rfl rfl rfl rfl dX1_putFrame_32 rfl ⟨rfl, rfl⟩ rfl (fun H locs hZ => ?_)
    clear hu
    refine lv_pop hx hb dX1_putFrame_35 rfl ?_
    refine lv_iinc (v := (x4 + (1 : Int32))) (lv' := [(4, .int (x4 + (1 : Int32))), (0, .ref (a_n 0)), (1, .int x1), (2, .int x2), (3, .int x3)]) hx hb dX1_putFrame_36 hl (k := 4) rfl rfl (by decide) rfl (fun ls hl => ?_)
    refine lv_goto (tgt := 15) hx hb dX1_putFrame_39 (by decide) ?_
    exact hrec15 (x1, x2, x3, (x4 + (1 : Int32)), u4.2) h H locs ls hZ (lv_sub hl [1, 2, 3, 4, 0] rfl)
set_option maxHeartbeats 4000000 in
set_option maxRecDepth 100000 in
theorem c_X1_putFrame {l : Launch} {D : va_G} {aC : Nat → ClassId} {a_n : Nat → Nat} (s_n : Ob_T) (x1 : Int32) (x2 : Int32) {out : Int32 × Ob_T} (h : f_X1_putFrame s_n x1 x2 = some out) : M_W l yX1_putFrame wlX1_putFrame 1 23 D aC [.ref (a_n 0), .int x1, .int x2] (wd_X1 aC a_n s_n) (some (.int out.1)) (wd_X1 aC a_n out.2) := by
  refine k_entW (cc := cX1_putFrame) (ret := (some .int)) (maxL := 5) (own := RX1) (by decide) rfl rfl rfl ?_
  intro p e s m below meth c A ls hX hr hZ hl
  have hl : lv_has ls 5 [(0, .ref (a_n 0)), (1, .int x1), (2, .int x2)] := hl
  generalize ([.ref (a_n 0), .int x1, .int x2] : List Value).toArray = args at hX ⊢
  obtain ⟨hx, hb, hml, hown, hts, hK, hA, hlk⟩ := id hX
  unfold f_X1_putFrame at h
  generalize s.heap = H at hZ ⊢
  generalize ([] : List Loc) = locs at hZ ⊢
  refine lv_aload_n hx hb dX1_putFrame_0 rfl (lv_at hl 0 rfl) ?_
  refine lv_iload_n hx hb dX1_putFrame_1 rfl (lv_at hl 2 rfl) ?_
  refine lv_aload_n hx hb dX1_putFrame_2 rfl (lv_at hl 0 rfl) ?_
  refine k_get hX hZ.1 0 1 rfl rfl iw_X1 3 rfl (wm_316) (v := .ref (a_n 4)) rfl dX1_putFrame_3 ?_
  refine lv_iload_n hx hb dX1_putFrame_6 rfl (lv_at hl 1 rfl) ?_
  refine k_iald hX hZ.1 4 rfl h dX1_putFrame_7 (fun v1 h => ?_)
  obtain ⟨u2, hu, h⟩ := k_bd h
  refine k_vRs (As := [.int x2, .int v1]) (rest := []) (v := some (.int u2)) (st1 := [.int u2]) hX hl.1 hZ (c_X1_frameOf (a_n := a_n) s_n x2 v1 hu) (gv_ wm_333 wm_335 wm_336 wm_321 wm_334) rfl hd_X1_frameOf ⟨rfl, rfl⟩ 1 0 rfl rfl rfl rfl rfl dX1_putFrame_8 rfl ⟨rfl, rfl⟩ (fun locs hZ => ?_)
  clear hu
  refine lv_istore_n (lv' := [(3, .int u2), (0, .ref (a_n 0)), (1, .int x1), (2, .int x2)]) hx hb dX1_putFrame_11 rfl hl (by decide) rfl (fun ls hl => ?_)
  refine lv_iconst (v := 0) hx hb dX1_putFrame_12 (by decide) ?_
  refine lv_istore (lv' := [(4, .int (0 : Int32)), (3, .int u2), (0, .ref (a_n 0)), (1, .int x1), (2, .int x2)]) hx hb dX1_putFrame_13 hl (by decide) rfl (fun ls hl => ?_)
  exact Lp_ok (body := (fun (rec : (Int32 × Int32 × Int32 × Int32 × Ob_T) → Option (Int32 × Ob_T)) x => f_X1_putFrame_L15 rec x.1 x.2.1 x.2.2.1 x.2.2.2.1 x.2.2.2.2)) (out := out) (fun x => ∀ (H : Heap) (locs : List Loc) (ls : Array Slot), K_S D A s (wd_X1 aC a_n x.2.2.2.2) H locs → lv_has ls 5 [(0, .ref (a_n 0)), (1, .int x.1), (2, .int x.2.1), (3, .int x.2.2.1), (4, .int x.2.2.2.1)] → W p l e (R_m 1 23) s m args below meth c H locs 0 0 (MQ below (Q_W (some (.int out.1)) D A (wd_X1 aC a_n out.2)) args s 0 0 A) (F0 m 15 ls [])) (fun rec hrec x h H locs ls hZ hl => t_X1_putFrame_L15 hX hr hrec x.1 x.2.1 x.2.2.1 x.2.2.2.1 x.2.2.2.2 h H locs ls hZ hl) FU_ (x1, x2, u2, (0 : Int32), s_n) h H locs ls hZ (lv_sub hl [2, 3, 4, 1, 0] rfl)
def wlX1_putLongerFrame : List Cond := .code yX1_putLongerFrame cX1_putLongerFrame 4 (some .int) :: WL_
theorem hd_X1_putLongerFrame : yX1_putLongerFrame.cls = RX1 ∧ yX1_putLongerFrame.cls ≠ "java/lang/invoke/MethodHandle" ∧ yX1_putLongerFrame.cls ≠ "java/lang/invoke/VarHandle" ∧ (parseMethodDescriptor yX1_putLongerFrame.desc).map (fun d => d.parameters.length) = some 1 := by decide +kernel
theorem dX1_putLongerFrame_0 : decode cX1_putLongerFrame 0 = .ok (.aload_n 0, 1) := by decide +kernel
theorem dX1_putLongerFrame_1 : decode cX1_putLongerFrame 1 = .ok (.getfield 15, 3) := by decide +kernel
theorem dX1_putLongerFrame_4 : decode cX1_putLongerFrame 4 = .ok (.iload_n 1, 1) := by decide +kernel
theorem dX1_putLongerFrame_5 : decode cX1_putLongerFrame 5 = .ok (.iaload, 1) := by decide +kernel
theorem dX1_putLongerFrame_6 : decode cX1_putLongerFrame 6 = .ok (.istore_n 2, 1) := by decide +kernel
theorem dX1_putLongerFrame_7 : decode cX1_putLongerFrame 7 = .ok (.aload_n 0, 1) := by decide +kernel
theorem dX1_putLongerFrame_8 : decode cX1_putLongerFrame 8 = .ok (.getfield 18, 3) := by decide +kernel
theorem dX1_putLongerFrame_11 : decode cX1_putLongerFrame 11 = .ok (.iload_n 1, 1) := by decide +kernel
theorem dX1_putLongerFrame_12 : decode cX1_putLongerFrame 12 = .ok (.iaload, 1) := by decide +kernel
theorem dX1_putLongerFrame_13 : decode cX1_putLongerFrame 13 = .ok (.istore_n 3, 1) := by decide +kernel
theorem dX1_putLongerFrame_14 : decode cX1_putLongerFrame 14 = .ok (.aload_n 0, 1) := by decide +kernel
theorem dX1_putLongerFrame_15 : decode cX1_putLongerFrame 15 = .ok (.iload_n 1, 1) := by decide +kernel
theorem dX1_putLongerFrame_16 : decode cX1_putLongerFrame 16 = .ok (.aload_n 0, 1) := by decide +kernel
theorem dX1_putLongerFrame_17 : decode cX1_putLongerFrame 17 = .ok (.iload_n 3, 1) := by decide +kernel
theorem dX1_putLongerFrame_18 : decode cX1_putLongerFrame 18 = .ok (.aload_n 0, 1) := by decide +kernel
theorem dX1_putLongerFrame_19 : decode cX1_putLongerFrame 19 = .ok (.getfield 21, 3) := by decide +kernel
theorem dX1_putLongerFrame_22 : decode cX1_putLongerFrame 22 = .ok (.iload_n 1, 1) := by decide +kernel
theorem dX1_putLongerFrame_23 : decode cX1_putLongerFrame 23 = .ok (.iaload, 1) := by decide +kernel
theorem dX1_putLongerFrame_24 : decode cX1_putLongerFrame 24 = .ok (.invokevirtual 51, 3) := by decide +kernel
theorem dX1_putLongerFrame_27 : decode cX1_putLongerFrame 27 = .ok (.aload_n 0, 1) := by decide +kernel
theorem dX1_putLongerFrame_28 : decode cX1_putLongerFrame 28 = .ok (.iload_n 2, 1) := by decide +kernel
theorem dX1_putLongerFrame_29 : decode cX1_putLongerFrame 29 = .ok (.aload_n 0, 1) := by decide +kernel
theorem dX1_putLongerFrame_30 : decode cX1_putLongerFrame 30 = .ok (.getfield 21, 3) := by decide +kernel
theorem dX1_putLongerFrame_33 : decode cX1_putLongerFrame 33 = .ok (.iload_n 1, 1) := by decide +kernel
theorem dX1_putLongerFrame_34 : decode cX1_putLongerFrame 34 = .ok (.iaload, 1) := by decide +kernel
theorem dX1_putLongerFrame_35 : decode cX1_putLongerFrame 35 = .ok (.invokevirtual 51, 3) := by decide +kernel
theorem dX1_putLongerFrame_38 : decode cX1_putLongerFrame 38 = .ok (.if_icmp .le 7, 3) := by decide +kernel
theorem dX1_putLongerFrame_41 : decode cX1_putLongerFrame 41 = .ok (.iload_n 3, 1) := by decide +kernel
theorem dX1_putLongerFrame_42 : decode cX1_putLongerFrame 42 = .ok (.goto 4, 3) := by decide +kernel
theorem dX1_putLongerFrame_45 : decode cX1_putLongerFrame 45 = .ok (.iload_n 2, 1) := by decide +kernel
theorem dX1_putLongerFrame_46 : decode cX1_putLongerFrame 46 = .ok (.invokevirtual 89, 3) := by decide +kernel
theorem dX1_putLongerFrame_49 : decode cX1_putLongerFrame 49 = .ok (.ireturn, 1) := by decide +kernel
set_option maxHeartbeats 4000000 in
set_option maxRecDepth 100000 in
theorem t_X1_putLongerFrame_J46 {p : Program} {l : Launch} {e : Env} {s : State} {m : MethodId} {args : Array Value} {below : List Frame} {meth : Method} {c : Code} {D : va_G} {aC : Nat → ClassId} {A : Nat → Prop} {a_n : Nat → Nat} {out : Int32 × Ob_T} (hX : K_X p s m args meth c cX1_putLongerFrame 4 WL_ RX1 D aC A) (hr : meth.sig.returnType = (some .int)) (k1 : Int32) (k2 : Int32) (s_n : Ob_T) (h : f_X1_putLongerFrame_J46 k1 k2 s_n = some out) (H : Heap) (locs : List Loc) (ls : Array Slot) (hZ : K_S D A s (wd_X1 aC a_n s_n) H locs) (hl : lv_has ls 4 []) : W p l e (R_m 2 47) s m args below meth c H locs 0 0 (MQ below (Q_W (some (.int out.1)) D A (wd_X1 aC a_n out.2)) args s 0 0 A) (F0 m 46 ls [.int k2, .int k1, .ref (a_n 0)]) := by
  obtain ⟨hx, hb, hml, hown, hts, hK, hA, hlk⟩ := id hX
  unfold f_X1_putLongerFrame_J46 at h
  obtain ⟨u7, hu, h⟩ := k_bd h
  refine k_vWs (As := [.int k1, .int k2]) (rest := []) (v := some (.int u7.1)) (st1 := [.int u7.1]) hX hl.1 hZ (c_X1_putFrame (a_n := a_n) s_n k1 k2 hu) (gv_ wm_349 wm_351 wm_352 wm_321 wm_350) rfl hd_X1_putFrame ⟨rfl, rfl⟩ 1 0 rfl rfl rfl rfl rfl dX1_putLongerFrame_46 rfl ⟨rfl, rfl⟩ rfl (fun H locs hZ => ?_)
  clear hu
  cases h
  exact k_iretW hX hr hZ dX1_putLongerFrame_49
set_option maxHeartbeats 4000000 in
set_option maxRecDepth 100000 in
theorem c_X1_putLongerFrame {l : Launch} {D : va_G} {aC : Nat → ClassId} {a_n : Nat → Nat} (s_n : Ob_T) (x1 : Int32) {out : Int32 × Ob_T} (h : f_X1_putLongerFrame s_n x1 = some out) : M_W l yX1_putLongerFrame wlX1_putLongerFrame 2 47 D aC [.ref (a_n 0), .int x1] (wd_X1 aC a_n s_n) (some (.int out.1)) (wd_X1 aC a_n out.2) := by
  refine k_entW (cc := cX1_putLongerFrame) (ret := (some .int)) (maxL := 4) (own := RX1) (by decide) rfl rfl rfl ?_
  intro p e s m below meth c A ls hX hr hZ hl
  have hl : lv_has ls 4 [(0, .ref (a_n 0)), (1, .int x1)] := hl
  generalize ([.ref (a_n 0), .int x1] : List Value).toArray = args at hX ⊢
  obtain ⟨hx, hb, hml, hown, hts, hK, hA, hlk⟩ := id hX
  unfold f_X1_putLongerFrame at h
  generalize s.heap = H at hZ ⊢
  generalize ([] : List Loc) = locs at hZ ⊢
  refine lv_aload_n hx hb dX1_putLongerFrame_0 rfl (lv_at hl 0 rfl) ?_
  refine k_get hX hZ.1 0 1 rfl rfl iw_X1 1 rfl (wm_314) (v := .ref (a_n 2)) rfl dX1_putLongerFrame_1 ?_
  refine lv_iload_n hx hb dX1_putLongerFrame_4 rfl (lv_at hl 1 rfl) ?_
  refine k_iald hX hZ.1 2 rfl h dX1_putLongerFrame_5 (fun v1 h => ?_)
  refine lv_istore_n (lv' := [(2, .int v1), (0, .ref (a_n 0)), (1, .int x1)]) hx hb dX1_putLongerFrame_6 rfl hl (by decide) rfl (fun ls hl => ?_)
  refine lv_aload_n hx hb dX1_putLongerFrame_7 rfl (lv_at hl 1 rfl) ?_
  refine k_get hX hZ.1 0 1 rfl rfl iw_X1 2 rfl (wm_315) (v := .ref (a_n 3)) rfl dX1_putLongerFrame_8 ?_
  refine lv_iload_n hx hb dX1_putLongerFrame_11 rfl (lv_at hl 2 rfl) ?_
  refine k_iald hX hZ.1 3 rfl h dX1_putLongerFrame_12 (fun v2 h => ?_)
  refine lv_istore_n (lv' := [(3, .int v2), (2, .int v1), (0, .ref (a_n 0)), (1, .int x1)]) hx hb dX1_putLongerFrame_13 rfl hl (by decide) rfl (fun ls hl => ?_)
  refine lv_aload_n hx hb dX1_putLongerFrame_14 rfl (lv_at hl 2 rfl) ?_
  refine lv_iload_n hx hb dX1_putLongerFrame_15 rfl (lv_at hl 3 rfl) ?_
  refine lv_aload_n hx hb dX1_putLongerFrame_16 rfl (lv_at hl 2 rfl) ?_
  refine lv_iload_n hx hb dX1_putLongerFrame_17 rfl (lv_at hl 0 rfl) ?_
  refine lv_aload_n hx hb dX1_putLongerFrame_18 rfl (lv_at hl 2 rfl) ?_
  refine k_get hX hZ.1 0 1 rfl rfl iw_X1 3 rfl (wm_316) (v := .ref (a_n 4)) rfl dX1_putLongerFrame_19 ?_
  refine lv_iload_n hx hb dX1_putLongerFrame_22 rfl (lv_at hl 3 rfl) ?_
  refine k_iald hX hZ.1 4 rfl h dX1_putLongerFrame_23 (fun v3 h => ?_)
  obtain ⟨u4, hu, h⟩ := k_bd h
  refine k_vRs (As := [.int v2, .int v3]) (rest := [.int x1, .ref (a_n 0)]) (v := some (.int u4)) (st1 := [.int u4, .int x1, .ref (a_n 0)]) hX hl.1 hZ (c_X1_frameOf (a_n := a_n) s_n v2 v3 hu) (gv_ wm_333 wm_335 wm_336 wm_321 wm_334) rfl hd_X1_frameOf ⟨rfl, rfl⟩ 1 0 rfl rfl rfl rfl rfl dX1_putLongerFrame_24 rfl ⟨rfl, rfl⟩ (fun locs hZ => ?_)
  clear hu
  refine lv_aload_n hx hb dX1_putLongerFrame_27 rfl (lv_at hl 2 rfl) ?_
  refine lv_iload_n hx hb dX1_putLongerFrame_28 rfl (lv_at hl 1 rfl) ?_
  refine lv_aload_n hx hb dX1_putLongerFrame_29 rfl (lv_at hl 2 rfl) ?_
  refine k_get hX hZ.1 0 1 rfl rfl iw_X1 3 rfl (wm_316) (v := .ref (a_n 4)) rfl dX1_putLongerFrame_30 ?_
  refine lv_iload_n hx hb dX1_putLongerFrame_33 rfl (lv_at hl 3 rfl) ?_
  refine k_iald hX hZ.1 4 rfl h dX1_putLongerFrame_34 (fun v5 h => ?_)
  obtain ⟨u6, hu, h⟩ := k_bd h
  refine k_vRs (As := [.int v1, .int v5]) (rest := [.int u4, .int x1, .ref (a_n 0)]) (v := some (.int u6)) (st1 := [.int u6, .int u4, .int x1, .ref (a_n 0)]) hX hl.1 hZ (c_X1_frameOf (a_n := a_n) s_n v1 v5 hu) (gv_ wm_333 wm_335 wm_336 wm_321 wm_334) rfl hd_X1_frameOf ⟨rfl, rfl⟩ 1 0 rfl rfl rfl rfl rfl dX1_putLongerFrame_35 rfl ⟨rfl, rfl⟩ (fun locs hZ => ?_)
  clear hu
  refine lv_icmp_le (tgt := 45) hx hb dX1_putLongerFrame_38 (by decide) (fun cd => ?_) (fun cd => ?_)
  · replace h := k_t cd h
    clear cd
    refine lv_iload_n hx hb dX1_putLongerFrame_45 rfl (lv_at hl 1 rfl) ?_
    exact t_X1_putLongerFrame_J46 hX hr x1 v1 s_n h H locs ls hZ (lv_sub hl [] rfl)
  · replace h := k_f cd h
    clear cd
    refine lv_iload_n hx hb dX1_putLongerFrame_41 rfl (lv_at hl 0 rfl) ?_
    refine lv_goto (tgt := 46) hx hb dX1_putLongerFrame_42 (by decide) ?_
    exact t_X1_putLongerFrame_J46 hX hr x1 v2 s_n h H locs ls hZ (lv_sub hl [] rfl)
