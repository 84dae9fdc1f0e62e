def wlX1_putPart : List Cond := .code yX1_putPart cX1_putPart 6 none :: WL_
theorem hd_X1_putPart : yX1_putPart.cls = RX1 ∧ yX1_putPart.cls ≠ "java/lang/invoke/MethodHandle" ∧ yX1_putPart.cls ≠ "java/lang/invoke/VarHandle" ∧ (parseMethodDescriptor yX1_putPart.desc).map (fun d => d.parameters.length) = some 4 := by decide +kernel
theorem dX1_putPart_0 : decode cX1_putPart 0 = .ok (.iload 4, 2) := by decide +kernel
theorem dX1_putPart_2 : decode cX1_putPart 2 = .ok (.istore 5, 2) := by decide +kernel
theorem dX1_putPart_4 : decode cX1_putPart 4 = .ok (.iload 5, 2) := by decide +kernel
theorem dX1_putPart_6 : decode cX1_putPart 6 = .ok (.aload_n 0, 1) := by decide +kernel
theorem dX1_putPart_7 : decode cX1_putPart 7 = .ok (.getfield 24, 3) := by decide +kernel
theorem dX1_putPart_10 : decode cX1_putPart 10 = .ok (.iload_n 3, 1) := by decide +kernel
theorem dX1_putPart_11 : decode cX1_putPart 11 = .ok (.iaload, 1) := by decide +kernel
theorem dX1_putPart_12 : decode cX1_putPart 12 = .ok (.if_icmp .ge 29, 3) := by decide +kernel
theorem dX1_putPart_15 : decode cX1_putPart 15 = .ok (.aload_n 0, 1) := by decide +kernel
theorem dX1_putPart_16 : decode cX1_putPart 16 = .ok (.iload_n 1, 1) := by decide +kernel
theorem dX1_putPart_17 : decode cX1_putPart 17 = .ok (.iload_n 2, 1) := by decide +kernel
theorem dX1_putPart_18 : decode cX1_putPart 18 = .ok (.iload 5, 2) := by decide +kernel
theorem dX1_putPart_20 : decode cX1_putPart 20 = .ok (.iadd, 1) := by decide +kernel
theorem dX1_putPart_21 : decode cX1_putPart 21 = .ok (.iload 4, 2) := by decide +kernel
theorem dX1_putPart_23 : decode cX1_putPart 23 = .ok (.isub, 1) := by decide +kernel
theorem dX1_putPart_24 : decode cX1_putPart 24 = .ok (.aload_n 0, 1) := by decide +kernel
theorem dX1_putPart_25 : decode cX1_putPart 25 = .ok (.iload_n 3, 1) := by decide +kernel
theorem dX1_putPart_26 : decode cX1_putPart 26 = .ok (.iload 5, 2) := by decide +kernel
theorem dX1_putPart_28 : decode cX1_putPart 28 = .ok (.invokevirtual 47, 3) := by decide +kernel
theorem dX1_putPart_31 : decode cX1_putPart 31 = .ok (.invokevirtual 70, 3) := by decide +kernel
theorem dX1_putPart_34 : decode cX1_putPart 34 = .ok (.pop, 1) := by decide +kernel
theorem dX1_putPart_35 : decode cX1_putPart 35 = .ok (.iinc 5 1, 3) := by decide +kernel
theorem dX1_putPart_38 : decode cX1_putPart 38 = .ok (.goto (-34), 3) := by decide +kernel
theorem dX1_putPart_41 : decode cX1_putPart 41 = .ok (.return_, 1) := by decide +kernel
set_option maxHeartbeats 4000000 in
set_option maxRecDepth 100000 in
theorem t_X1_putPart_L4 {p : Program} {l : Launch} {e : Env} {s : State} {m : MethodId} {args : Array Value} {below : List Frame} {meth : Method} {c : Code} {D : va_G} {aC : Nat → ClassId} {A : Nat → Prop} {a_n : Nat → Nat} {out : Ob_T} {rec4 : (Int32 × Int32 × Int32 × Int32 × Int32 × Ob_T) → Option Ob_T} (hX : K_X p s m args meth c cX1_putPart 6 WL_ RX1 D aC A) (hr : meth.sig.returnType = none) (hrec4 : ∀ x : Int32 × Int32 × Int32 × Int32 × Int32 × Ob_T, rec4 x = some out → ∀ (H : Heap) (locs : List Loc) (ls : Array Slot), K_S D A s (wd_X1 aC a_n x.2.2.2.2.2) H locs → lv_has ls 6 [(0, .ref (a_n 0)), (1, .int x.1), (2, .int x.2.1), (3, .int x.2.2.1), (4, .int x.2.2.2.1), (5, .int x.2.2.2.2.1)] → W p l e (R_m 1 23) s m args below meth c H locs 0 0 (MQ below (Q_W (none) D A (wd_X1 aC a_n out)) args s 0 0 A) (F0 m 4 ls [])) (x1 : Int32) (x2 : Int32) (x3 : Int32) (x4 : Int32) (x5 : Int32) (s_n : Ob_T) (h : f_X1_putPart_L4 rec4 x1 x2 x3 x4 x5 s_n = some out) (H : Heap) (locs : List Loc) (ls : Array Slot) (hZ : K_S D A s (wd_X1 aC a_n s_n) H locs) (hl : lv_has ls 6 [(0, .ref (a_n 0)), (1, .int x1), (2, .int x2), (3, .int x3), (4, .int x4), (5, .int x5)]) : W p l e (R_m 1 23) s m args below meth c H locs 0 0 (MQ below (Q_W (none) D A (wd_X1 aC a_n out)) args s 0 0 A) (F0 m 4 ls []) := by
  obtain ⟨hx, hb, hml, hown, hts, hK, hA, hlk⟩ := id hX
  unfold f_X1_putPart_L4 at h
  refine lv_iload hx hb dX1_putPart_4 (lv_at hl 5 rfl) ?_
  refine lv_aload_n hx hb dX1_putPart_6 rfl (lv_at hl 0 rfl) ?_
  refine k_get hX hZ.1 0 1 rfl rfl iw_X1 4 rfl (wm_317) (v := .ref (a_n 5)) rfl dX1_putPart_7 ?_
  refine lv_iload_n hx hb dX1_putPart_10 rfl (lv_at hl 3 rfl) ?_
  refine k_iald hX hZ.1 5 rfl h dX1_putPart_11 (fun v1 h => ?_)
  refine lv_icmp_ge (tgt := 41) hx hb dX1_putPart_12 (by decide) (fun cd => ?_) (fun cd => ?_)
  · replace h := k_t cd h
    clear cd
    cases h
    exact k_vretW hX hr hZ dX1_putPart_41
  · replace h := k_f cd h
    clear cd
    refine lv_aload_n hx hb dX1_putPart_15 rfl (lv_at hl 0 rfl) ?_
    refine lv_iload_n hx hb dX1_putPart_16 rfl (lv_at hl 1 rfl) ?_
    refine lv_iload_n hx hb dX1_putPart_17 rfl (lv_at hl 2 rfl) ?_
    refine lv_iload hx hb dX1_putPart_18 (lv_at hl 5 rfl) ?_
    refine lv_iadd hx hb dX1_putPart_20 ?_
    refine lv_iload hx hb dX1_putPart_21 (lv_at hl 4 rfl) ?_
    refine lv_isub hx hb dX1_putPart_23 ?_
    refine lv_aload_n hx hb dX1_putPart_24 rfl (lv_at hl 0 rfl) ?_
    refine lv_iload_n hx hb dX1_putPart_25 rfl (lv_at hl 3 rfl) ?_
    refine lv_iload hx hb dX1_putPart_26 (lv_at hl 5 rfl) ?_
    obtain ⟨u2, hu, h⟩ := k_bd h
    refine k_vRs (As := [.int x3, .int x5]) (rest := [.int ((x2 + x5) - x4), .int x1, .ref (a_n 0)]) (v := some (.int u2)) (st1 := [.int u2, .int ((x2 + x5) - x4), .int x1, .ref (a_n 0)]) hX hl.1 hZ (c_X1_at (a_n := a_n) s_n x3 x5 hu) (gv_ wm_325 wm_327 wm_328 wm_321 wm_326) rfl hd_X1_at ⟨rfl, rfl⟩ 1 0 rfl rfl rfl rfl rfl dX1_putPart_28 rfl ⟨rfl, rfl⟩ (fun locs hZ => ?_)
    clear hu
    obtain ⟨u3, hu, h⟩ := k_bd h
    refine k_vWs (As := [.int x1, .int ((x2 + x5) - x4), .int u2]) (rest := []) (v := some (.int u3.1)) (st1 := [.int u3.1]) hX hl.1 hZ (c_X1_putOne (a_n := a_n) s_n x1 ((x2 + x5) - x4) u2 hu) (gv_ wm_345 wm_347 wm_348 wm_321 wm_346) rfl hd_X1_putOne ⟨rfl, rfl⟩ 1 0 rfl rfl rfl rfl rfl dX1_putPart_31 rfl ⟨rfl, rfl⟩ rfl (fun H locs hZ => ?_)
    clear hu
    refine lv_pop hx hb dX1_putPart_34 rfl ?_
    refine lv_iinc (v := (x5 + (1 : Int32))) (lv' := [(5, .int (x5 + (1 : Int32))), (0, .ref (a_n 0)), (1, .int x1), (2, .int x2), (3, .int x3), (4, .int x4)]) hx hb dX1_putPart_35 hl (k := 5) rfl rfl (by decide) rfl (fun ls hl => ?_)
    refine lv_goto (tgt := 4) hx hb dX1_putPart_38 (by decide) ?_
    exact hrec4 (x1, x2, x3, x4, (x5 + (1 : Int32)), u3.2) h H locs ls hZ (lv_sub hl [1, 2, 3, 4, 5, 0] rfl)
set_option maxHeartbeats 4000000 in
set_option maxRecDepth 100000 in
theorem c_X1_putPart {l : Launch} {D : va_G} {aC : Nat → ClassId} {a_n : Nat → Nat} (s_n : Ob_T) (x1 : Int32) (x2 : Int32) (x3 : Int32) (x4 : Int32) {out : Ob_T} (h : f_X1_putPart s_n x1 x2 x3 x4 = some out) : M_W l yX1_putPart wlX1_putPart 1 23 D aC [.ref (a_n 0), .int x1, .int x2, .int x3, .int x4] (wd_X1 aC a_n s_n) (none) (wd_X1 aC a_n out) := by
  refine k_entW (cc := cX1_putPart) (ret := none) (maxL := 6) (own := RX1) (by decide) rfl rfl rfl ?_
  intro p e s m below meth c A ls hX hr hZ hl
  have hl : lv_has ls 6 [(0, .ref (a_n 0)), (1, .int x1), (2, .int x2), (3, .int x3), (4, .int x4)] := hl
  generalize ([.ref (a_n 0), .int x1, .int x2, .int x3, .int x4] : List Value).toArray = args at hX ⊢
  obtain ⟨hx, hb, hml, hown, hts, hK, hA, hlk⟩ := id hX
  unfold f_X1_putPart at h
  generalize s.heap = H at hZ ⊢
  generalize ([] : List Loc) = locs at hZ ⊢
  refine lv_iload hx hb dX1_putPart_0 (lv_at hl 4 rfl) ?_
  refine lv_istore (lv' := [(5, .int x4), (0, .ref (a_n 0)), (1, .int x1), (2, .int x2), (3, .int x3), (4, .int x4)]) hx hb dX1_putPart_2 hl (by decide) rfl (fun ls hl => ?_)
  exact Lp_ok (body := (fun (rec : (Int32 × Int32 × Int32 × Int32 × Int32 × Ob_T) → Option Ob_T) x => f_X1_putPart_L4 rec x.1 x.2.1 x.2.2.1 x.2.2.2.1 x.2.2.2.2.1 x.2.2.2.2.2)) (out := out) (fun x => ∀ (H : Heap) (locs : List Loc) (ls : Array Slot), K_S D A s (wd_X1 aC a_n x.2.2.2.2.2) H locs → lv_has ls 6 [(0, .ref (a_n 0)), (1, .int x.1), (2, .int x.2.1), (3, .int x.2.2.1), (4, .int x.2.2.2.1), (5, .int x.2.2.2.2.1)] → W p l e (R_m 1 23) s m args below meth c H locs 0 0 (MQ below (Q_W (none) D A (wd_X1 aC a_n out)) args s 0 0 A) (F0 m 4 ls [])) (fun rec hrec x h H locs ls hZ hl => t_X1_putPart_L4 hX hr hrec x.1 x.2.1 x.2.2.1 x.2.2.2.1 x.2.2.2.2.1 x.2.2.2.2.2 h H locs ls hZ hl) FU_ (x1, x2, x3, x4, x4, s_n) h H locs ls hZ (lv_sub hl [1, 2, 3, 4, 5, 0] rfl)
def wlX1_putLongerCell : List Cond := .code yX1_putLongerCell cX1_putLongerCell 7 none :: WL_
theorem hd_X1_putLongerCell : yX1_putLongerCell.cls = RX1 ∧ yX1_putLongerCell.cls ≠ "java/lang/invoke/MethodHandle" ∧ yX1_putLongerCell.cls ≠ "java/lang/invoke/VarHandle" ∧ (parseMethodDescriptor yX1_putLongerCell.desc).map (fun d => d.parameters.length) = some 3 := by decide +kernel
theorem dX1_putLongerCell_0 : decode cX1_putLongerCell 0 = .ok (.aload_n 0, 1) := by decide +kernel
theorem dX1_putLongerCell_1 : decode cX1_putLongerCell 1 = .ok (.getfield 15, 3) := by decide +kernel
theorem dX1_putLongerCell_4 : decode cX1_putLongerCell 4 = .ok (.iload_n 1, 1) := by decide +kernel
theorem dX1_putLongerCell_5 : decode cX1_putLongerCell 5 = .ok (.iaload, 1) := by decide +kernel
theorem dX1_putLongerCell_6 : decode cX1_putLongerCell 6 = .ok (.istore 4, 2) := by decide +kernel
theorem dX1_putLongerCell_8 : decode cX1_putLongerCell 8 = .ok (.aload_n 0, 1) := by decide +kernel
theorem dX1_putLongerCell_9 : decode cX1_putLongerCell 9 = .ok (.getfield 18, 3) := by decide +kernel
theorem dX1_putLongerCell_12 : decode cX1_putLongerCell 12 = .ok (.iload_n 1, 1) := by decide +kernel
theorem dX1_putLongerCell_13 : decode cX1_putLongerCell 13 = .ok (.iaload, 1) := by decide +kernel
theorem dX1_putLongerCell_14 : decode cX1_putLongerCell 14 = .ok (.istore 5, 2) := by decide +kernel
theorem dX1_putLongerCell_16 : decode cX1_putLongerCell 16 = .ok (.aload_n 0, 1) := by decide +kernel
theorem dX1_putLongerCell_17 : decode cX1_putLongerCell 17 = .ok (.iload 5, 2) := by decide +kernel
theorem dX1_putLongerCell_19 : decode cX1_putLongerCell 19 = .ok (.aload_n 0, 1) := by decide +kernel
theorem dX1_putLongerCell_20 : decode cX1_putLongerCell 20 = .ok (.getfield 21, 3) := by decide +kernel
theorem dX1_putLongerCell_23 : decode cX1_putLongerCell 23 = .ok (.iload_n 1, 1) := by decide +kernel
theorem dX1_putLongerCell_24 : decode cX1_putLongerCell 24 = .ok (.iaload, 1) := by decide +kernel
theorem dX1_putLongerCell_25 : decode cX1_putLongerCell 25 = .ok (.invokevirtual 59, 3) := by decide +kernel
theorem dX1_putLongerCell_28 : decode cX1_putLongerCell 28 = .ok (.aload_n 0, 1) := by decide +kernel
theorem dX1_putLongerCell_29 : decode cX1_putLongerCell 29 = .ok (.iload 4, 2) := by decide +kernel
theorem dX1_putLongerCell_31 : decode cX1_putLongerCell 31 = .ok (.aload_n 0, 1) := by decide +kernel
theorem dX1_putLongerCell_32 : decode cX1_putLongerCell 32 = .ok (.getfield 21, 3) := by decide +kernel
theorem dX1_putLongerCell_35 : decode cX1_putLongerCell 35 = .ok (.iload_n 1, 1) := by decide +kernel
theorem dX1_putLongerCell_36 : decode cX1_putLongerCell 36 = .ok (.iaload, 1) := by decide +kernel
theorem dX1_putLongerCell_37 : decode cX1_putLongerCell 37 = .ok (.invokevirtual 59, 3) := by decide +kernel
theorem dX1_putLongerCell_40 : decode cX1_putLongerCell 40 = .ok (.if_icmp .le 8, 3) := by decide +kernel
theorem dX1_putLongerCell_43 : decode cX1_putLongerCell 43 = .ok (.iload 5, 2) := by decide +kernel
theorem dX1_putLongerCell_45 : decode cX1_putLongerCell 45 = .ok (.goto 5, 3) := by decide +kernel
theorem dX1_putLongerCell_48 : decode cX1_putLongerCell 48 = .ok (.iload 4, 2) := by decide +kernel
theorem dX1_putLongerCell_50 : decode cX1_putLongerCell 50 = .ok (.istore 6, 2) := by decide +kernel
theorem dX1_putLongerCell_52 : decode cX1_putLongerCell 52 = .ok (.aload_n 0, 1) := by decide +kernel
theorem dX1_putLongerCell_53 : decode cX1_putLongerCell 53 = .ok (.iload_n 1, 1) := by decide +kernel
theorem dX1_putLongerCell_54 : decode cX1_putLongerCell 54 = .ok (.iload_n 2, 1) := by decide +kernel
theorem dX1_putLongerCell_55 : decode cX1_putLongerCell 55 = .ok (.iload 6, 2) := by decide +kernel
theorem dX1_putLongerCell_57 : decode cX1_putLongerCell 57 = .ok (.aload_n 0, 1) := by decide +kernel
theorem dX1_putLongerCell_58 : decode cX1_putLongerCell 58 = .ok (.iload 6, 2) := by decide +kernel
theorem dX1_putLongerCell_60 : decode cX1_putLongerCell 60 = .ok (.aload_n 0, 1) := by decide +kernel
theorem dX1_putLongerCell_61 : decode cX1_putLongerCell 61 = .ok (.getfield 21, 3) := by decide +kernel
theorem dX1_putLongerCell_64 : decode cX1_putLongerCell 64 = .ok (.iload_n 1, 1) := by decide +kernel
theorem dX1_putLongerCell_65 : decode cX1_putLongerCell 65 = .ok (.iaload, 1) := by decide +kernel
theorem dX1_putLongerCell_66 : decode cX1_putLongerCell 66 = .ok (.invokevirtual 51, 3) := by decide +kernel
theorem dX1_putLongerCell_69 : decode cX1_putLongerCell 69 = .ok (.iload_n 3, 1) := by decide +kernel
theorem dX1_putLongerCell_70 : decode cX1_putLongerCell 70 = .ok (.iadd, 1) := by decide +kernel
theorem dX1_putLongerCell_71 : decode cX1_putLongerCell 71 = .ok (.invokevirtual 85, 3) := by decide +kernel
theorem dX1_putLongerCell_74 : decode cX1_putLongerCell 74 = .ok (.return_, 1) := by decide +kernel
set_option maxHeartbeats 4000000 in
set_option maxRecDepth 100000 in
theorem t_X1_putLongerCell_J50 {p : Program} {l : Launch} {e : Env} {s : State} {m : MethodId} {args : Array Value} {below : List Frame} {meth : Method} {c : Code} {D : va_G} {aC : Nat → ClassId} {A : Nat → Prop} {a_n : Nat → Nat} {out : Ob_T} (hX : K_X p s m args meth c cX1_putLongerCell 7 WL_ RX1 D aC A) (hr : meth.sig.returnType = none) (x1 : Int32) (x2 : Int32) (x3 : Int32) (k0 : Int32) (s_n : Ob_T) (h : f_X1_putLongerCell_J50 x1 x2 x3 k0 s_n = some out) (H : Heap) (locs : List Loc) (ls : Array Slot) (hZ : K_S D A s (wd_X1 aC a_n s_n) H locs) (hl : lv_has ls 7 [(0, .ref (a_n 0)), (1, .int x1), (2, .int x2), (3, .int x3)]) : W p l e (R_m 2 48) s m args below meth c H locs 0 0 (MQ below (Q_W (none) D A (wd_X1 aC a_n out)) args s 0 0 A) (F0 m 50 ls [.int k0]) := by
  obtain ⟨hx, hb, hml, hown, hts, hK, hA, hlk⟩ := id hX
  unfold f_X1_putLongerCell_J50 at h
  refine lv_istore (lv' := [(6, .int k0), (0, .ref (a_n 0)), (1, .int x1), (2, .int x2), (3, .int x3)]) hx hb dX1_putLongerCell_50 hl (by decide) rfl (fun ls hl => ?_)
  refine lv_aload_n hx hb dX1_putLongerCell_52 rfl (lv_at hl 1 rfl) ?_
  refine lv_iload_n hx hb dX1_putLongerCell_53 rfl (lv_at hl 2 rfl) ?_
  refine lv_iload_n hx hb dX1_putLongerCell_54 rfl (lv_at hl 3 rfl) ?_
  refine lv_iload hx hb dX1_putLongerCell_55 (lv_at hl 0 rfl) ?_
  refine lv_aload_n hx hb dX1_putLongerCell_57 rfl (lv_at hl 1 rfl) ?_
  refine lv_iload hx hb dX1_putLongerCell_58 (lv_at hl 0 rfl) ?_
  refine lv_aload_n hx hb dX1_putLongerCell_60 rfl (lv_at hl 1 rfl) ?_
  refine k_get hX hZ.1 0 1 rfl rfl iw_X1 3 rfl (wm_316) (v := .ref (a_n 4)) rfl dX1_putLongerCell_61 ?_
  refine lv_iload_n hx hb dX1_putLongerCell_64 rfl (lv_at hl 2 rfl) ?_
  refine k_iald hX hZ.1 4 rfl h dX1_putLongerCell_65 (fun v7 h => ?_)
  obtain ⟨u8, hu, h⟩ := k_bd h
  refine k_vRs (As := [.int k0, .int v7]) (rest := [.int k0, .int x2, .int x1, .ref (a_n 0)]) (v := some (.int u8)) (st1 := [.int u8, .int k0, .int x2, .int x1, .ref (a_n 0)]) hX hl.1 hZ (c_X1_frameOf (a_n := a_n) s_n k0 v7 hu) (gv_ wm_333 wm_335 wm_336 wm_321 wm_334) rfl hd_X1_frameOf ⟨rfl, rfl⟩ 1 0 rfl rfl rfl rfl rfl dX1_putLongerCell_66 rfl ⟨rfl, rfl⟩ (fun locs hZ => ?_)
  clear hu
  refine lv_iload_n hx hb dX1_putLongerCell_69 rfl (lv_at hl 4 rfl) ?_
  refine lv_iadd hx hb dX1_putLongerCell_70 ?_
  obtain ⟨u9, hu, h⟩ := k_bd h
  refine k_vWs (As := [.int x1, .int x2, .int k0, .int (u8 + x3)]) (rest := []) (v := none) (st1 := []) hX hl.1 hZ (c_X1_putPart (a_n := a_n) s_n x1 x2 k0 (u8 + x3) hu) (gv_ wm_353 wm_355 wm_356 wm_321 wm_354) rfl hd_X1_putPart ⟨rfl, rfl⟩ 1 0 rfl rfl rfl rfl rfl dX1_putLongerCell_71 rfl ⟨rfl, rfl⟩ rfl (fun H locs hZ => ?_)
  clear hu
  cases h
  exact k_vretW hX hr hZ dX1_putLongerCell_74
set_option maxHeartbeats 4000000 in
set_option maxRecDepth 100000 in
theorem c_X1_putLongerCell {l : Launch} {D : va_G} {aC : Nat → ClassId} {a_n : Nat → Nat} (s_n : Ob_T) (x1 : Int32) (x2 : Int32) (x3 : Int32) {out : Ob_T} (h : f_X1_putLongerCell s_n x1 x2 x3 = some out) : M_W l yX1_putLongerCell wlX1_putLongerCell 2 48 D aC [.ref (a_n 0), .int x1, .int x2, .int x3] (wd_X1 aC a_n s_n) (none) (wd_X1 aC a_n out) := by
  refine k_entW (cc := cX1_putLongerCell) (ret := none) (maxL := 7) (own := RX1) (by decide) rfl rfl rfl ?_
  intro p e s m below meth c A ls hX hr hZ hl
  have hl : lv_has ls 7 [(0, .ref (a_n 0)), (1, .int x1), (2, .int x2), (3, .int x3)] := hl
  generalize ([.ref (a_n 0), .int x1, .int x2, .int x3] : List Value).toArray = args at hX ⊢
  obtain ⟨hx, hb, hml, hown, hts, hK, hA, hlk⟩ := id hX
  unfold f_X1_putLongerCell at h
  generalize s.heap = H at hZ ⊢
  generalize ([] : List Loc) = locs at hZ ⊢
  refine lv_aload_n hx hb dX1_putLongerCell_0 rfl (lv_at hl 0 rfl) ?_
  refine k_get hX hZ.1 0 1 rfl rfl iw_X1 1 rfl (wm_314) (v := .ref (a_n 2)) rfl dX1_putLongerCell_1 ?_
  refine lv_iload_n hx hb dX1_putLongerCell_4 rfl (lv_at hl 1 rfl) ?_
  refine k_iald hX hZ.1 2 rfl h dX1_putLongerCell_5 (fun v1 h => ?_)
  refine lv_istore (lv' := [(4, .int v1), (0, .ref (a_n 0)), (1, .int x1), (2, .int x2), (3, .int x3)]) hx hb dX1_putLongerCell_6 hl (by decide) rfl (fun ls hl => ?_)
  refine lv_aload_n hx hb dX1_putLongerCell_8 rfl (lv_at hl 1 rfl) ?_
  refine k_get hX hZ.1 0 1 rfl rfl iw_X1 2 rfl (wm_315) (v := .ref (a_n 3)) rfl dX1_putLongerCell_9 ?_
  refine lv_iload_n hx hb dX1_putLongerCell_12 rfl (lv_at hl 2 rfl) ?_
  refine k_iald hX hZ.1 3 rfl h dX1_putLongerCell_13 (fun v2 h => ?_)
  refine lv_istore (lv' := [(5, .int v2), (4, .int v1), (0, .ref (a_n 0)), (1, .int x1), (2, .int x2), (3, .int x3)]) hx hb dX1_putLongerCell_14 hl (by decide) rfl (fun ls hl => ?_)
  refine lv_aload_n hx hb dX1_putLongerCell_16 rfl (lv_at hl 2 rfl) ?_
  refine lv_iload hx hb dX1_putLongerCell_17 (lv_at hl 0 rfl) ?_
  refine lv_aload_n hx hb dX1_putLongerCell_19 rfl (lv_at hl 2 rfl) ?_
  refine k_get hX hZ.1 0 1 rfl rfl iw_X1 3 rfl (wm_316) (v := .ref (a_n 4)) rfl dX1_putLongerCell_20 ?_
  refine lv_iload_n hx hb dX1_putLongerCell_23 rfl (lv_at hl 3 rfl) ?_
  refine k_iald hX hZ.1 4 rfl h dX1_putLongerCell_24 (fun v3 h => ?_)
  obtain ⟨u4, hu, h⟩ := k_bd h
  refine k_vRs (As := [.int v2, .int v3]) (rest := []) (v := some (.int u4)) (st1 := [.int u4]) hX hl.1 hZ (c_X1_cellOf (a_n := a_n) s_n v2 v3 hu) (gv_ wm_341 wm_343 wm_344 wm_321 wm_342) rfl hd_X1_cellOf ⟨rfl, rfl⟩ 1 0 rfl rfl rfl rfl rfl dX1_putLongerCell_25 rfl ⟨rfl, rfl⟩ (fun locs hZ => ?_)
  clear hu
  refine lv_aload_n hx hb dX1_putLongerCell_28 rfl (lv_at hl 2 rfl) ?_
  refine lv_iload hx hb dX1_putLongerCell_29 (lv_at hl 1 rfl) ?_
  refine lv_aload_n hx hb dX1_putLongerCell_31 rfl (lv_at hl 2 rfl) ?_
  refine k_get hX hZ.1 0 1 rfl rfl iw_X1 3 rfl (wm_316) (v := .ref (a_n 4)) rfl dX1_putLongerCell_32 ?_
  refine lv_iload_n hx hb dX1_putLongerCell_35 rfl (lv_at hl 3 rfl) ?_
  refine k_iald hX hZ.1 4 rfl h dX1_putLongerCell_36 (fun v5 h => ?_)
  obtain ⟨u6, hu, h⟩ := k_bd h
  refine k_vRs (As := [.int v1, .int v5]) (rest := [.int u4]) (v := some (.int u6)) (st1 := [.int u6, .int u4]) hX hl.1 hZ (c_X1_cellOf (a_n := a_n) s_n v1 v5 hu) (gv_ wm_341 wm_343 wm_344 wm_321 wm_342) rfl hd_X1_cellOf ⟨rfl, rfl⟩ 1 0 rfl rfl rfl rfl rfl dX1_putLongerCell_37 rfl ⟨rfl, rfl⟩ (fun locs hZ => ?_)
  clear hu
  refine lv_icmp_le (tgt := 48) hx hb dX1_putLongerCell_40 (by decide) (fun cd => ?_) (fun cd => ?_)
  · replace h := k_t cd h
    clear cd
    refine lv_iload hx hb dX1_putLongerCell_48 (lv_at hl 1 rfl) ?_
    exact t_X1_putLongerCell_J50 hX hr x1 x2 x3 v1 s_n h H locs ls hZ (lv_sub hl [2, 3, 4, 5] rfl)
  · replace h := k_f cd h
    clear cd
    refine lv_iload hx hb dX1_putLongerCell_43 (lv_at hl 0 rfl) ?_
    refine lv_goto (tgt := 50) hx hb dX1_putLongerCell_45 (by decide) ?_
    exact t_X1_putLongerCell_J50 hX hr x1 x2 x3 v2 s_n h H locs ls hZ (lv_sub hl [2, 3, 4, 5] rfl)
def wlX1_ownLetter : List Cond := .code yX1_ownLetter cX1_ownLetter 1 (some .int) :: WL_
theorem hd_X1_ownLetter : yX1_ownLetter.cls ≠ "java/lang/invoke/MethodHandle" ∧ yX1_ownLetter.cls ≠ "java/lang/invoke/VarHandle" ∧ (parseMethodDescriptor yX1_ownLetter.desc).map (fun d => d.parameters.length) = some 1 := by decide +kernel
theorem dX1_ownLetter_0 : decode cX1_ownLetter 0 = .ok (.sipush 20004, 3) := by decide +kernel
theorem dX1_ownLetter_3 : decode cX1_ownLetter 3 = .ok (.iload_n 0, 1) := by decide +kernel
theorem dX1_ownLetter_4 : decode cX1_ownLetter 4 = .ok (.iadd, 1) := by decide +kernel
theorem dX1_ownLetter_5 : decode cX1_ownLetter 5 = .ok (.ireturn, 1) := by decide +kernel
set_option maxHeartbeats 4000000 in
set_option maxRecDepth 100000 in
theorem c_X1_ownLetter {l : Launch} {D : va_G} {aC : Nat → ClassId} (x0 : Int32) {out : Int32} (h : f_X1_ownLetter x0 = some out) : M_R l yX1_ownLetter wlX1_ownLetter 0 0 D aC [.int x0] (([] : va_W)) (some (.int out)) := by
  refine k_entR (cc := cX1_ownLetter) (ret := (some .int)) (maxL := 1) (own := RX1) (by decide) rfl rfl rfl ?_
  intro p e s m below meth c A ls hX hr hZ hl
  have hl : lv_has ls 1 [(0, .int x0)] := hl
  generalize ([.int x0] : List Value).toArray = args at hX ⊢
  obtain ⟨hx, hb, hml, hown, hts, hK, hA, hlk⟩ := id hX
  unfold f_X1_ownLetter at h
  have hF : ∀ q ∈ ([] : List Loc), False := fun _ h => nomatch h
  generalize ([] : List Loc) = locs at hF ⊢
  refine lv_sipush (v := 20004) hx hb dX1_ownLetter_0 (by decide) ?_
  refine lv_iload_n hx hb dX1_ownLetter_3 rfl (lv_at hl 0 rfl) ?_
  refine lv_iadd hx hb dX1_ownLetter_4 ?_
  cases h
  exact k_iretR hX hr hF dX1_ownLetter_5
