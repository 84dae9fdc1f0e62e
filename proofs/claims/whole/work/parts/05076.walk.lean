def wlX5_meetFrames : List Cond := .code yX5_meetFrames cX5_meetFrames 7 none :: WL_
theorem hd_X5_meetFrames : yX5_meetFrames.cls = RX5 ∧ yX5_meetFrames.cls ≠ "java/lang/invoke/MethodHandle" ∧ yX5_meetFrames.cls ≠ "java/lang/invoke/VarHandle" ∧ (parseMethodDescriptor yX5_meetFrames.desc).map (fun d => d.parameters.length) = some 1 := by decide +kernel
theorem dX5_meetFrames_0 : decode cX5_meetFrames 0 = .ok (.aload_n 0, 1) := by decide +kernel
theorem dX5_meetFrames_1 : decode cX5_meetFrames 1 = .ok (.getfield 31, 3) := by decide +kernel
theorem dX5_meetFrames_4 : decode cX5_meetFrames 4 = .ok (.iload_n 1, 1) := by decide +kernel
theorem dX5_meetFrames_5 : decode cX5_meetFrames 5 = .ok (.invokevirtual 97, 3) := by decide +kernel
theorem dX5_meetFrames_8 : decode cX5_meetFrames 8 = .ok (.istore_n 2, 1) := by decide +kernel
theorem dX5_meetFrames_9 : decode cX5_meetFrames 9 = .ok (.aload_n 0, 1) := by decide +kernel
theorem dX5_meetFrames_10 : decode cX5_meetFrames 10 = .ok (.getfield 31, 3) := by decide +kernel
theorem dX5_meetFrames_13 : decode cX5_meetFrames 13 = .ok (.iload_n 1, 1) := by decide +kernel
theorem dX5_meetFrames_14 : decode cX5_meetFrames 14 = .ok (.invokevirtual 100, 3) := by decide +kernel
theorem dX5_meetFrames_17 : decode cX5_meetFrames 17 = .ok (.istore_n 3, 1) := by decide +kernel
theorem dX5_meetFrames_18 : decode cX5_meetFrames 18 = .ok (.aload_n 0, 1) := by decide +kernel
theorem dX5_meetFrames_19 : decode cX5_meetFrames 19 = .ok (.getfield 31, 3) := by decide +kernel
theorem dX5_meetFrames_22 : decode cX5_meetFrames 22 = .ok (.iload_n 1, 1) := by decide +kernel
theorem dX5_meetFrames_23 : decode cX5_meetFrames 23 = .ok (.invokevirtual 103, 3) := by decide +kernel
theorem dX5_meetFrames_26 : decode cX5_meetFrames 26 = .ok (.istore 4, 2) := by decide +kernel
theorem dX5_meetFrames_28 : decode cX5_meetFrames 28 = .ok (.aload_n 0, 1) := by decide +kernel
theorem dX5_meetFrames_29 : decode cX5_meetFrames 29 = .ok (.getfield 31, 3) := by decide +kernel
theorem dX5_meetFrames_32 : decode cX5_meetFrames 32 = .ok (.iload_n 2, 1) := by decide +kernel
theorem dX5_meetFrames_33 : decode cX5_meetFrames 33 = .ok (.iload 4, 2) := by decide +kernel
theorem dX5_meetFrames_35 : decode cX5_meetFrames 35 = .ok (.invokevirtual 106, 3) := by decide +kernel
theorem dX5_meetFrames_38 : decode cX5_meetFrames 38 = .ok (.aload_n 0, 1) := by decide +kernel
theorem dX5_meetFrames_39 : decode cX5_meetFrames 39 = .ok (.getfield 31, 3) := by decide +kernel
theorem dX5_meetFrames_42 : decode cX5_meetFrames 42 = .ok (.iload_n 3, 1) := by decide +kernel
theorem dX5_meetFrames_43 : decode cX5_meetFrames 43 = .ok (.iload 4, 2) := by decide +kernel
theorem dX5_meetFrames_45 : decode cX5_meetFrames 45 = .ok (.invokevirtual 106, 3) := by decide +kernel
theorem dX5_meetFrames_48 : decode cX5_meetFrames 48 = .ok (.invokestatic 109, 3) := by decide +kernel
theorem dX5_meetFrames_51 : decode cX5_meetFrames 51 = .ok (.istore 5, 2) := by decide +kernel
theorem dX5_meetFrames_53 : decode cX5_meetFrames 53 = .ok (.iconst 0, 1) := by decide +kernel
theorem dX5_meetFrames_54 : decode cX5_meetFrames 54 = .ok (.istore 6, 2) := by decide +kernel
theorem dX5_meetFrames_56 : decode cX5_meetFrames 56 = .ok (.iload 6, 2) := by decide +kernel
theorem dX5_meetFrames_58 : decode cX5_meetFrames 58 = .ok (.iload 5, 2) := by decide +kernel
theorem dX5_meetFrames_60 : decode cX5_meetFrames 60 = .ok (.if_icmp .ge 44, 3) := by decide +kernel
theorem dX5_meetFrames_63 : decode cX5_meetFrames 63 = .ok (.aload_n 0, 1) := by decide +kernel
theorem dX5_meetFrames_64 : decode cX5_meetFrames 64 = .ok (.invokevirtual 70, 3) := by decide +kernel
theorem dX5_meetFrames_67 : decode cX5_meetFrames 67 = .ok (.ifCond .ne 37, 3) := by decide +kernel
theorem dX5_meetFrames_70 : decode cX5_meetFrames 70 = .ok (.aload_n 0, 1) := by decide +kernel
theorem dX5_meetFrames_71 : decode cX5_meetFrames 71 = .ok (.aload_n 0, 1) := by decide +kernel
theorem dX5_meetFrames_72 : decode cX5_meetFrames 72 = .ok (.getfield 31, 3) := by decide +kernel
theorem dX5_meetFrames_75 : decode cX5_meetFrames 75 = .ok (.iload_n 2, 1) := by decide +kernel
theorem dX5_meetFrames_76 : decode cX5_meetFrames 76 = .ok (.iload 6, 2) := by decide +kernel
theorem dX5_meetFrames_78 : decode cX5_meetFrames 78 = .ok (.invokevirtual 60, 3) := by decide +kernel
theorem dX5_meetFrames_81 : decode cX5_meetFrames 81 = .ok (.aload_n 0, 1) := by decide +kernel
theorem dX5_meetFrames_82 : decode cX5_meetFrames 82 = .ok (.getfield 31, 3) := by decide +kernel
theorem dX5_meetFrames_85 : decode cX5_meetFrames 85 = .ok (.iload_n 3, 1) := by decide +kernel
theorem dX5_meetFrames_86 : decode cX5_meetFrames 86 = .ok (.iload 6, 2) := by decide +kernel
theorem dX5_meetFrames_88 : decode cX5_meetFrames 88 = .ok (.invokevirtual 60, 3) := by decide +kernel
theorem dX5_meetFrames_91 : decode cX5_meetFrames 91 = .ok (.iload_n 1, 1) := by decide +kernel
theorem dX5_meetFrames_92 : decode cX5_meetFrames 92 = .ok (.iconst 1, 1) := by decide +kernel
theorem dX5_meetFrames_93 : decode cX5_meetFrames 93 = .ok (.iload 6, 2) := by decide +kernel
theorem dX5_meetFrames_95 : decode cX5_meetFrames 95 = .ok (.invokevirtual 114, 3) := by decide +kernel
theorem dX5_meetFrames_98 : decode cX5_meetFrames 98 = .ok (.iinc 6 1, 3) := by decide +kernel
theorem dX5_meetFrames_101 : decode cX5_meetFrames 101 = .ok (.goto (-45), 3) := by decide +kernel
theorem dX5_meetFrames_104 : decode cX5_meetFrames 104 = .ok (.return_, 1) := by decide +kernel
set_option maxHeartbeats 4000000 in
set_option maxRecDepth 100000 in
theorem t_X5_meetFrames_L56 {p : Program} {l : Launch} {e : Env} {s : State} {m : MethodId} {args : Array Value} {below : List Frame} {meth : Method} {c : Code} {D : va_G} {aC : Nat → ClassId} {A : Nat → Prop} {a_v a_n a_d : Nat → Nat} {out : Ob_T} {s_n : Ob_T} {rec56 : (Int32 × Int32 × Int32 × Int32 × Int32 × Ob_T) → Option Ob_T} (hX : K_X p s m args meth c cX5_meetFrames 7 WL_ RX5 D aC A) (hr : meth.sig.returnType = none) (hrec56 : ∀ x : Int32 × Int32 × Int32 × Int32 × Int32 × Ob_T, rec56 x = some out → ∀ (H : Heap) (locs : List Loc) (ls : Array Slot), K_S D A s (wd_X5 aC a_v (a_n 0) (a_d 0) x.2.2.2.2.2 ++ wd_X1 aC a_n s_n) H locs → lv_has ls 7 [(0, .ref (a_v 0)), (1, .int x.1), (2, .int x.2.1), (3, .int x.2.2.1), (5, .int x.2.2.2.1), (6, .int x.2.2.2.2.1)] → W p l e (R_m 2 67) s m args below meth c H locs 0 0 (MQ below (Q_W (none) D A (wd_X5 aC a_v (a_n 0) (a_d 0) out ++ wd_X1 aC a_n s_n)) args s 0 0 A) (F0 m 56 ls [])) (x1 : Int32) (x2 : Int32) (x3 : Int32) (x5 : Int32) (x6 : Int32) (s_v : Ob_T) (h : f_X5_meetFrames_L56 rec56 x1 x2 x3 x5 x6 s_v s_n = some out) (H : Heap) (locs : List Loc) (ls : Array Slot) (hZ : K_S D A s (wd_X5 aC a_v (a_n 0) (a_d 0) s_v ++ wd_X1 aC a_n s_n) H locs) (hl : lv_has ls 7 [(0, .ref (a_v 0)), (1, .int x1), (2, .int x2), (3, .int x3), (5, .int x5), (6, .int x6)]) : W p l e (R_m 2 67) s m args below meth c H locs 0 0 (MQ below (Q_W (none) D A (wd_X5 aC a_v (a_n 0) (a_d 0) out ++ wd_X1 aC a_n s_n)) args s 0 0 A) (F0 m 56 ls []) := by
  obtain ⟨hx, hb, hml, hown, hts, hK, hA, hlk⟩ := id hX
  unfold f_X5_meetFrames_L56 at h
  refine lv_iload hx hb dX5_meetFrames_56 (lv_at hl 5 rfl) ?_
  refine lv_iload hx hb dX5_meetFrames_58 (lv_at hl 4 rfl) ?_
  refine lv_icmp_ge (tgt := 104) hx hb dX5_meetFrames_60 (by decide) (fun cd => ?_) (fun cd => ?_)
  · replace h := k_t cd h
    clear cd
    cases h
    exact k_vretW hX hr hZ dX5_meetFrames_104
  · replace h := k_f cd h
    clear cd
    refine lv_aload_n hx hb dX5_meetFrames_63 rfl (lv_at hl 0 rfl) ?_
    obtain ⟨u6, hu, h⟩ := k_bd h
    refine k_vR (As := []) (rest := []) (wc := wd_X5 aC a_v (a_n 0) (a_d 0) s_v) (v := some (.int u6)) (st1 := [.int u6]) hX hl.1 hZ (c_X5_hasFailed (a_v := a_v) (a_n := a_n) (a_d := a_d) s_v hu) (gv_ wm_454 wm_456 wm_457 wm_432 wm_455) rfl hd_X5_hasFailed ⟨rfl, rfl⟩ 5 0 rfl rfl [0, 1, 2, 3, 4] rfl rfl rfl rfl rfl dX5_meetFrames_64 rfl ⟨rfl, rfl⟩ (fun locs hZ => ?_)
    clear hu
    refine lv_if_ne (tgt := 104) hx hb dX5_meetFrames_67 (by decide) (fun cd => ?_) (fun cd => ?_)
    · replace h := k_f cd h
      clear cd
      cases h
      exact k_vretW hX hr hZ dX5_meetFrames_104
    · replace h := k_t cd h
      clear cd
      refine lv_aload_n hx hb dX5_meetFrames_70 rfl (lv_at hl 0 rfl) ?_
      refine lv_aload_n hx hb dX5_meetFrames_71 rfl (lv_at hl 0 rfl) ?_
      refine k_get hX hZ.1 0 5 rfl rfl iw_X5 0 rfl (wm_448) (v := .ref (a_n 0)) rfl dX5_meetFrames_72 ?_
      refine lv_iload_n hx hb dX5_meetFrames_75 rfl (lv_at hl 2 rfl) ?_
      refine lv_iload hx hb dX5_meetFrames_76 (lv_at hl 5 rfl) ?_
      obtain ⟨u7, hu, h⟩ := k_bd h
      refine k_vR (As := [.int x2, .int x6]) (rest := [.ref (a_v 0)]) (wc := wd_X1 aC a_n s_n) (v := some (.int u7)) (st1 := [.int u7, .ref (a_v 0)]) hX hl.1 hZ (c_X1_at (a_n := a_n) s_n x2 x6 hu) (gv_ wm_453 wm_327 wm_328 wm_321 wm_326) rfl hd_X1_at ⟨rfl, rfl⟩ 1 0 rfl rfl [5, 6, 7, 8, 9, 10, 11] rfl rfl rfl rfl rfl dX5_meetFrames_78 rfl ⟨rfl, rfl⟩ (fun locs hZ => ?_)
      clear hu
      refine lv_aload_n hx hb dX5_meetFrames_81 rfl (lv_at hl 0 rfl) ?_
      refine k_get hX hZ.1 0 5 rfl rfl iw_X5 0 rfl (wm_448) (v := .ref (a_n 0)) rfl dX5_meetFrames_82 ?_
      refine lv_iload_n hx hb dX5_meetFrames_85 rfl (lv_at hl 3 rfl) ?_
      refine lv_iload hx hb dX5_meetFrames_86 (lv_at hl 5 rfl) ?_
      obtain ⟨u8, hu, h⟩ := k_bd h
      refine k_vR (As := [.int x3, .int x6]) (rest := [.int u7, .ref (a_v 0)]) (wc := wd_X1 aC a_n s_n) (v := some (.int u8)) (st1 := [.int u8, .int u7, .ref (a_v 0)]) hX hl.1 hZ (c_X1_at (a_n := a_n) s_n x3 x6 hu) (gv_ wm_453 wm_327 wm_328 wm_321 wm_326) rfl hd_X1_at ⟨rfl, rfl⟩ 1 0 rfl rfl [5, 6, 7, 8, 9, 10, 11] rfl rfl rfl rfl rfl dX5_meetFrames_88 rfl ⟨rfl, rfl⟩ (fun locs hZ => ?_)
      clear hu
      refine lv_iload_n hx hb dX5_meetFrames_91 rfl (lv_at hl 1 rfl) ?_
      refine lv_iconst (v := 1) hx hb dX5_meetFrames_92 (by decide) ?_
      refine lv_iload hx hb dX5_meetFrames_93 (lv_at hl 5 rfl) ?_
      obtain ⟨u9, hu, h⟩ := k_bd h
      refine k_vW (As := [.int u7, .int u8, .int x1, .int (1 : Int32), .int x6]) (rest := []) (wc := wd_X5 aC a_v (a_n 0) (a_d 0) s_v) (v := none) (st1 := []) (w' := wd_X5 aC a_v (a_n 0) (a_d 0) u9 ++ wd_X1 aC a_n s_n) hX hl.1 hZ (c_X5_meet (a_v := a_v) (a_n := a_n) (a_d := a_d) s_v u7 u8 x1 (1 : Int32) x6 hu) (gv_ wm_449 wm_451 wm_452 wm_432 wm_450) rfl hd_X5_meet ⟨rfl, rfl⟩ 5 0 rfl rfl [0, 1, 2, 3, 4] rfl rfl rfl rfl rfl dX5_meetFrames_95 rfl ⟨rfl, rfl⟩ rfl rfl rfl (fun H locs hZ => ?_)
      clear hu
      refine lv_iinc (v := (x6 + (1 : Int32))) (lv' := [(6, .int (x6 + (1 : Int32))), (0, .ref (a_v 0)), (1, .int x1), (2, .int x2), (3, .int x3), (5, .int x5)]) hx hb dX5_meetFrames_98 hl (k := 5) rfl rfl (by decide) rfl (fun ls hl => ?_)
      refine lv_goto (tgt := 56) hx hb dX5_meetFrames_101 (by decide) ?_
      exact hrec56 (x1, x2, x3, x5, (x6 + (1 : Int32)), u9) h H locs ls hZ (lv_sub hl [1, 2, 3, 4, 5, 0] rfl)
set_option maxHeartbeats 4000000 in
set_option maxRecDepth 100000 in
theorem c_X5_meetFrames {l : Launch} {D : va_G} {aC : Nat → ClassId} {a_v : Nat → Nat} {a_n : Nat → Nat} {a_d : Nat → Nat} (s_v : Ob_T) (s_n : Ob_T) (x1 : Int32) {out : Ob_T} (h : f_X5_meetFrames s_v s_n x1 = some out) : M_W l yX5_meetFrames wlX5_meetFrames 2 67 D aC [.ref (a_v 0), .int x1] (wd_X5 aC a_v (a_n 0) (a_d 0) s_v ++ wd_X1 aC a_n s_n) (none) (wd_X5 aC a_v (a_n 0) (a_d 0) out ++ wd_X1 aC a_n s_n) := by
  refine k_entW (cc := cX5_meetFrames) (ret := none) (maxL := 7) (own := RX5) (by decide) rfl rfl rfl ?_
  intro p e s m below meth c A ls hX hr hZ hl
  have hl : lv_has ls 7 [(0, .ref (a_v 0)), (1, .int x1)] := hl
  generalize ([.ref (a_v 0), .int x1] : List Value).toArray = args at hX ⊢
  obtain ⟨hx, hb, hml, hown, hts, hK, hA, hlk⟩ := id hX
  unfold f_X5_meetFrames at h
  generalize s.heap = H at hZ ⊢
  generalize ([] : List Loc) = locs at hZ ⊢
  refine lv_aload_n hx hb dX5_meetFrames_0 rfl (lv_at hl 0 rfl) ?_
  refine k_get hX hZ.1 0 5 rfl rfl iw_X5 0 rfl (wm_448) (v := .ref (a_n 0)) rfl dX5_meetFrames_1 ?_
  refine lv_iload_n hx hb dX5_meetFrames_4 rfl (lv_at hl 1 rfl) ?_
  obtain ⟨u1, hu, h⟩ := k_bd h
  refine k_vR (As := [.int x1]) (rest := []) (wc := wd_X1 aC a_n s_n) (v := some (.int u1)) (st1 := [.int u1]) hX hl.1 hZ (c_X1_firstOf (a_n := a_n) s_n x1 hu) (gv_ wm_467 wm_469 wm_470 wm_321 wm_468) rfl hd_X1_firstOf ⟨rfl, rfl⟩ 1 0 rfl rfl [5, 6, 7, 8, 9, 10, 11] rfl rfl rfl rfl rfl dX5_meetFrames_5 rfl ⟨rfl, rfl⟩ (fun locs hZ => ?_)
  clear hu
  refine lv_istore_n (lv' := [(2, .int u1), (0, .ref (a_v 0)), (1, .int x1)]) hx hb dX5_meetFrames_8 rfl hl (by decide) rfl (fun ls hl => ?_)
  refine lv_aload_n hx hb dX5_meetFrames_9 rfl (lv_at hl 1 rfl) ?_
  refine k_get hX hZ.1 0 5 rfl rfl iw_X5 0 rfl (wm_448) (v := .ref (a_n 0)) rfl dX5_meetFrames_10 ?_
  refine lv_iload_n hx hb dX5_meetFrames_13 rfl (lv_at hl 2 rfl) ?_
  obtain ⟨u2, hu, h⟩ := k_bd h
  refine k_vR (As := [.int x1]) (rest := []) (wc := wd_X1 aC a_n s_n) (v := some (.int u2)) (st1 := [.int u2]) hX hl.1 hZ (c_X1_secondOf (a_n := a_n) s_n x1 hu) (gv_ wm_463 wm_465 wm_466 wm_321 wm_464) rfl hd_X1_secondOf ⟨rfl, rfl⟩ 1 0 rfl rfl [5, 6, 7, 8, 9, 10, 11] rfl rfl rfl rfl rfl dX5_meetFrames_14 rfl ⟨rfl, rfl⟩ (fun locs hZ => ?_)
  clear hu
  refine lv_istore_n (lv' := [(3, .int u2), (2, .int u1), (0, .ref (a_v 0)), (1, .int x1)]) hx hb dX5_meetFrames_17 rfl hl (by decide) rfl (fun ls hl => ?_)
  refine lv_aload_n hx hb dX5_meetFrames_18 rfl (lv_at hl 2 rfl) ?_
  refine k_get hX hZ.1 0 5 rfl rfl iw_X5 0 rfl (wm_448) (v := .ref (a_n 0)) rfl dX5_meetFrames_19 ?_
  refine lv_iload_n hx hb dX5_meetFrames_22 rfl (lv_at hl 3 rfl) ?_
  obtain ⟨u3, hu, h⟩ := k_bd h
  refine k_vR (As := [.int x1]) (rest := []) (wc := wd_X1 aC a_n s_n) (v := some (.int u3)) (st1 := [.int u3]) hX hl.1 hZ (c_X1_rankOf (a_n := a_n) s_n x1 hu) (gv_ wm_459 wm_461 wm_462 wm_321 wm_460) rfl hd_X1_rankOf ⟨rfl, rfl⟩ 1 0 rfl rfl [5, 6, 7, 8, 9, 10, 11] rfl rfl rfl rfl rfl dX5_meetFrames_23 rfl ⟨rfl, rfl⟩ (fun locs hZ => ?_)
  clear hu
  refine lv_istore (lv' := [(4, .int u3), (3, .int u2), (2, .int u1), (0, .ref (a_v 0)), (1, .int x1)]) hx hb dX5_meetFrames_26 hl (by decide) rfl (fun ls hl => ?_)
  refine lv_aload_n hx hb dX5_meetFrames_28 rfl (lv_at hl 3 rfl) ?_
  refine k_get hX hZ.1 0 5 rfl rfl iw_X5 0 rfl (wm_448) (v := .ref (a_n 0)) rfl dX5_meetFrames_29 ?_
  refine lv_iload_n hx hb dX5_meetFrames_32 rfl (lv_at hl 2 rfl) ?_
  refine lv_iload hx hb dX5_meetFrames_33 (lv_at hl 0 rfl) ?_
  obtain ⟨u4, hu, h⟩ := k_bd h
  refine k_vR (As := [.int u1, .int u3]) (rest := []) (wc := wd_X1 aC a_n s_n) (v := some (.int u4)) (st1 := [.int u4]) hX hl.1 hZ (c_X1_frameOf (a_n := a_n) s_n u1 u3 hu) (gv_ wm_458 wm_335 wm_336 wm_321 wm_334) rfl hd_X1_frameOf ⟨rfl, rfl⟩ 1 0 rfl rfl [5, 6, 7, 8, 9, 10, 11] rfl rfl rfl rfl rfl dX5_meetFrames_35 rfl ⟨rfl, rfl⟩ (fun locs hZ => ?_)
  clear hu
  refine lv_aload_n hx hb dX5_meetFrames_38 rfl (lv_at hl 3 rfl) ?_
  refine k_get hX hZ.1 0 5 rfl rfl iw_X5 0 rfl (wm_448) (v := .ref (a_n 0)) rfl dX5_meetFrames_39 ?_
  refine lv_iload_n hx hb dX5_meetFrames_42 rfl (lv_at hl 1 rfl) ?_
  refine lv_iload hx hb dX5_meetFrames_43 (lv_at hl 0 rfl) ?_
  obtain ⟨u5, hu, h⟩ := k_bd h
  refine k_vR (As := [.int u2, .int u3]) (rest := [.int u4]) (wc := wd_X1 aC a_n s_n) (v := some (.int u5)) (st1 := [.int u5, .int u4]) hX hl.1 hZ (c_X1_frameOf (a_n := a_n) s_n u2 u3 hu) (gv_ wm_458 wm_335 wm_336 wm_321 wm_334) rfl hd_X1_frameOf ⟨rfl, rfl⟩ 1 0 rfl rfl [5, 6, 7, 8, 9, 10, 11] rfl rfl rfl rfl rfl dX5_meetFrames_45 rfl ⟨rfl, rfl⟩ (fun locs hZ => ?_)
  clear hu
  refine va_mmin (x := u4) (y := u5) hx hb (hml.trans hl.1.symm) hown (hts _ wm_437) (hts _ wm_438) (hts _ wm_339) (hts _ wm_439) (Nat.le_of_ble_eq_true rfl) (Nat.le_of_ble_eq_true rfl) (Nat.zero_le _) (Nat.zero_le _) dX5_meetFrames_48 ?_
  refine lv_istore (lv' := [(5, .int (if u5 < u4 then u5 else u4)), (4, .int u3), (3, .int u2), (2, .int u1), (0, .ref (a_v 0)), (1, .int x1)]) hx hb dX5_meetFrames_51 hl (by decide) rfl (fun ls hl => ?_)
  refine lv_iconst (v := 0) hx hb dX5_meetFrames_53 (by decide) ?_
  refine lv_istore (lv' := [(6, .int (0 : Int32)), (5, .int (if u5 < u4 then u5 else u4)), (4, .int u3), (3, .int u2), (2, .int u1), (0, .ref (a_v 0)), (1, .int x1)]) hx hb dX5_meetFrames_54 hl (by decide) rfl (fun ls hl => ?_)
  exact Lp_ok (body := (fun (rec : (Int32 × Int32 × Int32 × Int32 × Int32 × Ob_T) → Option Ob_T) x => f_X5_meetFrames_L56 rec x.1 x.2.1 x.2.2.1 x.2.2.2.1 x.2.2.2.2.1 x.2.2.2.2.2 s_n)) (out := out) (fun x => ∀ (H : Heap) (locs : List Loc) (ls : Array Slot), K_S D A s (wd_X5 aC a_v (a_n 0) (a_d 0) x.2.2.2.2.2 ++ wd_X1 aC a_n s_n) H locs → lv_has ls 7 [(0, .ref (a_v 0)), (1, .int x.1), (2, .int x.2.1), (3, .int x.2.2.1), (5, .int x.2.2.2.1), (6, .int x.2.2.2.2.1)] → W p l e (R_m 2 67) s m args below meth c H locs 0 0 (MQ below (Q_W (none) D A (wd_X5 aC a_v (a_n 0) (a_d 0) out ++ wd_X1 aC a_n s_n)) args s 0 0 A) (F0 m 56 ls [])) (fun rec hrec x h H locs ls hZ hl => t_X5_meetFrames_L56 hX hr hrec x.1 x.2.1 x.2.2.1 x.2.2.2.1 x.2.2.2.2.1 x.2.2.2.2.2 h H locs ls hZ hl) FU_ (x1, u1, u2, (if u5 < u4 then u5 else u4), (0 : Int32), s_v) h H locs ls hZ (lv_sub hl [5, 6, 4, 3, 1, 0] rfl)
