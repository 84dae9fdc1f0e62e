def wlX5_meetCells : List Cond := .code yX5_meetCells cX5_meetCells 10 none :: WL_
theorem hd_X5_meetCells : yX5_meetCells.cls = RX5 ∧ yX5_meetCells.cls ≠ "java/lang/invoke/MethodHandle" ∧ yX5_meetCells.cls ≠ "java/lang/invoke/VarHandle" ∧ (parseMethodDescriptor yX5_meetCells.desc).map (fun d => d.parameters.length) = some 2 := by decide +kernel
theorem dX5_meetCells_0 : decode cX5_meetCells 0 = .ok (.aload_n 0, 1) := by decide +kernel
theorem dX5_meetCells_1 : decode cX5_meetCells 1 = .ok (.getfield 31, 3) := by decide +kernel
theorem dX5_meetCells_4 : decode cX5_meetCells 4 = .ok (.iload_n 1, 1) := by decide +kernel
theorem dX5_meetCells_5 : decode cX5_meetCells 5 = .ok (.invokevirtual 97, 3) := by decide +kernel
theorem dX5_meetCells_8 : decode cX5_meetCells 8 = .ok (.istore_n 3, 1) := by decide +kernel
theorem dX5_meetCells_9 : decode cX5_meetCells 9 = .ok (.aload_n 0, 1) := by decide +kernel
theorem dX5_meetCells_10 : decode cX5_meetCells 10 = .ok (.getfield 31, 3) := by decide +kernel
theorem dX5_meetCells_13 : decode cX5_meetCells 13 = .ok (.iload_n 1, 1) := by decide +kernel
theorem dX5_meetCells_14 : decode cX5_meetCells 14 = .ok (.invokevirtual 100, 3) := by decide +kernel
theorem dX5_meetCells_17 : decode cX5_meetCells 17 = .ok (.istore 4, 2) := by decide +kernel
theorem dX5_meetCells_19 : decode cX5_meetCells 19 = .ok (.aload_n 0, 1) := by decide +kernel
theorem dX5_meetCells_20 : decode cX5_meetCells 20 = .ok (.getfield 31, 3) := by decide +kernel
theorem dX5_meetCells_23 : decode cX5_meetCells 23 = .ok (.iload_n 1, 1) := by decide +kernel
theorem dX5_meetCells_24 : decode cX5_meetCells 24 = .ok (.invokevirtual 103, 3) := by decide +kernel
theorem dX5_meetCells_27 : decode cX5_meetCells 27 = .ok (.istore 5, 2) := by decide +kernel
theorem dX5_meetCells_29 : decode cX5_meetCells 29 = .ok (.aload_n 0, 1) := by decide +kernel
theorem dX5_meetCells_30 : decode cX5_meetCells 30 = .ok (.getfield 31, 3) := by decide +kernel
theorem dX5_meetCells_33 : decode cX5_meetCells 33 = .ok (.iload_n 3, 1) := by decide +kernel
theorem dX5_meetCells_34 : decode cX5_meetCells 34 = .ok (.iload 5, 2) := by decide +kernel
theorem dX5_meetCells_36 : decode cX5_meetCells 36 = .ok (.invokevirtual 118, 3) := by decide +kernel
theorem dX5_meetCells_39 : decode cX5_meetCells 39 = .ok (.aload_n 0, 1) := by decide +kernel
theorem dX5_meetCells_40 : decode cX5_meetCells 40 = .ok (.getfield 31, 3) := by decide +kernel
theorem dX5_meetCells_43 : decode cX5_meetCells 43 = .ok (.iload 4, 2) := by decide +kernel
theorem dX5_meetCells_45 : decode cX5_meetCells 45 = .ok (.iload 5, 2) := by decide +kernel
theorem dX5_meetCells_47 : decode cX5_meetCells 47 = .ok (.invokevirtual 118, 3) := by decide +kernel
theorem dX5_meetCells_50 : decode cX5_meetCells 50 = .ok (.invokestatic 109, 3) := by decide +kernel
theorem dX5_meetCells_53 : decode cX5_meetCells 53 = .ok (.istore 6, 2) := by decide +kernel
theorem dX5_meetCells_55 : decode cX5_meetCells 55 = .ok (.aload_n 0, 1) := by decide +kernel
theorem dX5_meetCells_56 : decode cX5_meetCells 56 = .ok (.getfield 31, 3) := by decide +kernel
theorem dX5_meetCells_59 : decode cX5_meetCells 59 = .ok (.iload_n 3, 1) := by decide +kernel
theorem dX5_meetCells_60 : decode cX5_meetCells 60 = .ok (.iload 5, 2) := by decide +kernel
theorem dX5_meetCells_62 : decode cX5_meetCells 62 = .ok (.invokevirtual 106, 3) := by decide +kernel
theorem dX5_meetCells_65 : decode cX5_meetCells 65 = .ok (.istore 7, 2) := by decide +kernel
theorem dX5_meetCells_67 : decode cX5_meetCells 67 = .ok (.aload_n 0, 1) := by decide +kernel
theorem dX5_meetCells_68 : decode cX5_meetCells 68 = .ok (.getfield 31, 3) := by decide +kernel
theorem dX5_meetCells_71 : decode cX5_meetCells 71 = .ok (.iload 4, 2) := by decide +kernel
theorem dX5_meetCells_73 : decode cX5_meetCells 73 = .ok (.iload 5, 2) := by decide +kernel
theorem dX5_meetCells_75 : decode cX5_meetCells 75 = .ok (.invokevirtual 106, 3) := by decide +kernel
theorem dX5_meetCells_78 : decode cX5_meetCells 78 = .ok (.istore 8, 2) := by decide +kernel
theorem dX5_meetCells_80 : decode cX5_meetCells 80 = .ok (.iload_n 2, 1) := by decide +kernel
theorem dX5_meetCells_81 : decode cX5_meetCells 81 = .ok (.istore 9, 2) := by decide +kernel
theorem dX5_meetCells_83 : decode cX5_meetCells 83 = .ok (.iload 9, 2) := by decide +kernel
theorem dX5_meetCells_85 : decode cX5_meetCells 85 = .ok (.iload 6, 2) := by decide +kernel
theorem dX5_meetCells_87 : decode cX5_meetCells 87 = .ok (.if_icmp .ge 51, 3) := by decide +kernel
theorem dX5_meetCells_90 : decode cX5_meetCells 90 = .ok (.aload_n 0, 1) := by decide +kernel
theorem dX5_meetCells_91 : decode cX5_meetCells 91 = .ok (.invokevirtual 70, 3) := by decide +kernel
theorem dX5_meetCells_94 : decode cX5_meetCells 94 = .ok (.ifCond .ne 44, 3) := by decide +kernel
theorem dX5_meetCells_97 : decode cX5_meetCells 97 = .ok (.aload_n 0, 1) := by decide +kernel
theorem dX5_meetCells_98 : decode cX5_meetCells 98 = .ok (.aload_n 0, 1) := by decide +kernel
theorem dX5_meetCells_99 : decode cX5_meetCells 99 = .ok (.getfield 31, 3) := by decide +kernel
theorem dX5_meetCells_102 : decode cX5_meetCells 102 = .ok (.iload_n 3, 1) := by decide +kernel
theorem dX5_meetCells_103 : decode cX5_meetCells 103 = .ok (.iload 7, 2) := by decide +kernel
theorem dX5_meetCells_105 : decode cX5_meetCells 105 = .ok (.iload 9, 2) := by decide +kernel
theorem dX5_meetCells_107 : decode cX5_meetCells 107 = .ok (.iadd, 1) := by decide +kernel
theorem dX5_meetCells_108 : decode cX5_meetCells 108 = .ok (.invokevirtual 60, 3) := by decide +kernel
theorem dX5_meetCells_111 : decode cX5_meetCells 111 = .ok (.aload_n 0, 1) := by decide +kernel
theorem dX5_meetCells_112 : decode cX5_meetCells 112 = .ok (.getfield 31, 3) := by decide +kernel
theorem dX5_meetCells_115 : decode cX5_meetCells 115 = .ok (.iload 4, 2) := by decide +kernel
theorem dX5_meetCells_117 : decode cX5_meetCells 117 = .ok (.iload 8, 2) := by decide +kernel
theorem dX5_meetCells_119 : decode cX5_meetCells 119 = .ok (.iload 9, 2) := by decide +kernel
theorem dX5_meetCells_121 : decode cX5_meetCells 121 = .ok (.iadd, 1) := by decide +kernel
theorem dX5_meetCells_122 : decode cX5_meetCells 122 = .ok (.invokevirtual 60, 3) := by decide +kernel
theorem dX5_meetCells_125 : decode cX5_meetCells 125 = .ok (.iload_n 1, 1) := by decide +kernel
theorem dX5_meetCells_126 : decode cX5_meetCells 126 = .ok (.iconst 2, 1) := by decide +kernel
theorem dX5_meetCells_127 : decode cX5_meetCells 127 = .ok (.iload 9, 2) := by decide +kernel
theorem dX5_meetCells_129 : decode cX5_meetCells 129 = .ok (.invokevirtual 114, 3) := by decide +kernel
theorem dX5_meetCells_132 : decode cX5_meetCells 132 = .ok (.iinc 9 1, 3) := by decide +kernel
theorem dX5_meetCells_135 : decode cX5_meetCells 135 = .ok (.goto (-52), 3) := by decide +kernel
theorem dX5_meetCells_138 : decode cX5_meetCells 138 = .ok (.return_, 1) := by decide +kernel
set_option maxHeartbeats 4000000 in
set_option maxRecDepth 100000 in
theorem t_X5_meetCells_L83 {p : Program} {l : Launch} {e : Env} {s : State} {m : MethodId} {args : Array Value} {below : List Frame} {meth : Method} {c : Code} {D : va_G} {aC : Nat → ClassId} {A : Nat → Prop} {a_v a_n a_d : Nat → Nat} {out : Ob_T} {s_n : Ob_T} {rec83 : (Int32 × Int32 × Int32 × Int32 × Int32 × Int32 × Int32 × Ob_T) → Option Ob_T} (hX : K_X p s m args meth c cX5_meetCells 10 WL_ RX5 D aC A) (hr : meth.sig.returnType = none) (hrec83 : ∀ x : Int32 × Int32 × Int32 × Int32 × Int32 × Int32 × Int32 × Ob_T, rec83 x = some out → ∀ (H : Heap) (locs : List Loc) (ls : Array Slot), K_S D A s (wd_X5 aC a_v (a_n 0) (a_d 0) x.2.2.2.2.2.2.2 ++ wd_X1 aC a_n s_n) H locs → lv_has ls 10 [(0, .ref (a_v 0)), (1, .int x.1), (3, .int x.2.1), (4, .int x.2.2.1), (6, .int x.2.2.2.1), (7, .int x.2.2.2.2.1), (8, .int x.2.2.2.2.2.1), (9, .int x.2.2.2.2.2.2.1)] → W p l e (R_m 2 67) s m args below meth c H locs 0 0 (MQ below (Q_W (none) D A (wd_X5 aC a_v (a_n 0) (a_d 0) out ++ wd_X1 aC a_n s_n)) args s 0 0 A) (F0 m 83 ls [])) (x1 : Int32) (x3 : Int32) (x4 : Int32) (x6 : Int32) (x7 : Int32) (x8 : Int32) (x9 : Int32) (s_v : Ob_T) (h : f_X5_meetCells_L83 rec83 x1 x3 x4 x6 x7 x8 x9 s_v s_n = some out) (H : Heap) (locs : List Loc) (ls : Array Slot) (hZ : K_S D A s (wd_X5 aC a_v (a_n 0) (a_d 0) s_v ++ wd_X1 aC a_n s_n) H locs) (hl : lv_has ls 10 [(0, .ref (a_v 0)), (1, .int x1), (3, .int x3), (4, .int x4), (6, .int x6), (7, .int x7), (8, .int x8), (9, .int x9)]) : W p l e (R_m 2 67) s m args below meth c H locs 0 0 (MQ below (Q_W (none) D A (wd_X5 aC a_v (a_n 0) (a_d 0) out ++ wd_X1 aC a_n s_n)) args s 0 0 A) (F0 m 83 ls []) := by
  obtain ⟨hx, hb, hml, hown, hts, hK, hA, hlk⟩ := id hX
  unfold f_X5_meetCells_L83 at h
  refine lv_iload hx hb dX5_meetCells_83 (lv_at hl 7 rfl) ?_
  refine lv_iload hx hb dX5_meetCells_85 (lv_at hl 4 rfl) ?_
  refine lv_icmp_ge (tgt := 138) hx hb dX5_meetCells_87 (by decide) (fun cd => ?_) (fun cd => ?_)
  · replace h := k_t cd h
    clear cd
    cases h
    exact k_vretW hX hr hZ dX5_meetCells_138
  · replace h := k_f cd h
    clear cd
    refine lv_aload_n hx hb dX5_meetCells_90 rfl (lv_at hl 0 rfl) ?_
    obtain ⟨u8, hu, h⟩ := k_bd h
    refine k_vR (As := []) (rest := []) (wc := wd_X5 aC a_v (a_n 0) (a_d 0) s_v) (v := some (.int u8)) (st1 := [.int u8]) hX hl.1 hZ (c_X5_hasFailed (a_v := a_v) (a_n := a_n) (a_d := a_d) s_v hu) (gv_ wm_454 wm_456 wm_457 wm_432 wm_455) rfl hd_X5_hasFailed ⟨rfl, rfl⟩ 5 0 rfl rfl [0, 1, 2, 3, 4] rfl rfl rfl rfl rfl dX5_meetCells_91 rfl ⟨rfl, rfl⟩ (fun locs hZ => ?_)
    clear hu
    refine lv_if_ne (tgt := 138) hx hb dX5_meetCells_94 (by decide) (fun cd => ?_) (fun cd => ?_)
    · replace h := k_f cd h
      clear cd
      cases h
      exact k_vretW hX hr hZ dX5_meetCells_138
    · replace h := k_t cd h
      clear cd
      refine lv_aload_n hx hb dX5_meetCells_97 rfl (lv_at hl 0 rfl) ?_
      refine lv_aload_n hx hb dX5_meetCells_98 rfl (lv_at hl 0 rfl) ?_
      refine k_get hX hZ.1 0 5 rfl rfl iw_X5 0 rfl (wm_448) (v := .ref (a_n 0)) rfl dX5_meetCells_99 ?_
      refine lv_iload_n hx hb dX5_meetCells_102 rfl (lv_at hl 2 rfl) ?_
      refine lv_iload hx hb dX5_meetCells_103 (lv_at hl 5 rfl) ?_
      refine lv_iload hx hb dX5_meetCells_105 (lv_at hl 7 rfl) ?_
      refine lv_iadd hx hb dX5_meetCells_107 ?_
      obtain ⟨u9, hu, h⟩ := k_bd h
      refine k_vR (As := [.int x3, .int (x7 + x9)]) (rest := [.ref (a_v 0)]) (wc := wd_X1 aC a_n s_n) (v := some (.int u9)) (st1 := [.int u9, .ref (a_v 0)]) hX hl.1 hZ (c_X1_at (a_n := a_n) s_n x3 (x7 + x9) hu) (gv_ wm_453 wm_327 wm_328 wm_321 wm_326) rfl hd_X1_at ⟨rfl, rfl⟩ 1 0 rfl rfl [5, 6, 7, 8, 9, 10, 11] rfl rfl rfl rfl rfl dX5_meetCells_108 rfl ⟨rfl, rfl⟩ (fun locs hZ => ?_)
      clear hu
      refine lv_aload_n hx hb dX5_meetCells_111 rfl (lv_at hl 0 rfl) ?_
      refine k_get hX hZ.1 0 5 rfl rfl iw_X5 0 rfl (wm_448) (v := .ref (a_n 0)) rfl dX5_meetCells_112 ?_
      refine lv_iload hx hb dX5_meetCells_115 (lv_at hl 3 rfl) ?_
      refine lv_iload hx hb dX5_meetCells_117 (lv_at hl 6 rfl) ?_
      refine lv_iload hx hb dX5_meetCells_119 (lv_at hl 7 rfl) ?_
      refine lv_iadd hx hb dX5_meetCells_121 ?_
      obtain ⟨u10, hu, h⟩ := k_bd h
      refine k_vR (As := [.int x4, .int (x8 + x9)]) (rest := [.int u9, .ref (a_v 0)]) (wc := wd_X1 aC a_n s_n) (v := some (.int u10)) (st1 := [.int u10, .int u9, .ref (a_v 0)]) hX hl.1 hZ (c_X1_at (a_n := a_n) s_n x4 (x8 + x9) hu) (gv_ wm_453 wm_327 wm_328 wm_321 wm_326) rfl hd_X1_at ⟨rfl, rfl⟩ 1 0 rfl rfl [5, 6, 7, 8, 9, 10, 11] rfl rfl rfl rfl rfl dX5_meetCells_122 rfl ⟨rfl, rfl⟩ (fun locs hZ => ?_)
      clear hu
      refine lv_iload_n hx hb dX5_meetCells_125 rfl (lv_at hl 1 rfl) ?_
      refine lv_iconst (v := 2) hx hb dX5_meetCells_126 (by decide) ?_
      refine lv_iload hx hb dX5_meetCells_127 (lv_at hl 7 rfl) ?_
      obtain ⟨u11, hu, h⟩ := k_bd h
      refine k_vW (As := [.int u9, .int u10, .int x1, .int (2 : Int32), .int x9]) (rest := []) (wc := wd_X5 aC a_v (a_n 0) (a_d 0) s_v) (v := none) (st1 := []) (w' := wd_X5 aC a_v (a_n 0) (a_d 0) u11 ++ wd_X1 aC a_n s_n) hX hl.1 hZ (c_X5_meet (a_v := a_v) (a_n := a_n) (a_d := a_d) s_v u9 u10 x1 (2 : Int32) x9 hu) (gv_ wm_449 wm_451 wm_452 wm_432 wm_450) rfl hd_X5_meet ⟨rfl, rfl⟩ 5 0 rfl rfl [0, 1, 2, 3, 4] rfl rfl rfl rfl rfl dX5_meetCells_129 rfl ⟨rfl, rfl⟩ rfl rfl rfl (fun H locs hZ => ?_)
      clear hu
      refine lv_iinc (v := (x9 + (1 : Int32))) (lv' := [(9, .int (x9 + (1 : Int32))), (0, .ref (a_v 0)), (1, .int x1), (3, .int x3), (4, .int x4), (6, .int x6), (7, .int x7), (8, .int x8)]) hx hb dX5_meetCells_132 hl (k := 7) rfl rfl (by decide) rfl (fun ls hl => ?_)
      refine lv_goto (tgt := 83) hx hb dX5_meetCells_135 (by decide) ?_
      exact hrec83 (x1, x3, x4, x6, x7, x8, (x9 + (1 : Int32)), u11) h H locs ls hZ (lv_sub hl [1, 2, 3, 4, 5, 6, 7, 0] rfl)
set_option maxHeartbeats 4000000 in
set_option maxRecDepth 100000 in
theorem c_X5_meetCells {l : Launch} {D : va_G} {aC : Nat → ClassId} {a_v : Nat → Nat} {a_n : Nat → Nat} {a_d : Nat → Nat} (s_v : Ob_T) (s_n : Ob_T) (x1 : Int32) (x2 : Int32) {out : Ob_T} (h : f_X5_meetCells s_v s_n x1 x2 = some out) : M_W l yX5_meetCells wlX5_meetCells 2 67 D aC [.ref (a_v 0), .int x1, .int x2] (wd_X5 aC a_v (a_n 0) (a_d 0) s_v ++ wd_X1 aC a_n s_n) (none) (wd_X5 aC a_v (a_n 0) (a_d 0) out ++ wd_X1 aC a_n s_n) := by
  refine k_entW (cc := cX5_meetCells) (ret := none) (maxL := 10) (own := RX5) (by decide) rfl rfl rfl ?_
  intro p e s m below meth c A ls hX hr hZ hl
  have hl : lv_has ls 10 [(0, .ref (a_v 0)), (1, .int x1), (2, .int x2)] := hl
  generalize ([.ref (a_v 0), .int x1, .int x2] : List Value).toArray = args at hX ⊢
  obtain ⟨hx, hb, hml, hown, hts, hK, hA, hlk⟩ := id hX
  unfold f_X5_meetCells at h
  generalize s.heap = H at hZ ⊢
  generalize ([] : List Loc) = locs at hZ ⊢
  refine lv_aload_n hx hb dX5_meetCells_0 rfl (lv_at hl 0 rfl) ?_
  refine k_get hX hZ.1 0 5 rfl rfl iw_X5 0 rfl (wm_448) (v := .ref (a_n 0)) rfl dX5_meetCells_1 ?_
  refine lv_iload_n hx hb dX5_meetCells_4 rfl (lv_at hl 1 rfl) ?_
  obtain ⟨u1, hu, h⟩ := k_bd h
  refine k_vR (As := [.int x1]) (rest := []) (wc := wd_X1 aC a_n s_n) (v := some (.int u1)) (st1 := [.int u1]) hX hl.1 hZ (c_X1_firstOf (a_n := a_n) s_n x1 hu) (gv_ wm_467 wm_469 wm_470 wm_321 wm_468) rfl hd_X1_firstOf ⟨rfl, rfl⟩ 1 0 rfl rfl [5, 6, 7, 8, 9, 10, 11] rfl rfl rfl rfl rfl dX5_meetCells_5 rfl ⟨rfl, rfl⟩ (fun locs hZ => ?_)
  clear hu
  refine lv_istore_n (lv' := [(3, .int u1), (0, .ref (a_v 0)), (1, .int x1), (2, .int x2)]) hx hb dX5_meetCells_8 rfl hl (by decide) rfl (fun ls hl => ?_)
  refine lv_aload_n hx hb dX5_meetCells_9 rfl (lv_at hl 1 rfl) ?_
  refine k_get hX hZ.1 0 5 rfl rfl iw_X5 0 rfl (wm_448) (v := .ref (a_n 0)) rfl dX5_meetCells_10 ?_
  refine lv_iload_n hx hb dX5_meetCells_13 rfl (lv_at hl 2 rfl) ?_
  obtain ⟨u2, hu, h⟩ := k_bd h
  refine k_vR (As := [.int x1]) (rest := []) (wc := wd_X1 aC a_n s_n) (v := some (.int u2)) (st1 := [.int u2]) hX hl.1 hZ (c_X1_secondOf (a_n := a_n) s_n x1 hu) (gv_ wm_463 wm_465 wm_466 wm_321 wm_464) rfl hd_X1_secondOf ⟨rfl, rfl⟩ 1 0 rfl rfl [5, 6, 7, 8, 9, 10, 11] rfl rfl rfl rfl rfl dX5_meetCells_14 rfl ⟨rfl, rfl⟩ (fun locs hZ => ?_)
  clear hu
  refine lv_istore (lv' := [(4, .int u2), (3, .int u1), (0, .ref (a_v 0)), (1, .int x1), (2, .int x2)]) hx hb dX5_meetCells_17 hl (by decide) rfl (fun ls hl => ?_)
  refine lv_aload_n hx hb dX5_meetCells_19 rfl (lv_at hl 2 rfl) ?_
  refine k_get hX hZ.1 0 5 rfl rfl iw_X5 0 rfl (wm_448) (v := .ref (a_n 0)) rfl dX5_meetCells_20 ?_
  refine lv_iload_n hx hb dX5_meetCells_23 rfl (lv_at hl 3 rfl) ?_
  obtain ⟨u3, hu, h⟩ := k_bd h
  refine k_vR (As := [.int x1]) (rest := []) (wc := wd_X1 aC a_n s_n) (v := some (.int u3)) (st1 := [.int u3]) hX hl.1 hZ (c_X1_rankOf (a_n := a_n) s_n x1 hu) (gv_ wm_459 wm_461 wm_462 wm_321 wm_460) rfl hd_X1_rankOf ⟨rfl, rfl⟩ 1 0 rfl rfl [5, 6, 7, 8, 9, 10, 11] rfl rfl rfl rfl rfl dX5_meetCells_24 rfl ⟨rfl, rfl⟩ (fun locs hZ => ?_)
  clear hu
  refine lv_istore (lv' := [(5, .int u3), (4, .int u2), (3, .int u1), (0, .ref (a_v 0)), (1, .int x1), (2, .int x2)]) hx hb dX5_meetCells_27 hl (by decide) rfl (fun ls hl => ?_)
  refine lv_aload_n hx hb dX5_meetCells_29 rfl (lv_at hl 3 rfl) ?_
  refine k_get hX hZ.1 0 5 rfl rfl iw_X5 0 rfl (wm_448) (v := .ref (a_n 0)) rfl dX5_meetCells_30 ?_
  refine lv_iload_n hx hb dX5_meetCells_33 rfl (lv_at hl 2 rfl) ?_
  refine lv_iload hx hb dX5_meetCells_34 (lv_at hl 0 rfl) ?_
  obtain ⟨u4, hu, h⟩ := k_bd h
  refine k_vR (As := [.int u1, .int u3]) (rest := []) (wc := wd_X1 aC a_n s_n) (v := some (.int u4)) (st1 := [.int u4]) hX hl.1 hZ (c_X1_cellOf (a_n := a_n) s_n u1 u3 hu) (gv_ wm_471 wm_343 wm_344 wm_321 wm_342) rfl hd_X1_cellOf ⟨rfl, rfl⟩ 1 0 rfl rfl [5, 6, 7, 8, 9, 10, 11] rfl rfl rfl rfl rfl dX5_meetCells_36 rfl ⟨rfl, rfl⟩ (fun locs hZ => ?_)
  clear hu
  refine lv_aload_n hx hb dX5_meetCells_39 rfl (lv_at hl 3 rfl) ?_
  refine k_get hX hZ.1 0 5 rfl rfl iw_X5 0 rfl (wm_448) (v := .ref (a_n 0)) rfl dX5_meetCells_40 ?_
  refine lv_iload hx hb dX5_meetCells_43 (lv_at hl 1 rfl) ?_
  refine lv_iload hx hb dX5_meetCells_45 (lv_at hl 0 rfl) ?_
  obtain ⟨u5, hu, h⟩ := k_bd h
  refine k_vR (As := [.int u2, .int u3]) (rest := [.int u4]) (wc := wd_X1 aC a_n s_n) (v := some (.int u5)) (st1 := [.int u5, .int u4]) hX hl.1 hZ (c_X1_cellOf (a_n := a_n) s_n u2 u3 hu) (gv_ wm_471 wm_343 wm_344 wm_321 wm_342) rfl hd_X1_cellOf ⟨rfl, rfl⟩ 1 0 rfl rfl [5, 6, 7, 8, 9, 10, 11] rfl rfl rfl rfl rfl dX5_meetCells_47 rfl ⟨rfl, rfl⟩ (fun locs hZ => ?_)
  clear hu
  refine va_mmin (x := u4) (y := u5) hx hb (hml.trans hl.1.symm) hown (hts _ wm_437) (hts _ wm_438) (hts _ wm_339) (hts _ wm_439) (Nat.le_of_ble_eq_true rfl) (Nat.le_of_ble_eq_true rfl) (Nat.zero_le _) (Nat.zero_le _) dX5_meetCells_50 ?_
  refine lv_istore (lv' := [(6, .int (if u5 < u4 then u5 else u4)), (5, .int u3), (4, .int u2), (3, .int u1), (0, .ref (a_v 0)), (1, .int x1), (2, .int x2)]) hx hb dX5_meetCells_53 hl (by decide) rfl (fun ls hl => ?_)
  refine lv_aload_n hx hb dX5_meetCells_55 rfl (lv_at hl 4 rfl) ?_
  refine k_get hX hZ.1 0 5 rfl rfl iw_X5 0 rfl (wm_448) (v := .ref (a_n 0)) rfl dX5_meetCells_56 ?_
  refine lv_iload_n hx hb dX5_meetCells_59 rfl (lv_at hl 3 rfl) ?_
  refine lv_iload hx hb dX5_meetCells_60 (lv_at hl 1 rfl) ?_
  obtain ⟨u6, hu, h⟩ := k_bd h
  refine k_vR (As := [.int u1, .int u3]) (rest := []) (wc := wd_X1 aC a_n s_n) (v := some (.int u6)) (st1 := [.int u6]) hX hl.1 hZ (c_X1_frameOf (a_n := a_n) s_n u1 u3 hu) (gv_ wm_458 wm_335 wm_336 wm_321 wm_334) rfl hd_X1_frameOf ⟨rfl, rfl⟩ 1 0 rfl rfl [5, 6, 7, 8, 9, 10, 11] rfl rfl rfl rfl rfl dX5_meetCells_62 rfl ⟨rfl, rfl⟩ (fun locs hZ => ?_)
  clear hu
  refine lv_istore (lv' := [(7, .int u6), (6, .int (if u5 < u4 then u5 else u4)), (5, .int u3), (4, .int u2), (3, .int u1), (0, .ref (a_v 0)), (1, .int x1), (2, .int x2)]) hx hb dX5_meetCells_65 hl (by decide) rfl (fun ls hl => ?_)
  refine lv_aload_n hx hb dX5_meetCells_67 rfl (lv_at hl 5 rfl) ?_
  refine k_get hX hZ.1 0 5 rfl rfl iw_X5 0 rfl (wm_448) (v := .ref (a_n 0)) rfl dX5_meetCells_68 ?_
  refine lv_iload hx hb dX5_meetCells_71 (lv_at hl 3 rfl) ?_
  refine lv_iload hx hb dX5_meetCells_73 (lv_at hl 2 rfl) ?_
  obtain ⟨u7, hu, h⟩ := k_bd h
  refine k_vR (As := [.int u2, .int u3]) (rest := []) (wc := wd_X1 aC a_n s_n) (v := some (.int u7)) (st1 := [.int u7]) hX hl.1 hZ (c_X1_frameOf (a_n := a_n) s_n u2 u3 hu) (gv_ wm_458 wm_335 wm_336 wm_321 wm_334) rfl hd_X1_frameOf ⟨rfl, rfl⟩ 1 0 rfl rfl [5, 6, 7, 8, 9, 10, 11] rfl rfl rfl rfl rfl dX5_meetCells_75 rfl ⟨rfl, rfl⟩ (fun locs hZ => ?_)
  clear hu
  refine lv_istore (lv' := [(8, .int u7), (7, .int u6), (6, .int (if u5 < u4 then u5 else u4)), (5, .int u3), (4, .int u2), (3, .int u1), (0, .ref (a_v 0)), (1, .int x1), (2, .int x2)]) hx hb dX5_meetCells_78 hl (by decide) rfl (fun ls hl => ?_)
  refine lv_iload_n hx hb dX5_meetCells_80 rfl (lv_at hl 8 rfl) ?_
  refine lv_istore (lv' := [(9, .int x2), (8, .int u7), (7, .int u6), (6, .int (if u5 < u4 then u5 else u4)), (5, .int u3), (4, .int u2), (3, .int u1), (0, .ref (a_v 0)), (1, .int x1), (2, .int x2)]) hx hb dX5_meetCells_81 hl (by decide) rfl (fun ls hl => ?_)
  exact Lp_ok (body := (fun (rec : (Int32 × Int32 × Int32 × Int32 × Int32 × Int32 × Int32 × Ob_T) → Option Ob_T) x => f_X5_meetCells_L83 rec x.1 x.2.1 x.2.2.1 x.2.2.2.1 x.2.2.2.2.1 x.2.2.2.2.2.1 x.2.2.2.2.2.2.1 x.2.2.2.2.2.2.2 s_n)) (out := out) (fun x => ∀ (H : Heap) (locs : List Loc) (ls : Array Slot), K_S D A s (wd_X5 aC a_v (a_n 0) (a_d 0) x.2.2.2.2.2.2.2 ++ wd_X1 aC a_n s_n) H locs → lv_has ls 10 [(0, .ref (a_v 0)), (1, .int x.1), (3, .int x.2.1), (4, .int x.2.2.1), (6, .int x.2.2.2.1), (7, .int x.2.2.2.2.1), (8, .int x.2.2.2.2.2.1), (9, .int x.2.2.2.2.2.2.1)] → W p l e (R_m 2 67) s m args below meth c H locs 0 0 (MQ below (Q_W (none) D A (wd_X5 aC a_v (a_n 0) (a_d 0) out ++ wd_X1 aC a_n s_n)) args s 0 0 A) (F0 m 83 ls [])) (fun rec hrec x h H locs ls hZ hl => t_X5_meetCells_L83 hX hr hrec x.1 x.2.1 x.2.2.1 x.2.2.2.1 x.2.2.2.2.1 x.2.2.2.2.2.1 x.2.2.2.2.2.2.1 x.2.2.2.2.2.2.2 h H locs ls hZ hl) FU_ (x1, u1, u2, (if u5 < u4 then u5 else u4), u6, u7, x2, s_v) h H locs ls hZ (lv_sub hl [7, 8, 6, 5, 3, 2, 1, 0] rfl)
