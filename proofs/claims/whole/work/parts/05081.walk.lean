def wlX5_settle : List Cond := .code yX5_settle cX5_settle 6 none :: WL_
theorem hd_X5_settle : yX5_settle.cls = RX5 ∧ yX5_settle.cls ≠ "java/lang/invoke/MethodHandle" ∧ yX5_settle.cls ≠ "java/lang/invoke/VarHandle" ∧ (parseMethodDescriptor yX5_settle.desc).map (fun d => d.parameters.length) = some 0 := by decide +kernel
theorem dX5_settle_0 : decode cX5_settle 0 = .ok (.aload_n 0, 1) := by decide +kernel
theorem dX5_settle_1 : decode cX5_settle 1 = .ok (.invokevirtual 70, 3) := by decide +kernel
theorem dX5_settle_4 : decode cX5_settle 4 = .ok (.ifCond .ne 7, 3) := by decide +kernel
theorem dX5_settle_7 : decode cX5_settle 7 = .ok (.iconst 1, 1) := by decide +kernel
theorem dX5_settle_8 : decode cX5_settle 8 = .ok (.goto 4, 3) := by decide +kernel
theorem dX5_settle_11 : decode cX5_settle 11 = .ok (.iconst 0, 1) := by decide +kernel
theorem dX5_settle_12 : decode cX5_settle 12 = .ok (.istore_n 1, 1) := by decide +kernel
theorem dX5_settle_13 : decode cX5_settle 13 = .ok (.iconst 0, 1) := by decide +kernel
theorem dX5_settle_14 : decode cX5_settle 14 = .ok (.istore_n 2, 1) := by decide +kernel
theorem dX5_settle_15 : decode cX5_settle 15 = .ok (.iload_n 2, 1) := by decide +kernel
theorem dX5_settle_16 : decode cX5_settle 16 = .ok (.bipush 14, 2) := by decide +kernel
theorem dX5_settle_18 : decode cX5_settle 18 = .ok (.if_icmp .gt 108, 3) := by decide +kernel
theorem dX5_settle_21 : decode cX5_settle 21 = .ok (.iload_n 1, 1) := by decide +kernel
theorem dX5_settle_22 : decode cX5_settle 22 = .ok (.ifCond .eq 104, 3) := by decide +kernel
theorem dX5_settle_25 : decode cX5_settle 25 = .ok (.iconst 0, 1) := by decide +kernel
theorem dX5_settle_26 : decode cX5_settle 26 = .ok (.istore_n 3, 1) := by decide +kernel
theorem dX5_settle_27 : decode cX5_settle 27 = .ok (.iconst 0, 1) := by decide +kernel
theorem dX5_settle_28 : decode cX5_settle 28 = .ok (.istore 4, 2) := by decide +kernel
theorem dX5_settle_30 : decode cX5_settle 30 = .ok (.iconst 0, 1) := by decide +kernel
theorem dX5_settle_31 : decode cX5_settle 31 = .ok (.istore 5, 2) := by decide +kernel
theorem dX5_settle_33 : decode cX5_settle 33 = .ok (.iload 5, 2) := by decide +kernel
theorem dX5_settle_35 : decode cX5_settle 35 = .ok (.aload_n 0, 1) := by decide +kernel
theorem dX5_settle_36 : decode cX5_settle 36 = .ok (.getfield 31, 3) := by decide +kernel
theorem dX5_settle_39 : decode cX5_settle 39 = .ok (.invokevirtual 46, 3) := by decide +kernel
theorem dX5_settle_42 : decode cX5_settle 42 = .ok (.if_icmp .ge 56, 3) := by decide +kernel
theorem dX5_settle_45 : decode cX5_settle 45 = .ok (.aload_n 0, 1) := by decide +kernel
theorem dX5_settle_46 : decode cX5_settle 46 = .ok (.invokevirtual 70, 3) := by decide +kernel
theorem dX5_settle_49 : decode cX5_settle 49 = .ok (.ifCond .ne 49, 3) := by decide +kernel
theorem dX5_settle_52 : decode cX5_settle 52 = .ok (.aload_n 0, 1) := by decide +kernel
theorem dX5_settle_53 : decode cX5_settle 53 = .ok (.iload 5, 2) := by decide +kernel
theorem dX5_settle_55 : decode cX5_settle 55 = .ok (.invokevirtual 91, 3) := by decide +kernel
theorem dX5_settle_58 : decode cX5_settle 58 = .ok (.ifCond .ne 6, 3) := by decide +kernel
theorem dX5_settle_61 : decode cX5_settle 61 = .ok (.goto 31, 3) := by decide +kernel
theorem dX5_settle_64 : decode cX5_settle 64 = .ok (.aload_n 0, 1) := by decide +kernel
theorem dX5_settle_65 : decode cX5_settle 65 = .ok (.getfield 12, 3) := by decide +kernel
theorem dX5_settle_68 : decode cX5_settle 68 = .ok (.invokevirtual 130, 3) := by decide +kernel
theorem dX5_settle_71 : decode cX5_settle 71 = .ok (.iconst 1, 1) := by decide +kernel
theorem dX5_settle_72 : decode cX5_settle 72 = .ok (.if_icmp .le 8, 3) := by decide +kernel
theorem dX5_settle_75 : decode cX5_settle 75 = .ok (.iconst 1, 1) := by decide +kernel
theorem dX5_settle_76 : decode cX5_settle 76 = .ok (.istore_n 3, 1) := by decide +kernel
theorem dX5_settle_77 : decode cX5_settle 77 = .ok (.goto 15, 3) := by decide +kernel
theorem dX5_settle_80 : decode cX5_settle 80 = .ok (.aload_n 0, 1) := by decide +kernel
theorem dX5_settle_81 : decode cX5_settle 81 = .ok (.iload 5, 2) := by decide +kernel
theorem dX5_settle_83 : decode cX5_settle 83 = .ok (.invokevirtual 133, 3) := by decide +kernel
theorem dX5_settle_86 : decode cX5_settle 86 = .ok (.ifCond .eq 6, 3) := by decide +kernel
theorem dX5_settle_89 : decode cX5_settle 89 = .ok (.iconst 1, 1) := by decide +kernel
theorem dX5_settle_90 : decode cX5_settle 90 = .ok (.istore 4, 2) := by decide +kernel
theorem dX5_settle_92 : decode cX5_settle 92 = .ok (.iinc 5 1, 3) := by decide +kernel
theorem dX5_settle_95 : decode cX5_settle 95 = .ok (.goto (-62), 3) := by decide +kernel
theorem dX5_settle_98 : decode cX5_settle 98 = .ok (.iload 4, 2) := by decide +kernel
theorem dX5_settle_100 : decode cX5_settle 100 = .ok (.ifCond .eq 18, 3) := by decide +kernel
theorem dX5_settle_103 : decode cX5_settle 103 = .ok (.iload_n 3, 1) := by decide +kernel
theorem dX5_settle_104 : decode cX5_settle 104 = .ok (.ifCond .eq 14, 3) := by decide +kernel
theorem dX5_settle_107 : decode cX5_settle 107 = .ok (.aload_n 0, 1) := by decide +kernel
theorem dX5_settle_108 : decode cX5_settle 108 = .ok (.invokevirtual 70, 3) := by decide +kernel
theorem dX5_settle_111 : decode cX5_settle 111 = .ok (.ifCond .ne 7, 3) := by decide +kernel
theorem dX5_settle_114 : decode cX5_settle 114 = .ok (.iconst 1, 1) := by decide +kernel
theorem dX5_settle_115 : decode cX5_settle 115 = .ok (.goto 4, 3) := by decide +kernel
theorem dX5_settle_118 : decode cX5_settle 118 = .ok (.iconst 0, 1) := by decide +kernel
theorem dX5_settle_119 : decode cX5_settle 119 = .ok (.istore_n 1, 1) := by decide +kernel
theorem dX5_settle_120 : decode cX5_settle 120 = .ok (.iinc 2 1, 3) := by decide +kernel
theorem dX5_settle_123 : decode cX5_settle 123 = .ok (.goto (-108), 3) := by decide +kernel
theorem dX5_settle_126 : decode cX5_settle 126 = .ok (.return_, 1) := by decide +kernel
set_option maxHeartbeats 4000000 in
set_option maxRecDepth 100000 in
theorem t_X5_settle_L33 {p : Program} {l : Launch} {e : Env} {s : State} {m : MethodId} {args : Array Value} {below : List Frame} {meth : Method} {c : Code} {D : va_G} {aC : Nat → ClassId} {A : Nat → Prop} {a_v a_d a_n : Nat → Nat} {out : Ob_T × Ob_T} {s_n : Ob_T} {k98 : Int32 → Int32 → Int32 → Ob_T → Ob_T → Option (Ob_T × Ob_T)} {rec33 : (Int32 × Int32 × Int32 × Int32 × Ob_T × Ob_T) → Option (Ob_T × Ob_T)} (hX : K_X p s m args meth c cX5_settle 6 WL_ RX5 D aC A) (hr : meth.sig.returnType = none) (hk98 : ∀ (y2 : Int32) (y3 : Int32) (y4 : Int32) (t_v : Ob_T) (t_d : Ob_T), k98 y2 y3 y4 t_v t_d = some out → ∀ (H : Heap) (locs : List Loc) (ls : Array Slot), K_S D A s (wd_X5 aC a_v (a_n 0) (a_d 0) t_v ++ (wd_X4 aC a_d t_d ++ wd_X1 aC a_n s_n)) H locs → lv_has ls 6 [(0, .ref (a_v 0)), (2, .int y2), (3, .int y3), (4, .int y4)] → W p l e (R_m 2 49) s m args below meth c H locs 0 0 (MQ below (Q_W (none) D A (wd_X5 aC a_v (a_n 0) (a_d 0) out.1 ++ (wd_X4 aC a_d out.2 ++ wd_X1 aC a_n s_n))) args s 0 0 A) (F0 m 98 ls [])) (hrec33 : ∀ x : Int32 × Int32 × Int32 × Int32 × Ob_T × Ob_T, rec33 x = some out → ∀ (H : Heap) (locs : List Loc) (ls : Array Slot), K_S D A s (wd_X5 aC a_v (a_n 0) (a_d 0) x.2.2.2.2.1 ++ (wd_X4 aC a_d x.2.2.2.2.2 ++ wd_X1 aC a_n s_n)) H locs → lv_has ls 6 [(0, .ref (a_v 0)), (2, .int x.1), (3, .int x.2.1), (4, .int x.2.2.1), (5, .int x.2.2.2.1)] → W p l e (R_m 2 49) s m args below meth c H locs 0 0 (MQ below (Q_W (none) D A (wd_X5 aC a_v (a_n 0) (a_d 0) out.1 ++ (wd_X4 aC a_d out.2 ++ wd_X1 aC a_n s_n))) args s 0 0 A) (F0 m 33 ls [])) (x2 : Int32) (x3 : Int32) (x4 : Int32) (x5 : Int32) (s_v : Ob_T) (s_d : Ob_T) (h : f_X5_settle_L33 k98 rec33 x2 x3 x4 x5 s_v s_d s_n = some out) (H : Heap) (locs : List Loc) (ls : Array Slot) (hZ : K_S D A s (wd_X5 aC a_v (a_n 0) (a_d 0) s_v ++ (wd_X4 aC a_d s_d ++ wd_X1 aC a_n s_n)) H locs) (hl : lv_has ls 6 [(0, .ref (a_v 0)), (2, .int x2), (3, .int x3), (4, .int x4), (5, .int x5)]) : W p l e (R_m 2 49) s m args below meth c H locs 0 0 (MQ below (Q_W (none) D A (wd_X5 aC a_v (a_n 0) (a_d 0) out.1 ++ (wd_X4 aC a_d out.2 ++ wd_X1 aC a_n s_n))) args s 0 0 A) (F0 m 33 ls []) := by
  obtain ⟨hx, hb, hml, hown, hts, hK, hA, hlk⟩ := id hX
  unfold f_X5_settle_L33 at h
  refine lv_iload hx hb dX5_settle_33 (lv_at hl 4 rfl) ?_
  refine lv_aload_n hx hb dX5_settle_35 rfl (lv_at hl 0 rfl) ?_
  refine k_get hX hZ.1 0 5 rfl rfl iw_X5 0 rfl (wm_448) (v := .ref (a_n 0)) rfl dX5_settle_36 ?_
  obtain ⟨u2, hu, h⟩ := k_bd h
  refine k_vR (As := []) (rest := [.int x5]) (wc := wd_X1 aC a_n s_n) (v := some (.int u2)) (st1 := [.int u2, .int x5]) hX hl.1 hZ (c_X1_size (a_n := a_n) s_n hu) (gv_ wm_484 wm_486 wm_487 wm_321 wm_485) rfl hd_X1_size ⟨rfl, rfl⟩ 1 0 rfl rfl [8, 9, 10, 11, 12, 13, 14] rfl rfl rfl rfl rfl dX5_settle_39 rfl ⟨rfl, rfl⟩ (fun locs hZ => ?_)
  clear hu
  refine lv_icmp_ge (tgt := 98) hx hb dX5_settle_42 (by decide) (fun cd => ?_) (fun cd => ?_)
  · replace h := k_t cd h
    clear cd
    exact hk98 x2 x3 x4 s_v s_d h H locs ls hZ (lv_sub hl [0, 1, 2, 3] rfl)
  · replace h := k_f cd h
    clear cd
    refine lv_aload_n hx hb dX5_settle_45 rfl (lv_at hl 0 rfl) ?_
    obtain ⟨u3, hu, h⟩ := k_bd h
    refine k_vR (As := []) (rest := []) (wc := wd_X5 aC a_v (a_n 0) (a_d 0) s_v) (v := some (.int u3)) (st1 := [.int u3]) hX hl.1 hZ (c_X5_hasFailed (a_v := a_v) (a_n := a_n) (a_d := a_d) s_v hu) (gv_ wm_454 wm_456 wm_457 wm_432 wm_455) rfl hd_X5_hasFailed ⟨rfl, rfl⟩ 5 0 rfl rfl [0, 1, 2, 3, 4] rfl rfl rfl rfl rfl dX5_settle_46 rfl ⟨rfl, rfl⟩ (fun locs hZ => ?_)
    clear hu
    refine lv_if_ne (tgt := 98) hx hb dX5_settle_49 (by decide) (fun cd => ?_) (fun cd => ?_)
    · replace h := k_f cd h
      clear cd
      exact hk98 x2 x3 x4 s_v s_d h H locs ls hZ (lv_sub hl [0, 1, 2, 3] rfl)
    · replace h := k_t cd h
      clear cd
      refine lv_aload_n hx hb dX5_settle_52 rfl (lv_at hl 0 rfl) ?_
      refine lv_iload hx hb dX5_settle_53 (lv_at hl 4 rfl) ?_
      obtain ⟨u4, hu, h⟩ := k_bd h
      refine k_vWs (As := [.int x5]) (rest := []) (v := some (.int u4.1)) (st1 := [.int u4.1]) hX hl.1 hZ (c_X5_gatherSides (a_v := a_v) (a_d := a_d) (a_n := a_n) s_v s_d s_n x5 hu) (gv_ wm_539 wm_541 wm_542 wm_432 wm_540) rfl hd_X5_gatherSides ⟨rfl, rfl⟩ 5 0 rfl rfl rfl rfl rfl dX5_settle_55 rfl ⟨rfl, rfl⟩ rfl (fun H locs hZ => ?_)
      clear hu
      refine lv_if_ne (tgt := 64) hx hb dX5_settle_58 (by decide) (fun cd => ?_) (fun cd => ?_)
      · replace h := k_f cd h
        clear cd
        refine lv_aload_n hx hb dX5_settle_64 rfl (lv_at hl 0 rfl) ?_
        refine k_get hX hZ.1 0 5 rfl rfl iw_X5 1 rfl (wm_494) (v := .ref (a_d 0)) rfl dX5_settle_65 ?_
        obtain ⟨u5, hu, h⟩ := k_bd h
        refine k_vR (As := []) (rest := []) (wc := wd_X4 aC a_d u4.2) (v := some (.int u5)) (st1 := [.int u5]) hX hl.1 hZ (c_X4_letters (a_d := a_d) u4.2 hu) (gv_ wm_535 wm_537 wm_538 wm_496 wm_536) rfl hd_X4_letters ⟨rfl, rfl⟩ 4 0 rfl rfl [5, 6, 7] rfl rfl rfl rfl rfl dX5_settle_68 rfl ⟨rfl, rfl⟩ (fun locs hZ => ?_)
        clear hu
        refine lv_iconst (v := 1) hx hb dX5_settle_71 (by decide) ?_
        refine lv_icmp_le (tgt := 80) hx hb dX5_settle_72 (by decide) (fun cd => ?_) (fun cd => ?_)
        · replace h := k_t cd h
          clear cd
          refine lv_aload_n hx hb dX5_settle_80 rfl (lv_at hl 0 rfl) ?_
          refine lv_iload hx hb dX5_settle_81 (lv_at hl 4 rfl) ?_
          obtain ⟨u6, hu, h⟩ := k_bd h
          refine k_vWs (As := [.int x5]) (rest := []) (v := some (.int u6.1)) (st1 := [.int u6.1]) hX hl.1 hZ (c_X5_settleOne (a_v := a_v) (a_d := a_d) (a_n := a_n) s_v u4.2 s_n x5 hu) (gv_ wm_531 wm_533 wm_534 wm_432 wm_532) rfl hd_X5_settleOne ⟨rfl, rfl⟩ 5 0 rfl rfl rfl rfl rfl dX5_settle_83 rfl ⟨rfl, rfl⟩ rfl (fun H locs hZ => ?_)
          clear hu
          refine lv_if_eq (tgt := 92) hx hb dX5_settle_86 (by decide) (fun cd => ?_) (fun cd => ?_)
          · replace h := k_t cd h
            clear cd
            refine lv_iinc (v := (x5 + (1 : Int32))) (lv' := [(5, .int (x5 + (1 : Int32))), (0, .ref (a_v 0)), (2, .int x2), (3, .int x3), (4, .int x4)]) hx hb dX5_settle_92 hl (k := 4) rfl rfl (by decide) rfl (fun ls hl => ?_)
            refine lv_goto (tgt := 33) hx hb dX5_settle_95 (by decide) ?_
            exact hrec33 (x2, x3, x4, (x5 + (1 : Int32)), u6.2, u4.2) h H locs ls hZ (lv_sub hl [1, 2, 3, 4, 0] rfl)
          · replace h := k_f cd h
            clear cd
            refine lv_iconst (v := 1) hx hb dX5_settle_89 (by decide) ?_
            refine lv_istore (lv' := [(4, .int (1 : Int32)), (0, .ref (a_v 0)), (2, .int x2), (3, .int x3), (5, .int x5)]) hx hb dX5_settle_90 hl (by decide) rfl (fun ls hl => ?_)
            refine lv_iinc (v := (x5 + (1 : Int32))) (lv' := [(5, .int (x5 + (1 : Int32))), (4, .int (1 : Int32)), (0, .ref (a_v 0)), (2, .int x2), (3, .int x3)]) hx hb dX5_settle_92 hl (k := 4) rfl rfl (by decide) rfl (fun ls hl => ?_)
            refine lv_goto (tgt := 33) hx hb dX5_settle_95 (by decide) ?_
            exact hrec33 (x2, x3, (1 : Int32), (x5 + (1 : Int32)), u6.2, u4.2) h H locs ls hZ (lv_sub hl [2, 3, 4, 1, 0] rfl)
        · replace h := k_f cd h
          clear cd
          refine lv_iconst (v := 1) hx hb dX5_settle_75 (by decide) ?_
          refine lv_istore_n (lv' := [(3, .int (1 : Int32)), (0, .ref (a_v 0)), (2, .int x2), (4, .int x4), (5, .int x5)]) hx hb dX5_settle_76 rfl hl (by decide) rfl (fun ls hl => ?_)
          refine lv_goto (tgt := 92) hx hb dX5_settle_77 (by decide) ?_
          refine lv_iinc (v := (x5 + (1 : Int32))) (lv' := [(5, .int (x5 + (1 : Int32))), (3, .int (1 : Int32)), (0, .ref (a_v 0)), (2, .int x2), (4, .int x4)]) hx hb dX5_settle_92 hl (k := 4) rfl rfl (by decide) rfl (fun ls hl => ?_)
          refine lv_goto (tgt := 33) hx hb dX5_settle_95 (by decide) ?_
          exact hrec33 (x2, (1 : Int32), x4, (x5 + (1 : Int32)), s_v, u4.2) h H locs ls hZ (lv_sub hl [2, 3, 1, 4, 0] rfl)
      · replace h := k_t cd h
        clear cd
        refine lv_goto (tgt := 92) hx hb dX5_settle_61 (by decide) ?_
        refine lv_iinc (v := (x5 + (1 : Int32))) (lv' := [(5, .int (x5 + (1 : Int32))), (0, .ref (a_v 0)), (2, .int x2), (3, .int x3), (4, .int x4)]) hx hb dX5_settle_92 hl (k := 4) rfl rfl (by decide) rfl (fun ls hl => ?_)
        refine lv_goto (tgt := 33) hx hb dX5_settle_95 (by decide) ?_
        exact hrec33 (x2, x3, x4, (x5 + (1 : Int32)), s_v, u4.2) h H locs ls hZ (lv_sub hl [1, 2, 3, 4, 0] rfl)
set_option maxHeartbeats 4000000 in
set_option maxRecDepth 100000 in
theorem t_X5_settle_J98 {p : Program} {l : Launch} {e : Env} {s : State} {m : MethodId} {args : Array Value} {below : List Frame} {meth : Method} {c : Code} {D : va_G} {aC : Nat → ClassId} {A : Nat → Prop} {a_v a_d a_n : Nat → Nat} {out : Ob_T × Ob_T} {s_n : Ob_T} {rec15 : (Int32 × Int32 × Ob_T × Ob_T) → Option (Ob_T × Ob_T)} (hX : K_X p s m args meth c cX5_settle 6 WL_ RX5 D aC A) (hr : meth.sig.returnType = none) (hrec15 : ∀ x : Int32 × Int32 × Ob_T × Ob_T, rec15 x = some out → ∀ (H : Heap) (locs : List Loc) (ls : Array Slot), K_S D A s (wd_X5 aC a_v (a_n 0) (a_d 0) x.2.2.1 ++ (wd_X4 aC a_d x.2.2.2 ++ wd_X1 aC a_n s_n)) H locs → lv_has ls 6 [(0, .ref (a_v 0)), (1, .int x.1), (2, .int x.2.1)] → W p l e (R_m 2 49) s m args below meth c H locs 0 0 (MQ below (Q_W (none) D A (wd_X5 aC a_v (a_n 0) (a_d 0) out.1 ++ (wd_X4 aC a_d out.2 ++ wd_X1 aC a_n s_n))) args s 0 0 A) (F0 m 15 ls [])) (x2 : Int32) (x3 : Int32) (x4 : Int32) (s_v : Ob_T) (s_d : Ob_T) (h : f_X5_settle_J98 rec15 x2 x3 x4 s_v s_d s_n = some out) (H : Heap) (locs : List Loc) (ls : Array Slot) (hZ : K_S D A s (wd_X5 aC a_v (a_n 0) (a_d 0) s_v ++ (wd_X4 aC a_d s_d ++ wd_X1 aC a_n s_n)) H locs) (hl : lv_has ls 6 [(0, .ref (a_v 0)), (2, .int x2), (3, .int x3), (4, .int x4)]) : W p l e (R_m 2 49) s m args below meth c H locs 0 0 (MQ below (Q_W (none) D A (wd_X5 aC a_v (a_n 0) (a_d 0) out.1 ++ (wd_X4 aC a_d out.2 ++ wd_X1 aC a_n s_n))) args s 0 0 A) (F0 m 98 ls []) := by
  obtain ⟨hx, hb, hml, hown, hts, hK, hA, hlk⟩ := id hX
  unfold f_X5_settle_J98 at h
  refine lv_iload hx hb dX5_settle_98 (lv_at hl 3 rfl) ?_
  refine lv_if_eq (tgt := 118) hx hb dX5_settle_100 (by decide) (fun cd => ?_) (fun cd => ?_)
  · replace h := k_t cd h
    clear cd
    refine lv_iconst (v := 0) hx hb dX5_settle_118 (by decide) ?_
    refine lv_istore_n (lv' := [(1, .int (0 : Int32)), (0, .ref (a_v 0)), (2, .int x2), (3, .int x3), (4, .int x4)]) hx hb dX5_settle_119 rfl hl (by decide) rfl (fun ls hl => ?_)
    refine lv_iinc (v := (x2 + (1 : Int32))) (lv' := [(2, .int (x2 + (1 : Int32))), (1, .int (0 : Int32)), (0, .ref (a_v 0)), (3, .int x3), (4, .int x4)]) hx hb dX5_settle_120 hl (k := 2) rfl rfl (by decide) rfl (fun ls hl => ?_)
    refine lv_goto (tgt := 15) hx hb dX5_settle_123 (by decide) ?_
    exact hrec15 ((0 : Int32), (x2 + (1 : Int32)), s_v, s_d) h H locs ls hZ (lv_sub hl [2, 1, 0] rfl)
  · replace h := k_f cd h
    clear cd
    refine lv_iload_n hx hb dX5_settle_103 rfl (lv_at hl 2 rfl) ?_
    refine lv_if_eq (tgt := 118) hx hb dX5_settle_104 (by decide) (fun cd => ?_) (fun cd => ?_)
    · replace h := k_t cd h
      clear cd
      refine lv_iconst (v := 0) hx hb dX5_settle_118 (by decide) ?_
      refine lv_istore_n (lv' := [(1, .int (0 : Int32)), (0, .ref (a_v 0)), (2, .int x2), (3, .int x3), (4, .int x4)]) hx hb dX5_settle_119 rfl hl (by decide) rfl (fun ls hl => ?_)
      refine lv_iinc (v := (x2 + (1 : Int32))) (lv' := [(2, .int (x2 + (1 : Int32))), (1, .int (0 : Int32)), (0, .ref (a_v 0)), (3, .int x3), (4, .int x4)]) hx hb dX5_settle_120 hl (k := 2) rfl rfl (by decide) rfl (fun ls hl => ?_)
      refine lv_goto (tgt := 15) hx hb dX5_settle_123 (by decide) ?_
      exact hrec15 ((0 : Int32), (x2 + (1 : Int32)), s_v, s_d) h H locs ls hZ (lv_sub hl [2, 1, 0] rfl)
    · replace h := k_f cd h
      clear cd
      refine lv_aload_n hx hb dX5_settle_107 rfl (lv_at hl 0 rfl) ?_
      obtain ⟨u7, hu, h⟩ := k_bd h
      refine k_vR (As := []) (rest := []) (wc := wd_X5 aC a_v (a_n 0) (a_d 0) s_v) (v := some (.int u7)) (st1 := [.int u7]) hX hl.1 hZ (c_X5_hasFailed (a_v := a_v) (a_n := a_n) (a_d := a_d) s_v hu) (gv_ wm_454 wm_456 wm_457 wm_432 wm_455) rfl hd_X5_hasFailed ⟨rfl, rfl⟩ 5 0 rfl rfl [0, 1, 2, 3, 4] rfl rfl rfl rfl rfl dX5_settle_108 rfl ⟨rfl, rfl⟩ (fun locs hZ => ?_)
      clear hu
      refine lv_if_ne (tgt := 118) hx hb dX5_settle_111 (by decide) (fun cd => ?_) (fun cd => ?_)
      · replace h := k_f cd h
        clear cd
        refine lv_iconst (v := 0) hx hb dX5_settle_118 (by decide) ?_
        refine lv_istore_n (lv' := [(1, .int (0 : Int32)), (0, .ref (a_v 0)), (2, .int x2), (3, .int x3), (4, .int x4)]) hx hb dX5_settle_119 rfl hl (by decide) rfl (fun ls hl => ?_)
        refine lv_iinc (v := (x2 + (1 : Int32))) (lv' := [(2, .int (x2 + (1 : Int32))), (1, .int (0 : Int32)), (0, .ref (a_v 0)), (3, .int x3), (4, .int x4)]) hx hb dX5_settle_120 hl (k := 2) rfl rfl (by decide) rfl (fun ls hl => ?_)
        refine lv_goto (tgt := 15) hx hb dX5_settle_123 (by decide) ?_
        exact hrec15 ((0 : Int32), (x2 + (1 : Int32)), s_v, s_d) h H locs ls hZ (lv_sub hl [2, 1, 0] rfl)
      · replace h := k_t cd h
        clear cd
        refine lv_iconst (v := 1) hx hb dX5_settle_114 (by decide) ?_
        refine lv_goto (tgt := 119) hx hb dX5_settle_115 (by decide) ?_
        refine lv_istore_n (lv' := [(1, .int (1 : Int32)), (0, .ref (a_v 0)), (2, .int x2), (3, .int x3), (4, .int x4)]) hx hb dX5_settle_119 rfl hl (by decide) rfl (fun ls hl => ?_)
        refine lv_iinc (v := (x2 + (1 : Int32))) (lv' := [(2, .int (x2 + (1 : Int32))), (1, .int (1 : Int32)), (0, .ref (a_v 0)), (3, .int x3), (4, .int x4)]) hx hb dX5_settle_120 hl (k := 2) rfl rfl (by decide) rfl (fun ls hl => ?_)
        refine lv_goto (tgt := 15) hx hb dX5_settle_123 (by decide) ?_
        exact hrec15 ((1 : Int32), (x2 + (1 : Int32)), s_v, s_d) h H locs ls hZ (lv_sub hl [2, 1, 0] rfl)
set_option maxHeartbeats 4000000 in
set_option maxRecDepth 100000 in
theorem t_X5_settle_L15 {p : Program} {l : Launch} {e : Env} {s : State} {m : MethodId} {args : Array Value} {below : List Frame} {meth : Method} {c : Code} {D : va_G} {aC : Nat → ClassId} {A : Nat → Prop} {a_v a_d a_n : Nat → Nat} {out : Ob_T × Ob_T} {s_n : Ob_T} {rec15 : (Int32 × Int32 × Ob_T × Ob_T) → Option (Ob_T × Ob_T)} (hX : K_X p s m args meth c cX5_settle 6 WL_ RX5 D aC A) (hr : meth.sig.returnType = none) (hrec15 : ∀ x : Int32 × Int32 × Ob_T × Ob_T, rec15 x = some out → ∀ (H : Heap) (locs : List Loc) (ls : Array Slot), K_S D A s (wd_X5 aC a_v (a_n 0) (a_d 0) x.2.2.1 ++ (wd_X4 aC a_d x.2.2.2 ++ wd_X1 aC a_n s_n)) H locs → lv_has ls 6 [(0, .ref (a_v 0)), (1, .int x.1), (2, .int x.2.1)] → W p l e (R_m 2 49) s m args below meth c H locs 0 0 (MQ below (Q_W (none) D A (wd_X5 aC a_v (a_n 0) (a_d 0) out.1 ++ (wd_X4 aC a_d out.2 ++ wd_X1 aC a_n s_n))) args s 0 0 A) (F0 m 15 ls [])) (x1 : Int32) (x2 : Int32) (s_v : Ob_T) (s_d : Ob_T) (h : f_X5_settle_L15 rec15 x1 x2 s_v s_d s_n = some out) (H : Heap) (locs : List Loc) (ls : Array Slot) (hZ : K_S D A s (wd_X5 aC a_v (a_n 0) (a_d 0) s_v ++ (wd_X4 aC a_d s_d ++ wd_X1 aC a_n s_n)) H locs) (hl : lv_has ls 6 [(0, .ref (a_v 0)), (1, .int x1), (2, .int x2)]) : W p l e (R_m 2 49) s m args below meth c H locs 0 0 (MQ below (Q_W (none) D A (wd_X5 aC a_v (a_n 0) (a_d 0) out.1 ++ (wd_X4 aC a_d out.2 ++ wd_X1 aC a_n s_n))) args s 0 0 A) (F0 m 15 ls []) := by
  obtain ⟨hx, hb, hml, hown, hts, hK, hA, hlk⟩ := id hX
  unfold f_X5_settle_L15 at h
  refine lv_iload_n hx hb dX5_settle_15 rfl (lv_at hl 2 rfl) ?_
  refine lv_bipush (v := 14) hx hb dX5_settle_16 (by decide) ?_
  refine lv_icmp_gt (tgt := 126) hx hb dX5_settle_18 (by decide) (fun cd => ?_) (fun cd => ?_)
  · replace h := k_t cd h
    clear cd
    cases h
    exact k_vretW hX hr hZ dX5_settle_126
  · replace h := k_f cd h
    clear cd
    refine lv_iload_n hx hb dX5_settle_21 rfl (lv_at hl 1 rfl) ?_
    refine lv_if_eq (tgt := 126) hx hb dX5_settle_22 (by decide) (fun cd => ?_) (fun cd => ?_)
    · replace h := k_t cd h
      clear cd
      cases h
      exact k_vretW hX hr hZ dX5_settle_126
    · replace h := k_f cd h
      clear cd
      refine lv_iconst (v := 0) hx hb dX5_settle_25 (by decide) ?_
      refine lv_istore_n (lv' := [(3, .int (0 : Int32)), (0, .ref (a_v 0)), (1, .int x1), (2, .int x2)]) hx hb dX5_settle_26 rfl hl (by decide) rfl (fun ls hl => ?_)
      refine lv_iconst (v := 0) hx hb dX5_settle_27 (by decide) ?_
      refine lv_istore (lv' := [(4, .int (0 : Int32)), (3, .int (0 : Int32)), (0, .ref (a_v 0)), (1, .int x1), (2, .int x2)]) hx hb dX5_settle_28 hl (by decide) rfl (fun ls hl => ?_)
      refine lv_iconst (v := 0) hx hb dX5_settle_30 (by decide) ?_
      refine lv_istore (lv' := [(5, .int (0 : Int32)), (4, .int (0 : Int32)), (3, .int (0 : Int32)), (0, .ref (a_v 0)), (1, .int x1), (2, .int x2)]) hx hb dX5_settle_31 hl (by decide) rfl (fun ls hl => ?_)
      exact Lp_ok (body := (fun (rec : (Int32 × Int32 × Int32 × Int32 × Ob_T × Ob_T) → Option (Ob_T × Ob_T)) x => f_X5_settle_L33 (fun y2 y3 y4 t_v t_d => f_X5_settle_J98 rec15 y2 y3 y4 t_v t_d s_n) rec x.1 x.2.1 x.2.2.1 x.2.2.2.1 x.2.2.2.2.1 x.2.2.2.2.2 s_n)) (out := out) (fun x => ∀ (H : Heap) (locs : List Loc) (ls : Array Slot), K_S D A s (wd_X5 aC a_v (a_n 0) (a_d 0) x.2.2.2.2.1 ++ (wd_X4 aC a_d x.2.2.2.2.2 ++ wd_X1 aC a_n s_n)) H locs → lv_has ls 6 [(0, .ref (a_v 0)), (2, .int x.1), (3, .int x.2.1), (4, .int x.2.2.1), (5, .int x.2.2.2.1)] → W p l e (R_m 2 49) s m args below meth c H locs 0 0 (MQ below (Q_W (none) D A (wd_X5 aC a_v (a_n 0) (a_d 0) out.1 ++ (wd_X4 aC a_d out.2 ++ wd_X1 aC a_n s_n))) args s 0 0 A) (F0 m 33 ls [])) (fun rec hrec x h H locs ls hZ hl => t_X5_settle_L33 hX hr (fun y2 y3 y4 t_v t_d h H locs ls hZ hl => t_X5_settle_J98 hX hr hrec15 y2 y3 y4 t_v t_d h H locs ls hZ (lv_sub hl [0, 1, 2, 3] rfl)) hrec x.1 x.2.1 x.2.2.1 x.2.2.2.1 x.2.2.2.2.1 x.2.2.2.2.2 h H locs ls hZ hl) FU_ (x2, (0 : Int32), (0 : Int32), (0 : Int32), s_v, s_d) h H locs ls hZ (lv_sub hl [3, 5, 2, 1, 0] rfl)
set_option maxHeartbeats 4000000 in
set_option maxRecDepth 100000 in
theorem t_X5_settle_J12 {p : Program} {l : Launch} {e : Env} {s : State} {m : MethodId} {args : Array Value} {below : List Frame} {meth : Method} {c : Code} {D : va_G} {aC : Nat → ClassId} {A : Nat → Prop} {a_v a_d a_n : Nat → Nat} {out : Ob_T × Ob_T} {s_n : Ob_T} (hX : K_X p s m args meth c cX5_settle 6 WL_ RX5 D aC A) (hr : meth.sig.returnType = none) (k0 : Int32) (s_v : Ob_T) (s_d : Ob_T) (h : f_X5_settle_J12 k0 s_v s_d s_n = some out) (H : Heap) (locs : List Loc) (ls : Array Slot) (hZ : K_S D A s (wd_X5 aC a_v (a_n 0) (a_d 0) s_v ++ (wd_X4 aC a_d s_d ++ wd_X1 aC a_n s_n)) H locs) (hl : lv_has ls 6 [(0, .ref (a_v 0))]) : W p l e (R_m 2 49) s m args below meth c H locs 0 0 (MQ below (Q_W (none) D A (wd_X5 aC a_v (a_n 0) (a_d 0) out.1 ++ (wd_X4 aC a_d out.2 ++ wd_X1 aC a_n s_n))) args s 0 0 A) (F0 m 12 ls [.int k0]) := by
  obtain ⟨hx, hb, hml, hown, hts, hK, hA, hlk⟩ := id hX
  unfold f_X5_settle_J12 at h
  refine lv_istore_n (lv' := [(1, .int k0), (0, .ref (a_v 0))]) hx hb dX5_settle_12 rfl hl (by decide) rfl (fun ls hl => ?_)
  refine lv_iconst (v := 0) hx hb dX5_settle_13 (by decide) ?_
  refine lv_istore_n (lv' := [(2, .int (0 : Int32)), (1, .int k0), (0, .ref (a_v 0))]) hx hb dX5_settle_14 rfl hl (by decide) rfl (fun ls hl => ?_)
  exact Lp_ok (body := (fun (rec : (Int32 × Int32 × Ob_T × Ob_T) → Option (Ob_T × Ob_T)) x => f_X5_settle_L15 rec x.1 x.2.1 x.2.2.1 x.2.2.2 s_n)) (out := out) (fun x => ∀ (H : Heap) (locs : List Loc) (ls : Array Slot), K_S D A s (wd_X5 aC a_v (a_n 0) (a_d 0) x.2.2.1 ++ (wd_X4 aC a_d x.2.2.2 ++ wd_X1 aC a_n s_n)) H locs → lv_has ls 6 [(0, .ref (a_v 0)), (1, .int x.1), (2, .int x.2.1)] → W p l e (R_m 2 49) s m args below meth c H locs 0 0 (MQ below (Q_W (none) D A (wd_X5 aC a_v (a_n 0) (a_d 0) out.1 ++ (wd_X4 aC a_d out.2 ++ wd_X1 aC a_n s_n))) args s 0 0 A) (F0 m 15 ls [])) (fun rec hrec x h H locs ls hZ hl => t_X5_settle_L15 hX hr hrec x.1 x.2.1 x.2.2.1 x.2.2.2 h H locs ls hZ hl) FU_ (k0, (0 : Int32), s_v, s_d) h H locs ls hZ (lv_sub hl [2, 1, 0] rfl)
set_option maxHeartbeats 4000000 in
set_option maxRecDepth 100000 in
theorem c_X5_settle {l : Launch} {D : va_G} {aC : Nat → ClassId} {a_v : Nat → Nat} {a_d : Nat → Nat} {a_n : Nat → Nat} (s_v : Ob_T) (s_d : Ob_T) (s_n : Ob_T) {out : Ob_T × Ob_T} (h : f_X5_settle s_v s_d s_n = some out) : M_W l yX5_settle wlX5_settle 2 49 D aC [.ref (a_v 0)] (wd_X5 aC a_v (a_n 0) (a_d 0) s_v ++ (wd_X4 aC a_d s_d ++ wd_X1 aC a_n s_n)) (none) (wd_X5 aC a_v (a_n 0) (a_d 0) out.1 ++ (wd_X4 aC a_d out.2 ++ wd_X1 aC a_n s_n)) := by
  refine k_entW (cc := cX5_settle) (ret := none) (maxL := 6) (own := RX5) (by decide) rfl rfl rfl ?_
  intro p e s m below meth c A ls hX hr hZ hl
  have hl : lv_has ls 6 [(0, .ref (a_v 0))] := hl
  generalize ([.ref (a_v 0)] : List Value).toArray = args at hX ⊢
  obtain ⟨hx, hb, hml, hown, hts, hK, hA, hlk⟩ := id hX
  unfold f_X5_settle at h
  generalize s.heap = H at hZ ⊢
  generalize ([] : List Loc) = locs at hZ ⊢
  refine lv_aload_n hx hb dX5_settle_0 rfl (lv_at hl 0 rfl) ?_
  obtain ⟨u1, hu, h⟩ := k_bd h
  refine k_vR (As := []) (rest := []) (wc := wd_X5 aC a_v (a_n 0) (a_d 0) s_v) (v := some (.int u1)) (st1 := [.int u1]) hX hl.1 hZ (c_X5_hasFailed (a_v := a_v) (a_n := a_n) (a_d := a_d) s_v hu) (gv_ wm_454 wm_456 wm_457 wm_432 wm_455) rfl hd_X5_hasFailed ⟨rfl, rfl⟩ 5 0 rfl rfl [0, 1, 2, 3, 4] rfl rfl rfl rfl rfl dX5_settle_1 rfl ⟨rfl, rfl⟩ (fun locs hZ => ?_)
  clear hu
  refine lv_if_ne (tgt := 11) hx hb dX5_settle_4 (by decide) (fun cd => ?_) (fun cd => ?_)
  · replace h := k_f cd h
    clear cd
    refine lv_iconst (v := 0) hx hb dX5_settle_11 (by decide) ?_
    exact t_X5_settle_J12 hX hr (0 : Int32) s_v s_d h H locs ls hZ (lv_sub hl [0] rfl)
  · replace h := k_t cd h
    clear cd
    refine lv_iconst (v := 1) hx hb dX5_settle_7 (by decide) ?_
    refine lv_goto (tgt := 12) hx hb dX5_settle_8 (by decide) ?_
    exact t_X5_settle_J12 hX hr (1 : Int32) s_v s_d h H locs ls hZ (lv_sub hl [0] rfl)
