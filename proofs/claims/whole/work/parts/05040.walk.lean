def wlX9_findWays : List Cond := .code yX9_findWays cX9_findWays 7 (some .int) :: WL_
theorem hd_X9_findWays : yX9_findWays.cls = RX9 ∧ yX9_findWays.cls ≠ "java/lang/invoke/MethodHandle" ∧ yX9_findWays.cls ≠ "java/lang/invoke/VarHandle" ∧ (parseMethodDescriptor yX9_findWays.desc).map (fun d => d.parameters.length) = some 1 := by decide +kernel
theorem dX9_findWays_0 : decode cX9_findWays 0 = .ok (.iconst 1, 1) := by decide +kernel
theorem dX9_findWays_1 : decode cX9_findWays 1 = .ok (.istore_n 2, 1) := by decide +kernel
theorem dX9_findWays_2 : decode cX9_findWays 2 = .ok (.iconst 0, 1) := by decide +kernel
theorem dX9_findWays_3 : decode cX9_findWays 3 = .ok (.istore_n 3, 1) := by decide +kernel
theorem dX9_findWays_4 : decode cX9_findWays 4 = .ok (.iconst 0, 1) := by decide +kernel
theorem dX9_findWays_5 : decode cX9_findWays 5 = .ok (.istore 4, 2) := by decide +kernel
theorem dX9_findWays_7 : decode cX9_findWays 7 = .ok (.iload 4, 2) := by decide +kernel
theorem dX9_findWays_9 : decode cX9_findWays 9 = .ok (.iconst 4, 1) := by decide +kernel
theorem dX9_findWays_10 : decode cX9_findWays 10 = .ok (.if_icmp .ge 27, 3) := by decide +kernel
theorem dX9_findWays_13 : decode cX9_findWays 13 = .ok (.iload_n 2, 1) := by decide +kernel
theorem dX9_findWays_14 : decode cX9_findWays 14 = .ok (.iload_n 1, 1) := by decide +kernel
theorem dX9_findWays_15 : decode cX9_findWays 15 = .ok (.iload 4, 2) := by decide +kernel
theorem dX9_findWays_17 : decode cX9_findWays 17 = .ok (.invokestatic 322, 3) := by decide +kernel
theorem dX9_findWays_20 : decode cX9_findWays 20 = .ok (.ifCond .eq 8, 3) := by decide +kernel
theorem dX9_findWays_23 : decode cX9_findWays 23 = .ok (.bipush 10, 2) := by decide +kernel
theorem dX9_findWays_25 : decode cX9_findWays 25 = .ok (.goto 4, 3) := by decide +kernel
theorem dX9_findWays_28 : decode cX9_findWays 28 = .ok (.iconst 1, 1) := by decide +kernel
theorem dX9_findWays_29 : decode cX9_findWays 29 = .ok (.imul, 1) := by decide +kernel
theorem dX9_findWays_30 : decode cX9_findWays 30 = .ok (.istore_n 2, 1) := by decide +kernel
theorem dX9_findWays_31 : decode cX9_findWays 31 = .ok (.iinc 4 1, 3) := by decide +kernel
theorem dX9_findWays_34 : decode cX9_findWays 34 = .ok (.goto (-27), 3) := by decide +kernel
theorem dX9_findWays_37 : decode cX9_findWays 37 = .ok (.iconst 0, 1) := by decide +kernel
theorem dX9_findWays_38 : decode cX9_findWays 38 = .ok (.istore 4, 2) := by decide +kernel
theorem dX9_findWays_40 : decode cX9_findWays 40 = .ok (.iload 4, 2) := by decide +kernel
theorem dX9_findWays_42 : decode cX9_findWays 42 = .ok (.iload_n 2, 1) := by decide +kernel
theorem dX9_findWays_43 : decode cX9_findWays 43 = .ok (.if_icmp .ge 126, 3) := by decide +kernel
theorem dX9_findWays_46 : decode cX9_findWays 46 = .ok (.iload 4, 2) := by decide +kernel
theorem dX9_findWays_48 : decode cX9_findWays 48 = .ok (.istore 5, 2) := by decide +kernel
theorem dX9_findWays_50 : decode cX9_findWays 50 = .ok (.iconst 3, 1) := by decide +kernel
theorem dX9_findWays_51 : decode cX9_findWays 51 = .ok (.istore 6, 2) := by decide +kernel
theorem dX9_findWays_53 : decode cX9_findWays 53 = .ok (.iload 6, 2) := by decide +kernel
theorem dX9_findWays_55 : decode cX9_findWays 55 = .ok (.ifCond .lt 61, 3) := by decide +kernel
theorem dX9_findWays_58 : decode cX9_findWays 58 = .ok (.aload_n 0, 1) := by decide +kernel
theorem dX9_findWays_59 : decode cX9_findWays 59 = .ok (.getfield 80, 3) := by decide +kernel
theorem dX9_findWays_62 : decode cX9_findWays 62 = .ok (.iload 6, 2) := by decide +kernel
theorem dX9_findWays_64 : decode cX9_findWays 64 = .ok (.iload_n 1, 1) := by decide +kernel
theorem dX9_findWays_65 : decode cX9_findWays 65 = .ok (.iload 6, 2) := by decide +kernel
theorem dX9_findWays_67 : decode cX9_findWays 67 = .ok (.invokestatic 322, 3) := by decide +kernel
theorem dX9_findWays_70 : decode cX9_findWays 70 = .ok (.ifCond .eq 11, 3) := by decide +kernel
theorem dX9_findWays_73 : decode cX9_findWays 73 = .ok (.iload 5, 2) := by decide +kernel
theorem dX9_findWays_75 : decode cX9_findWays 75 = .ok (.bipush 10, 2) := by decide +kernel
theorem dX9_findWays_77 : decode cX9_findWays 77 = .ok (.irem, 1) := by decide +kernel
theorem dX9_findWays_78 : decode cX9_findWays 78 = .ok (.goto 10, 3) := by decide +kernel
theorem dX9_findWays_81 : decode cX9_findWays 81 = .ok (.aload_n 0, 1) := by decide +kernel
theorem dX9_findWays_82 : decode cX9_findWays 82 = .ok (.getfield 16, 3) := by decide +kernel
theorem dX9_findWays_85 : decode cX9_findWays 85 = .ok (.iload 6, 2) := by decide +kernel
theorem dX9_findWays_87 : decode cX9_findWays 87 = .ok (.iaload, 1) := by decide +kernel
theorem dX9_findWays_88 : decode cX9_findWays 88 = .ok (.iastore, 1) := by decide +kernel
theorem dX9_findWays_89 : decode cX9_findWays 89 = .ok (.iload_n 1, 1) := by decide +kernel
theorem dX9_findWays_90 : decode cX9_findWays 90 = .ok (.iload 6, 2) := by decide +kernel
theorem dX9_findWays_92 : decode cX9_findWays 92 = .ok (.invokestatic 322, 3) := by decide +kernel
theorem dX9_findWays_95 : decode cX9_findWays 95 = .ok (.ifCond .eq 11, 3) := by decide +kernel
theorem dX9_findWays_98 : decode cX9_findWays 98 = .ok (.iload 5, 2) := by decide +kernel
theorem dX9_findWays_100 : decode cX9_findWays 100 = .ok (.bipush 10, 2) := by decide +kernel
theorem dX9_findWays_102 : decode cX9_findWays 102 = .ok (.idiv, 1) := by decide +kernel
theorem dX9_findWays_103 : decode cX9_findWays 103 = .ok (.goto 5, 3) := by decide +kernel
theorem dX9_findWays_106 : decode cX9_findWays 106 = .ok (.iload 5, 2) := by decide +kernel
theorem dX9_findWays_108 : decode cX9_findWays 108 = .ok (.istore 5, 2) := by decide +kernel
theorem dX9_findWays_110 : decode cX9_findWays 110 = .ok (.iinc 6 (-1), 3) := by decide +kernel
theorem dX9_findWays_113 : decode cX9_findWays 113 = .ok (.goto (-60), 3) := by decide +kernel
theorem dX9_findWays_116 : decode cX9_findWays 116 = .ok (.aload_n 0, 1) := by decide +kernel
theorem dX9_findWays_117 : decode cX9_findWays 117 = .ok (.invokevirtual 293, 3) := by decide +kernel
theorem dX9_findWays_120 : decode cX9_findWays 120 = .ok (.aload_n 0, 1) := by decide +kernel
theorem dX9_findWays_121 : decode cX9_findWays 121 = .ok (.getfield 217, 3) := by decide +kernel
theorem dX9_findWays_124 : decode cX9_findWays 124 = .ok (.ifCond .ne 39, 3) := by decide +kernel
theorem dX9_findWays_127 : decode cX9_findWays 127 = .ok (.iconst 0, 1) := by decide +kernel
theorem dX9_findWays_128 : decode cX9_findWays 128 = .ok (.istore 6, 2) := by decide +kernel
theorem dX9_findWays_130 : decode cX9_findWays 130 = .ok (.iload 6, 2) := by decide +kernel
theorem dX9_findWays_132 : decode cX9_findWays 132 = .ok (.iconst 4, 1) := by decide +kernel
theorem dX9_findWays_133 : decode cX9_findWays 133 = .ok (.if_icmp .ge 27, 3) := by decide +kernel
theorem dX9_findWays_136 : decode cX9_findWays 136 = .ok (.iload_n 3, 1) := by decide +kernel
theorem dX9_findWays_137 : decode cX9_findWays 137 = .ok (.ifCond .ne 23, 3) := by decide +kernel
theorem dX9_findWays_140 : decode cX9_findWays 140 = .ok (.aload_n 0, 1) := by decide +kernel
theorem dX9_findWays_141 : decode cX9_findWays 141 = .ok (.getfield 92, 3) := by decide +kernel
theorem dX9_findWays_144 : decode cX9_findWays 144 = .ok (.iload 6, 2) := by decide +kernel
theorem dX9_findWays_146 : decode cX9_findWays 146 = .ok (.aload_n 0, 1) := by decide +kernel
theorem dX9_findWays_147 : decode cX9_findWays 147 = .ok (.getfield 80, 3) := by decide +kernel
theorem dX9_findWays_150 : decode cX9_findWays 150 = .ok (.iload 6, 2) := by decide +kernel
theorem dX9_findWays_152 : decode cX9_findWays 152 = .ok (.iaload, 1) := by decide +kernel
theorem dX9_findWays_153 : decode cX9_findWays 153 = .ok (.iastore, 1) := by decide +kernel
theorem dX9_findWays_154 : decode cX9_findWays 154 = .ok (.iinc 6 1, 3) := by decide +kernel
theorem dX9_findWays_157 : decode cX9_findWays 157 = .ok (.goto (-27), 3) := by decide +kernel
theorem dX9_findWays_160 : decode cX9_findWays 160 = .ok (.iinc 3 1, 3) := by decide +kernel
theorem dX9_findWays_163 : decode cX9_findWays 163 = .ok (.iinc 4 1, 3) := by decide +kernel
theorem dX9_findWays_166 : decode cX9_findWays 166 = .ok (.goto (-126), 3) := by decide +kernel
theorem dX9_findWays_169 : decode cX9_findWays 169 = .ok (.iload_n 3, 1) := by decide +kernel
theorem dX9_findWays_170 : decode cX9_findWays 170 = .ok (.ireturn, 1) := by decide +kernel
set_option maxHeartbeats 4000000 in
set_option maxRecDepth 100000 in
theorem t_X9_findWays_L7 {p : Program} {l : Launch} {e : Env} {s : State} {m : MethodId} {args : Array Value} {below : List Frame} {meth : Method} {c : Code} {D : va_G} {aC : Nat → ClassId} {A : Nat → Prop} {a_o : Nat → Nat} {out : Int32 × Ob_T} {k37 : Int32 → Int32 → Int32 → Ob_T → Option (Int32 × Ob_T)} {rec7 : (Int32 × Int32 × Int32 × Int32 × Ob_T) → Option (Int32 × Ob_T)} (hX : K_X p s m args meth c cX9_findWays 7 WL_ RX9 D aC A) (hr : meth.sig.returnType = (some .int)) (hk37 : ∀ (y1 : Int32) (y2 : Int32) (y3 : Int32) (t_o : Ob_T), k37 y1 y2 y3 t_o = some out → ∀ (H : Heap) (locs : List Loc) (ls : Array Slot), K_S D A s (wd_X9 aC a_o t_o) H locs → lv_has ls 7 [(0, .ref (a_o 0)), (1, .int y1), (2, .int y2), (3, .int y3)] → W p l e (R_m 5 125) s m args below meth c H locs 0 0 (MQ below (Q_W (some (.int out.1)) D A (wd_X9 aC a_o out.2)) args s 0 0 A) (F0 m 37 ls [])) (hrec7 : ∀ x : Int32 × Int32 × Int32 × Int32 × Ob_T, rec7 x = some out → ∀ (H : Heap) (locs : List Loc) (ls : Array Slot), K_S D A s (wd_X9 aC a_o x.2.2.2.2) H locs → lv_has ls 7 [(0, .ref (a_o 0)), (1, .int x.1), (2, .int x.2.1), (3, .int x.2.2.1), (4, .int x.2.2.2.1)] → W p l e (R_m 5 125) s m args below meth c H locs 0 0 (MQ below (Q_W (some (.int out.1)) D A (wd_X9 aC a_o out.2)) args s 0 0 A) (F0 m 7 ls [])) (x1 : Int32) (x2 : Int32) (x3 : Int32) (x4 : Int32) (s_o : Ob_T) (h : f_X9_findWays_L7 k37 rec7 x1 x2 x3 x4 s_o = some out) (H : Heap) (locs : List Loc) (ls : Array Slot) (hZ : K_S D A s (wd_X9 aC a_o s_o) H locs) (hl : lv_has ls 7 [(0, .ref (a_o 0)), (1, .int x1), (2, .int x2), (3, .int x3), (4, .int x4)]) : W p l e (R_m 5 125) s m args below meth c H locs 0 0 (MQ below (Q_W (some (.int out.1)) D A (wd_X9 aC a_o out.2)) args s 0 0 A) (F0 m 7 ls []) := by
  obtain ⟨hx, hb, hml, hown, hts, hK, hA, hlk⟩ := id hX
  unfold f_X9_findWays_L7 at h
  refine lv_iload hx hb dX9_findWays_7 (lv_at hl 4 rfl) ?_
  refine lv_iconst (v := 4) hx hb dX9_findWays_9 (by decide) ?_
  refine lv_icmp_ge (tgt := 37) hx hb dX9_findWays_10 (by decide) (fun cd => ?_) (fun cd => ?_)
  · replace h := k_t cd h
    clear cd
    exact hk37 x1 x2 x3 s_o h H locs ls hZ (lv_sub hl [0, 1, 2, 3] rfl)
  · replace h := k_f cd h
    clear cd
    refine lv_iload_n hx hb dX9_findWays_13 rfl (lv_at hl 2 rfl) ?_
    refine lv_iload_n hx hb dX9_findWays_14 rfl (lv_at hl 1 rfl) ?_
    refine lv_iload hx hb dX9_findWays_15 (lv_at hl 4 rfl) ?_
    obtain ⟨u1, hu, h⟩ := k_bd h
    refine k_sR (As := [.int x1, .int x4]) (rest := [.int x2]) (wc := []) (v := some (.int u1)) (st1 := [.int u1, .int x2]) hX hl.1 hZ (c_X9_has  x1 x4 hu) (gs_ wm_231 wm_233 wm_11 wm_232) rfl hd_X9_has ⟨rfl, rfl⟩ [] rfl rfl rfl rfl rfl dX9_findWays_17 rfl ⟨rfl, rfl⟩ (fun locs hZ => ?_)
    clear hu
    refine lv_if_eq (tgt := 28) hx hb dX9_findWays_20 (by decide) (fun cd => ?_) (fun cd => ?_)
    · replace h := k_t cd h
      clear cd
      refine lv_iconst (v := 1) hx hb dX9_findWays_28 (by decide) ?_
      refine lv_imul hx hb dX9_findWays_29 ?_
      refine lv_istore_n (lv' := [(2, .int (x2 * (1 : Int32))), (0, .ref (a_o 0)), (1, .int x1), (3, .int x3), (4, .int x4)]) hx hb dX9_findWays_30 rfl hl (by decide) rfl (fun ls hl => ?_)
      refine lv_iinc (v := (x4 + (1 : Int32))) (lv' := [(4, .int (x4 + (1 : Int32))), (2, .int (x2 * (1 : Int32))), (0, .ref (a_o 0)), (1, .int x1), (3, .int x3)]) hx hb dX9_findWays_31 hl (k := 4) rfl rfl (by decide) rfl (fun ls hl => ?_)
      refine lv_goto (tgt := 7) hx hb dX9_findWays_34 (by decide) ?_
      exact hrec7 (x1, (x2 * (1 : Int32)), x3, (x4 + (1 : Int32)), s_o) h H locs ls hZ (lv_sub hl [2, 3, 1, 4, 0] rfl)
    · replace h := k_f cd h
      clear cd
      refine lv_bipush (v := 10) hx hb dX9_findWays_23 (by decide) ?_
      refine lv_goto (tgt := 29) hx hb dX9_findWays_25 (by decide) ?_
      refine lv_imul hx hb dX9_findWays_29 ?_
      refine lv_istore_n (lv' := [(2, .int (x2 * (10 : Int32))), (0, .ref (a_o 0)), (1, .int x1), (3, .int x3), (4, .int x4)]) hx hb dX9_findWays_30 rfl hl (by decide) rfl (fun ls hl => ?_)
      refine lv_iinc (v := (x4 + (1 : Int32))) (lv' := [(4, .int (x4 + (1 : Int32))), (2, .int (x2 * (10 : Int32))), (0, .ref (a_o 0)), (1, .int x1), (3, .int x3)]) hx hb dX9_findWays_31 hl (k := 4) rfl rfl (by decide) rfl (fun ls hl => ?_)
      refine lv_goto (tgt := 7) hx hb dX9_findWays_34 (by decide) ?_
      exact hrec7 (x1, (x2 * (10 : Int32)), x3, (x4 + (1 : Int32)), s_o) h H locs ls hZ (lv_sub hl [2, 3, 1, 4, 0] rfl)
set_option maxHeartbeats 4000000 in
set_option maxRecDepth 100000 in
theorem t_X9_findWays_J88 {p : Program} {l : Launch} {e : Env} {s : State} {m : MethodId} {args : Array Value} {below : List Frame} {meth : Method} {c : Code} {D : va_G} {aC : Nat → ClassId} {A : Nat → Prop} {a_o : Nat → Nat} {out : Int32 × Ob_T} {rec53 : (Int32 × Int32 × Int32 × Int32 × Int32 × Int32 × Ob_T) → Option (Int32 × Ob_T)} (hX : K_X p s m args meth c cX9_findWays 7 WL_ RX9 D aC A) (hr : meth.sig.returnType = (some .int)) (hrec53 : ∀ x : Int32 × Int32 × Int32 × Int32 × Int32 × Int32 × Ob_T, rec53 x = some out → ∀ (H : Heap) (locs : List Loc) (ls : Array Slot), K_S D A s (wd_X9 aC a_o x.2.2.2.2.2.2) H locs → lv_has ls 7 [(0, .ref (a_o 0)), (1, .int x.1), (2, .int x.2.1), (3, .int x.2.2.1), (4, .int x.2.2.2.1), (5, .int x.2.2.2.2.1), (6, .int x.2.2.2.2.2.1)] → W p l e (R_m 5 125) s m args below meth c H locs 0 0 (MQ below (Q_W (some (.int out.1)) D A (wd_X9 aC a_o out.2)) args s 0 0 A) (F0 m 53 ls [])) (x1 : Int32) (x2 : Int32) (x3 : Int32) (x4 : Int32) (x5 : Int32) (x6 : Int32) (k1 : Int32) (k2 : Int32) (s_o : Ob_T) (h : f_X9_findWays_J88 rec53 x1 x2 x3 x4 x5 x6 k1 k2 s_o = some out) (H : Heap) (locs : List Loc) (ls : Array Slot) (hZ : K_S D A s (wd_X9 aC a_o s_o) H locs) (hl : lv_has ls 7 [(0, .ref (a_o 0)), (1, .int x1), (2, .int x2), (3, .int x3), (4, .int x4), (5, .int x5), (6, .int x6)]) : W p l e (R_m 5 125) s m args below meth c H locs 0 0 (MQ below (Q_W (some (.int out.1)) D A (wd_X9 aC a_o out.2)) args s 0 0 A) (F0 m 88 ls [.int k2, .int k1, .ref (a_o 24)]) := by
  obtain ⟨hx, hb, hml, hown, hts, hK, hA, hlk⟩ := id hX
  unfold f_X9_findWays_J88 at h
  refine k_iast (wf := (fun o => wd_X9 aC a_o o)) (o := s_o) hX hZ 24 33 rfl (fun _ => rfl) h dX9_findWays_88 (fun o4 H locs hZ h => ?_)
  refine lv_iload_n hx hb dX9_findWays_89 rfl (lv_at hl 1 rfl) ?_
  refine lv_iload hx hb dX9_findWays_90 (lv_at hl 6 rfl) ?_
  obtain ⟨u5, hu, h⟩ := k_bd h
  refine k_sR (As := [.int x1, .int x6]) (rest := []) (wc := []) (v := some (.int u5)) (st1 := [.int u5]) hX hl.1 hZ (c_X9_has  x1 x6 hu) (gs_ wm_231 wm_233 wm_11 wm_232) rfl hd_X9_has ⟨rfl, rfl⟩ [] rfl rfl rfl rfl rfl dX9_findWays_92 rfl ⟨rfl, rfl⟩ (fun locs hZ => ?_)
  clear hu
  refine lv_if_eq (tgt := 106) hx hb dX9_findWays_95 (by decide) (fun cd => ?_) (fun cd => ?_)
  · replace h := k_t cd h
    clear cd
    refine lv_iload hx hb dX9_findWays_106 (lv_at hl 5 rfl) ?_
    refine lv_istore (lv' := [(5, .int x5), (0, .ref (a_o 0)), (1, .int x1), (2, .int x2), (3, .int x3), (4, .int x4), (6, .int x6)]) hx hb dX9_findWays_108 hl (by decide) rfl (fun ls hl => ?_)
    refine lv_iinc (v := (x6 + (-1 : Int32))) (lv' := [(6, .int (x6 + (-1 : Int32))), (5, .int x5), (0, .ref (a_o 0)), (1, .int x1), (2, .int x2), (3, .int x3), (4, .int x4)]) hx hb dX9_findWays_110 hl (k := 6) rfl rfl (by decide) rfl (fun ls hl => ?_)
    refine lv_goto (tgt := 53) hx hb dX9_findWays_113 (by decide) ?_
    exact hrec53 (x1, x2, x3, x4, x5, (x6 + (-1 : Int32)), o4) h H locs ls hZ (lv_sub hl [2, 3, 4, 5, 6, 1, 0] rfl)
  · replace h := k_f cd h
    clear cd
    refine lv_iload hx hb dX9_findWays_98 (lv_at hl 5 rfl) ?_
    refine lv_bipush (v := 10) hx hb dX9_findWays_100 (by decide) ?_
    by_cases hd0 : (10 : Int32) = 0
    · replace h := k_t hd0 h
      cases h
    · replace h := k_f hd0 h
      refine lv_idiv hx hb dX9_findWays_102 hd0 ?_
      refine lv_goto (tgt := 108) hx hb dX9_findWays_103 (by decide) ?_
      refine lv_istore (lv' := [(5, .int (x5 / (10 : Int32))), (0, .ref (a_o 0)), (1, .int x1), (2, .int x2), (3, .int x3), (4, .int x4), (6, .int x6)]) hx hb dX9_findWays_108 hl (by decide) rfl (fun ls hl => ?_)
      refine lv_iinc (v := (x6 + (-1 : Int32))) (lv' := [(6, .int (x6 + (-1 : Int32))), (5, .int (x5 / (10 : Int32))), (0, .ref (a_o 0)), (1, .int x1), (2, .int x2), (3, .int x3), (4, .int x4)]) hx hb dX9_findWays_110 hl (k := 6) rfl rfl (by decide) rfl (fun ls hl => ?_)
      refine lv_goto (tgt := 53) hx hb dX9_findWays_113 (by decide) ?_
      exact hrec53 (x1, x2, x3, x4, (x5 / (10 : Int32)), (x6 + (-1 : Int32)), o4) h H locs ls hZ (lv_sub hl [2, 3, 4, 5, 6, 1, 0] rfl)
set_option maxHeartbeats 4000000 in
set_option maxRecDepth 100000 in
theorem t_X9_findWays_L53 {p : Program} {l : Launch} {e : Env} {s : State} {m : MethodId} {args : Array Value} {below : List Frame} {meth : Method} {c : Code} {D : va_G} {aC : Nat → ClassId} {A : Nat → Prop} {a_o : Nat → Nat} {out : Int32 × Ob_T} {k116 : Int32 → Int32 → Int32 → Int32 → Ob_T → Option (Int32 × Ob_T)} {rec53 : (Int32 × Int32 × Int32 × Int32 × Int32 × Int32 × Ob_T) → Option (Int32 × Ob_T)} (hX : K_X p s m args meth c cX9_findWays 7 WL_ RX9 D aC A) (hr : meth.sig.returnType = (some .int)) (hk116 : ∀ (y1 : Int32) (y2 : Int32) (y3 : Int32) (y4 : Int32) (t_o : Ob_T), k116 y1 y2 y3 y4 t_o = some out → ∀ (H : Heap) (locs : List Loc) (ls : Array Slot), K_S D A s (wd_X9 aC a_o t_o) H locs → lv_has ls 7 [(0, .ref (a_o 0)), (1, .int y1), (2, .int y2), (3, .int y3), (4, .int y4)] → W p l e (R_m 5 125) s m args below meth c H locs 0 0 (MQ below (Q_W (some (.int out.1)) D A (wd_X9 aC a_o out.2)) args s 0 0 A) (F0 m 116 ls [])) (hrec53 : ∀ x : Int32 × Int32 × Int32 × Int32 × Int32 × Int32 × Ob_T, rec53 x = some out → ∀ (H : Heap) (locs : List Loc) (ls : Array Slot), K_S D A s (wd_X9 aC a_o x.2.2.2.2.2.2) H locs → lv_has ls 7 [(0, .ref (a_o 0)), (1, .int x.1), (2, .int x.2.1), (3, .int x.2.2.1), (4, .int x.2.2.2.1), (5, .int x.2.2.2.2.1), (6, .int x.2.2.2.2.2.1)] → W p l e (R_m 5 125) s m args below meth c H locs 0 0 (MQ below (Q_W (some (.int out.1)) D A (wd_X9 aC a_o out.2)) args s 0 0 A) (F0 m 53 ls [])) (x1 : Int32) (x2 : Int32) (x3 : Int32) (x4 : Int32) (x5 : Int32) (x6 : Int32) (s_o : Ob_T) (h : f_X9_findWays_L53 k116 rec53 x1 x2 x3 x4 x5 x6 s_o = some out) (H : Heap) (locs : List Loc) (ls : Array Slot) (hZ : K_S D A s (wd_X9 aC a_o s_o) H locs) (hl : lv_has ls 7 [(0, .ref (a_o 0)), (1, .int x1), (2, .int x2), (3, .int x3), (4, .int x4), (5, .int x5), (6, .int x6)]) : W p l e (R_m 5 125) s m args below meth c H locs 0 0 (MQ below (Q_W (some (.int out.1)) D A (wd_X9 aC a_o out.2)) args s 0 0 A) (F0 m 53 ls []) := by
  obtain ⟨hx, hb, hml, hown, hts, hK, hA, hlk⟩ := id hX
  unfold f_X9_findWays_L53 at h
  refine lv_iload hx hb dX9_findWays_53 (lv_at hl 6 rfl) ?_
  refine lv_if_lt (tgt := 116) hx hb dX9_findWays_55 (by decide) (fun cd => ?_) (fun cd => ?_)
  · replace h := k_t cd h
    clear cd
    exact hk116 x1 x2 x3 x4 s_o h H locs ls hZ (lv_sub hl [0, 1, 2, 3, 4] rfl)
  · replace h := k_f cd h
    clear cd
    refine lv_aload_n hx hb dX9_findWays_58 rfl (lv_at hl 0 rfl) ?_
    refine k_get hX hZ.1 0 9 rfl rfl iw_X9 33 rfl (wm_189) (v := .ref (a_o 24)) rfl dX9_findWays_59 ?_
    refine lv_iload hx hb dX9_findWays_62 (lv_at hl 6 rfl) ?_
    refine lv_iload_n hx hb dX9_findWays_64 rfl (lv_at hl 1 rfl) ?_
    refine lv_iload hx hb dX9_findWays_65 (lv_at hl 6 rfl) ?_
    obtain ⟨u2, hu, h⟩ := k_bd h
    refine k_sR (As := [.int x1, .int x6]) (rest := [.int x6, .ref (a_o 24)]) (wc := []) (v := some (.int u2)) (st1 := [.int u2, .int x6, .ref (a_o 24)]) hX hl.1 hZ (c_X9_has  x1 x6 hu) (gs_ wm_231 wm_233 wm_11 wm_232) rfl hd_X9_has ⟨rfl, rfl⟩ [] rfl rfl rfl rfl rfl dX9_findWays_67 rfl ⟨rfl, rfl⟩ (fun locs hZ => ?_)
    clear hu
    refine lv_if_eq (tgt := 81) hx hb dX9_findWays_70 (by decide) (fun cd => ?_) (fun cd => ?_)
    · replace h := k_t cd h
      clear cd
      refine lv_aload_n hx hb dX9_findWays_81 rfl (lv_at hl 0 rfl) ?_
      refine k_get hX hZ.1 0 9 rfl rfl iw_X9 4 rfl (wm_118) (v := .ref (a_o 3)) rfl dX9_findWays_82 ?_
      refine lv_iload hx hb dX9_findWays_85 (lv_at hl 6 rfl) ?_
      refine k_iald hX hZ.1 3 rfl h dX9_findWays_87 (fun v3 h => ?_)
      exact t_X9_findWays_J88 hX hr hrec53 x1 x2 x3 x4 x5 x6 x6 v3 s_o h H locs ls hZ (lv_sub hl [0, 1, 2, 3, 4, 5, 6] rfl)
    · replace h := k_f cd h
      clear cd
      refine lv_iload hx hb dX9_findWays_73 (lv_at hl 5 rfl) ?_
      refine lv_bipush (v := 10) hx hb dX9_findWays_75 (by decide) ?_
      by_cases hd0 : (10 : Int32) = 0
      · replace h := k_t hd0 h
        cases h
      · replace h := k_f hd0 h
        refine lv_irem hx hb dX9_findWays_77 hd0 ?_
        refine lv_goto (tgt := 88) hx hb dX9_findWays_78 (by decide) ?_
        exact t_X9_findWays_J88 hX hr hrec53 x1 x2 x3 x4 x5 x6 x6 (x5 - x5 / (10 : Int32) * (10 : Int32)) s_o h H locs ls hZ (lv_sub hl [0, 1, 2, 3, 4, 5, 6] rfl)
set_option maxHeartbeats 4000000 in
set_option maxRecDepth 100000 in
theorem t_X9_findWays_L130 {p : Program} {l : Launch} {e : Env} {s : State} {m : MethodId} {args : Array Value} {below : List Frame} {meth : Method} {c : Code} {D : va_G} {aC : Nat → ClassId} {A : Nat → Prop} {a_o : Nat → Nat} {out : Int32 × Ob_T} {rec40 : (Int32 × Int32 × Int32 × Int32 × Ob_T) → Option (Int32 × Ob_T)} {rec130 : (Int32 × Int32 × Int32 × Int32 × Int32 × Ob_T) → Option (Int32 × Ob_T)} (hX : K_X p s m args meth c cX9_findWays 7 WL_ RX9 D aC A) (hr : meth.sig.returnType = (some .int)) (hrec40 : ∀ x : Int32 × Int32 × Int32 × Int32 × Ob_T, rec40 x = some out → ∀ (H : Heap) (locs : List Loc) (ls : Array Slot), K_S D A s (wd_X9 aC a_o x.2.2.2.2) H locs → lv_has ls 7 [(0, .ref (a_o 0)), (1, .int x.1), (2, .int x.2.1), (3, .int x.2.2.1), (4, .int x.2.2.2.1)] → W p l e (R_m 5 125) s m args below meth c H locs 0 0 (MQ below (Q_W (some (.int out.1)) D A (wd_X9 aC a_o out.2)) args s 0 0 A) (F0 m 40 ls [])) (hrec130 : ∀ x : Int32 × Int32 × Int32 × Int32 × Int32 × Ob_T, rec130 x = some out → ∀ (H : Heap) (locs : List Loc) (ls : Array Slot), K_S D A s (wd_X9 aC a_o x.2.2.2.2.2) H locs → lv_has ls 7 [(0, .ref (a_o 0)), (1, .int x.1), (2, .int x.2.1), (3, .int x.2.2.1), (4, .int x.2.2.2.1), (6, .int x.2.2.2.2.1)] → W p l e (R_m 5 125) s m args below meth c H locs 0 0 (MQ below (Q_W (some (.int out.1)) D A (wd_X9 aC a_o out.2)) args s 0 0 A) (F0 m 130 ls [])) (x1 : Int32) (x2 : Int32) (x3 : Int32) (x4 : Int32) (x6 : Int32) (s_o : Ob_T) (h : f_X9_findWays_L130 rec40 rec130 x1 x2 x3 x4 x6 s_o = some out) (H : Heap) (locs : List Loc) (ls : Array Slot) (hZ : K_S D A s (wd_X9 aC a_o s_o) H locs) (hl : lv_has ls 7 [(0, .ref (a_o 0)), (1, .int x1), (2, .int x2), (3, .int x3), (4, .int x4), (6, .int x6)]) : W p l e (R_m 5 125) s m args below meth c H locs 0 0 (MQ below (Q_W (some (.int out.1)) D A (wd_X9 aC a_o out.2)) args s 0 0 A) (F0 m 130 ls []) := by
  obtain ⟨hx, hb, hml, hown, hts, hK, hA, hlk⟩ := id hX
  unfold f_X9_findWays_L130 at h
  refine lv_iload hx hb dX9_findWays_130 (lv_at hl 5 rfl) ?_
  refine lv_iconst (v := 4) hx hb dX9_findWays_132 (by decide) ?_
  refine lv_icmp_ge (tgt := 160) hx hb dX9_findWays_133 (by decide) (fun cd => ?_) (fun cd => ?_)
  · replace h := k_t cd h
    clear cd
    refine lv_iinc (v := (x3 + (1 : Int32))) (lv' := [(3, .int (x3 + (1 : Int32))), (0, .ref (a_o 0)), (1, .int x1), (2, .int x2), (4, .int x4), (6, .int x6)]) hx hb dX9_findWays_160 hl (k := 3) rfl rfl (by decide) rfl (fun ls hl => ?_)
    refine lv_iinc (v := (x4 + (1 : Int32))) (lv' := [(4, .int (x4 + (1 : Int32))), (3, .int (x3 + (1 : Int32))), (0, .ref (a_o 0)), (1, .int x1), (2, .int x2), (6, .int x6)]) hx hb dX9_findWays_163 hl (k := 4) rfl rfl (by decide) rfl (fun ls hl => ?_)
    refine lv_goto (tgt := 40) hx hb dX9_findWays_166 (by decide) ?_
    exact hrec40 (x1, x2, (x3 + (1 : Int32)), (x4 + (1 : Int32)), s_o) h H locs ls hZ (lv_sub hl [2, 3, 4, 1, 0] rfl)
  · replace h := k_f cd h
    clear cd
    refine lv_iload_n hx hb dX9_findWays_136 rfl (lv_at hl 3 rfl) ?_
    refine lv_if_ne (tgt := 160) hx hb dX9_findWays_137 (by decide) (fun cd => ?_) (fun cd => ?_)
    · replace h := k_f cd h
      clear cd
      refine lv_iinc (v := (x3 + (1 : Int32))) (lv' := [(3, .int (x3 + (1 : Int32))), (0, .ref (a_o 0)), (1, .int x1), (2, .int x2), (4, .int x4), (6, .int x6)]) hx hb dX9_findWays_160 hl (k := 3) rfl rfl (by decide) rfl (fun ls hl => ?_)
      refine lv_iinc (v := (x4 + (1 : Int32))) (lv' := [(4, .int (x4 + (1 : Int32))), (3, .int (x3 + (1 : Int32))), (0, .ref (a_o 0)), (1, .int x1), (2, .int x2), (6, .int x6)]) hx hb dX9_findWays_163 hl (k := 4) rfl rfl (by decide) rfl (fun ls hl => ?_)
      refine lv_goto (tgt := 40) hx hb dX9_findWays_166 (by decide) ?_
      exact hrec40 (x1, x2, (x3 + (1 : Int32)), (x4 + (1 : Int32)), s_o) h H locs ls hZ (lv_sub hl [2, 3, 4, 1, 0] rfl)
    · replace h := k_t cd h
      clear cd
      refine lv_aload_n hx hb dX9_findWays_140 rfl (lv_at hl 0 rfl) ?_
      refine k_get hX hZ.1 0 9 rfl rfl iw_X9 43 rfl (wm_238) (v := .ref (a_o 28)) rfl dX9_findWays_141 ?_
      refine lv_iload hx hb dX9_findWays_144 (lv_at hl 5 rfl) ?_
      refine lv_aload_n hx hb dX9_findWays_146 rfl (lv_at hl 0 rfl) ?_
      refine k_get hX hZ.1 0 9 rfl rfl iw_X9 33 rfl (wm_189) (v := .ref (a_o 24)) rfl dX9_findWays_147 ?_
      refine lv_iload hx hb dX9_findWays_150 (lv_at hl 5 rfl) ?_
      refine k_iald hX hZ.1 24 rfl h dX9_findWays_152 (fun v7 h => ?_)
      refine k_iast (wf := (fun o => wd_X9 aC a_o o)) (o := s_o) hX hZ 28 43 rfl (fun _ => rfl) h dX9_findWays_153 (fun o8 H locs hZ h => ?_)
      refine lv_iinc (v := (x6 + (1 : Int32))) (lv' := [(6, .int (x6 + (1 : Int32))), (0, .ref (a_o 0)), (1, .int x1), (2, .int x2), (3, .int x3), (4, .int x4)]) hx hb dX9_findWays_154 hl (k := 5) rfl rfl (by decide) rfl (fun ls hl => ?_)
      refine lv_goto (tgt := 130) hx hb dX9_findWays_157 (by decide) ?_
      exact hrec130 (x1, x2, x3, x4, (x6 + (1 : Int32)), o8) h H locs ls hZ (lv_sub hl [1, 2, 3, 4, 5, 0] rfl)
set_option maxHeartbeats 4000000 in
set_option maxRecDepth 100000 in
theorem t_X9_findWays_J116 {p : Program} {l : Launch} {e : Env} {s : State} {m : MethodId} {args : Array Value} {below : List Frame} {meth : Method} {c : Code} {D : va_G} {aC : Nat → ClassId} {A : Nat → Prop} {a_o : Nat → Nat} {out : Int32 × Ob_T} {rec40 : (Int32 × Int32 × Int32 × Int32 × Ob_T) → Option (Int32 × Ob_T)} (hX : K_X p s m args meth c cX9_findWays 7 WL_ RX9 D aC A) (hr : meth.sig.returnType = (some .int)) (hrec40 : ∀ x : Int32 × Int32 × Int32 × Int32 × Ob_T, rec40 x = some out → ∀ (H : Heap) (locs : List Loc) (ls : Array Slot), K_S D A s (wd_X9 aC a_o x.2.2.2.2) H locs → lv_has ls 7 [(0, .ref (a_o 0)), (1, .int x.1), (2, .int x.2.1), (3, .int x.2.2.1), (4, .int x.2.2.2.1)] → W p l e (R_m 5 125) s m args below meth c H locs 0 0 (MQ below (Q_W (some (.int out.1)) D A (wd_X9 aC a_o out.2)) args s 0 0 A) (F0 m 40 ls [])) (x1 : Int32) (x2 : Int32) (x3 : Int32) (x4 : Int32) (s_o : Ob_T) (h : f_X9_findWays_J116 rec40 x1 x2 x3 x4 s_o = some out) (H : Heap) (locs : List Loc) (ls : Array Slot) (hZ : K_S D A s (wd_X9 aC a_o s_o) H locs) (hl : lv_has ls 7 [(0, .ref (a_o 0)), (1, .int x1), (2, .int x2), (3, .int x3), (4, .int x4)]) : W p l e (R_m 5 125) s m args below meth c H locs 0 0 (MQ below (Q_W (some (.int out.1)) D A (wd_X9 aC a_o out.2)) args s 0 0 A) (F0 m 116 ls []) := by
  obtain ⟨hx, hb, hml, hown, hts, hK, hA, hlk⟩ := id hX
  unfold f_X9_findWays_J116 at h
  refine lv_aload_n hx hb dX9_findWays_116 rfl (lv_at hl 0 rfl) ?_
  obtain ⟨u6, hu, h⟩ := k_bd h
  refine k_vWs (As := []) (rest := []) (v := none) (st1 := []) hX hl.1 hZ (c_X9_solve (a_o := a_o) s_o hu) (gv_ wm_198 wm_200 wm_201 wm_11 wm_199) rfl hd_X9_solve ⟨rfl, rfl⟩ 9 0 rfl rfl rfl rfl rfl dX9_findWays_117 rfl ⟨rfl, rfl⟩ rfl (fun H locs hZ => ?_)
  clear hu
  refine lv_aload_n hx hb dX9_findWays_120 rfl (lv_at hl 0 rfl) ?_
  refine k_get hX hZ.1 0 9 rfl rfl iw_X9 35 rfl (wm_126) (v := .int (o_F u6 35)) rfl dX9_findWays_121 ?_
  refine lv_if_ne (tgt := 163) hx hb dX9_findWays_124 (by decide) (fun cd => ?_) (fun cd => ?_)
  · replace h := k_f cd h
    clear cd
    refine lv_iinc (v := (x4 + (1 : Int32))) (lv' := [(4, .int (x4 + (1 : Int32))), (0, .ref (a_o 0)), (1, .int x1), (2, .int x2), (3, .int x3)]) hx hb dX9_findWays_163 hl (k := 4) rfl rfl (by decide) rfl (fun ls hl => ?_)
    refine lv_goto (tgt := 40) hx hb dX9_findWays_166 (by decide) ?_
    exact hrec40 (x1, x2, x3, (x4 + (1 : Int32)), u6) h H locs ls hZ (lv_sub hl [1, 2, 3, 4, 0] rfl)
  · replace h := k_t cd h
    clear cd
    refine lv_iconst (v := 0) hx hb dX9_findWays_127 (by decide) ?_
    refine lv_istore (lv' := [(6, .int (0 : Int32)), (0, .ref (a_o 0)), (1, .int x1), (2, .int x2), (3, .int x3), (4, .int x4)]) hx hb dX9_findWays_128 hl (by decide) rfl (fun ls hl => ?_)
    exact Lp_ok (body := (fun (rec : (Int32 × Int32 × Int32 × Int32 × Int32 × Ob_T) → Option (Int32 × Ob_T)) x => f_X9_findWays_L130 rec40 rec x.1 x.2.1 x.2.2.1 x.2.2.2.1 x.2.2.2.2.1 x.2.2.2.2.2)) (out := out) (fun x => ∀ (H : Heap) (locs : List Loc) (ls : Array Slot), K_S D A s (wd_X9 aC a_o x.2.2.2.2.2) H locs → lv_has ls 7 [(0, .ref (a_o 0)), (1, .int x.1), (2, .int x.2.1), (3, .int x.2.2.1), (4, .int x.2.2.2.1), (6, .int x.2.2.2.2.1)] → W p l e (R_m 5 125) s m args below meth c H locs 0 0 (MQ below (Q_W (some (.int out.1)) D A (wd_X9 aC a_o out.2)) args s 0 0 A) (F0 m 130 ls [])) (fun rec hrec x h H locs ls hZ hl => t_X9_findWays_L130 hX hr hrec40 hrec x.1 x.2.1 x.2.2.1 x.2.2.2.1 x.2.2.2.2.1 x.2.2.2.2.2 h H locs ls hZ hl) FU_ (x1, x2, x3, x4, (0 : Int32), u6) h H locs ls hZ (lv_sub hl [1, 2, 3, 4, 5, 0] rfl)
set_option maxHeartbeats 4000000 in
set_option maxRecDepth 100000 in
theorem t_X9_findWays_L40 {p : Program} {l : Launch} {e : Env} {s : State} {m : MethodId} {args : Array Value} {below : List Frame} {meth : Method} {c : Code} {D : va_G} {aC : Nat → ClassId} {A : Nat → Prop} {a_o : Nat → Nat} {out : Int32 × Ob_T} {rec40 : (Int32 × Int32 × Int32 × Int32 × Ob_T) → Option (Int32 × Ob_T)} (hX : K_X p s m args meth c cX9_findWays 7 WL_ RX9 D aC A) (hr : meth.sig.returnType = (some .int)) (hrec40 : ∀ x : Int32 × Int32 × Int32 × Int32 × Ob_T, rec40 x = some out → ∀ (H : Heap) (locs : List Loc) (ls : Array Slot), K_S D A s (wd_X9 aC a_o x.2.2.2.2) H locs → lv_has ls 7 [(0, .ref (a_o 0)), (1, .int x.1), (2, .int x.2.1), (3, .int x.2.2.1), (4, .int x.2.2.2.1)] → W p l e (R_m 5 125) s m args below meth c H locs 0 0 (MQ below (Q_W (some (.int out.1)) D A (wd_X9 aC a_o out.2)) args s 0 0 A) (F0 m 40 ls [])) (x1 : Int32) (x2 : Int32) (x3 : Int32) (x4 : Int32) (s_o : Ob_T) (h : f_X9_findWays_L40 rec40 x1 x2 x3 x4 s_o = some out) (H : Heap) (locs : List Loc) (ls : Array Slot) (hZ : K_S D A s (wd_X9 aC a_o s_o) H locs) (hl : lv_has ls 7 [(0, .ref (a_o 0)), (1, .int x1), (2, .int x2), (3, .int x3), (4, .int x4)]) : W p l e (R_m 5 125) s m args below meth c H locs 0 0 (MQ below (Q_W (some (.int out.1)) D A (wd_X9 aC a_o out.2)) args s 0 0 A) (F0 m 40 ls []) := by
  obtain ⟨hx, hb, hml, hown, hts, hK, hA, hlk⟩ := id hX
  unfold f_X9_findWays_L40 at h
  refine lv_iload hx hb dX9_findWays_40 (lv_at hl 4 rfl) ?_
  refine lv_iload_n hx hb dX9_findWays_42 rfl (lv_at hl 2 rfl) ?_
  refine lv_icmp_ge (tgt := 169) hx hb dX9_findWays_43 (by decide) (fun cd => ?_) (fun cd => ?_)
  · replace h := k_t cd h
    clear cd
    refine lv_iload_n hx hb dX9_findWays_169 rfl (lv_at hl 3 rfl) ?_
    cases h
    exact k_iretW hX hr hZ dX9_findWays_170
  · replace h := k_f cd h
    clear cd
    refine lv_iload hx hb dX9_findWays_46 (lv_at hl 4 rfl) ?_
    refine lv_istore (lv' := [(5, .int x4), (0, .ref (a_o 0)), (1, .int x1), (2, .int x2), (3, .int x3), (4, .int x4)]) hx hb dX9_findWays_48 hl (by decide) rfl (fun ls hl => ?_)
    refine lv_iconst (v := 3) hx hb dX9_findWays_50 (by decide) ?_
    refine lv_istore (lv' := [(6, .int (3 : Int32)), (5, .int x4), (0, .ref (a_o 0)), (1, .int x1), (2, .int x2), (3, .int x3), (4, .int x4)]) hx hb dX9_findWays_51 hl (by decide) rfl (fun ls hl => ?_)
    exact Lp_ok (body := (fun (rec : (Int32 × Int32 × Int32 × Int32 × Int32 × Int32 × Ob_T) → Option (Int32 × Ob_T)) x => f_X9_findWays_L53 (fun y1 y2 y3 y4 t_o => f_X9_findWays_J116 rec40 y1 y2 y3 y4 t_o) rec x.1 x.2.1 x.2.2.1 x.2.2.2.1 x.2.2.2.2.1 x.2.2.2.2.2.1 x.2.2.2.2.2.2)) (out := out) (fun x => ∀ (H : Heap) (locs : List Loc) (ls : Array Slot), K_S D A s (wd_X9 aC a_o x.2.2.2.2.2.2) H locs → lv_has ls 7 [(0, .ref (a_o 0)), (1, .int x.1), (2, .int x.2.1), (3, .int x.2.2.1), (4, .int x.2.2.2.1), (5, .int x.2.2.2.2.1), (6, .int x.2.2.2.2.2.1)] → W p l e (R_m 5 125) s m args below meth c H locs 0 0 (MQ below (Q_W (some (.int out.1)) D A (wd_X9 aC a_o out.2)) args s 0 0 A) (F0 m 53 ls [])) (fun rec hrec x h H locs ls hZ hl => t_X9_findWays_L53 hX hr (fun y1 y2 y3 y4 t_o h H locs ls hZ hl => t_X9_findWays_J116 hX hr hrec40 y1 y2 y3 y4 t_o h H locs ls hZ (lv_sub hl [0, 1, 2, 3, 4] rfl)) hrec x.1 x.2.1 x.2.2.1 x.2.2.2.1 x.2.2.2.2.1 x.2.2.2.2.2.1 x.2.2.2.2.2.2 h H locs ls hZ hl) FU_ (x1, x2, x3, x4, x4, (3 : Int32), s_o) h H locs ls hZ (lv_sub hl [2, 3, 4, 5, 6, 1, 0] rfl)
set_option maxHeartbeats 4000000 in
set_option maxRecDepth 100000 in
theorem t_X9_findWays_J37 {p : Program} {l : Launch} {e : Env} {s : State} {m : MethodId} {args : Array Value} {below : List Frame} {meth : Method} {c : Code} {D : va_G} {aC : Nat → ClassId} {A : Nat → Prop} {a_o : Nat → Nat} {out : Int32 × Ob_T} (hX : K_X p s m args meth c cX9_findWays 7 WL_ RX9 D aC A) (hr : meth.sig.returnType = (some .int)) (x1 : Int32) (x2 : Int32) (x3 : Int32) (s_o : Ob_T) (h : f_X9_findWays_J37 x1 x2 x3 s_o = some out) (H : Heap) (locs : List Loc) (ls : Array Slot) (hZ : K_S D A s (wd_X9 aC a_o s_o) H locs) (hl : lv_has ls 7 [(0, .ref (a_o 0)), (1, .int x1), (2, .int x2), (3, .int x3)]) : W p l e (R_m 5 125) s m args below meth c H locs 0 0 (MQ below (Q_W (some (.int out.1)) D A (wd_X9 aC a_o out.2)) args s 0 0 A) (F0 m 37 ls []) := by
  obtain ⟨hx, hb, hml, hown, hts, hK, hA, hlk⟩ := id hX
  unfold f_X9_findWays_J37 at h
  refine lv_iconst (v := 0) hx hb dX9_findWays_37 (by decide) ?_
  refine lv_istore (lv' := [(4, .int (0 : Int32)), (0, .ref (a_o 0)), (1, .int x1), (2, .int x2), (3, .int x3)]) hx hb dX9_findWays_38 hl (by decide) rfl (fun ls hl => ?_)
  exact Lp_ok (body := (fun (rec : (Int32 × Int32 × Int32 × Int32 × Ob_T) → Option (Int32 × Ob_T)) x => f_X9_findWays_L40 rec x.1 x.2.1 x.2.2.1 x.2.2.2.1 x.2.2.2.2)) (out := out) (fun x => ∀ (H : Heap) (locs : List Loc) (ls : Array Slot), K_S D A s (wd_X9 aC a_o x.2.2.2.2) H locs → lv_has ls 7 [(0, .ref (a_o 0)), (1, .int x.1), (2, .int x.2.1), (3, .int x.2.2.1), (4, .int x.2.2.2.1)] → W p l e (R_m 5 125) s m args below meth c H locs 0 0 (MQ below (Q_W (some (.int out.1)) D A (wd_X9 aC a_o out.2)) args s 0 0 A) (F0 m 40 ls [])) (fun rec hrec x h H locs ls hZ hl => t_X9_findWays_L40 hX hr hrec x.1 x.2.1 x.2.2.1 x.2.2.2.1 x.2.2.2.2 h H locs ls hZ hl) FU_ (x1, x2, x3, (0 : Int32), s_o) h H locs ls hZ (lv_sub hl [1, 2, 3, 4, 0] rfl)
set_option maxHeartbeats 4000000 in
set_option maxRecDepth 100000 in
theorem c_X9_findWays {l : Launch} {D : va_G} {aC : Nat → ClassId} {a_o : Nat → Nat} (s_o : Ob_T) (x1 : Int32) {out : Int32 × Ob_T} (h : f_X9_findWays s_o x1 = some out) : M_W l yX9_findWays wlX9_findWays 5 125 D aC [.ref (a_o 0), .int x1] (wd_X9 aC a_o s_o) (some (.int out.1)) (wd_X9 aC a_o out.2) := by
  refine k_entW (cc := cX9_findWays) (ret := (some .int)) (maxL := 7) (own := RX9) (by decide) rfl rfl rfl ?_
  intro p e s m below meth c A ls hX hr hZ hl
  have hl : lv_has ls 7 [(0, .ref (a_o 0)), (1, .int x1)] := hl
  generalize ([.ref (a_o 0), .int x1] : List Value).toArray = args at hX ⊢
  obtain ⟨hx, hb, hml, hown, hts, hK, hA, hlk⟩ := id hX
  unfold f_X9_findWays at h
  generalize s.heap = H at hZ ⊢
  generalize ([] : List Loc) = locs at hZ ⊢
  refine lv_iconst (v := 1) hx hb dX9_findWays_0 (by decide) ?_
  refine lv_istore_n (lv' := [(2, .int (1 : Int32)), (0, .ref (a_o 0)), (1, .int x1)]) hx hb dX9_findWays_1 rfl hl (by decide) rfl (fun ls hl => ?_)
  refine lv_iconst (v := 0) hx hb dX9_findWays_2 (by decide) ?_
  refine lv_istore_n (lv' := [(3, .int (0 : Int32)), (2, .int (1 : Int32)), (0, .ref (a_o 0)), (1, .int x1)]) hx hb dX9_findWays_3 rfl hl (by decide) rfl (fun ls hl => ?_)
  refine lv_iconst (v := 0) hx hb dX9_findWays_4 (by decide) ?_
  refine lv_istore (lv' := [(4, .int (0 : Int32)), (3, .int (0 : Int32)), (2, .int (1 : Int32)), (0, .ref (a_o 0)), (1, .int x1)]) hx hb dX9_findWays_5 hl (by decide) rfl (fun ls hl => ?_)
  exact Lp_ok (body := (fun (rec : (Int32 × Int32 × Int32 × Int32 × Ob_T) → Option (Int32 × Ob_T)) x => f_X9_findWays_L7 (fun y1 y2 y3 t_o => f_X9_findWays_J37 y1 y2 y3 t_o) rec x.1 x.2.1 x.2.2.1 x.2.2.2.1 x.2.2.2.2)) (out := out) (fun x => ∀ (H : Heap) (locs : List Loc) (ls : Array Slot), K_S D A s (wd_X9 aC a_o x.2.2.2.2) H locs → lv_has ls 7 [(0, .ref (a_o 0)), (1, .int x.1), (2, .int x.2.1), (3, .int x.2.2.1), (4, .int x.2.2.2.1)] → W p l e (R_m 5 125) s m args below meth c H locs 0 0 (MQ below (Q_W (some (.int out.1)) D A (wd_X9 aC a_o out.2)) args s 0 0 A) (F0 m 7 ls [])) (fun rec hrec x h H locs ls hZ hl => t_X9_findWays_L7 hX hr (fun y1 y2 y3 t_o h H locs ls hZ hl => t_X9_findWays_J37 hX hr y1 y2 y3 t_o h H locs ls hZ (lv_sub hl [0, 1, 2, 3] rfl)) hrec x.1 x.2.1 x.2.2.1 x.2.2.2.1 x.2.2.2.2 h H locs ls hZ hl) FU_ (x1, (1 : Int32), (0 : Int32), (0 : Int32), s_o) h H locs ls hZ (lv_sub hl [3, 4, 2, 1, 0] rfl)
