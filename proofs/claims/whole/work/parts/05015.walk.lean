def wlX9_reads : List Cond := .code yX9_reads cX9_reads 2 (some .boolean) :: WL_
theorem hd_X9_reads : yX9_reads.cls = RX9 ∧ yX9_reads.cls ≠ "java/lang/invoke/MethodHandle" ∧ yX9_reads.cls ≠ "java/lang/invoke/VarHandle" ∧ (parseMethodDescriptor yX9_reads.desc).map (fun d => d.parameters.length) = some 0 := by decide +kernel
theorem dX9_reads_0 : decode cX9_reads 0 = .ok (.iconst 0, 1) := by decide +kernel
theorem dX9_reads_1 : decode cX9_reads 1 = .ok (.istore_n 1, 1) := by decide +kernel
theorem dX9_reads_2 : decode cX9_reads 2 = .ok (.iload_n 1, 1) := by decide +kernel
theorem dX9_reads_3 : decode cX9_reads 3 = .ok (.sipush 150, 3) := by decide +kernel
theorem dX9_reads_6 : decode cX9_reads 6 = .ok (.if_icmp .ge 21, 3) := by decide +kernel
theorem dX9_reads_9 : decode cX9_reads 9 = .ok (.aload_n 0, 1) := by decide +kernel
theorem dX9_reads_10 : decode cX9_reads 10 = .ok (.getfield 13, 3) := by decide +kernel
theorem dX9_reads_13 : decode cX9_reads 13 = .ok (.iload_n 1, 1) := by decide +kernel
theorem dX9_reads_14 : decode cX9_reads 14 = .ok (.aload_n 0, 1) := by decide +kernel
theorem dX9_reads_15 : decode cX9_reads 15 = .ok (.getfield 7, 3) := by decide +kernel
theorem dX9_reads_18 : decode cX9_reads 18 = .ok (.iload_n 1, 1) := by decide +kernel
theorem dX9_reads_19 : decode cX9_reads 19 = .ok (.iaload, 1) := by decide +kernel
theorem dX9_reads_20 : decode cX9_reads 20 = .ok (.iastore, 1) := by decide +kernel
theorem dX9_reads_21 : decode cX9_reads 21 = .ok (.iinc 1 1, 3) := by decide +kernel
theorem dX9_reads_24 : decode cX9_reads 24 = .ok (.goto (-22), 3) := by decide +kernel
theorem dX9_reads_27 : decode cX9_reads 27 = .ok (.aload_n 0, 1) := by decide +kernel
theorem dX9_reads_28 : decode cX9_reads 28 = .ok (.aload_n 0, 1) := by decide +kernel
theorem dX9_reads_29 : decode cX9_reads 29 = .ok (.getfield 170, 3) := by decide +kernel
theorem dX9_reads_32 : decode cX9_reads 32 = .ok (.putfield 144, 3) := by decide +kernel
theorem dX9_reads_35 : decode cX9_reads 35 = .ok (.aload_n 0, 1) := by decide +kernel
theorem dX9_reads_36 : decode cX9_reads 36 = .ok (.iconst 0, 1) := by decide +kernel
theorem dX9_reads_37 : decode cX9_reads 37 = .ok (.putfield 113, 3) := by decide +kernel
theorem dX9_reads_40 : decode cX9_reads 40 = .ok (.aload_n 0, 1) := by decide +kernel
theorem dX9_reads_41 : decode cX9_reads 41 = .ok (.iconst 1, 1) := by decide +kernel
theorem dX9_reads_42 : decode cX9_reads 42 = .ok (.putfield 173, 3) := by decide +kernel
theorem dX9_reads_45 : decode cX9_reads 45 = .ok (.aload_n 0, 1) := by decide +kernel
theorem dX9_reads_46 : decode cX9_reads 46 = .ok (.invokevirtual 129, 3) := by decide +kernel
theorem dX9_reads_49 : decode cX9_reads 49 = .ok (.aload_n 0, 1) := by decide +kernel
theorem dX9_reads_50 : decode cX9_reads 50 = .ok (.invokevirtual 176, 3) := by decide +kernel
theorem dX9_reads_53 : decode cX9_reads 53 = .ok (.istore_n 1, 1) := by decide +kernel
theorem dX9_reads_54 : decode cX9_reads 54 = .ok (.iload_n 1, 1) := by decide +kernel
theorem dX9_reads_55 : decode cX9_reads 55 = .ok (.ifCond .eq 69, 3) := by decide +kernel
theorem dX9_reads_58 : decode cX9_reads 58 = .ok (.aload_n 0, 1) := by decide +kernel
theorem dX9_reads_59 : decode cX9_reads 59 = .ok (.getfield 116, 3) := by decide +kernel
theorem dX9_reads_62 : decode cX9_reads 62 = .ok (.aload_n 0, 1) := by decide +kernel
theorem dX9_reads_63 : decode cX9_reads 63 = .ok (.getfield 101, 3) := by decide +kernel
theorem dX9_reads_66 : decode cX9_reads 66 = .ok (.if_icmp .ge 58, 3) := by decide +kernel
theorem dX9_reads_69 : decode cX9_reads 69 = .ok (.aload_n 0, 1) := by decide +kernel
theorem dX9_reads_70 : decode cX9_reads 70 = .ok (.getfield 173, 3) := by decide +kernel
theorem dX9_reads_73 : decode cX9_reads 73 = .ok (.bipush 24, 2) := by decide +kernel
theorem dX9_reads_75 : decode cX9_reads 75 = .ok (.if_icmp .ge 21, 3) := by decide +kernel
theorem dX9_reads_78 : decode cX9_reads 78 = .ok (.aload_n 0, 1) := by decide +kernel
theorem dX9_reads_79 : decode cX9_reads 79 = .ok (.getfield 29, 3) := by decide +kernel
theorem dX9_reads_82 : decode cX9_reads 82 = .ok (.aload_n 0, 1) := by decide +kernel
theorem dX9_reads_83 : decode cX9_reads 83 = .ok (.getfield 116, 3) := by decide +kernel
theorem dX9_reads_86 : decode cX9_reads 86 = .ok (.iaload, 1) := by decide +kernel
theorem dX9_reads_87 : decode cX9_reads 87 = .ok (.bipush 59, 2) := by decide +kernel
theorem dX9_reads_89 : decode cX9_reads 89 = .ok (.if_icmp .ne 7, 3) := by decide +kernel
theorem dX9_reads_92 : decode cX9_reads 92 = .ok (.iconst 1, 1) := by decide +kernel
theorem dX9_reads_93 : decode cX9_reads 93 = .ok (.goto 4, 3) := by decide +kernel
theorem dX9_reads_96 : decode cX9_reads 96 = .ok (.iconst 0, 1) := by decide +kernel
theorem dX9_reads_97 : decode cX9_reads 97 = .ok (.istore_n 1, 1) := by decide +kernel
theorem dX9_reads_98 : decode cX9_reads 98 = .ok (.iload_n 1, 1) := by decide +kernel
theorem dX9_reads_99 : decode cX9_reads 99 = .ok (.ifCond .eq (-45), 3) := by decide +kernel
theorem dX9_reads_102 : decode cX9_reads 102 = .ok (.aload_n 0, 1) := by decide +kernel
theorem dX9_reads_103 : decode cX9_reads 103 = .ok (.invokevirtual 129, 3) := by decide +kernel
theorem dX9_reads_106 : decode cX9_reads 106 = .ok (.aload_n 0, 1) := by decide +kernel
theorem dX9_reads_107 : decode cX9_reads 107 = .ok (.invokevirtual 176, 3) := by decide +kernel
theorem dX9_reads_110 : decode cX9_reads 110 = .ok (.istore_n 1, 1) := by decide +kernel
theorem dX9_reads_111 : decode cX9_reads 111 = .ok (.aload_n 0, 1) := by decide +kernel
theorem dX9_reads_112 : decode cX9_reads 112 = .ok (.dup, 1) := by decide +kernel
theorem dX9_reads_113 : decode cX9_reads 113 = .ok (.getfield 173, 3) := by decide +kernel
theorem dX9_reads_116 : decode cX9_reads 116 = .ok (.iconst 1, 1) := by decide +kernel
theorem dX9_reads_117 : decode cX9_reads 117 = .ok (.iadd, 1) := by decide +kernel
theorem dX9_reads_118 : decode cX9_reads 118 = .ok (.putfield 173, 3) := by decide +kernel
theorem dX9_reads_121 : decode cX9_reads 121 = .ok (.goto (-67), 3) := by decide +kernel
theorem dX9_reads_124 : decode cX9_reads 124 = .ok (.iload_n 1, 1) := by decide +kernel
theorem dX9_reads_125 : decode cX9_reads 125 = .ok (.ireturn, 1) := by decide +kernel
set_option maxHeartbeats 4000000 in
set_option maxRecDepth 100000 in
theorem t_X9_reads_L2 {p : Program} {l : Launch} {e : Env} {s : State} {m : MethodId} {args : Array Value} {below : List Frame} {meth : Method} {c : Code} {D : va_G} {aC : Nat → ClassId} {A : Nat → Prop} {a_o : Nat → Nat} {out : Int32 × Ob_T} {k27 : Ob_T → Option (Int32 × Ob_T)} {rec2 : (Int32 × Ob_T) → Option (Int32 × Ob_T)} (hX : K_X p s m args meth c cX9_reads 2 WL_ RX9 D aC A) (hr : meth.sig.returnType = (some .boolean)) (hk27 : ∀ (t_o : Ob_T), k27 t_o = some out → ∀ (H : Heap) (locs : List Loc) (ls : Array Slot), K_S D A s (wd_X9 aC a_o t_o) H locs → lv_has ls 2 [(0, .ref (a_o 0))] → W p l e (R_m 7 159) s m args below meth c H locs 0 0 (MQ below (Q_W (some (.int out.1)) D A (wd_X9 aC a_o out.2)) args s 0 0 A) (F0 m 27 ls [])) (hrec2 : ∀ x : Int32 × Ob_T, rec2 x = some out → ∀ (H : Heap) (locs : List Loc) (ls : Array Slot), K_S D A s (wd_X9 aC a_o x.2) H locs → lv_has ls 2 [(0, .ref (a_o 0)), (1, .int x.1)] → W p l e (R_m 7 159) s m args below meth c H locs 0 0 (MQ below (Q_W (some (.int out.1)) D A (wd_X9 aC a_o out.2)) args s 0 0 A) (F0 m 2 ls [])) (x1 : Int32) (s_o : Ob_T) (h : f_X9_reads_L2 k27 rec2 x1 s_o = some out) (H : Heap) (locs : List Loc) (ls : Array Slot) (hZ : K_S D A s (wd_X9 aC a_o s_o) H locs) (hl : lv_has ls 2 [(0, .ref (a_o 0)), (1, .int x1)]) : W p l e (R_m 7 159) s m args below meth c H locs 0 0 (MQ below (Q_W (some (.int out.1)) D A (wd_X9 aC a_o out.2)) args s 0 0 A) (F0 m 2 ls []) := by
  obtain ⟨hx, hb, hml, hown, hts, hK, hA, hlk⟩ := id hX
  unfold f_X9_reads_L2 at h
  refine lv_iload_n hx hb dX9_reads_2 rfl (lv_at hl 1 rfl) ?_
  refine lv_sipush (v := 150) hx hb dX9_reads_3 (by decide) ?_
  refine lv_icmp_ge (tgt := 27) hx hb dX9_reads_6 (by decide) (fun cd => ?_) (fun cd => ?_)
  · replace h := k_t cd h
    clear cd
    exact hk27 s_o h H locs ls hZ (lv_sub hl [0] rfl)
  · replace h := k_f cd h
    clear cd
    refine lv_aload_n hx hb dX9_reads_9 rfl (lv_at hl 0 rfl) ?_
    refine k_get hX hZ.1 0 9 rfl rfl iw_X9 1 rfl (wm_31) (v := .ref (a_o 2)) rfl dX9_reads_10 ?_
    refine lv_iload_n hx hb dX9_reads_13 rfl (lv_at hl 1 rfl) ?_
    refine lv_aload_n hx hb dX9_reads_14 rfl (lv_at hl 0 rfl) ?_
    refine k_get hX hZ.1 0 9 rfl rfl iw_X9 0 rfl (wm_107) (v := .ref (a_o 1)) rfl dX9_reads_15 ?_
    refine lv_iload_n hx hb dX9_reads_18 rfl (lv_at hl 1 rfl) ?_
    refine k_iald hX hZ.1 1 rfl h dX9_reads_19 (fun v1 h => ?_)
    refine k_iast (wf := (fun o => wd_X9 aC a_o o)) (o := s_o) hX hZ 2 1 rfl (fun _ => rfl) h dX9_reads_20 (fun o2 H locs hZ h => ?_)
    refine lv_iinc (v := (x1 + (1 : Int32))) (lv' := [(1, .int (x1 + (1 : Int32))), (0, .ref (a_o 0))]) hx hb dX9_reads_21 hl (k := 1) rfl rfl (by decide) rfl (fun ls hl => ?_)
    refine lv_goto (tgt := 2) hx hb dX9_reads_24 (by decide) ?_
    exact hrec2 ((x1 + (1 : Int32)), o2) h H locs ls hZ (lv_sub hl [1, 0] rfl)
set_option maxHeartbeats 4000000 in
set_option maxRecDepth 100000 in
theorem t_X9_reads_J97 {p : Program} {l : Launch} {e : Env} {s : State} {m : MethodId} {args : Array Value} {below : List Frame} {meth : Method} {c : Code} {D : va_G} {aC : Nat → ClassId} {A : Nat → Prop} {a_o : Nat → Nat} {out : Int32 × Ob_T} {rec54 : (Int32 × Ob_T) → Option (Int32 × Ob_T)} (hX : K_X p s m args meth c cX9_reads 2 WL_ RX9 D aC A) (hr : meth.sig.returnType = (some .boolean)) (hrec54 : ∀ x : Int32 × Ob_T, rec54 x = some out → ∀ (H : Heap) (locs : List Loc) (ls : Array Slot), K_S D A s (wd_X9 aC a_o x.2) H locs → lv_has ls 2 [(0, .ref (a_o 0)), (1, .int x.1)] → W p l e (R_m 7 159) s m args below meth c H locs 0 0 (MQ below (Q_W (some (.int out.1)) D A (wd_X9 aC a_o out.2)) args s 0 0 A) (F0 m 54 ls [])) (k0 : Int32) (s_o : Ob_T) (h : f_X9_reads_J97 rec54 k0 s_o = some out) (H : Heap) (locs : List Loc) (ls : Array Slot) (hZ : K_S D A s (wd_X9 aC a_o s_o) H locs) (hl : lv_has ls 2 [(0, .ref (a_o 0))]) : W p l e (R_m 7 159) s m args below meth c H locs 0 0 (MQ below (Q_W (some (.int out.1)) D A (wd_X9 aC a_o out.2)) args s 0 0 A) (F0 m 97 ls [.int k0]) := by
  obtain ⟨hx, hb, hml, hown, hts, hK, hA, hlk⟩ := id hX
  unfold f_X9_reads_J97 at h
  refine lv_istore_n (lv' := [(1, .int k0), (0, .ref (a_o 0))]) hx hb dX9_reads_97 rfl hl (by decide) rfl (fun ls hl => ?_)
  refine lv_iload_n hx hb dX9_reads_98 rfl (lv_at hl 0 rfl) ?_
  refine lv_if_eq (tgt := 54) hx hb dX9_reads_99 (by decide) (fun cd => ?_) (fun cd => ?_)
  · replace h := k_t cd h
    clear cd
    exact hrec54 (k0, s_o) h H locs ls hZ (lv_sub hl [1, 0] rfl)
  · replace h := k_f cd h
    clear cd
    refine lv_aload_n hx hb dX9_reads_102 rfl (lv_at hl 1 rfl) ?_
    obtain ⟨u10, hu, h⟩ := k_bd h
    refine k_vWs (As := []) (rest := []) (v := none) (st1 := []) hX hl.1 hZ (c_X9_nextToken (a_o := a_o) s_o hu) (gv_ wm_26 wm_28 wm_29 wm_11 wm_27) rfl hd_X9_nextToken ⟨rfl, rfl⟩ 9 0 rfl rfl rfl rfl rfl dX9_reads_103 rfl ⟨rfl, rfl⟩ rfl (fun H locs hZ => ?_)
    clear hu
    refine lv_aload_n hx hb dX9_reads_106 rfl (lv_at hl 1 rfl) ?_
    obtain ⟨u11, hu, h⟩ := k_bd h
    refine k_vWs (As := []) (rest := []) (v := some (.int u11.1)) (st1 := [.int u11.1]) hX hl.1 hZ (c_X9_readsClause (a_o := a_o) u10 hu) (gv_ wm_110 wm_112 wm_113 wm_11 wm_111) rfl hd_X9_readsClause ⟨rfl, rfl⟩ 9 0 rfl rfl rfl rfl rfl dX9_reads_107 rfl ⟨rfl, rfl⟩ rfl (fun H locs hZ => ?_)
    clear hu
    refine lv_istore_n (lv' := [(1, .int u11.1), (0, .ref (a_o 0))]) hx hb dX9_reads_110 rfl hl (by decide) rfl (fun ls hl => ?_)
    refine lv_aload_n hx hb dX9_reads_111 rfl (lv_at hl 1 rfl) ?_
    refine lv_dup hx hb dX9_reads_112 rfl ?_
    refine k_get hX hZ.1 0 9 rfl rfl iw_X9 20 rfl (wm_109) (v := .int (o_F u11.2 20)) rfl dX9_reads_113 ?_
    refine lv_iconst (v := 1) hx hb dX9_reads_116 (by decide) ?_
    refine lv_iadd hx hb dX9_reads_117 ?_
    refine k_put (wf := (fun o => wd_X9 aC a_o o)) (o := u11.2) hX hZ 0 9 rfl rfl iw_X9 tyX9 tyX9_ok nmX9 20 rfl (wm_109) rfl rfl rfl rfl rfl h dX9_reads_118 (fun o12 H locs hZ h => ?_)
    refine lv_goto (tgt := 54) hx hb dX9_reads_121 (by decide) ?_
    exact hrec54 (u11.1, o12) h H locs ls hZ (lv_sub hl [1, 0] rfl)
set_option maxHeartbeats 4000000 in
set_option maxRecDepth 100000 in
theorem t_X9_reads_J96 {p : Program} {l : Launch} {e : Env} {s : State} {m : MethodId} {args : Array Value} {below : List Frame} {meth : Method} {c : Code} {D : va_G} {aC : Nat → ClassId} {A : Nat → Prop} {a_o : Nat → Nat} {out : Int32 × Ob_T} {rec54 : (Int32 × Ob_T) → Option (Int32 × Ob_T)} (hX : K_X p s m args meth c cX9_reads 2 WL_ RX9 D aC A) (hr : meth.sig.returnType = (some .boolean)) (hrec54 : ∀ x : Int32 × Ob_T, rec54 x = some out → ∀ (H : Heap) (locs : List Loc) (ls : Array Slot), K_S D A s (wd_X9 aC a_o x.2) H locs → lv_has ls 2 [(0, .ref (a_o 0)), (1, .int x.1)] → W p l e (R_m 7 159) s m args below meth c H locs 0 0 (MQ below (Q_W (some (.int out.1)) D A (wd_X9 aC a_o out.2)) args s 0 0 A) (F0 m 54 ls [])) (s_o : Ob_T) (h : f_X9_reads_J96 rec54 s_o = some out) (H : Heap) (locs : List Loc) (ls : Array Slot) (hZ : K_S D A s (wd_X9 aC a_o s_o) H locs) (hl : lv_has ls 2 [(0, .ref (a_o 0))]) : W p l e (R_m 7 159) s m args below meth c H locs 0 0 (MQ below (Q_W (some (.int out.1)) D A (wd_X9 aC a_o out.2)) args s 0 0 A) (F0 m 96 ls []) := by
  obtain ⟨hx, hb, hml, hown, hts, hK, hA, hlk⟩ := id hX
  unfold f_X9_reads_J96 at h
  refine lv_iconst (v := 0) hx hb dX9_reads_96 (by decide) ?_
  exact t_X9_reads_J97 hX hr hrec54 (0 : Int32) s_o h H locs ls hZ (lv_sub hl [0] rfl)
set_option maxHeartbeats 4000000 in
set_option maxRecDepth 100000 in
theorem t_X9_reads_L54 {p : Program} {l : Launch} {e : Env} {s : State} {m : MethodId} {args : Array Value} {below : List Frame} {meth : Method} {c : Code} {D : va_G} {aC : Nat → ClassId} {A : Nat → Prop} {a_o : Nat → Nat} {out : Int32 × Ob_T} {rec54 : (Int32 × Ob_T) → Option (Int32 × Ob_T)} (hX : K_X p s m args meth c cX9_reads 2 WL_ RX9 D aC A) (hr : meth.sig.returnType = (some .boolean)) (hrec54 : ∀ x : Int32 × Ob_T, rec54 x = some out → ∀ (H : Heap) (locs : List Loc) (ls : Array Slot), K_S D A s (wd_X9 aC a_o x.2) H locs → lv_has ls 2 [(0, .ref (a_o 0)), (1, .int x.1)] → W p l e (R_m 7 159) s m args below meth c H locs 0 0 (MQ below (Q_W (some (.int out.1)) D A (wd_X9 aC a_o out.2)) args s 0 0 A) (F0 m 54 ls [])) (x1 : Int32) (s_o : Ob_T) (h : f_X9_reads_L54 rec54 x1 s_o = some out) (H : Heap) (locs : List Loc) (ls : Array Slot) (hZ : K_S D A s (wd_X9 aC a_o s_o) H locs) (hl : lv_has ls 2 [(0, .ref (a_o 0)), (1, .int x1)]) : W p l e (R_m 7 159) s m args below meth c H locs 0 0 (MQ below (Q_W (some (.int out.1)) D A (wd_X9 aC a_o out.2)) args s 0 0 A) (F0 m 54 ls []) := by
  obtain ⟨hx, hb, hml, hown, hts, hK, hA, hlk⟩ := id hX
  unfold f_X9_reads_L54 at h
  refine lv_iload_n hx hb dX9_reads_54 rfl (lv_at hl 1 rfl) ?_
  refine lv_if_eq (tgt := 124) hx hb dX9_reads_55 (by decide) (fun cd => ?_) (fun cd => ?_)
  · replace h := k_t cd h
    clear cd
    refine lv_iload_n hx hb dX9_reads_124 rfl (lv_at hl 1 rfl) ?_
    obtain ⟨b8, hb0, h⟩ := k_bd h
    obtain ⟨hb1, hb2, hb3⟩ := k_zb hb0
    clear hb0
    cases h
    exact k_zretW hX hr hb2 hZ dX9_reads_125
  · replace h := k_f cd h
    clear cd
    refine lv_aload_n hx hb dX9_reads_58 rfl (lv_at hl 0 rfl) ?_
    refine k_get hX hZ.1 0 9 rfl rfl iw_X9 18 rfl (wm_19) (v := .int (o_F s_o 18)) rfl dX9_reads_59 ?_
    refine lv_aload_n hx hb dX9_reads_62 rfl (lv_at hl 0 rfl) ?_
    refine k_get hX hZ.1 0 9 rfl rfl iw_X9 10 rfl (wm_8) (v := .int (o_F s_o 10)) rfl dX9_reads_63 ?_
    refine lv_icmp_ge (tgt := 124) hx hb dX9_reads_66 (by decide) (fun cd => ?_) (fun cd => ?_)
    · replace h := k_t cd h
      clear cd
      refine lv_iload_n hx hb dX9_reads_124 rfl (lv_at hl 1 rfl) ?_
      obtain ⟨b9, hb0, h⟩ := k_bd h
      obtain ⟨hb1, hb2, hb3⟩ := k_zb hb0
      clear hb0
      cases h
      exact k_zretW hX hr hb2 hZ dX9_reads_125
    · replace h := k_f cd h
      clear cd
      refine lv_aload_n hx hb dX9_reads_69 rfl (lv_at hl 0 rfl) ?_
      refine k_get hX hZ.1 0 9 rfl rfl iw_X9 20 rfl (wm_109) (v := .int (o_F s_o 20)) rfl dX9_reads_70 ?_
      refine lv_bipush (v := 24) hx hb dX9_reads_73 (by decide) ?_
      refine lv_icmp_ge (tgt := 96) hx hb dX9_reads_75 (by decide) (fun cd => ?_) (fun cd => ?_)
      · replace h := k_t cd h
        clear cd
        exact t_X9_reads_J96 hX hr hrec54 s_o h H locs ls hZ (lv_sub hl [0] rfl)
      · replace h := k_f cd h
        clear cd
        refine lv_aload_n hx hb dX9_reads_78 rfl (lv_at hl 0 rfl) ?_
        refine k_get hX hZ.1 0 9 rfl rfl iw_X9 9 rfl (wm_9) (v := .ref (a_o 7)) rfl dX9_reads_79 ?_
        refine lv_aload_n hx hb dX9_reads_82 rfl (lv_at hl 0 rfl) ?_
        refine k_get hX hZ.1 0 9 rfl rfl iw_X9 18 rfl (wm_19) (v := .int (o_F s_o 18)) rfl dX9_reads_83 ?_
        refine k_iald hX hZ.1 7 rfl h dX9_reads_86 (fun v13 h => ?_)
        refine lv_bipush (v := 59) hx hb dX9_reads_87 (by decide) ?_
        refine lv_icmp_ne (tgt := 96) hx hb dX9_reads_89 (by decide) (fun cd => ?_) (fun cd => ?_)
        · replace h := k_f cd h
          clear cd
          exact t_X9_reads_J96 hX hr hrec54 s_o h H locs ls hZ (lv_sub hl [0] rfl)
        · replace h := k_t cd h
          clear cd
          refine lv_iconst (v := 1) hx hb dX9_reads_92 (by decide) ?_
          refine lv_goto (tgt := 97) hx hb dX9_reads_93 (by decide) ?_
          exact t_X9_reads_J97 hX hr hrec54 (1 : Int32) s_o h H locs ls hZ (lv_sub hl [0] rfl)
set_option maxHeartbeats 4000000 in
set_option maxRecDepth 100000 in
theorem t_X9_reads_J27 {p : Program} {l : Launch} {e : Env} {s : State} {m : MethodId} {args : Array Value} {below : List Frame} {meth : Method} {c : Code} {D : va_G} {aC : Nat → ClassId} {A : Nat → Prop} {a_o : Nat → Nat} {out : Int32 × Ob_T} (hX : K_X p s m args meth c cX9_reads 2 WL_ RX9 D aC A) (hr : meth.sig.returnType = (some .boolean)) (s_o : Ob_T) (h : f_X9_reads_J27 s_o = some out) (H : Heap) (locs : List Loc) (ls : Array Slot) (hZ : K_S D A s (wd_X9 aC a_o s_o) H locs) (hl : lv_has ls 2 [(0, .ref (a_o 0))]) : W p l e (R_m 7 159) s m args below meth c H locs 0 0 (MQ below (Q_W (some (.int out.1)) D A (wd_X9 aC a_o out.2)) args s 0 0 A) (F0 m 27 ls []) := by
  obtain ⟨hx, hb, hml, hown, hts, hK, hA, hlk⟩ := id hX
  unfold f_X9_reads_J27 at h
  refine lv_aload_n hx hb dX9_reads_27 rfl (lv_at hl 0 rfl) ?_
  refine lv_aload_n hx hb dX9_reads_28 rfl (lv_at hl 0 rfl) ?_
  refine k_get hX hZ.1 0 9 rfl rfl iw_X9 2 rfl (wm_108) (v := .int (o_F s_o 2)) rfl dX9_reads_29 ?_
  refine k_put (wf := (fun o => wd_X9 aC a_o o)) (o := s_o) hX hZ 0 9 rfl rfl iw_X9 tyX9 tyX9_ok nmX9 3 rfl (wm_42) rfl rfl rfl rfl rfl h dX9_reads_32 (fun o3 H locs hZ h => ?_)
  refine lv_aload_n hx hb dX9_reads_35 rfl (lv_at hl 0 rfl) ?_
  refine lv_iconst (v := 0) hx hb dX9_reads_36 (by decide) ?_
  refine k_put (wf := (fun o => wd_X9 aC a_o o)) (o := o3) hX hZ 0 9 rfl rfl iw_X9 tyX9 tyX9_ok nmX9 19 rfl (wm_18) rfl rfl rfl rfl rfl h dX9_reads_37 (fun o4 H locs hZ h => ?_)
  refine lv_aload_n hx hb dX9_reads_40 rfl (lv_at hl 0 rfl) ?_
  refine lv_iconst (v := 1) hx hb dX9_reads_41 (by decide) ?_
  refine k_put (wf := (fun o => wd_X9 aC a_o o)) (o := o4) hX hZ 0 9 rfl rfl iw_X9 tyX9 tyX9_ok nmX9 20 rfl (wm_109) rfl rfl rfl rfl rfl h dX9_reads_42 (fun o5 H locs hZ h => ?_)
  refine lv_aload_n hx hb dX9_reads_45 rfl (lv_at hl 0 rfl) ?_
  obtain ⟨u6, hu, h⟩ := k_bd h
  refine k_vWs (As := []) (rest := []) (v := none) (st1 := []) hX hl.1 hZ (c_X9_nextToken (a_o := a_o) o5 hu) (gv_ wm_26 wm_28 wm_29 wm_11 wm_27) rfl hd_X9_nextToken ⟨rfl, rfl⟩ 9 0 rfl rfl rfl rfl rfl dX9_reads_46 rfl ⟨rfl, rfl⟩ rfl (fun H locs hZ => ?_)
  clear hu
  refine lv_aload_n hx hb dX9_reads_49 rfl (lv_at hl 0 rfl) ?_
  obtain ⟨u7, hu, h⟩ := k_bd h
  refine k_vWs (As := []) (rest := []) (v := some (.int u7.1)) (st1 := [.int u7.1]) hX hl.1 hZ (c_X9_readsClause (a_o := a_o) u6 hu) (gv_ wm_110 wm_112 wm_113 wm_11 wm_111) rfl hd_X9_readsClause ⟨rfl, rfl⟩ 9 0 rfl rfl rfl rfl rfl dX9_reads_50 rfl ⟨rfl, rfl⟩ rfl (fun H locs hZ => ?_)
  clear hu
  refine lv_istore_n (lv' := [(1, .int u7.1), (0, .ref (a_o 0))]) hx hb dX9_reads_53 rfl hl (by decide) rfl (fun ls hl => ?_)
  exact Lp_ok (body := (fun (rec : (Int32 × Ob_T) → Option (Int32 × Ob_T)) x => f_X9_reads_L54 rec x.1 x.2)) (out := out) (fun x => ∀ (H : Heap) (locs : List Loc) (ls : Array Slot), K_S D A s (wd_X9 aC a_o x.2) H locs → lv_has ls 2 [(0, .ref (a_o 0)), (1, .int x.1)] → W p l e (R_m 7 159) s m args below meth c H locs 0 0 (MQ below (Q_W (some (.int out.1)) D A (wd_X9 aC a_o out.2)) args s 0 0 A) (F0 m 54 ls [])) (fun rec hrec x h H locs ls hZ hl => t_X9_reads_L54 hX hr hrec x.1 x.2 h H locs ls hZ hl) FU_ (u7.1, u7.2) h H locs ls hZ (lv_sub hl [1, 0] rfl)
set_option maxHeartbeats 4000000 in
set_option maxRecDepth 100000 in
theorem c_X9_reads {l : Launch} {D : va_G} {aC : Nat → ClassId} {a_o : Nat → Nat} (s_o : Ob_T) {out : Int32 × Ob_T} (h : f_X9_reads s_o = some out) : M_W l yX9_reads wlX9_reads 7 159 D aC [.ref (a_o 0)] (wd_X9 aC a_o s_o) (some (.int out.1)) (wd_X9 aC a_o out.2) := by
  refine k_entW (cc := cX9_reads) (ret := (some .boolean)) (maxL := 2) (own := RX9) (by decide) rfl rfl rfl ?_
  intro p e s m below meth c A ls hX hr hZ hl
  have hl : lv_has ls 2 [(0, .ref (a_o 0))] := hl
  generalize ([.ref (a_o 0)] : List Value).toArray = args at hX ⊢
  obtain ⟨hx, hb, hml, hown, hts, hK, hA, hlk⟩ := id hX
  unfold f_X9_reads at h
  generalize s.heap = H at hZ ⊢
  generalize ([] : List Loc) = locs at hZ ⊢
  refine lv_iconst (v := 0) hx hb dX9_reads_0 (by decide) ?_
  refine lv_istore_n (lv' := [(1, .int (0 : Int32)), (0, .ref (a_o 0))]) hx hb dX9_reads_1 rfl hl (by decide) rfl (fun ls hl => ?_)
  exact Lp_ok (body := (fun (rec : (Int32 × Ob_T) → Option (Int32 × Ob_T)) x => f_X9_reads_L2 (fun t_o => f_X9_reads_J27 t_o) rec x.1 x.2)) (out := out) (fun x => ∀ (H : Heap) (locs : List Loc) (ls : Array Slot), K_S D A s (wd_X9 aC a_o x.2) H locs → lv_has ls 2 [(0, .ref (a_o 0)), (1, .int x.1)] → W p l e (R_m 7 159) s m args below meth c H locs 0 0 (MQ below (Q_W (some (.int out.1)) D A (wd_X9 aC a_o out.2)) args s 0 0 A) (F0 m 2 ls [])) (fun rec hrec x h H locs ls hZ hl => t_X9_reads_L2 hX hr (fun t_o h H locs ls hZ hl => t_X9_reads_J27 hX hr t_o h H locs ls hZ (lv_sub hl [0] rfl)) hrec x.1 x.2 h H locs ls hZ hl) FU_ ((0 : Int32), s_o) h H locs ls hZ (lv_sub hl [1, 0] rfl)
