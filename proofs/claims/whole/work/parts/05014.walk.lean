def wlX9_readsClause : List Cond := .code yX9_readsClause cX9_readsClause 5 (some .boolean) :: WL_
theorem hd_X9_readsClause : yX9_readsClause.cls = RX9 ∧ yX9_readsClause.cls ≠ "java/lang/invoke/MethodHandle" ∧ yX9_readsClause.cls ≠ "java/lang/invoke/VarHandle" ∧ (parseMethodDescriptor yX9_readsClause.desc).map (fun d => d.parameters.length) = some 0 := by decide +kernel
theorem dX9_readsClause_0 : decode cX9_readsClause 0 = .ok (.aload_n 0, 1) := by decide +kernel
theorem dX9_readsClause_1 : decode cX9_readsClause 1 = .ok (.aload_n 0, 1) := by decide +kernel
theorem dX9_readsClause_2 : decode cX9_readsClause 2 = .ok (.getfield 50, 3) := by decide +kernel
theorem dX9_readsClause_5 : decode cX9_readsClause 5 = .ok (.invokevirtual 147, 3) := by decide +kernel
theorem dX9_readsClause_8 : decode cX9_readsClause 8 = .ok (.ifCond .eq 14, 3) := by decide +kernel
theorem dX9_readsClause_11 : decode cX9_readsClause 11 = .ok (.aload_n 0, 1) := by decide +kernel
theorem dX9_readsClause_12 : decode cX9_readsClause 12 = .ok (.invokevirtual 129, 3) := by decide +kernel
theorem dX9_readsClause_15 : decode cX9_readsClause 15 = .ok (.aload_n 0, 1) := by decide +kernel
theorem dX9_readsClause_16 : decode cX9_readsClause 16 = .ok (.iconst 0, 1) := by decide +kernel
theorem dX9_readsClause_17 : decode cX9_readsClause 17 = .ok (.putfield 144, 3) := by decide +kernel
theorem dX9_readsClause_20 : decode cX9_readsClause 20 = .ok (.iconst 1, 1) := by decide +kernel
theorem dX9_readsClause_21 : decode cX9_readsClause 21 = .ok (.ireturn, 1) := by decide +kernel
theorem dX9_readsClause_22 : decode cX9_readsClause 22 = .ok (.aload_n 0, 1) := by decide +kernel
theorem dX9_readsClause_23 : decode cX9_readsClause 23 = .ok (.invokevirtual 160, 3) := by decide +kernel
theorem dX9_readsClause_26 : decode cX9_readsClause 26 = .ok (.istore_n 1, 1) := by decide +kernel
theorem dX9_readsClause_27 : decode cX9_readsClause 27 = .ok (.iload_n 1, 1) := by decide +kernel
theorem dX9_readsClause_28 : decode cX9_readsClause 28 = .ok (.iconst (-1), 1) := by decide +kernel
theorem dX9_readsClause_29 : decode cX9_readsClause 29 = .ok (.if_icmp .eq 12, 3) := by decide +kernel
theorem dX9_readsClause_32 : decode cX9_readsClause 32 = .ok (.aload_n 0, 1) := by decide +kernel
theorem dX9_readsClause_33 : decode cX9_readsClause 33 = .ok (.getfield 144, 3) := by decide +kernel
theorem dX9_readsClause_36 : decode cX9_readsClause 36 = .ok (.bipush 10, 2) := by decide +kernel
theorem dX9_readsClause_38 : decode cX9_readsClause 38 = .ok (.if_icmp .ne 5, 3) := by decide +kernel
theorem dX9_readsClause_41 : decode cX9_readsClause 41 = .ok (.iconst 0, 1) := by decide +kernel
theorem dX9_readsClause_42 : decode cX9_readsClause 42 = .ok (.ireturn, 1) := by decide +kernel
theorem dX9_readsClause_43 : decode cX9_readsClause 43 = .ok (.aload_n 0, 1) := by decide +kernel
theorem dX9_readsClause_44 : decode cX9_readsClause 44 = .ok (.getfield 116, 3) := by decide +kernel
theorem dX9_readsClause_47 : decode cX9_readsClause 47 = .ok (.istore_n 2, 1) := by decide +kernel
theorem dX9_readsClause_48 : decode cX9_readsClause 48 = .ok (.bipush 15, 2) := by decide +kernel
theorem dX9_readsClause_50 : decode cX9_readsClause 50 = .ok (.aload_n 0, 1) := by decide +kernel
theorem dX9_readsClause_51 : decode cX9_readsClause 51 = .ok (.getfield 144, 3) := by decide +kernel
theorem dX9_readsClause_54 : decode cX9_readsClause 54 = .ok (.imul, 1) := by decide +kernel
theorem dX9_readsClause_55 : decode cX9_readsClause 55 = .ok (.istore_n 3, 1) := by decide +kernel
theorem dX9_readsClause_56 : decode cX9_readsClause 56 = .ok (.iconst 0, 1) := by decide +kernel
theorem dX9_readsClause_57 : decode cX9_readsClause 57 = .ok (.istore 4, 2) := by decide +kernel
theorem dX9_readsClause_59 : decode cX9_readsClause 59 = .ok (.iload 4, 2) := by decide +kernel
theorem dX9_readsClause_61 : decode cX9_readsClause 61 = .ok (.bipush 15, 2) := by decide +kernel
theorem dX9_readsClause_63 : decode cX9_readsClause 63 = .ok (.if_icmp .ge 19, 3) := by decide +kernel
theorem dX9_readsClause_66 : decode cX9_readsClause 66 = .ok (.aload_n 0, 1) := by decide +kernel
theorem dX9_readsClause_67 : decode cX9_readsClause 67 = .ok (.getfield 13, 3) := by decide +kernel
theorem dX9_readsClause_70 : decode cX9_readsClause 70 = .ok (.iload_n 3, 1) := by decide +kernel
theorem dX9_readsClause_71 : decode cX9_readsClause 71 = .ok (.iload 4, 2) := by decide +kernel
theorem dX9_readsClause_73 : decode cX9_readsClause 73 = .ok (.iadd, 1) := by decide +kernel
theorem dX9_readsClause_74 : decode cX9_readsClause 74 = .ok (.iconst (-1), 1) := by decide +kernel
theorem dX9_readsClause_75 : decode cX9_readsClause 75 = .ok (.iastore, 1) := by decide +kernel
theorem dX9_readsClause_76 : decode cX9_readsClause 76 = .ok (.iinc 4 1, 3) := by decide +kernel
theorem dX9_readsClause_79 : decode cX9_readsClause 79 = .ok (.goto (-20), 3) := by decide +kernel
theorem dX9_readsClause_82 : decode cX9_readsClause 82 = .ok (.aload_n 0, 1) := by decide +kernel
theorem dX9_readsClause_83 : decode cX9_readsClause 83 = .ok (.getfield 13, 3) := by decide +kernel
theorem dX9_readsClause_86 : decode cX9_readsClause 86 = .ok (.iload_n 3, 1) := by decide +kernel
theorem dX9_readsClause_87 : decode cX9_readsClause 87 = .ok (.iconst 0, 1) := by decide +kernel
theorem dX9_readsClause_88 : decode cX9_readsClause 88 = .ok (.iadd, 1) := by decide +kernel
theorem dX9_readsClause_89 : decode cX9_readsClause 89 = .ok (.iload_n 1, 1) := by decide +kernel
theorem dX9_readsClause_90 : decode cX9_readsClause 90 = .ok (.iastore, 1) := by decide +kernel
theorem dX9_readsClause_91 : decode cX9_readsClause 91 = .ok (.aload_n 0, 1) := by decide +kernel
theorem dX9_readsClause_92 : decode cX9_readsClause 92 = .ok (.getfield 13, 3) := by decide +kernel
theorem dX9_readsClause_95 : decode cX9_readsClause 95 = .ok (.iload_n 3, 1) := by decide +kernel
theorem dX9_readsClause_96 : decode cX9_readsClause 96 = .ok (.iconst 4, 1) := by decide +kernel
theorem dX9_readsClause_97 : decode cX9_readsClause 97 = .ok (.iadd, 1) := by decide +kernel
theorem dX9_readsClause_98 : decode cX9_readsClause 98 = .ok (.iconst 0, 1) := by decide +kernel
theorem dX9_readsClause_99 : decode cX9_readsClause 99 = .ok (.iastore, 1) := by decide +kernel
theorem dX9_readsClause_100 : decode cX9_readsClause 100 = .ok (.aload_n 0, 1) := by decide +kernel
theorem dX9_readsClause_101 : decode cX9_readsClause 101 = .ok (.invokevirtual 129, 3) := by decide +kernel
theorem dX9_readsClause_104 : decode cX9_readsClause 104 = .ok (.aload_n 0, 1) := by decide +kernel
theorem dX9_readsClause_105 : decode cX9_readsClause 105 = .ok (.iload_n 3, 1) := by decide +kernel
theorem dX9_readsClause_106 : decode cX9_readsClause 106 = .ok (.iload_n 1, 1) := by decide +kernel
theorem dX9_readsClause_107 : decode cX9_readsClause 107 = .ok (.invokevirtual 164, 3) := by decide +kernel
theorem dX9_readsClause_110 : decode cX9_readsClause 110 = .ok (.ifCond .ne 5, 3) := by decide +kernel
theorem dX9_readsClause_113 : decode cX9_readsClause 113 = .ok (.iconst 0, 1) := by decide +kernel
theorem dX9_readsClause_114 : decode cX9_readsClause 114 = .ok (.ireturn, 1) := by decide +kernel
theorem dX9_readsClause_115 : decode cX9_readsClause 115 = .ok (.aload_n 0, 1) := by decide +kernel
theorem dX9_readsClause_116 : decode cX9_readsClause 116 = .ok (.aload_n 0, 1) := by decide +kernel
theorem dX9_readsClause_117 : decode cX9_readsClause 117 = .ok (.getfield 144, 3) := by decide +kernel
theorem dX9_readsClause_120 : decode cX9_readsClause 120 = .ok (.invokevirtual 167, 3) := by decide +kernel
theorem dX9_readsClause_123 : decode cX9_readsClause 123 = .ok (.ifCond .ne 10, 3) := by decide +kernel
theorem dX9_readsClause_126 : decode cX9_readsClause 126 = .ok (.aload_n 0, 1) := by decide +kernel
theorem dX9_readsClause_127 : decode cX9_readsClause 127 = .ok (.iload_n 2, 1) := by decide +kernel
theorem dX9_readsClause_128 : decode cX9_readsClause 128 = .ok (.putfield 116, 3) := by decide +kernel
theorem dX9_readsClause_131 : decode cX9_readsClause 131 = .ok (.iconst 0, 1) := by decide +kernel
theorem dX9_readsClause_132 : decode cX9_readsClause 132 = .ok (.ireturn, 1) := by decide +kernel
theorem dX9_readsClause_133 : decode cX9_readsClause 133 = .ok (.aload_n 0, 1) := by decide +kernel
theorem dX9_readsClause_134 : decode cX9_readsClause 134 = .ok (.dup, 1) := by decide +kernel
theorem dX9_readsClause_135 : decode cX9_readsClause 135 = .ok (.getfield 144, 3) := by decide +kernel
theorem dX9_readsClause_138 : decode cX9_readsClause 138 = .ok (.iconst 1, 1) := by decide +kernel
theorem dX9_readsClause_139 : decode cX9_readsClause 139 = .ok (.iadd, 1) := by decide +kernel
theorem dX9_readsClause_140 : decode cX9_readsClause 140 = .ok (.putfield 144, 3) := by decide +kernel
theorem dX9_readsClause_143 : decode cX9_readsClause 143 = .ok (.iconst 1, 1) := by decide +kernel
theorem dX9_readsClause_144 : decode cX9_readsClause 144 = .ok (.ireturn, 1) := by decide +kernel
set_option maxHeartbeats 4000000 in
set_option maxRecDepth 100000 in
theorem t_X9_readsClause_L59 {p : Program} {l : Launch} {e : Env} {s : State} {m : MethodId} {args : Array Value} {below : List Frame} {meth : Method} {c : Code} {D : va_G} {aC : Nat → ClassId} {A : Nat → Prop} {a_o : Nat → Nat} {out : Int32 × Ob_T} {k82 : Int32 → Int32 → Int32 → Ob_T → Option (Int32 × Ob_T)} {rec59 : (Int32 × Int32 × Int32 × Int32 × Ob_T) → Option (Int32 × Ob_T)} (hX : K_X p s m args meth c cX9_readsClause 5 WL_ RX9 D aC A) (hr : meth.sig.returnType = (some .boolean)) (hk82 : ∀ (y1 : Int32) (y2 : Int32) (y3 : Int32) (t_o : Ob_T), k82 y1 y2 y3 t_o = some out → ∀ (H : Heap) (locs : List Loc) (ls : Array Slot), K_S D A s (wd_X9 aC a_o t_o) H locs → lv_has ls 5 [(0, .ref (a_o 0)), (1, .int y1), (2, .int y2), (3, .int y3)] → W p l e (R_m 6 135) s m args below meth c H locs 0 0 (MQ below (Q_W (some (.int out.1)) D A (wd_X9 aC a_o out.2)) args s 0 0 A) (F0 m 82 ls [])) (hrec59 : ∀ x : Int32 × Int32 × Int32 × Int32 × Ob_T, rec59 x = some out → ∀ (H : Heap) (locs : List Loc) (ls : Array Slot), K_S D A s (wd_X9 aC a_o x.2.2.2.2) H locs → lv_has ls 5 [(0, .ref (a_o 0)), (1, .int x.1), (2, .int x.2.1), (3, .int x.2.2.1), (4, .int x.2.2.2.1)] → W p l e (R_m 6 135) s m args below meth c H locs 0 0 (MQ below (Q_W (some (.int out.1)) D A (wd_X9 aC a_o out.2)) args s 0 0 A) (F0 m 59 ls [])) (x1 : Int32) (x2 : Int32) (x3 : Int32) (x4 : Int32) (s_o : Ob_T) (h : f_X9_readsClause_L59 k82 rec59 x1 x2 x3 x4 s_o = some out) (H : Heap) (locs : List Loc) (ls : Array Slot) (hZ : K_S D A s (wd_X9 aC a_o s_o) H locs) (hl : lv_has ls 5 [(0, .ref (a_o 0)), (1, .int x1), (2, .int x2), (3, .int x3), (4, .int x4)]) : W p l e (R_m 6 135) s m args below meth c H locs 0 0 (MQ below (Q_W (some (.int out.1)) D A (wd_X9 aC a_o out.2)) args s 0 0 A) (F0 m 59 ls []) := by
  obtain ⟨hx, hb, hml, hown, hts, hK, hA, hlk⟩ := id hX
  unfold f_X9_readsClause_L59 at h
  refine lv_iload hx hb dX9_readsClause_59 (lv_at hl 4 rfl) ?_
  refine lv_bipush (v := 15) hx hb dX9_readsClause_61 (by decide) ?_
  refine lv_icmp_ge (tgt := 82) hx hb dX9_readsClause_63 (by decide) (fun cd => ?_) (fun cd => ?_)
  · replace h := k_t cd h
    clear cd
    exact hk82 x1 x2 x3 s_o h H locs ls hZ (lv_sub hl [0, 1, 2, 3] rfl)
  · replace h := k_f cd h
    clear cd
    refine lv_aload_n hx hb dX9_readsClause_66 rfl (lv_at hl 0 rfl) ?_
    refine k_get hX hZ.1 0 9 rfl rfl iw_X9 1 rfl (wm_31) (v := .ref (a_o 2)) rfl dX9_readsClause_67 ?_
    refine lv_iload_n hx hb dX9_readsClause_70 rfl (lv_at hl 3 rfl) ?_
    refine lv_iload hx hb dX9_readsClause_71 (lv_at hl 4 rfl) ?_
    refine lv_iadd hx hb dX9_readsClause_73 ?_
    refine lv_iconst (v := -1) hx hb dX9_readsClause_74 (by decide) ?_
    refine k_iast (wf := (fun o => wd_X9 aC a_o o)) (o := s_o) hX hZ 2 1 rfl (fun _ => rfl) h dX9_readsClause_75 (fun o3 H locs hZ h => ?_)
    refine lv_iinc (v := (x4 + (1 : Int32))) (lv' := [(4, .int (x4 + (1 : Int32))), (0, .ref (a_o 0)), (1, .int x1), (2, .int x2), (3, .int x3)]) hx hb dX9_readsClause_76 hl (k := 4) rfl rfl (by decide) rfl (fun ls hl => ?_)
    refine lv_goto (tgt := 59) hx hb dX9_readsClause_79 (by decide) ?_
    exact hrec59 (x1, x2, x3, (x4 + (1 : Int32)), o3) h H locs ls hZ (lv_sub hl [1, 2, 3, 4, 0] rfl)
set_option maxHeartbeats 4000000 in
set_option maxRecDepth 100000 in
theorem t_X9_readsClause_J82 {p : Program} {l : Launch} {e : Env} {s : State} {m : MethodId} {args : Array Value} {below : List Frame} {meth : Method} {c : Code} {D : va_G} {aC : Nat → ClassId} {A : Nat → Prop} {a_o : Nat → Nat} {out : Int32 × Ob_T} (hX : K_X p s m args meth c cX9_readsClause 5 WL_ RX9 D aC A) (hr : meth.sig.returnType = (some .boolean)) (x1 : Int32) (x2 : Int32) (x3 : Int32) (s_o : Ob_T) (h : f_X9_readsClause_J82 x1 x2 x3 s_o = some out) (H : Heap) (locs : List Loc) (ls : Array Slot) (hZ : K_S D A s (wd_X9 aC a_o s_o) H locs) (hl : lv_has ls 5 [(0, .ref (a_o 0)), (1, .int x1), (2, .int x2), (3, .int x3)]) : W p l e (R_m 6 135) s m args below meth c H locs 0 0 (MQ below (Q_W (some (.int out.1)) D A (wd_X9 aC a_o out.2)) args s 0 0 A) (F0 m 82 ls []) := by
  obtain ⟨hx, hb, hml, hown, hts, hK, hA, hlk⟩ := id hX
  unfold f_X9_readsClause_J82 at h
  refine lv_aload_n hx hb dX9_readsClause_82 rfl (lv_at hl 0 rfl) ?_
  refine k_get hX hZ.1 0 9 rfl rfl iw_X9 1 rfl (wm_31) (v := .ref (a_o 2)) rfl dX9_readsClause_83 ?_
  refine lv_iload_n hx hb dX9_readsClause_86 rfl (lv_at hl 3 rfl) ?_
  refine lv_iconst (v := 0) hx hb dX9_readsClause_87 (by decide) ?_
  refine lv_iadd hx hb dX9_readsClause_88 ?_
  refine lv_iload_n hx hb dX9_readsClause_89 rfl (lv_at hl 1 rfl) ?_
  refine k_iast (wf := (fun o => wd_X9 aC a_o o)) (o := s_o) hX hZ 2 1 rfl (fun _ => rfl) h dX9_readsClause_90 (fun o4 H locs hZ h => ?_)
  refine lv_aload_n hx hb dX9_readsClause_91 rfl (lv_at hl 0 rfl) ?_
  refine k_get hX hZ.1 0 9 rfl rfl iw_X9 1 rfl (wm_31) (v := .ref (a_o 2)) rfl dX9_readsClause_92 ?_
  refine lv_iload_n hx hb dX9_readsClause_95 rfl (lv_at hl 3 rfl) ?_
  refine lv_iconst (v := 4) hx hb dX9_readsClause_96 (by decide) ?_
  refine lv_iadd hx hb dX9_readsClause_97 ?_
  refine lv_iconst (v := 0) hx hb dX9_readsClause_98 (by decide) ?_
  refine k_iast (wf := (fun o => wd_X9 aC a_o o)) (o := o4) hX hZ 2 1 rfl (fun _ => rfl) h dX9_readsClause_99 (fun o5 H locs hZ h => ?_)
  refine lv_aload_n hx hb dX9_readsClause_100 rfl (lv_at hl 0 rfl) ?_
  obtain ⟨u6, hu, h⟩ := k_bd h
  refine k_vWs (As := []) (rest := []) (v := none) (st1 := []) hX hl.1 hZ (c_X9_nextToken (a_o := a_o) o5 hu) (gv_ wm_26 wm_28 wm_29 wm_11 wm_27) rfl hd_X9_nextToken ⟨rfl, rfl⟩ 9 0 rfl rfl rfl rfl rfl dX9_readsClause_101 rfl ⟨rfl, rfl⟩ rfl (fun H locs hZ => ?_)
  clear hu
  refine lv_aload_n hx hb dX9_readsClause_104 rfl (lv_at hl 0 rfl) ?_
  refine lv_iload_n hx hb dX9_readsClause_105 rfl (lv_at hl 3 rfl) ?_
  refine lv_iload_n hx hb dX9_readsClause_106 rfl (lv_at hl 1 rfl) ?_
  obtain ⟨u7, hu, h⟩ := k_bd h
  refine k_vWs (As := [.int x3, .int x1]) (rest := []) (v := some (.int u7.1)) (st1 := [.int u7.1]) hX hl.1 hZ (c_X9_readsArguments (a_o := a_o) u6 x3 x1 hu) (gv_ wm_99 wm_101 wm_102 wm_11 wm_100) rfl hd_X9_readsArguments ⟨rfl, rfl⟩ 9 0 rfl rfl rfl rfl rfl dX9_readsClause_107 rfl ⟨rfl, rfl⟩ rfl (fun H locs hZ => ?_)
  clear hu
  refine lv_if_ne (tgt := 115) hx hb dX9_readsClause_110 (by decide) (fun cd => ?_) (fun cd => ?_)
  · replace h := k_f cd h
    clear cd
    refine lv_aload_n hx hb dX9_readsClause_115 rfl (lv_at hl 0 rfl) ?_
    refine lv_aload_n hx hb dX9_readsClause_116 rfl (lv_at hl 0 rfl) ?_
    refine k_get hX hZ.1 0 9 rfl rfl iw_X9 3 rfl (wm_42) (v := .int (o_F u7.2 3)) rfl dX9_readsClause_117 ?_
    obtain ⟨u8, hu, h⟩ := k_bd h
    refine k_vWs (As := [.int (o_F u7.2 3)]) (rest := []) (v := some (.int u8.1)) (st1 := [.int u8.1]) hX hl.1 hZ (c_X9_laysShape (a_o := a_o) u7.2 (o_F u7.2 3) hu) (gv_ wm_95 wm_97 wm_98 wm_11 wm_96) rfl hd_X9_laysShape ⟨rfl, rfl⟩ 9 0 rfl rfl rfl rfl rfl dX9_readsClause_120 rfl ⟨rfl, rfl⟩ rfl (fun H locs hZ => ?_)
    clear hu
    refine lv_if_ne (tgt := 133) hx hb dX9_readsClause_123 (by decide) (fun cd => ?_) (fun cd => ?_)
    · replace h := k_f cd h
      clear cd
      refine lv_aload_n hx hb dX9_readsClause_133 rfl (lv_at hl 0 rfl) ?_
      refine lv_dup hx hb dX9_readsClause_134 rfl ?_
      refine k_get hX hZ.1 0 9 rfl rfl iw_X9 3 rfl (wm_42) (v := .int (o_F u8.2 3)) rfl dX9_readsClause_135 ?_
      refine lv_iconst (v := 1) hx hb dX9_readsClause_138 (by decide) ?_
      refine lv_iadd hx hb dX9_readsClause_139 ?_
      refine k_put (wf := (fun o => wd_X9 aC a_o o)) (o := u8.2) hX hZ 0 9 rfl rfl iw_X9 tyX9 tyX9_ok nmX9 3 rfl (wm_42) rfl rfl rfl rfl rfl h dX9_readsClause_140 (fun o9 H locs hZ h => ?_)
      refine lv_iconst (v := 1) hx hb dX9_readsClause_143 (by decide) ?_
      cases h
      exact k_zretW (v := (1 : Int32)) hX hr rfl hZ dX9_readsClause_144
    · replace h := k_t cd h
      clear cd
      refine lv_aload_n hx hb dX9_readsClause_126 rfl (lv_at hl 0 rfl) ?_
      refine lv_iload_n hx hb dX9_readsClause_127 rfl (lv_at hl 2 rfl) ?_
      refine k_put (wf := (fun o => wd_X9 aC a_o o)) (o := u8.2) hX hZ 0 9 rfl rfl iw_X9 tyX9 tyX9_ok nmX9 18 rfl (wm_19) rfl rfl rfl rfl rfl h dX9_readsClause_128 (fun o10 H locs hZ h => ?_)
      refine lv_iconst (v := 0) hx hb dX9_readsClause_131 (by decide) ?_
      cases h
      exact k_zretW (v := (0 : Int32)) hX hr rfl hZ dX9_readsClause_132
  · replace h := k_t cd h
    clear cd
    refine lv_iconst (v := 0) hx hb dX9_readsClause_113 (by decide) ?_
    cases h
    exact k_zretW (v := (0 : Int32)) hX hr rfl hZ dX9_readsClause_114
set_option maxHeartbeats 4000000 in
set_option maxRecDepth 100000 in
theorem c_X9_readsClause {l : Launch} {D : va_G} {aC : Nat → ClassId} {a_o : Nat → Nat} (s_o : Ob_T) {out : Int32 × Ob_T} (h : f_X9_readsClause s_o = some out) : M_W l yX9_readsClause wlX9_readsClause 6 135 D aC [.ref (a_o 0)] (wd_X9 aC a_o s_o) (some (.int out.1)) (wd_X9 aC a_o out.2) := by
  refine k_entW (cc := cX9_readsClause) (ret := (some .boolean)) (maxL := 5) (own := RX9) (by decide) rfl rfl rfl ?_
  intro p e s m below meth c A ls hX hr hZ hl
  have hl : lv_has ls 5 [(0, .ref (a_o 0))] := hl
  generalize ([.ref (a_o 0)] : List Value).toArray = args at hX ⊢
  obtain ⟨hx, hb, hml, hown, hts, hK, hA, hlk⟩ := id hX
  unfold f_X9_readsClause at h
  generalize s.heap = H at hZ ⊢
  generalize ([] : List Loc) = locs at hZ ⊢
  refine lv_aload_n hx hb dX9_readsClause_0 rfl (lv_at hl 0 rfl) ?_
  refine lv_aload_n hx hb dX9_readsClause_1 rfl (lv_at hl 0 rfl) ?_
  refine k_get hX hZ.1 0 9 rfl rfl iw_X9 22 rfl (wm_94) (v := .ref (a_o 14)) rfl dX9_readsClause_2 ?_
  obtain ⟨u1, hu, h⟩ := k_bd h
  refine k_vRs (As := [.ref (a_o 14)]) (rest := []) (v := some (.int u1)) (st1 := [.int u1]) hX hl.1 hZ (c_X9_isWord (a_o := a_o) (q1 := (a_o 14)) (f1 := o_A s_o 22) (z1 := 7) (pl1 := 14) (hq1 := rfl) s_o hu) (gv_ wm_50 wm_52 wm_53 wm_11 wm_51) rfl hd_X9_isWord ⟨rfl, rfl⟩ 9 0 rfl rfl rfl rfl rfl dX9_readsClause_5 rfl ⟨rfl, rfl⟩ (fun locs hZ => ?_)
  clear hu
  refine lv_if_eq (tgt := 22) hx hb dX9_readsClause_8 (by decide) (fun cd => ?_) (fun cd => ?_)
  · replace h := k_t cd h
    clear cd
    refine lv_aload_n hx hb dX9_readsClause_22 rfl (lv_at hl 0 rfl) ?_
    obtain ⟨u2, hu, h⟩ := k_bd h
    refine k_vRs (As := []) (rest := []) (v := some (.int u2)) (st1 := [.int u2]) hX hl.1 hZ (c_X9_kindHere (a_o := a_o) s_o hu) (gv_ wm_103 wm_105 wm_106 wm_11 wm_104) rfl hd_X9_kindHere ⟨rfl, rfl⟩ 9 0 rfl rfl rfl rfl rfl dX9_readsClause_23 rfl ⟨rfl, rfl⟩ (fun locs hZ => ?_)
    clear hu
    refine lv_istore_n (lv' := [(1, .int u2), (0, .ref (a_o 0))]) hx hb dX9_readsClause_26 rfl hl (by decide) rfl (fun ls hl => ?_)
    refine lv_iload_n hx hb dX9_readsClause_27 rfl (lv_at hl 0 rfl) ?_
    refine lv_iconst (v := -1) hx hb dX9_readsClause_28 (by decide) ?_
    refine lv_icmp_eq (tgt := 41) hx hb dX9_readsClause_29 (by decide) (fun cd => ?_) (fun cd => ?_)
    · replace h := k_t cd h
      clear cd
      refine lv_iconst (v := 0) hx hb dX9_readsClause_41 (by decide) ?_
      cases h
      exact k_zretW (v := (0 : Int32)) hX hr rfl hZ dX9_readsClause_42
    · replace h := k_f cd h
      clear cd
      refine lv_aload_n hx hb dX9_readsClause_32 rfl (lv_at hl 1 rfl) ?_
      refine k_get hX hZ.1 0 9 rfl rfl iw_X9 3 rfl (wm_42) (v := .int (o_F s_o 3)) rfl dX9_readsClause_33 ?_
      refine lv_bipush (v := 10) hx hb dX9_readsClause_36 (by decide) ?_
      refine lv_icmp_ne (tgt := 43) hx hb dX9_readsClause_38 (by decide) (fun cd => ?_) (fun cd => ?_)
      · replace h := k_f cd h
        clear cd
        refine lv_aload_n hx hb dX9_readsClause_43 rfl (lv_at hl 1 rfl) ?_
        refine k_get hX hZ.1 0 9 rfl rfl iw_X9 18 rfl (wm_19) (v := .int (o_F s_o 18)) rfl dX9_readsClause_44 ?_
        refine lv_istore_n (lv' := [(2, .int (o_F s_o 18)), (1, .int u2), (0, .ref (a_o 0))]) hx hb dX9_readsClause_47 rfl hl (by decide) rfl (fun ls hl => ?_)
        refine lv_bipush (v := 15) hx hb dX9_readsClause_48 (by decide) ?_
        refine lv_aload_n hx hb dX9_readsClause_50 rfl (lv_at hl 2 rfl) ?_
        refine k_get hX hZ.1 0 9 rfl rfl iw_X9 3 rfl (wm_42) (v := .int (o_F s_o 3)) rfl dX9_readsClause_51 ?_
        refine lv_imul hx hb dX9_readsClause_54 ?_
        refine lv_istore_n (lv' := [(3, .int ((15 : Int32) * (o_F s_o 3))), (2, .int (o_F s_o 18)), (1, .int u2), (0, .ref (a_o 0))]) hx hb dX9_readsClause_55 rfl hl (by decide) rfl (fun ls hl => ?_)
        refine lv_iconst (v := 0) hx hb dX9_readsClause_56 (by decide) ?_
        refine lv_istore (lv' := [(4, .int (0 : Int32)), (3, .int ((15 : Int32) * (o_F s_o 3))), (2, .int (o_F s_o 18)), (1, .int u2), (0, .ref (a_o 0))]) hx hb dX9_readsClause_57 hl (by decide) rfl (fun ls hl => ?_)
        exact Lp_ok (body := (fun (rec : (Int32 × Int32 × Int32 × Int32 × Ob_T) → Option (Int32 × Ob_T)) x => f_X9_readsClause_L59 (fun y1 y2 y3 t_o => f_X9_readsClause_J82 y1 y2 y3 t_o) rec x.1 x.2.1 x.2.2.1 x.2.2.2.1 x.2.2.2.2)) (out := out) (fun x => ∀ (H : Heap) (locs : List Loc) (ls : Array Slot), K_S D A s (wd_X9 aC a_o x.2.2.2.2) H locs → lv_has ls 5 [(0, .ref (a_o 0)), (1, .int x.1), (2, .int x.2.1), (3, .int x.2.2.1), (4, .int x.2.2.2.1)] → W p l e (R_m 6 135) s m args below meth c H locs 0 0 (MQ below (Q_W (some (.int out.1)) D A (wd_X9 aC a_o out.2)) args s 0 0 A) (F0 m 59 ls [])) (fun rec hrec x h H locs ls hZ hl => t_X9_readsClause_L59 hX hr (fun y1 y2 y3 t_o h H locs ls hZ hl => t_X9_readsClause_J82 hX hr y1 y2 y3 t_o h H locs ls hZ (lv_sub hl [0, 1, 2, 3] rfl)) hrec x.1 x.2.1 x.2.2.1 x.2.2.2.1 x.2.2.2.2 h H locs ls hZ hl) FU_ (u2, (o_F s_o 18), ((15 : Int32) * (o_F s_o 3)), (0 : Int32), s_o) h H locs ls hZ (lv_sub hl [4, 3, 2, 1, 0] rfl)
      · replace h := k_t cd h
        clear cd
        refine lv_iconst (v := 0) hx hb dX9_readsClause_41 (by decide) ?_
        cases h
        exact k_zretW (v := (0 : Int32)) hX hr rfl hZ dX9_readsClause_42
  · replace h := k_f cd h
    clear cd
    refine lv_aload_n hx hb dX9_readsClause_11 rfl (lv_at hl 0 rfl) ?_
    obtain ⟨u11, hu, h⟩ := k_bd h
    refine k_vWs (As := []) (rest := []) (v := none) (st1 := []) hX hl.1 hZ (c_X9_nextToken (a_o := a_o) s_o hu) (gv_ wm_26 wm_28 wm_29 wm_11 wm_27) rfl hd_X9_nextToken ⟨rfl, rfl⟩ 9 0 rfl rfl rfl rfl rfl dX9_readsClause_12 rfl ⟨rfl, rfl⟩ rfl (fun H locs hZ => ?_)
    clear hu
    refine lv_aload_n hx hb dX9_readsClause_15 rfl (lv_at hl 0 rfl) ?_
    refine lv_iconst (v := 0) hx hb dX9_readsClause_16 (by decide) ?_
    refine k_put (wf := (fun o => wd_X9 aC a_o o)) (o := u11) hX hZ 0 9 rfl rfl iw_X9 tyX9 tyX9_ok nmX9 3 rfl (wm_42) rfl rfl rfl rfl rfl h dX9_readsClause_17 (fun o12 H locs hZ h => ?_)
    refine lv_iconst (v := 1) hx hb dX9_readsClause_20 (by decide) ?_
    cases h
    exact k_zretW (v := (1 : Int32)) hX hr rfl hZ dX9_readsClause_21
