def wlX9_load : List Cond := .code yX9_load cX9_load 6 (some .int) :: WL_
theorem hd_X9_load : yX9_load.cls = RX9 ∧ yX9_load.cls ≠ "java/lang/invoke/MethodHandle" ∧ yX9_load.cls ≠ "java/lang/invoke/VarHandle" ∧ (parseMethodDescriptor yX9_load.desc).map (fun d => d.parameters.length) = some 2 := by decide +kernel
theorem dX9_load_0 : decode cX9_load 0 = .ok (.iload_n 1, 1) := by decide +kernel
theorem dX9_load_1 : decode cX9_load 1 = .ok (.invokestatic 348, 3) := by decide +kernel
theorem dX9_load_4 : decode cX9_load 4 = .ok (.ifCond .eq 11, 3) := by decide +kernel
theorem dX9_load_7 : decode cX9_load 7 = .ok (.aload_n 0, 1) := by decide +kernel
theorem dX9_load_8 : decode cX9_load 8 = .ok (.iload_n 2, 1) := by decide +kernel
theorem dX9_load_9 : decode cX9_load 9 = .ok (.invokevirtual 296, 3) := by decide +kernel
theorem dX9_load_12 : decode cX9_load 12 = .ok (.ifCond .ne 6, 3) := by decide +kernel
theorem dX9_load_15 : decode cX9_load 15 = .ok (.bipush (-2), 2) := by decide +kernel
theorem dX9_load_17 : decode cX9_load 17 = .ok (.ireturn, 1) := by decide +kernel
theorem dX9_load_18 : decode cX9_load 18 = .ok (.aload_n 0, 1) := by decide +kernel
theorem dX9_load_19 : decode cX9_load 19 = .ok (.getfield 44, 3) := by decide +kernel
theorem dX9_load_22 : decode cX9_load 22 = .ok (.iload_n 1, 1) := by decide +kernel
theorem dX9_load_23 : decode cX9_load 23 = .ok (.iaload, 1) := by decide +kernel
theorem dX9_load_24 : decode cX9_load 24 = .ok (.ifCond .ge 6, 3) := by decide +kernel
theorem dX9_load_27 : decode cX9_load 27 = .ok (.bipush (-11), 2) := by decide +kernel
theorem dX9_load_29 : decode cX9_load 29 = .ok (.ireturn, 1) := by decide +kernel
theorem dX9_load_30 : decode cX9_load 30 = .ok (.aload_n 0, 1) := by decide +kernel
theorem dX9_load_31 : decode cX9_load 31 = .ok (.getfield 41, 3) := by decide +kernel
theorem dX9_load_34 : decode cX9_load 34 = .ok (.iload_n 1, 1) := by decide +kernel
theorem dX9_load_35 : decode cX9_load 35 = .ok (.iaload, 1) := by decide +kernel
theorem dX9_load_36 : decode cX9_load 36 = .ok (.ifCond .eq 6, 3) := by decide +kernel
theorem dX9_load_39 : decode cX9_load 39 = .ok (.bipush (-13), 2) := by decide +kernel
theorem dX9_load_41 : decode cX9_load 41 = .ok (.ireturn, 1) := by decide +kernel
theorem dX9_load_42 : decode cX9_load 42 = .ok (.aload_n 0, 1) := by decide +kernel
theorem dX9_load_43 : decode cX9_load 43 = .ok (.getfield 7, 3) := by decide +kernel
theorem dX9_load_46 : decode cX9_load 46 = .ok (.bipush 15, 2) := by decide +kernel
theorem dX9_load_48 : decode cX9_load 48 = .ok (.iload_n 2, 1) := by decide +kernel
theorem dX9_load_49 : decode cX9_load 49 = .ok (.imul, 1) := by decide +kernel
theorem dX9_load_50 : decode cX9_load 50 = .ok (.bipush 8, 2) := by decide +kernel
theorem dX9_load_52 : decode cX9_load 52 = .ok (.iadd, 1) := by decide +kernel
theorem dX9_load_53 : decode cX9_load 53 = .ok (.iaload, 1) := by decide +kernel
theorem dX9_load_54 : decode cX9_load 54 = .ok (.istore_n 3, 1) := by decide +kernel
theorem dX9_load_55 : decode cX9_load 55 = .ok (.iload_n 3, 1) := by decide +kernel
theorem dX9_load_56 : decode cX9_load 56 = .ok (.aload_n 0, 1) := by decide +kernel
theorem dX9_load_57 : decode cX9_load 57 = .ok (.getfield 44, 3) := by decide +kernel
theorem dX9_load_60 : decode cX9_load 60 = .ok (.iload_n 1, 1) := by decide +kernel
theorem dX9_load_61 : decode cX9_load 61 = .ok (.iaload, 1) := by decide +kernel
theorem dX9_load_62 : decode cX9_load 62 = .ok (.if_icmp .le 6, 3) := by decide +kernel
theorem dX9_load_65 : decode cX9_load 65 = .ok (.bipush (-14), 2) := by decide +kernel
theorem dX9_load_67 : decode cX9_load 67 = .ok (.ireturn, 1) := by decide +kernel
theorem dX9_load_68 : decode cX9_load 68 = .ok (.aload_n 0, 1) := by decide +kernel
theorem dX9_load_69 : decode cX9_load 69 = .ok (.invokevirtual 301, 3) := by decide +kernel
theorem dX9_load_72 : decode cX9_load 72 = .ok (.iconst 0, 1) := by decide +kernel
theorem dX9_load_73 : decode cX9_load 73 = .ok (.istore 4, 2) := by decide +kernel
theorem dX9_load_75 : decode cX9_load 75 = .ok (.iload 4, 2) := by decide +kernel
theorem dX9_load_77 : decode cX9_load 77 = .ok (.iload_n 3, 1) := by decide +kernel
theorem dX9_load_78 : decode cX9_load 78 = .ok (.if_icmp .ge 48, 3) := by decide +kernel
theorem dX9_load_81 : decode cX9_load 81 = .ok (.aload_n 0, 1) := by decide +kernel
theorem dX9_load_82 : decode cX9_load 82 = .ok (.aload_n 0, 1) := by decide +kernel
theorem dX9_load_83 : decode cX9_load 83 = .ok (.iload_n 2, 1) := by decide +kernel
theorem dX9_load_84 : decode cX9_load 84 = .ok (.iload 4, 2) := by decide +kernel
theorem dX9_load_86 : decode cX9_load 86 = .ok (.invokevirtual 191, 3) := by decide +kernel
theorem dX9_load_89 : decode cX9_load 89 = .ok (.invokevirtual 221, 3) := by decide +kernel
theorem dX9_load_92 : decode cX9_load 92 = .ok (.istore 5, 2) := by decide +kernel
theorem dX9_load_94 : decode cX9_load 94 = .ok (.aload_n 0, 1) := by decide +kernel
theorem dX9_load_95 : decode cX9_load 95 = .ok (.getfield 47, 3) := by decide +kernel
theorem dX9_load_98 : decode cX9_load 98 = .ok (.bipush 10, 2) := by decide +kernel
theorem dX9_load_100 : decode cX9_load 100 = .ok (.iload_n 1, 1) := by decide +kernel
theorem dX9_load_101 : decode cX9_load 101 = .ok (.imul, 1) := by decide +kernel
theorem dX9_load_102 : decode cX9_load 102 = .ok (.iload 4, 2) := by decide +kernel
theorem dX9_load_104 : decode cX9_load 104 = .ok (.iadd, 1) := by decide +kernel
theorem dX9_load_105 : decode cX9_load 105 = .ok (.iload 5, 2) := by decide +kernel
theorem dX9_load_107 : decode cX9_load 107 = .ok (.sipush 20000, 3) := by decide +kernel
theorem dX9_load_110 : decode cX9_load 110 = .ok (.if_icmp .ge 8, 3) := by decide +kernel
theorem dX9_load_113 : decode cX9_load 113 = .ok (.iload 5, 2) := by decide +kernel
theorem dX9_load_115 : decode cX9_load 115 = .ok (.goto 4, 3) := by decide +kernel
theorem dX9_load_118 : decode cX9_load 118 = .ok (.iconst (-1), 1) := by decide +kernel
theorem dX9_load_119 : decode cX9_load 119 = .ok (.iastore, 1) := by decide +kernel
theorem dX9_load_120 : decode cX9_load 120 = .ok (.iinc 4 1, 3) := by decide +kernel
theorem dX9_load_123 : decode cX9_load 123 = .ok (.goto (-48), 3) := by decide +kernel
theorem dX9_load_126 : decode cX9_load 126 = .ok (.iload_n 3, 1) := by decide +kernel
theorem dX9_load_127 : decode cX9_load 127 = .ok (.ireturn, 1) := by decide +kernel
set_option maxHeartbeats 4000000 in
set_option maxRecDepth 100000 in
theorem t_X9_load_J119 {p : Program} {l : Launch} {e : Env} {s : State} {m : MethodId} {args : Array Value} {below : List Frame} {meth : Method} {c : Code} {D : va_G} {aC : Nat → ClassId} {A : Nat → Prop} {a_o : Nat → Nat} {out : Int32 × Ob_T} {rec75 : (Int32 × Int32 × Int32 × Int32 × Ob_T) → Option (Int32 × Ob_T)} (hX : K_X p s m args meth c cX9_load 6 WL_ RX9 D aC A) (hr : meth.sig.returnType = (some .int)) (hrec75 : ∀ x : Int32 × Int32 × Int32 × Int32 × Ob_T, rec75 x = some out → ∀ (H : Heap) (locs : List Loc) (ls : Array Slot), K_S D A s (wd_X9 aC a_o x.2.2.2.2) H locs → lv_has ls 6 [(0, .ref (a_o 0)), (1, .int x.1), (2, .int x.2.1), (3, .int x.2.2.1), (4, .int x.2.2.2.1)] → W p l e (R_m 6 146) s m args below meth c H locs 0 0 (MQ below (Q_W (some (.int out.1)) D A (wd_X9 aC a_o out.2)) args s 0 0 A) (F0 m 75 ls [])) (x1 : Int32) (x2 : Int32) (x3 : Int32) (x4 : Int32) (k1 : Int32) (k2 : Int32) (s_o : Ob_T) (h : f_X9_load_J119 rec75 x1 x2 x3 x4 k1 k2 s_o = some out) (H : Heap) (locs : List Loc) (ls : Array Slot) (hZ : K_S D A s (wd_X9 aC a_o s_o) H locs) (hl : lv_has ls 6 [(0, .ref (a_o 0)), (1, .int x1), (2, .int x2), (3, .int x3), (4, .int x4)]) : W p l e (R_m 6 146) s m args below meth c H locs 0 0 (MQ below (Q_W (some (.int out.1)) D A (wd_X9 aC a_o out.2)) args s 0 0 A) (F0 m 119 ls [.int k2, .int k1, .ref (a_o 13)]) := by
  obtain ⟨hx, hb, hml, hown, hts, hK, hA, hlk⟩ := id hX
  unfold f_X9_load_J119 at h
  refine k_iast (wf := (fun o => wd_X9 aC a_o o)) (o := s_o) hX hZ 13 17 rfl (fun _ => rfl) h dX9_load_119 (fun o10 H locs hZ h => ?_)
  refine lv_iinc (v := (x4 + (1 : Int32))) (lv' := [(4, .int (x4 + (1 : Int32))), (0, .ref (a_o 0)), (1, .int x1), (2, .int x2), (3, .int x3)]) hx hb dX9_load_120 hl (k := 4) rfl rfl (by decide) rfl (fun ls hl => ?_)
  refine lv_goto (tgt := 75) hx hb dX9_load_123 (by decide) ?_
  exact hrec75 (x1, x2, x3, (x4 + (1 : Int32)), o10) h H locs ls hZ (lv_sub hl [1, 2, 3, 4, 0] rfl)
set_option maxHeartbeats 4000000 in
set_option maxRecDepth 100000 in
theorem t_X9_load_L75 {p : Program} {l : Launch} {e : Env} {s : State} {m : MethodId} {args : Array Value} {below : List Frame} {meth : Method} {c : Code} {D : va_G} {aC : Nat → ClassId} {A : Nat → Prop} {a_o : Nat → Nat} {out : Int32 × Ob_T} {rec75 : (Int32 × Int32 × Int32 × Int32 × Ob_T) → Option (Int32 × Ob_T)} (hX : K_X p s m args meth c cX9_load 6 WL_ RX9 D aC A) (hr : meth.sig.returnType = (some .int)) (hrec75 : ∀ x : Int32 × Int32 × Int32 × Int32 × Ob_T, rec75 x = some out → ∀ (H : Heap) (locs : List Loc) (ls : Array Slot), K_S D A s (wd_X9 aC a_o x.2.2.2.2) H locs → lv_has ls 6 [(0, .ref (a_o 0)), (1, .int x.1), (2, .int x.2.1), (3, .int x.2.2.1), (4, .int x.2.2.2.1)] → W p l e (R_m 6 146) s m args below meth c H locs 0 0 (MQ below (Q_W (some (.int out.1)) D A (wd_X9 aC a_o out.2)) args s 0 0 A) (F0 m 75 ls [])) (x1 : Int32) (x2 : Int32) (x3 : Int32) (x4 : Int32) (s_o : Ob_T) (h : f_X9_load_L75 rec75 x1 x2 x3 x4 s_o = some out) (H : Heap) (locs : List Loc) (ls : Array Slot) (hZ : K_S D A s (wd_X9 aC a_o s_o) H locs) (hl : lv_has ls 6 [(0, .ref (a_o 0)), (1, .int x1), (2, .int x2), (3, .int x3), (4, .int x4)]) : W p l e (R_m 6 146) s m args below meth c H locs 0 0 (MQ below (Q_W (some (.int out.1)) D A (wd_X9 aC a_o out.2)) args s 0 0 A) (F0 m 75 ls []) := by
  obtain ⟨hx, hb, hml, hown, hts, hK, hA, hlk⟩ := id hX
  unfold f_X9_load_L75 at h
  refine lv_iload hx hb dX9_load_75 (lv_at hl 4 rfl) ?_
  refine lv_iload_n hx hb dX9_load_77 rfl (lv_at hl 3 rfl) ?_
  refine lv_icmp_ge (tgt := 126) hx hb dX9_load_78 (by decide) (fun cd => ?_) (fun cd => ?_)
  · replace h := k_t cd h
    clear cd
    refine lv_iload_n hx hb dX9_load_126 rfl (lv_at hl 3 rfl) ?_
    cases h
    exact k_iretW hX hr hZ dX9_load_127
  · replace h := k_f cd h
    clear cd
    refine lv_aload_n hx hb dX9_load_81 rfl (lv_at hl 0 rfl) ?_
    refine lv_aload_n hx hb dX9_load_82 rfl (lv_at hl 0 rfl) ?_
    refine lv_iload_n hx hb dX9_load_83 rfl (lv_at hl 2 rfl) ?_
    refine lv_iload hx hb dX9_load_84 (lv_at hl 4 rfl) ?_
    obtain ⟨u8, hu, h⟩ := k_bd h
    refine k_vRs (As := [.int x2, .int x4]) (rest := [.ref (a_o 0)]) (v := some (.int u8)) (st1 := [.int u8, .ref (a_o 0)]) hX hl.1 hZ (c_X9_extentOf (a_o := a_o) s_o x2 x4 hu) (gv_ wm_71 wm_73 wm_74 wm_11 wm_72) rfl hd_X9_extentOf ⟨rfl, rfl⟩ 9 0 rfl rfl rfl rfl rfl dX9_load_86 rfl ⟨rfl, rfl⟩ (fun locs hZ => ?_)
    clear hu
    obtain ⟨u9, hu, h⟩ := k_bd h
    refine k_vRs (As := [.int u8]) (rest := []) (v := some (.int u9)) (st1 := [.int u9]) hX hl.1 hZ (c_X9_solved (a_o := a_o) s_o u8 hu) (gv_ wm_135 wm_137 wm_138 wm_11 wm_136) rfl hd_X9_solved ⟨rfl, rfl⟩ 9 0 rfl rfl rfl rfl rfl dX9_load_89 rfl ⟨rfl, rfl⟩ (fun locs hZ => ?_)
    clear hu
    refine lv_istore (lv' := [(5, .int u9), (0, .ref (a_o 0)), (1, .int x1), (2, .int x2), (3, .int x3), (4, .int x4)]) hx hb dX9_load_92 hl (by decide) rfl (fun ls hl => ?_)
    refine lv_aload_n hx hb dX9_load_94 rfl (lv_at hl 1 rfl) ?_
    refine k_get hX hZ.1 0 9 rfl rfl iw_X9 17 rfl (wm_267) (v := .ref (a_o 13)) rfl dX9_load_95 ?_
    refine lv_bipush (v := 10) hx hb dX9_load_98 (by decide) ?_
    refine lv_iload_n hx hb dX9_load_100 rfl (lv_at hl 2 rfl) ?_
    refine lv_imul hx hb dX9_load_101 ?_
    refine lv_iload hx hb dX9_load_102 (lv_at hl 5 rfl) ?_
    refine lv_iadd hx hb dX9_load_104 ?_
    refine lv_iload hx hb dX9_load_105 (lv_at hl 0 rfl) ?_
    refine lv_sipush (v := 20000) hx hb dX9_load_107 (by decide) ?_
    refine lv_icmp_ge (tgt := 118) hx hb dX9_load_110 (by decide) (fun cd => ?_) (fun cd => ?_)
    · replace h := k_t cd h
      clear cd
      refine lv_iconst (v := -1) hx hb dX9_load_118 (by decide) ?_
      exact t_X9_load_J119 hX hr hrec75 x1 x2 x3 x4 (((10 : Int32) * x1) + x4) (-1 : Int32) s_o h H locs ls hZ (lv_sub hl [1, 2, 3, 4, 5] rfl)
    · replace h := k_f cd h
      clear cd
      refine lv_iload hx hb dX9_load_113 (lv_at hl 0 rfl) ?_
      refine lv_goto (tgt := 119) hx hb dX9_load_115 (by decide) ?_
      exact t_X9_load_J119 hX hr hrec75 x1 x2 x3 x4 (((10 : Int32) * x1) + x4) u9 s_o h H locs ls hZ (lv_sub hl [1, 2, 3, 4, 5] rfl)
set_option maxHeartbeats 4000000 in
set_option maxRecDepth 100000 in
theorem c_X9_load {l : Launch} {D : va_G} {aC : Nat → ClassId} {a_o : Nat → Nat} (s_o : Ob_T) (x1 : Int32) (x2 : Int32) {out : Int32 × Ob_T} (h : f_X9_load s_o x1 x2 = some out) : M_W l yX9_load wlX9_load 6 146 D aC [.ref (a_o 0), .int x1, .int x2] (wd_X9 aC a_o s_o) (some (.int out.1)) (wd_X9 aC a_o out.2) := by
  refine k_entW (cc := cX9_load) (ret := (some .int)) (maxL := 6) (own := RX9) (by decide) rfl rfl rfl ?_
  intro p e s m below meth c A ls hX hr hZ hl
  have hl : lv_has ls 6 [(0, .ref (a_o 0)), (1, .int x1), (2, .int x2)] := hl
  generalize ([.ref (a_o 0), .int x1, .int x2] : List Value).toArray = args at hX ⊢
  obtain ⟨hx, hb, hml, hown, hts, hK, hA, hlk⟩ := id hX
  unfold f_X9_load at h
  generalize s.heap = H at hZ ⊢
  generalize ([] : List Loc) = locs at hZ ⊢
  refine lv_iload_n hx hb dX9_load_0 rfl (lv_at hl 1 rfl) ?_
  obtain ⟨u1, hu, h⟩ := k_bd h
  refine k_sR (As := [.int x1]) (rest := []) (wc := []) (v := some (.int u1)) (st1 := [.int u1]) hX hl.1 hZ (c_X9_isRow  x1 hu) (gs_ wm_268 wm_270 wm_11 wm_269) rfl hd_X9_isRow ⟨rfl, rfl⟩ [] rfl rfl rfl rfl rfl dX9_load_1 rfl ⟨rfl, rfl⟩ (fun locs hZ => ?_)
  clear hu
  refine lv_if_eq (tgt := 15) hx hb dX9_load_4 (by decide) (fun cd => ?_) (fun cd => ?_)
  · replace h := k_t cd h
    clear cd
    refine lv_bipush (v := -2) hx hb dX9_load_15 (by decide) ?_
    cases h
    exact k_iretW hX hr hZ dX9_load_17
  · replace h := k_f cd h
    clear cd
    refine lv_aload_n hx hb dX9_load_7 rfl (lv_at hl 0 rfl) ?_
    refine lv_iload_n hx hb dX9_load_8 rfl (lv_at hl 2 rfl) ?_
    obtain ⟨u2, hu, h⟩ := k_bd h
    refine k_vRs (As := [.int x2]) (rest := []) (v := some (.int u2)) (st1 := [.int u2]) hX hl.1 hZ (c_X9_isNode (a_o := a_o) s_o x2 hu) (gv_ wm_207 wm_209 wm_210 wm_11 wm_208) rfl hd_X9_isNode ⟨rfl, rfl⟩ 9 0 rfl rfl rfl rfl rfl dX9_load_9 rfl ⟨rfl, rfl⟩ (fun locs hZ => ?_)
    clear hu
    refine lv_if_ne (tgt := 18) hx hb dX9_load_12 (by decide) (fun cd => ?_) (fun cd => ?_)
    · replace h := k_f cd h
      clear cd
      refine lv_aload_n hx hb dX9_load_18 rfl (lv_at hl 0 rfl) ?_
      refine k_get hX hZ.1 0 9 rfl rfl iw_X9 16 rfl (wm_120) (v := .ref (a_o 12)) rfl dX9_load_19 ?_
      refine lv_iload_n hx hb dX9_load_22 rfl (lv_at hl 1 rfl) ?_
      refine k_iald hX hZ.1 12 rfl h dX9_load_23 (fun v3 h => ?_)
      refine lv_if_ge (tgt := 30) hx hb dX9_load_24 (by decide) (fun cd => ?_) (fun cd => ?_)
      · replace h := k_t cd h
        clear cd
        refine lv_aload_n hx hb dX9_load_30 rfl (lv_at hl 0 rfl) ?_
        refine k_get hX hZ.1 0 9 rfl rfl iw_X9 15 rfl (wm_266) (v := .ref (a_o 11)) rfl dX9_load_31 ?_
        refine lv_iload_n hx hb dX9_load_34 rfl (lv_at hl 1 rfl) ?_
        refine k_iald hX hZ.1 11 rfl h dX9_load_35 (fun v4 h => ?_)
        refine lv_if_eq (tgt := 42) hx hb dX9_load_36 (by decide) (fun cd => ?_) (fun cd => ?_)
        · replace h := k_t cd h
          clear cd
          refine lv_aload_n hx hb dX9_load_42 rfl (lv_at hl 0 rfl) ?_
          refine k_get hX hZ.1 0 9 rfl rfl iw_X9 0 rfl (wm_107) (v := .ref (a_o 1)) rfl dX9_load_43 ?_
          refine lv_bipush (v := 15) hx hb dX9_load_46 (by decide) ?_
          refine lv_iload_n hx hb dX9_load_48 rfl (lv_at hl 2 rfl) ?_
          refine lv_imul hx hb dX9_load_49 ?_
          refine lv_bipush (v := 8) hx hb dX9_load_50 (by decide) ?_
          refine lv_iadd hx hb dX9_load_52 ?_
          refine k_iald hX hZ.1 1 rfl h dX9_load_53 (fun v5 h => ?_)
          refine lv_istore_n (lv' := [(3, .int v5), (0, .ref (a_o 0)), (1, .int x1), (2, .int x2)]) hx hb dX9_load_54 rfl hl (by decide) rfl (fun ls hl => ?_)
          refine lv_iload_n hx hb dX9_load_55 rfl (lv_at hl 0 rfl) ?_
          refine lv_aload_n hx hb dX9_load_56 rfl (lv_at hl 1 rfl) ?_
          refine k_get hX hZ.1 0 9 rfl rfl iw_X9 16 rfl (wm_120) (v := .ref (a_o 12)) rfl dX9_load_57 ?_
          refine lv_iload_n hx hb dX9_load_60 rfl (lv_at hl 2 rfl) ?_
          refine k_iald hX hZ.1 12 rfl h dX9_load_61 (fun v6 h => ?_)
          refine lv_icmp_le (tgt := 68) hx hb dX9_load_62 (by decide) (fun cd => ?_) (fun cd => ?_)
          · replace h := k_t cd h
            clear cd
            refine lv_aload_n hx hb dX9_load_68 rfl (lv_at hl 1 rfl) ?_
            obtain ⟨u7, hu, h⟩ := k_bd h
            refine k_vWs (As := []) (rest := []) (v := none) (st1 := []) hX hl.1 hZ (c_X9_solveNow (a_o := a_o) s_o hu) (gv_ wm_211 wm_213 wm_214 wm_11 wm_212) rfl hd_X9_solveNow ⟨rfl, rfl⟩ 9 0 rfl rfl rfl rfl rfl dX9_load_69 rfl ⟨rfl, rfl⟩ rfl (fun H locs hZ => ?_)
            clear hu
            refine lv_iconst (v := 0) hx hb dX9_load_72 (by decide) ?_
            refine lv_istore (lv' := [(4, .int (0 : Int32)), (3, .int v5), (0, .ref (a_o 0)), (1, .int x1), (2, .int x2)]) hx hb dX9_load_73 hl (by decide) rfl (fun ls hl => ?_)
            exact Lp_ok (body := (fun (rec : (Int32 × Int32 × Int32 × Int32 × Ob_T) → Option (Int32 × Ob_T)) x => f_X9_load_L75 rec x.1 x.2.1 x.2.2.1 x.2.2.2.1 x.2.2.2.2)) (out := out) (fun x => ∀ (H : Heap) (locs : List Loc) (ls : Array Slot), K_S D A s (wd_X9 aC a_o x.2.2.2.2) H locs → lv_has ls 6 [(0, .ref (a_o 0)), (1, .int x.1), (2, .int x.2.1), (3, .int x.2.2.1), (4, .int x.2.2.2.1)] → W p l e (R_m 6 146) s m args below meth c H locs 0 0 (MQ below (Q_W (some (.int out.1)) D A (wd_X9 aC a_o out.2)) args s 0 0 A) (F0 m 75 ls [])) (fun rec hrec x h H locs ls hZ hl => t_X9_load_L75 hX hr hrec x.1 x.2.1 x.2.2.1 x.2.2.2.1 x.2.2.2.2 h H locs ls hZ hl) FU_ (x1, x2, v5, (0 : Int32), u7) h H locs ls hZ (lv_sub hl [2, 3, 4, 1, 0] rfl)
          · replace h := k_f cd h
            clear cd
            refine lv_bipush (v := -14) hx hb dX9_load_65 (by decide) ?_
            cases h
            exact k_iretW hX hr hZ dX9_load_67
        · replace h := k_f cd h
          clear cd
          refine lv_bipush (v := -13) hx hb dX9_load_39 (by decide) ?_
          cases h
          exact k_iretW hX hr hZ dX9_load_41
      · replace h := k_f cd h
        clear cd
        refine lv_bipush (v := -11) hx hb dX9_load_27 (by decide) ?_
        cases h
        exact k_iretW hX hr hZ dX9_load_29
    · replace h := k_t cd h
      clear cd
      refine lv_bipush (v := -2) hx hb dX9_load_15 (by decide) ?_
      cases h
      exact k_iretW hX hr hZ dX9_load_17
