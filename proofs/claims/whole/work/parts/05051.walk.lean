def wlX9_append : List Cond := .code yX9_append cX9_append 5 (some .int) :: WL_
theorem hd_X9_append : yX9_append.cls = RX9 ∧ yX9_append.cls ≠ "java/lang/invoke/MethodHandle" ∧ yX9_append.cls ≠ "java/lang/invoke/VarHandle" ∧ (parseMethodDescriptor yX9_append.desc).map (fun d => d.parameters.length) = some 2 := by decide +kernel
theorem dX9_append_0 : decode cX9_append 0 = .ok (.iload_n 1, 1) := by decide +kernel
theorem dX9_append_1 : decode cX9_append 1 = .ok (.invokestatic 348, 3) := by decide +kernel
theorem dX9_append_4 : decode cX9_append 4 = .ok (.ifCond .eq 10, 3) := by decide +kernel
theorem dX9_append_7 : decode cX9_append 7 = .ok (.iload_n 2, 1) := by decide +kernel
theorem dX9_append_8 : decode cX9_append 8 = .ok (.invokestatic 348, 3) := by decide +kernel
theorem dX9_append_11 : decode cX9_append 11 = .ok (.ifCond .ne 6, 3) := by decide +kernel
theorem dX9_append_14 : decode cX9_append 14 = .ok (.bipush (-2), 2) := by decide +kernel
theorem dX9_append_16 : decode cX9_append 16 = .ok (.ireturn, 1) := by decide +kernel
theorem dX9_append_17 : decode cX9_append 17 = .ok (.aload_n 0, 1) := by decide +kernel
theorem dX9_append_18 : decode cX9_append 18 = .ok (.getfield 44, 3) := by decide +kernel
theorem dX9_append_21 : decode cX9_append 21 = .ok (.iload_n 1, 1) := by decide +kernel
theorem dX9_append_22 : decode cX9_append 22 = .ok (.iaload, 1) := by decide +kernel
theorem dX9_append_23 : decode cX9_append 23 = .ok (.ifCond .lt 12, 3) := by decide +kernel
theorem dX9_append_26 : decode cX9_append 26 = .ok (.aload_n 0, 1) := by decide +kernel
theorem dX9_append_27 : decode cX9_append 27 = .ok (.getfield 44, 3) := by decide +kernel
theorem dX9_append_30 : decode cX9_append 30 = .ok (.iload_n 2, 1) := by decide +kernel
theorem dX9_append_31 : decode cX9_append 31 = .ok (.iaload, 1) := by decide +kernel
theorem dX9_append_32 : decode cX9_append 32 = .ok (.ifCond .ge 6, 3) := by decide +kernel
theorem dX9_append_35 : decode cX9_append 35 = .ok (.bipush (-11), 2) := by decide +kernel
theorem dX9_append_37 : decode cX9_append 37 = .ok (.ireturn, 1) := by decide +kernel
theorem dX9_append_38 : decode cX9_append 38 = .ok (.aload_n 0, 1) := by decide +kernel
theorem dX9_append_39 : decode cX9_append 39 = .ok (.getfield 44, 3) := by decide +kernel
theorem dX9_append_42 : decode cX9_append 42 = .ok (.iload_n 2, 1) := by decide +kernel
theorem dX9_append_43 : decode cX9_append 43 = .ok (.iaload, 1) := by decide +kernel
theorem dX9_append_44 : decode cX9_append 44 = .ok (.istore_n 3, 1) := by decide +kernel
theorem dX9_append_45 : decode cX9_append 45 = .ok (.aload_n 0, 1) := by decide +kernel
theorem dX9_append_46 : decode cX9_append 46 = .ok (.getfield 44, 3) := by decide +kernel
theorem dX9_append_49 : decode cX9_append 49 = .ok (.iload_n 1, 1) := by decide +kernel
theorem dX9_append_50 : decode cX9_append 50 = .ok (.iaload, 1) := by decide +kernel
theorem dX9_append_51 : decode cX9_append 51 = .ok (.iload_n 3, 1) := by decide +kernel
theorem dX9_append_52 : decode cX9_append 52 = .ok (.iadd, 1) := by decide +kernel
theorem dX9_append_53 : decode cX9_append 53 = .ok (.bipush 10, 2) := by decide +kernel
theorem dX9_append_55 : decode cX9_append 55 = .ok (.if_icmp .le 6, 3) := by decide +kernel
theorem dX9_append_58 : decode cX9_append 58 = .ok (.bipush (-15), 2) := by decide +kernel
theorem dX9_append_60 : decode cX9_append 60 = .ok (.ireturn, 1) := by decide +kernel
theorem dX9_append_61 : decode cX9_append 61 = .ok (.iconst 0, 1) := by decide +kernel
theorem dX9_append_62 : decode cX9_append 62 = .ok (.istore 4, 2) := by decide +kernel
theorem dX9_append_64 : decode cX9_append 64 = .ok (.iload 4, 2) := by decide +kernel
theorem dX9_append_66 : decode cX9_append 66 = .ok (.iload_n 3, 1) := by decide +kernel
theorem dX9_append_67 : decode cX9_append 67 = .ok (.if_icmp .ge 40, 3) := by decide +kernel
theorem dX9_append_70 : decode cX9_append 70 = .ok (.aload_n 0, 1) := by decide +kernel
theorem dX9_append_71 : decode cX9_append 71 = .ok (.getfield 47, 3) := by decide +kernel
theorem dX9_append_74 : decode cX9_append 74 = .ok (.bipush 10, 2) := by decide +kernel
theorem dX9_append_76 : decode cX9_append 76 = .ok (.iload_n 1, 1) := by decide +kernel
theorem dX9_append_77 : decode cX9_append 77 = .ok (.imul, 1) := by decide +kernel
theorem dX9_append_78 : decode cX9_append 78 = .ok (.aload_n 0, 1) := by decide +kernel
theorem dX9_append_79 : decode cX9_append 79 = .ok (.getfield 44, 3) := by decide +kernel
theorem dX9_append_82 : decode cX9_append 82 = .ok (.iload_n 1, 1) := by decide +kernel
theorem dX9_append_83 : decode cX9_append 83 = .ok (.iaload, 1) := by decide +kernel
theorem dX9_append_84 : decode cX9_append 84 = .ok (.iadd, 1) := by decide +kernel
theorem dX9_append_85 : decode cX9_append 85 = .ok (.iload 4, 2) := by decide +kernel
theorem dX9_append_87 : decode cX9_append 87 = .ok (.iadd, 1) := by decide +kernel
theorem dX9_append_88 : decode cX9_append 88 = .ok (.aload_n 0, 1) := by decide +kernel
theorem dX9_append_89 : decode cX9_append 89 = .ok (.getfield 47, 3) := by decide +kernel
theorem dX9_append_92 : decode cX9_append 92 = .ok (.bipush 10, 2) := by decide +kernel
theorem dX9_append_94 : decode cX9_append 94 = .ok (.iload_n 2, 1) := by decide +kernel
theorem dX9_append_95 : decode cX9_append 95 = .ok (.imul, 1) := by decide +kernel
theorem dX9_append_96 : decode cX9_append 96 = .ok (.iload 4, 2) := by decide +kernel
theorem dX9_append_98 : decode cX9_append 98 = .ok (.iadd, 1) := by decide +kernel
theorem dX9_append_99 : decode cX9_append 99 = .ok (.iaload, 1) := by decide +kernel
theorem dX9_append_100 : decode cX9_append 100 = .ok (.iastore, 1) := by decide +kernel
theorem dX9_append_101 : decode cX9_append 101 = .ok (.iinc 4 1, 3) := by decide +kernel
theorem dX9_append_104 : decode cX9_append 104 = .ok (.goto (-40), 3) := by decide +kernel
theorem dX9_append_107 : decode cX9_append 107 = .ok (.aload_n 0, 1) := by decide +kernel
theorem dX9_append_108 : decode cX9_append 108 = .ok (.getfield 44, 3) := by decide +kernel
theorem dX9_append_111 : decode cX9_append 111 = .ok (.iload_n 1, 1) := by decide +kernel
theorem dX9_append_112 : decode cX9_append 112 = .ok (.dup2, 1) := by decide +kernel
theorem dX9_append_113 : decode cX9_append 113 = .ok (.iaload, 1) := by decide +kernel
theorem dX9_append_114 : decode cX9_append 114 = .ok (.iload_n 3, 1) := by decide +kernel
theorem dX9_append_115 : decode cX9_append 115 = .ok (.iadd, 1) := by decide +kernel
theorem dX9_append_116 : decode cX9_append 116 = .ok (.iastore, 1) := by decide +kernel
theorem dX9_append_117 : decode cX9_append 117 = .ok (.aload_n 0, 1) := by decide +kernel
theorem dX9_append_118 : decode cX9_append 118 = .ok (.getfield 44, 3) := by decide +kernel
theorem dX9_append_121 : decode cX9_append 121 = .ok (.iload_n 1, 1) := by decide +kernel
theorem dX9_append_122 : decode cX9_append 122 = .ok (.iaload, 1) := by decide +kernel
theorem dX9_append_123 : decode cX9_append 123 = .ok (.ireturn, 1) := by decide +kernel
set_option maxHeartbeats 4000000 in
set_option maxRecDepth 100000 in
theorem t_X9_append_L64 {p : Program} {l : Launch} {e : Env} {s : State} {m : MethodId} {args : Array Value} {below : List Frame} {meth : Method} {c : Code} {D : va_G} {aC : Nat → ClassId} {A : Nat → Prop} {a_o : Nat → Nat} {out : Int32 × Ob_T} {k107 : Int32 → Int32 → Ob_T → Option (Int32 × Ob_T)} {rec64 : (Int32 × Int32 × Int32 × Int32 × Ob_T) → Option (Int32 × Ob_T)} (hX : K_X p s m args meth c cX9_append 5 WL_ RX9 D aC A) (hr : meth.sig.returnType = (some .int)) (hk107 : ∀ (y1 : Int32) (y3 : Int32) (t_o : Ob_T), k107 y1 y3 t_o = some out → ∀ (H : Heap) (locs : List Loc) (ls : Array Slot), K_S D A s (wd_X9 aC a_o t_o) H locs → lv_has ls 5 [(0, .ref (a_o 0)), (1, .int y1), (3, .int y3)] → W p l e (R_m 2 45) s m args below meth c H locs 0 0 (MQ below (Q_W (some (.int out.1)) D A (wd_X9 aC a_o out.2)) args s 0 0 A) (F0 m 107 ls [])) (hrec64 : ∀ x : Int32 × Int32 × Int32 × Int32 × Ob_T, rec64 x = some out → ∀ (H : Heap) (locs : List Loc) (ls : Array Slot), K_S D A s (wd_X9 aC a_o x.2.2.2.2) H locs → lv_has ls 5 [(0, .ref (a_o 0)), (1, .int x.1), (2, .int x.2.1), (3, .int x.2.2.1), (4, .int x.2.2.2.1)] → W p l e (R_m 2 45) s m args below meth c H locs 0 0 (MQ below (Q_W (some (.int out.1)) D A (wd_X9 aC a_o out.2)) args s 0 0 A) (F0 m 64 ls [])) (x1 : Int32) (x2 : Int32) (x3 : Int32) (x4 : Int32) (s_o : Ob_T) (h : f_X9_append_L64 k107 rec64 x1 x2 x3 x4 s_o = some out) (H : Heap) (locs : List Loc) (ls : Array Slot) (hZ : K_S D A s (wd_X9 aC a_o s_o) H locs) (hl : lv_has ls 5 [(0, .ref (a_o 0)), (1, .int x1), (2, .int x2), (3, .int x3), (4, .int x4)]) : W p l e (R_m 2 45) s m args below meth c H locs 0 0 (MQ below (Q_W (some (.int out.1)) D A (wd_X9 aC a_o out.2)) args s 0 0 A) (F0 m 64 ls []) := by
  obtain ⟨hx, hb, hml, hown, hts, hK, hA, hlk⟩ := id hX
  unfold f_X9_append_L64 at h
  refine lv_iload hx hb dX9_append_64 (lv_at hl 4 rfl) ?_
  refine lv_iload_n hx hb dX9_append_66 rfl (lv_at hl 3 rfl) ?_
  refine lv_icmp_ge (tgt := 107) hx hb dX9_append_67 (by decide) (fun cd => ?_) (fun cd => ?_)
  · replace h := k_t cd h
    clear cd
    exact hk107 x1 x3 s_o h H locs ls hZ (lv_sub hl [0, 1, 3] rfl)
  · replace h := k_f cd h
    clear cd
    refine lv_aload_n hx hb dX9_append_70 rfl (lv_at hl 0 rfl) ?_
    refine k_get hX hZ.1 0 9 rfl rfl iw_X9 17 rfl (wm_267) (v := .ref (a_o 13)) rfl dX9_append_71 ?_
    refine lv_bipush (v := 10) hx hb dX9_append_74 (by decide) ?_
    refine lv_iload_n hx hb dX9_append_76 rfl (lv_at hl 1 rfl) ?_
    refine lv_imul hx hb dX9_append_77 ?_
    refine lv_aload_n hx hb dX9_append_78 rfl (lv_at hl 0 rfl) ?_
    refine k_get hX hZ.1 0 9 rfl rfl iw_X9 16 rfl (wm_120) (v := .ref (a_o 12)) rfl dX9_append_79 ?_
    refine lv_iload_n hx hb dX9_append_82 rfl (lv_at hl 1 rfl) ?_
    refine k_iald hX hZ.1 12 rfl h dX9_append_83 (fun v7 h => ?_)
    refine lv_iadd hx hb dX9_append_84 ?_
    refine lv_iload hx hb dX9_append_85 (lv_at hl 4 rfl) ?_
    refine lv_iadd hx hb dX9_append_87 ?_
    refine lv_aload_n hx hb dX9_append_88 rfl (lv_at hl 0 rfl) ?_
    refine k_get hX hZ.1 0 9 rfl rfl iw_X9 17 rfl (wm_267) (v := .ref (a_o 13)) rfl dX9_append_89 ?_
    refine lv_bipush (v := 10) hx hb dX9_append_92 (by decide) ?_
    refine lv_iload_n hx hb dX9_append_94 rfl (lv_at hl 2 rfl) ?_
    refine lv_imul hx hb dX9_append_95 ?_
    refine lv_iload hx hb dX9_append_96 (lv_at hl 4 rfl) ?_
    refine lv_iadd hx hb dX9_append_98 ?_
    refine k_iald hX hZ.1 13 rfl h dX9_append_99 (fun v8 h => ?_)
    refine k_iast (wf := (fun o => wd_X9 aC a_o o)) (o := s_o) hX hZ 13 17 rfl (fun _ => rfl) h dX9_append_100 (fun o9 H locs hZ h => ?_)
    refine lv_iinc (v := (x4 + (1 : Int32))) (lv' := [(4, .int (x4 + (1 : Int32))), (0, .ref (a_o 0)), (1, .int x1), (2, .int x2), (3, .int x3)]) hx hb dX9_append_101 hl (k := 4) rfl rfl (by decide) rfl (fun ls hl => ?_)
    refine lv_goto (tgt := 64) hx hb dX9_append_104 (by decide) ?_
    exact hrec64 (x1, x2, x3, (x4 + (1 : Int32)), o9) h H locs ls hZ (lv_sub hl [1, 2, 3, 4, 0] rfl)
set_option maxHeartbeats 4000000 in
set_option maxRecDepth 100000 in
theorem t_X9_append_J107 {p : Program} {l : Launch} {e : Env} {s : State} {m : MethodId} {args : Array Value} {below : List Frame} {meth : Method} {c : Code} {D : va_G} {aC : Nat → ClassId} {A : Nat → Prop} {a_o : Nat → Nat} {out : Int32 × Ob_T} (hX : K_X p s m args meth c cX9_append 5 WL_ RX9 D aC A) (hr : meth.sig.returnType = (some .int)) (x1 : Int32) (x3 : Int32) (s_o : Ob_T) (h : f_X9_append_J107 x1 x3 s_o = some out) (H : Heap) (locs : List Loc) (ls : Array Slot) (hZ : K_S D A s (wd_X9 aC a_o s_o) H locs) (hl : lv_has ls 5 [(0, .ref (a_o 0)), (1, .int x1), (3, .int x3)]) : W p l e (R_m 2 45) s m args below meth c H locs 0 0 (MQ below (Q_W (some (.int out.1)) D A (wd_X9 aC a_o out.2)) args s 0 0 A) (F0 m 107 ls []) := by
  obtain ⟨hx, hb, hml, hown, hts, hK, hA, hlk⟩ := id hX
  unfold f_X9_append_J107 at h
  refine lv_aload_n hx hb dX9_append_107 rfl (lv_at hl 0 rfl) ?_
  refine k_get hX hZ.1 0 9 rfl rfl iw_X9 16 rfl (wm_120) (v := .ref (a_o 12)) rfl dX9_append_108 ?_
  refine lv_iload_n hx hb dX9_append_111 rfl (lv_at hl 1 rfl) ?_
  refine lv_dup2_11 hx hb dX9_append_112 rfl rfl ?_
  refine k_iald hX hZ.1 12 rfl h dX9_append_113 (fun v10 h => ?_)
  refine lv_iload_n hx hb dX9_append_114 rfl (lv_at hl 2 rfl) ?_
  refine lv_iadd hx hb dX9_append_115 ?_
  refine k_iast (wf := (fun o => wd_X9 aC a_o o)) (o := s_o) hX hZ 12 16 rfl (fun _ => rfl) h dX9_append_116 (fun o11 H locs hZ h => ?_)
  refine lv_aload_n hx hb dX9_append_117 rfl (lv_at hl 0 rfl) ?_
  refine k_get hX hZ.1 0 9 rfl rfl iw_X9 16 rfl (wm_120) (v := .ref (a_o 12)) rfl dX9_append_118 ?_
  refine lv_iload_n hx hb dX9_append_121 rfl (lv_at hl 1 rfl) ?_
  refine k_iald hX hZ.1 12 rfl h dX9_append_122 (fun v12 h => ?_)
  cases h
  exact k_iretW hX hr hZ dX9_append_123
set_option maxHeartbeats 4000000 in
set_option maxRecDepth 100000 in
theorem c_X9_append {l : Launch} {D : va_G} {aC : Nat → ClassId} {a_o : Nat → Nat} (s_o : Ob_T) (x1 : Int32) (x2 : Int32) {out : Int32 × Ob_T} (h : f_X9_append s_o x1 x2 = some out) : M_W l yX9_append wlX9_append 2 45 D aC [.ref (a_o 0), .int x1, .int x2] (wd_X9 aC a_o s_o) (some (.int out.1)) (wd_X9 aC a_o out.2) := by
  refine k_entW (cc := cX9_append) (ret := (some .int)) (maxL := 5) (own := RX9) (by decide) rfl rfl rfl ?_
  intro p e s m below meth c A ls hX hr hZ hl
  have hl : lv_has ls 5 [(0, .ref (a_o 0)), (1, .int x1), (2, .int x2)] := hl
  generalize ([.ref (a_o 0), .int x1, .int x2] : List Value).toArray = args at hX ⊢
  obtain ⟨hx, hb, hml, hown, hts, hK, hA, hlk⟩ := id hX
  unfold f_X9_append at h
  generalize s.heap = H at hZ ⊢
  generalize ([] : List Loc) = locs at hZ ⊢
  refine lv_iload_n hx hb dX9_append_0 rfl (lv_at hl 1 rfl) ?_
  obtain ⟨u1, hu, h⟩ := k_bd h
  refine k_sR (As := [.int x1]) (rest := []) (wc := []) (v := some (.int u1)) (st1 := [.int u1]) hX hl.1 hZ (c_X9_isRow  x1 hu) (gs_ wm_268 wm_270 wm_11 wm_269) rfl hd_X9_isRow ⟨rfl, rfl⟩ [] rfl rfl rfl rfl rfl dX9_append_1 rfl ⟨rfl, rfl⟩ (fun locs hZ => ?_)
  clear hu
  refine lv_if_eq (tgt := 14) hx hb dX9_append_4 (by decide) (fun cd => ?_) (fun cd => ?_)
  · replace h := k_t cd h
    clear cd
    refine lv_bipush (v := -2) hx hb dX9_append_14 (by decide) ?_
    cases h
    exact k_iretW hX hr hZ dX9_append_16
  · replace h := k_f cd h
    clear cd
    refine lv_iload_n hx hb dX9_append_7 rfl (lv_at hl 2 rfl) ?_
    obtain ⟨u2, hu, h⟩ := k_bd h
    refine k_sR (As := [.int x2]) (rest := []) (wc := []) (v := some (.int u2)) (st1 := [.int u2]) hX hl.1 hZ (c_X9_isRow  x2 hu) (gs_ wm_268 wm_270 wm_11 wm_269) rfl hd_X9_isRow ⟨rfl, rfl⟩ [] rfl rfl rfl rfl rfl dX9_append_8 rfl ⟨rfl, rfl⟩ (fun locs hZ => ?_)
    clear hu
    refine lv_if_ne (tgt := 17) hx hb dX9_append_11 (by decide) (fun cd => ?_) (fun cd => ?_)
    · replace h := k_f cd h
      clear cd
      refine lv_aload_n hx hb dX9_append_17 rfl (lv_at hl 0 rfl) ?_
      refine k_get hX hZ.1 0 9 rfl rfl iw_X9 16 rfl (wm_120) (v := .ref (a_o 12)) rfl dX9_append_18 ?_
      refine lv_iload_n hx hb dX9_append_21 rfl (lv_at hl 1 rfl) ?_
      refine k_iald hX hZ.1 12 rfl h dX9_append_22 (fun v3 h => ?_)
      refine lv_if_lt (tgt := 35) hx hb dX9_append_23 (by decide) (fun cd => ?_) (fun cd => ?_)
      · replace h := k_t cd h
        clear cd
        refine lv_bipush (v := -11) hx hb dX9_append_35 (by decide) ?_
        cases h
        exact k_iretW hX hr hZ dX9_append_37
      · replace h := k_f cd h
        clear cd
        refine lv_aload_n hx hb dX9_append_26 rfl (lv_at hl 0 rfl) ?_
        refine k_get hX hZ.1 0 9 rfl rfl iw_X9 16 rfl (wm_120) (v := .ref (a_o 12)) rfl dX9_append_27 ?_
        refine lv_iload_n hx hb dX9_append_30 rfl (lv_at hl 2 rfl) ?_
        refine k_iald hX hZ.1 12 rfl h dX9_append_31 (fun v4 h => ?_)
        refine lv_if_ge (tgt := 38) hx hb dX9_append_32 (by decide) (fun cd => ?_) (fun cd => ?_)
        · replace h := k_t cd h
          clear cd
          refine lv_aload_n hx hb dX9_append_38 rfl (lv_at hl 0 rfl) ?_
          refine k_get hX hZ.1 0 9 rfl rfl iw_X9 16 rfl (wm_120) (v := .ref (a_o 12)) rfl dX9_append_39 ?_
          refine lv_iload_n hx hb dX9_append_42 rfl (lv_at hl 2 rfl) ?_
          refine k_iald hX hZ.1 12 rfl h dX9_append_43 (fun v5 h => ?_)
          refine lv_istore_n (lv' := [(3, .int v5), (0, .ref (a_o 0)), (1, .int x1), (2, .int x2)]) hx hb dX9_append_44 rfl hl (by decide) rfl (fun ls hl => ?_)
          refine lv_aload_n hx hb dX9_append_45 rfl (lv_at hl 1 rfl) ?_
          refine k_get hX hZ.1 0 9 rfl rfl iw_X9 16 rfl (wm_120) (v := .ref (a_o 12)) rfl dX9_append_46 ?_
          refine lv_iload_n hx hb dX9_append_49 rfl (lv_at hl 2 rfl) ?_
          refine k_iald hX hZ.1 12 rfl h dX9_append_50 (fun v6 h => ?_)
          refine lv_iload_n hx hb dX9_append_51 rfl (lv_at hl 0 rfl) ?_
          refine lv_iadd hx hb dX9_append_52 ?_
          refine lv_bipush (v := 10) hx hb dX9_append_53 (by decide) ?_
          refine lv_icmp_le (tgt := 61) hx hb dX9_append_55 (by decide) (fun cd => ?_) (fun cd => ?_)
          · replace h := k_t cd h
            clear cd
            refine lv_iconst (v := 0) hx hb dX9_append_61 (by decide) ?_
            refine lv_istore (lv' := [(4, .int (0 : Int32)), (3, .int v5), (0, .ref (a_o 0)), (1, .int x1), (2, .int x2)]) hx hb dX9_append_62 hl (by decide) rfl (fun ls hl => ?_)
            exact Lp_ok (body := (fun (rec : (Int32 × Int32 × Int32 × Int32 × Ob_T) → Option (Int32 × Ob_T)) x => f_X9_append_L64 (fun y1 y3 t_o => f_X9_append_J107 y1 y3 t_o) rec x.1 x.2.1 x.2.2.1 x.2.2.2.1 x.2.2.2.2)) (out := out) (fun x => ∀ (H : Heap) (locs : List Loc) (ls : Array Slot), K_S D A s (wd_X9 aC a_o x.2.2.2.2) H locs → lv_has ls 5 [(0, .ref (a_o 0)), (1, .int x.1), (2, .int x.2.1), (3, .int x.2.2.1), (4, .int x.2.2.2.1)] → W p l e (R_m 2 45) s m args below meth c H locs 0 0 (MQ below (Q_W (some (.int out.1)) D A (wd_X9 aC a_o out.2)) args s 0 0 A) (F0 m 64 ls [])) (fun rec hrec x h H locs ls hZ hl => t_X9_append_L64 hX hr (fun y1 y3 t_o h H locs ls hZ hl => t_X9_append_J107 hX hr y1 y3 t_o h H locs ls hZ (lv_sub hl [0, 1, 2] rfl)) hrec x.1 x.2.1 x.2.2.1 x.2.2.2.1 x.2.2.2.2 h H locs ls hZ hl) FU_ (x1, x2, v5, (0 : Int32), s_o) h H locs ls hZ (lv_sub hl [2, 3, 4, 1, 0] rfl)
          · replace h := k_f cd h
            clear cd
            refine lv_bipush (v := -15) hx hb dX9_append_58 (by decide) ?_
            cases h
            exact k_iretW hX hr hZ dX9_append_60
        · replace h := k_f cd h
          clear cd
          refine lv_bipush (v := -11) hx hb dX9_append_35 (by decide) ?_
          cases h
          exact k_iretW hX hr hZ dX9_append_37
    · replace h := k_t cd h
      clear cd
      refine lv_bipush (v := -2) hx hb dX9_append_14 (by decide) ?_
      cases h
      exact k_iretW hX hr hZ dX9_append_16
