def wlX9_readsExtents : List Cond := .code yX9_readsExtents cX9_readsExtents 3 (some .boolean) :: WL_
theorem hd_X9_readsExtents : yX9_readsExtents.cls = RX9 ∧ yX9_readsExtents.cls ≠ "java/lang/invoke/MethodHandle" ∧ yX9_readsExtents.cls ≠ "java/lang/invoke/VarHandle" ∧ (parseMethodDescriptor yX9_readsExtents.desc).map (fun d => d.parameters.length) = some 1 := by decide +kernel
theorem dX9_readsExtents_0 : decode cX9_readsExtents 0 = .ok (.aload_n 0, 1) := by decide +kernel
theorem dX9_readsExtents_1 : decode cX9_readsExtents 1 = .ok (.invokevirtual 132, 3) := by decide +kernel
theorem dX9_readsExtents_4 : decode cX9_readsExtents 4 = .ok (.ifCond .ne 145, 3) := by decide +kernel
theorem dX9_readsExtents_7 : decode cX9_readsExtents 7 = .ok (.aload_n 0, 1) := by decide +kernel
theorem dX9_readsExtents_8 : decode cX9_readsExtents 8 = .ok (.getfield 13, 3) := by decide +kernel
theorem dX9_readsExtents_11 : decode cX9_readsExtents 11 = .ok (.iload_n 1, 1) := by decide +kernel
theorem dX9_readsExtents_12 : decode cX9_readsExtents 12 = .ok (.iconst 4, 1) := by decide +kernel
theorem dX9_readsExtents_13 : decode cX9_readsExtents 13 = .ok (.iadd, 1) := by decide +kernel
theorem dX9_readsExtents_14 : decode cX9_readsExtents 14 = .ok (.iaload, 1) := by decide +kernel
theorem dX9_readsExtents_15 : decode cX9_readsExtents 15 = .ok (.istore_n 2, 1) := by decide +kernel
theorem dX9_readsExtents_16 : decode cX9_readsExtents 16 = .ok (.iload_n 2, 1) := by decide +kernel
theorem dX9_readsExtents_17 : decode cX9_readsExtents 17 = .ok (.iconst 3, 1) := by decide +kernel
theorem dX9_readsExtents_18 : decode cX9_readsExtents 18 = .ok (.if_icmp .ne 5, 3) := by decide +kernel
theorem dX9_readsExtents_21 : decode cX9_readsExtents 21 = .ok (.iconst 0, 1) := by decide +kernel
theorem dX9_readsExtents_22 : decode cX9_readsExtents 22 = .ok (.ireturn, 1) := by decide +kernel
theorem dX9_readsExtents_23 : decode cX9_readsExtents 23 = .ok (.aload_n 0, 1) := by decide +kernel
theorem dX9_readsExtents_24 : decode cX9_readsExtents 24 = .ok (.getfield 29, 3) := by decide +kernel
theorem dX9_readsExtents_27 : decode cX9_readsExtents 27 = .ok (.aload_n 0, 1) := by decide +kernel
theorem dX9_readsExtents_28 : decode cX9_readsExtents 28 = .ok (.getfield 116, 3) := by decide +kernel
theorem dX9_readsExtents_31 : decode cX9_readsExtents 31 = .ok (.iaload, 1) := by decide +kernel
theorem dX9_readsExtents_32 : decode cX9_readsExtents 32 = .ok (.invokestatic 119, 3) := by decide +kernel
theorem dX9_readsExtents_35 : decode cX9_readsExtents 35 = .ok (.ifCond .eq 73, 3) := by decide +kernel
theorem dX9_readsExtents_38 : decode cX9_readsExtents 38 = .ok (.aload_n 0, 1) := by decide +kernel
theorem dX9_readsExtents_39 : decode cX9_readsExtents 39 = .ok (.getfield 113, 3) := by decide +kernel
theorem dX9_readsExtents_42 : decode cX9_readsExtents 42 = .ok (.aload_n 0, 1) := by decide +kernel
theorem dX9_readsExtents_43 : decode cX9_readsExtents 43 = .ok (.getfield 116, 3) := by decide +kernel
theorem dX9_readsExtents_46 : decode cX9_readsExtents 46 = .ok (.isub, 1) := by decide +kernel
theorem dX9_readsExtents_47 : decode cX9_readsExtents 47 = .ok (.iconst 1, 1) := by decide +kernel
theorem dX9_readsExtents_48 : decode cX9_readsExtents 48 = .ok (.if_icmp .gt 25, 3) := by decide +kernel
theorem dX9_readsExtents_51 : decode cX9_readsExtents 51 = .ok (.aload_n 0, 1) := by decide +kernel
theorem dX9_readsExtents_52 : decode cX9_readsExtents 52 = .ok (.getfield 29, 3) := by decide +kernel
theorem dX9_readsExtents_55 : decode cX9_readsExtents 55 = .ok (.aload_n 0, 1) := by decide +kernel
theorem dX9_readsExtents_56 : decode cX9_readsExtents 56 = .ok (.getfield 116, 3) := by decide +kernel
theorem dX9_readsExtents_59 : decode cX9_readsExtents 59 = .ok (.iaload, 1) := by decide +kernel
theorem dX9_readsExtents_60 : decode cX9_readsExtents 60 = .ok (.i2l, 1) := by decide +kernel
theorem dX9_readsExtents_61 : decode cX9_readsExtents 61 = .ok (.ldc2_w 136, 3) := by decide +kernel
theorem dX9_readsExtents_64 : decode cX9_readsExtents 64 = .ok (.ldc2_w 138, 3) := by decide +kernel
theorem dX9_readsExtents_67 : decode cX9_readsExtents 67 = .ok (.invokestatic 97, 3) := by decide +kernel
theorem dX9_readsExtents_70 : decode cX9_readsExtents 70 = .ok (.ifCond .ne 5, 3) := by decide +kernel
theorem dX9_readsExtents_73 : decode cX9_readsExtents 73 = .ok (.iconst 0, 1) := by decide +kernel
theorem dX9_readsExtents_74 : decode cX9_readsExtents 74 = .ok (.ireturn, 1) := by decide +kernel
theorem dX9_readsExtents_75 : decode cX9_readsExtents 75 = .ok (.aload_n 0, 1) := by decide +kernel
theorem dX9_readsExtents_76 : decode cX9_readsExtents 76 = .ok (.getfield 13, 3) := by decide +kernel
theorem dX9_readsExtents_79 : decode cX9_readsExtents 79 = .ok (.iload_n 1, 1) := by decide +kernel
theorem dX9_readsExtents_80 : decode cX9_readsExtents 80 = .ok (.iconst 5, 1) := by decide +kernel
theorem dX9_readsExtents_81 : decode cX9_readsExtents 81 = .ok (.iadd, 1) := by decide +kernel
theorem dX9_readsExtents_82 : decode cX9_readsExtents 82 = .ok (.iload_n 2, 1) := by decide +kernel
theorem dX9_readsExtents_83 : decode cX9_readsExtents 83 = .ok (.iadd, 1) := by decide +kernel
theorem dX9_readsExtents_84 : decode cX9_readsExtents 84 = .ok (.sipush 20000, 3) := by decide +kernel
theorem dX9_readsExtents_87 : decode cX9_readsExtents 87 = .ok (.aload_n 0, 1) := by decide +kernel
theorem dX9_readsExtents_88 : decode cX9_readsExtents 88 = .ok (.getfield 29, 3) := by decide +kernel
theorem dX9_readsExtents_91 : decode cX9_readsExtents 91 = .ok (.aload_n 0, 1) := by decide +kernel
theorem dX9_readsExtents_92 : decode cX9_readsExtents 92 = .ok (.getfield 116, 3) := by decide +kernel
theorem dX9_readsExtents_95 : decode cX9_readsExtents 95 = .ok (.iaload, 1) := by decide +kernel
theorem dX9_readsExtents_96 : decode cX9_readsExtents 96 = .ok (.iadd, 1) := by decide +kernel
theorem dX9_readsExtents_97 : decode cX9_readsExtents 97 = .ok (.bipush 117, 2) := by decide +kernel
theorem dX9_readsExtents_99 : decode cX9_readsExtents 99 = .ok (.isub, 1) := by decide +kernel
theorem dX9_readsExtents_100 : decode cX9_readsExtents 100 = .ok (.iastore, 1) := by decide +kernel
theorem dX9_readsExtents_101 : decode cX9_readsExtents 101 = .ok (.aload_n 0, 1) := by decide +kernel
theorem dX9_readsExtents_102 : decode cX9_readsExtents 102 = .ok (.invokevirtual 129, 3) := by decide +kernel
theorem dX9_readsExtents_105 : decode cX9_readsExtents 105 = .ok (.goto 29, 3) := by decide +kernel
theorem dX9_readsExtents_108 : decode cX9_readsExtents 108 = .ok (.aload_n 0, 1) := by decide +kernel
theorem dX9_readsExtents_109 : decode cX9_readsExtents 109 = .ok (.iconst 0, 1) := by decide +kernel
theorem dX9_readsExtents_110 : decode cX9_readsExtents 110 = .ok (.bipush 9, 2) := by decide +kernel
theorem dX9_readsExtents_112 : decode cX9_readsExtents 112 = .ok (.invokevirtual 140, 3) := by decide +kernel
theorem dX9_readsExtents_115 : decode cX9_readsExtents 115 = .ok (.ifCond .ne 5, 3) := by decide +kernel
theorem dX9_readsExtents_118 : decode cX9_readsExtents 118 = .ok (.iconst 0, 1) := by decide +kernel
theorem dX9_readsExtents_119 : decode cX9_readsExtents 119 = .ok (.ireturn, 1) := by decide +kernel
theorem dX9_readsExtents_120 : decode cX9_readsExtents 120 = .ok (.aload_n 0, 1) := by decide +kernel
theorem dX9_readsExtents_121 : decode cX9_readsExtents 121 = .ok (.getfield 13, 3) := by decide +kernel
theorem dX9_readsExtents_124 : decode cX9_readsExtents 124 = .ok (.iload_n 1, 1) := by decide +kernel
theorem dX9_readsExtents_125 : decode cX9_readsExtents 125 = .ok (.iconst 5, 1) := by decide +kernel
theorem dX9_readsExtents_126 : decode cX9_readsExtents 126 = .ok (.iadd, 1) := by decide +kernel
theorem dX9_readsExtents_127 : decode cX9_readsExtents 127 = .ok (.iload_n 2, 1) := by decide +kernel
theorem dX9_readsExtents_128 : decode cX9_readsExtents 128 = .ok (.iadd, 1) := by decide +kernel
theorem dX9_readsExtents_129 : decode cX9_readsExtents 129 = .ok (.aload_n 0, 1) := by decide +kernel
theorem dX9_readsExtents_130 : decode cX9_readsExtents 130 = .ok (.getfield 126, 3) := by decide +kernel
theorem dX9_readsExtents_133 : decode cX9_readsExtents 133 = .ok (.iastore, 1) := by decide +kernel
theorem dX9_readsExtents_134 : decode cX9_readsExtents 134 = .ok (.aload_n 0, 1) := by decide +kernel
theorem dX9_readsExtents_135 : decode cX9_readsExtents 135 = .ok (.getfield 13, 3) := by decide +kernel
theorem dX9_readsExtents_138 : decode cX9_readsExtents 138 = .ok (.iload_n 1, 1) := by decide +kernel
theorem dX9_readsExtents_139 : decode cX9_readsExtents 139 = .ok (.iconst 4, 1) := by decide +kernel
theorem dX9_readsExtents_140 : decode cX9_readsExtents 140 = .ok (.iadd, 1) := by decide +kernel
theorem dX9_readsExtents_141 : decode cX9_readsExtents 141 = .ok (.dup2, 1) := by decide +kernel
theorem dX9_readsExtents_142 : decode cX9_readsExtents 142 = .ok (.iaload, 1) := by decide +kernel
theorem dX9_readsExtents_143 : decode cX9_readsExtents 143 = .ok (.iconst 1, 1) := by decide +kernel
theorem dX9_readsExtents_144 : decode cX9_readsExtents 144 = .ok (.iadd, 1) := by decide +kernel
theorem dX9_readsExtents_145 : decode cX9_readsExtents 145 = .ok (.iastore, 1) := by decide +kernel
theorem dX9_readsExtents_146 : decode cX9_readsExtents 146 = .ok (.goto (-146), 3) := by decide +kernel
theorem dX9_readsExtents_149 : decode cX9_readsExtents 149 = .ok (.iconst 1, 1) := by decide +kernel
theorem dX9_readsExtents_150 : decode cX9_readsExtents 150 = .ok (.ireturn, 1) := by decide +kernel
set_option maxHeartbeats 4000000 in
set_option maxRecDepth 100000 in
theorem t_X9_readsExtents_J134 {p : Program} {l : Launch} {e : Env} {s : State} {m : MethodId} {args : Array Value} {below : List Frame} {meth : Method} {c : Code} {D : va_G} {aC : Nat → ClassId} {A : Nat → Prop} {a_o : Nat → Nat} {out : Int32 × Ob_T} {rec0 : (Int32 × Ob_T) → Option (Int32 × Ob_T)} (hX : K_X p s m args meth c cX9_readsExtents 3 WL_ RX9 D aC A) (hr : meth.sig.returnType = (some .boolean)) (hrec0 : ∀ x : Int32 × Ob_T, rec0 x = some out → ∀ (H : Heap) (locs : List Loc) (ls : Array Slot), K_S D A s (wd_X9 aC a_o x.2) H locs → lv_has ls 3 [(0, .ref (a_o 0)), (1, .int x.1)] → W p l e (R_m 4 89) s m args below meth c H locs 0 0 (MQ below (Q_W (some (.int out.1)) D A (wd_X9 aC a_o out.2)) args s 0 0 A) (F0 m 0 ls [])) (x1 : Int32) (s_o : Ob_T) (h : f_X9_readsExtents_J134 rec0 x1 s_o = some out) (H : Heap) (locs : List Loc) (ls : Array Slot) (hZ : K_S D A s (wd_X9 aC a_o s_o) H locs) (hl : lv_has ls 3 [(0, .ref (a_o 0)), (1, .int x1)]) : W p l e (R_m 4 89) s m args below meth c H locs 0 0 (MQ below (Q_W (some (.int out.1)) D A (wd_X9 aC a_o out.2)) args s 0 0 A) (F0 m 134 ls []) := by
  obtain ⟨hx, hb, hml, hown, hts, hK, hA, hlk⟩ := id hX
  unfold f_X9_readsExtents_J134 at h
  refine lv_aload_n hx hb dX9_readsExtents_134 rfl (lv_at hl 0 rfl) ?_
  refine k_get hX hZ.1 0 9 rfl rfl iw_X9 1 rfl (wm_31) (v := .ref (a_o 2)) rfl dX9_readsExtents_135 ?_
  refine lv_iload_n hx hb dX9_readsExtents_138 rfl (lv_at hl 1 rfl) ?_
  refine lv_iconst (v := 4) hx hb dX9_readsExtents_139 (by decide) ?_
  refine lv_iadd hx hb dX9_readsExtents_140 ?_
  refine lv_dup2_11 hx hb dX9_readsExtents_141 rfl rfl ?_
  refine k_iald hX hZ.1 2 rfl h dX9_readsExtents_142 (fun v7 h => ?_)
  refine lv_iconst (v := 1) hx hb dX9_readsExtents_143 (by decide) ?_
  refine lv_iadd hx hb dX9_readsExtents_144 ?_
  refine k_iast (wf := (fun o => wd_X9 aC a_o o)) (o := s_o) hX hZ 2 1 rfl (fun _ => rfl) h dX9_readsExtents_145 (fun o8 H locs hZ h => ?_)
  refine lv_goto (tgt := 0) hx hb dX9_readsExtents_146 (by decide) ?_
  exact hrec0 (x1, o8) h H locs ls hZ (lv_sub hl [0, 1] rfl)
set_option maxHeartbeats 4000000 in
set_option maxRecDepth 100000 in
theorem t_X9_readsExtents_L0 {p : Program} {l : Launch} {e : Env} {s : State} {m : MethodId} {args : Array Value} {below : List Frame} {meth : Method} {c : Code} {D : va_G} {aC : Nat → ClassId} {A : Nat → Prop} {a_o : Nat → Nat} {out : Int32 × Ob_T} {rec0 : (Int32 × Ob_T) → Option (Int32 × Ob_T)} (hX : K_X p s m args meth c cX9_readsExtents 3 WL_ RX9 D aC A) (hr : meth.sig.returnType = (some .boolean)) (hrec0 : ∀ x : Int32 × Ob_T, rec0 x = some out → ∀ (H : Heap) (locs : List Loc) (ls : Array Slot), K_S D A s (wd_X9 aC a_o x.2) H locs → lv_has ls 3 [(0, .ref (a_o 0)), (1, .int x.1)] → W p l e (R_m 4 89) s m args below meth c H locs 0 0 (MQ below (Q_W (some (.int out.1)) D A (wd_X9 aC a_o out.2)) args s 0 0 A) (F0 m 0 ls [])) (x1 : Int32) (s_o : Ob_T) (h : f_X9_readsExtents_L0 rec0 x1 s_o = some out) (H : Heap) (locs : List Loc) (ls : Array Slot) (hZ : K_S D A s (wd_X9 aC a_o s_o) H locs) (hl : lv_has ls 3 [(0, .ref (a_o 0)), (1, .int x1)]) : W p l e (R_m 4 89) s m args below meth c H locs 0 0 (MQ below (Q_W (some (.int out.1)) D A (wd_X9 aC a_o out.2)) args s 0 0 A) (F0 m 0 ls []) := by
  obtain ⟨hx, hb, hml, hown, hts, hK, hA, hlk⟩ := id hX
  unfold f_X9_readsExtents_L0 at h
  refine lv_aload_n hx hb dX9_readsExtents_0 rfl (lv_at hl 0 rfl) ?_
  obtain ⟨u1, hu, h⟩ := k_bd h
  refine k_vRs (As := []) (rest := []) (v := some (.int u1)) (st1 := [.int u1]) hX hl.1 hZ (c_X9_isEnd (a_o := a_o) s_o hu) (gv_ wm_38 wm_40 wm_41 wm_11 wm_39) rfl hd_X9_isEnd ⟨rfl, rfl⟩ 9 0 rfl rfl rfl rfl rfl dX9_readsExtents_1 rfl ⟨rfl, rfl⟩ (fun locs hZ => ?_)
  clear hu
  refine lv_if_ne (tgt := 149) hx hb dX9_readsExtents_4 (by decide) (fun cd => ?_) (fun cd => ?_)
  · replace h := k_f cd h
    clear cd
    refine lv_iconst (v := 1) hx hb dX9_readsExtents_149 (by decide) ?_
    cases h
    exact k_zretW (v := (1 : Int32)) hX hr rfl hZ dX9_readsExtents_150
  · replace h := k_t cd h
    clear cd
    refine lv_aload_n hx hb dX9_readsExtents_7 rfl (lv_at hl 0 rfl) ?_
    refine k_get hX hZ.1 0 9 rfl rfl iw_X9 1 rfl (wm_31) (v := .ref (a_o 2)) rfl dX9_readsExtents_8 ?_
    refine lv_iload_n hx hb dX9_readsExtents_11 rfl (lv_at hl 1 rfl) ?_
    refine lv_iconst (v := 4) hx hb dX9_readsExtents_12 (by decide) ?_
    refine lv_iadd hx hb dX9_readsExtents_13 ?_
    refine k_iald hX hZ.1 2 rfl h dX9_readsExtents_14 (fun v2 h => ?_)
    refine lv_istore_n (lv' := [(2, .int v2), (0, .ref (a_o 0)), (1, .int x1)]) hx hb dX9_readsExtents_15 rfl hl (by decide) rfl (fun ls hl => ?_)
    refine lv_iload_n hx hb dX9_readsExtents_16 rfl (lv_at hl 0 rfl) ?_
    refine lv_iconst (v := 3) hx hb dX9_readsExtents_17 (by decide) ?_
    refine lv_icmp_ne (tgt := 23) hx hb dX9_readsExtents_18 (by decide) (fun cd => ?_) (fun cd => ?_)
    · replace h := k_f cd h
      clear cd
      refine lv_aload_n hx hb dX9_readsExtents_23 rfl (lv_at hl 1 rfl) ?_
      refine k_get hX hZ.1 0 9 rfl rfl iw_X9 9 rfl (wm_9) (v := .ref (a_o 7)) rfl dX9_readsExtents_24 ?_
      refine lv_aload_n hx hb dX9_readsExtents_27 rfl (lv_at hl 1 rfl) ?_
      refine k_get hX hZ.1 0 9 rfl rfl iw_X9 18 rfl (wm_19) (v := .int (o_F s_o 18)) rfl dX9_readsExtents_28 ?_
      refine k_iald hX hZ.1 7 rfl h dX9_readsExtents_31 (fun v3 h => ?_)
      obtain ⟨u4, hu, h⟩ := k_bd h
      refine k_sR (As := [.int v3]) (rest := []) (wc := []) (v := some (.int u4)) (st1 := [.int u4]) hX hl.1 hZ (c_X9_isLetter  v3 hu) (gs_ wm_23 wm_25 wm_11 wm_24) rfl hd_X9_isLetter ⟨rfl, rfl⟩ [] rfl rfl rfl rfl rfl dX9_readsExtents_32 rfl ⟨rfl, rfl⟩ (fun locs hZ => ?_)
      clear hu
      refine lv_if_eq (tgt := 108) hx hb dX9_readsExtents_35 (by decide) (fun cd => ?_) (fun cd => ?_)
      · replace h := k_t cd h
        clear cd
        refine lv_aload_n hx hb dX9_readsExtents_108 rfl (lv_at hl 1 rfl) ?_
        refine lv_iconst (v := 0) hx hb dX9_readsExtents_109 (by decide) ?_
        refine lv_bipush (v := 9) hx hb dX9_readsExtents_110 (by decide) ?_
        obtain ⟨u5, hu, h⟩ := k_bd h
        refine k_vWs (As := [.int (0 : Int32), .int (9 : Int32)]) (rest := []) (v := some (.int u5.1)) (st1 := [.int u5.1]) hX hl.1 hZ (c_X9_readsNumber (a_o := a_o) s_o (0 : Int32) (9 : Int32) hu) (gv_ wm_32 wm_34 wm_35 wm_11 wm_33) rfl hd_X9_readsNumber ⟨rfl, rfl⟩ 9 0 rfl rfl rfl rfl rfl dX9_readsExtents_112 rfl ⟨rfl, rfl⟩ rfl (fun H locs hZ => ?_)
        clear hu
        refine lv_if_ne (tgt := 120) hx hb dX9_readsExtents_115 (by decide) (fun cd => ?_) (fun cd => ?_)
        · replace h := k_f cd h
          clear cd
          refine lv_aload_n hx hb dX9_readsExtents_120 rfl (lv_at hl 1 rfl) ?_
          refine k_get hX hZ.1 0 9 rfl rfl iw_X9 1 rfl (wm_31) (v := .ref (a_o 2)) rfl dX9_readsExtents_121 ?_
          refine lv_iload_n hx hb dX9_readsExtents_124 rfl (lv_at hl 2 rfl) ?_
          refine lv_iconst (v := 5) hx hb dX9_readsExtents_125 (by decide) ?_
          refine lv_iadd hx hb dX9_readsExtents_126 ?_
          refine lv_iload_n hx hb dX9_readsExtents_127 rfl (lv_at hl 0 rfl) ?_
          refine lv_iadd hx hb dX9_readsExtents_128 ?_
          refine lv_aload_n hx hb dX9_readsExtents_129 rfl (lv_at hl 1 rfl) ?_
          refine k_get hX hZ.1 0 9 rfl rfl iw_X9 21 rfl (wm_30) (v := .int (o_F u5.2 21)) rfl dX9_readsExtents_130 ?_
          refine k_iast (wf := (fun o => wd_X9 aC a_o o)) (o := u5.2) hX hZ 2 1 rfl (fun _ => rfl) h dX9_readsExtents_133 (fun o6 H locs hZ h => ?_)
          exact t_X9_readsExtents_J134 hX hr hrec0 x1 o6 h H locs ls hZ (lv_sub hl [1, 2] rfl)
        · replace h := k_t cd h
          clear cd
          refine lv_iconst (v := 0) hx hb dX9_readsExtents_118 (by decide) ?_
          cases h
          exact k_zretW (v := (0 : Int32)) hX hr rfl hZ dX9_readsExtents_119
      · replace h := k_f cd h
        clear cd
        refine lv_aload_n hx hb dX9_readsExtents_38 rfl (lv_at hl 1 rfl) ?_
        refine k_get hX hZ.1 0 9 rfl rfl iw_X9 19 rfl (wm_18) (v := .int (o_F s_o 19)) rfl dX9_readsExtents_39 ?_
        refine lv_aload_n hx hb dX9_readsExtents_42 rfl (lv_at hl 1 rfl) ?_
        refine k_get hX hZ.1 0 9 rfl rfl iw_X9 18 rfl (wm_19) (v := .int (o_F s_o 18)) rfl dX9_readsExtents_43 ?_
        refine lv_isub hx hb dX9_readsExtents_46 ?_
        refine lv_iconst (v := 1) hx hb dX9_readsExtents_47 (by decide) ?_
        refine lv_icmp_gt (tgt := 73) hx hb dX9_readsExtents_48 (by decide) (fun cd => ?_) (fun cd => ?_)
        · replace h := k_t cd h
          clear cd
          refine lv_iconst (v := 0) hx hb dX9_readsExtents_73 (by decide) ?_
          cases h
          exact k_zretW (v := (0 : Int32)) hX hr rfl hZ dX9_readsExtents_74
        · replace h := k_f cd h
          clear cd
          refine lv_aload_n hx hb dX9_readsExtents_51 rfl (lv_at hl 1 rfl) ?_
          refine k_get hX hZ.1 0 9 rfl rfl iw_X9 9 rfl (wm_9) (v := .ref (a_o 7)) rfl dX9_readsExtents_52 ?_
          refine lv_aload_n hx hb dX9_readsExtents_55 rfl (lv_at hl 1 rfl) ?_
          refine k_get hX hZ.1 0 9 rfl rfl iw_X9 18 rfl (wm_19) (v := .int (o_F s_o 18)) rfl dX9_readsExtents_56 ?_
          refine k_iald hX hZ.1 7 rfl h dX9_readsExtents_59 (fun v9 h => ?_)
          refine lv_i2l (v := v9.toInt64) hx hb dX9_readsExtents_60 rfl ?_
          refine lv_ldc2 (v := 117) hx hb hown (hts _ wm_36) dX9_readsExtents_61 ?_
          refine lv_ldc2 (v := 120) hx hb hown (hts _ wm_37) dX9_readsExtents_64 ?_
          obtain ⟨u10, hu, h⟩ := k_bd h
          refine k_sR (As := [.long v9.toInt64, .long (117 : Int64), .long (120 : Int64)]) (rest := []) (wc := []) (v := some (.int u10)) (st1 := [.int u10]) hX hl.1 hZ (c_X9_in  v9.toInt64 (117 : Int64) (120 : Int64) hu) (gs_ wm_10 wm_13 wm_11 wm_12) rfl hd_X9_in ⟨rfl, rfl⟩ [] rfl rfl rfl rfl rfl dX9_readsExtents_67 rfl ⟨rfl, rfl⟩ (fun locs hZ => ?_)
          clear hu
          refine lv_if_ne (tgt := 75) hx hb dX9_readsExtents_70 (by decide) (fun cd => ?_) (fun cd => ?_)
          · replace h := k_f cd h
            clear cd
            refine lv_aload_n hx hb dX9_readsExtents_75 rfl (lv_at hl 1 rfl) ?_
            refine k_get hX hZ.1 0 9 rfl rfl iw_X9 1 rfl (wm_31) (v := .ref (a_o 2)) rfl dX9_readsExtents_76 ?_
            refine lv_iload_n hx hb dX9_readsExtents_79 rfl (lv_at hl 2 rfl) ?_
            refine lv_iconst (v := 5) hx hb dX9_readsExtents_80 (by decide) ?_
            refine lv_iadd hx hb dX9_readsExtents_81 ?_
            refine lv_iload_n hx hb dX9_readsExtents_82 rfl (lv_at hl 0 rfl) ?_
            refine lv_iadd hx hb dX9_readsExtents_83 ?_
            refine lv_sipush (v := 20000) hx hb dX9_readsExtents_84 (by decide) ?_
            refine lv_aload_n hx hb dX9_readsExtents_87 rfl (lv_at hl 1 rfl) ?_
            refine k_get hX hZ.1 0 9 rfl rfl iw_X9 9 rfl (wm_9) (v := .ref (a_o 7)) rfl dX9_readsExtents_88 ?_
            refine lv_aload_n hx hb dX9_readsExtents_91 rfl (lv_at hl 1 rfl) ?_
            refine k_get hX hZ.1 0 9 rfl rfl iw_X9 18 rfl (wm_19) (v := .int (o_F s_o 18)) rfl dX9_readsExtents_92 ?_
            refine k_iald hX hZ.1 7 rfl h dX9_readsExtents_95 (fun v11 h => ?_)
            refine lv_iadd hx hb dX9_readsExtents_96 ?_
            refine lv_bipush (v := 117) hx hb dX9_readsExtents_97 (by decide) ?_
            refine lv_isub hx hb dX9_readsExtents_99 ?_
            refine k_iast (wf := (fun o => wd_X9 aC a_o o)) (o := s_o) hX hZ 2 1 rfl (fun _ => rfl) h dX9_readsExtents_100 (fun o12 H locs hZ h => ?_)
            refine lv_aload_n hx hb dX9_readsExtents_101 rfl (lv_at hl 1 rfl) ?_
            obtain ⟨u13, hu, h⟩ := k_bd h
            refine k_vWs (As := []) (rest := []) (v := none) (st1 := []) hX hl.1 hZ (c_X9_nextToken (a_o := a_o) o12 hu) (gv_ wm_26 wm_28 wm_29 wm_11 wm_27) rfl hd_X9_nextToken ⟨rfl, rfl⟩ 9 0 rfl rfl rfl rfl rfl dX9_readsExtents_102 rfl ⟨rfl, rfl⟩ rfl (fun H locs hZ => ?_)
            clear hu
            refine lv_goto (tgt := 134) hx hb dX9_readsExtents_105 (by decide) ?_
            exact t_X9_readsExtents_J134 hX hr hrec0 x1 u13 h H locs ls hZ (lv_sub hl [1, 2] rfl)
          · replace h := k_t cd h
            clear cd
            refine lv_iconst (v := 0) hx hb dX9_readsExtents_73 (by decide) ?_
            cases h
            exact k_zretW (v := (0 : Int32)) hX hr rfl hZ dX9_readsExtents_74
    · replace h := k_t cd h
      clear cd
      refine lv_iconst (v := 0) hx hb dX9_readsExtents_21 (by decide) ?_
      cases h
      exact k_zretW (v := (0 : Int32)) hX hr rfl hZ dX9_readsExtents_22
set_option maxHeartbeats 4000000 in
set_option maxRecDepth 100000 in
theorem c_X9_readsExtents {l : Launch} {D : va_G} {aC : Nat → ClassId} {a_o : Nat → Nat} (s_o : Ob_T) (x1 : Int32) {out : Int32 × Ob_T} (h : f_X9_readsExtents s_o x1 = some out) : M_W l yX9_readsExtents wlX9_readsExtents 4 89 D aC [.ref (a_o 0), .int x1] (wd_X9 aC a_o s_o) (some (.int out.1)) (wd_X9 aC a_o out.2) := by
  refine k_entW (cc := cX9_readsExtents) (ret := (some .boolean)) (maxL := 3) (own := RX9) (by decide) rfl rfl rfl ?_
  intro p e s m below meth c A ls hX hr hZ hl
  have hl : lv_has ls 3 [(0, .ref (a_o 0)), (1, .int x1)] := hl
  generalize ([.ref (a_o 0), .int x1] : List Value).toArray = args at hX ⊢
  obtain ⟨hx, hb, hml, hown, hts, hK, hA, hlk⟩ := id hX
  unfold f_X9_readsExtents at h
  generalize s.heap = H at hZ ⊢
  generalize ([] : List Loc) = locs at hZ ⊢
  exact Lp_ok (body := (fun (rec : (Int32 × Ob_T) → Option (Int32 × Ob_T)) x => f_X9_readsExtents_L0 rec x.1 x.2)) (out := out) (fun x => ∀ (H : Heap) (locs : List Loc) (ls : Array Slot), K_S D A s (wd_X9 aC a_o x.2) H locs → lv_has ls 3 [(0, .ref (a_o 0)), (1, .int x.1)] → W p l e (R_m 4 89) s m args below meth c H locs 0 0 (MQ below (Q_W (some (.int out.1)) D A (wd_X9 aC a_o out.2)) args s 0 0 A) (F0 m 0 ls [])) (fun rec hrec x h H locs ls hZ hl => t_X9_readsExtents_L0 hX hr hrec x.1 x.2 h H locs ls hZ hl) FU_ (x1, s_o) h H locs ls hZ (lv_sub hl [0, 1] rfl)
