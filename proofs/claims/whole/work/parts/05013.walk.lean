def wlX9_laysShape : List Cond := .code yX9_laysShape cX9_laysShape 5 (some .boolean) :: WL_
theorem hd_X9_laysShape : yX9_laysShape.cls = RX9 ∧ yX9_laysShape.cls ≠ "java/lang/invoke/MethodHandle" ∧ yX9_laysShape.cls ≠ "java/lang/invoke/VarHandle" ∧ (parseMethodDescriptor yX9_laysShape.desc).map (fun d => d.parameters.length) = some 1 := by decide +kernel
theorem dX9_laysShape_0 : decode cX9_laysShape 0 = .ok (.bipush 15, 2) := by decide +kernel
theorem dX9_laysShape_2 : decode cX9_laysShape 2 = .ok (.iload_n 1, 1) := by decide +kernel
theorem dX9_laysShape_3 : decode cX9_laysShape 3 = .ok (.imul, 1) := by decide +kernel
theorem dX9_laysShape_4 : decode cX9_laysShape 4 = .ok (.istore_n 2, 1) := by decide +kernel
theorem dX9_laysShape_5 : decode cX9_laysShape 5 = .ok (.aload_n 0, 1) := by decide +kernel
theorem dX9_laysShape_6 : decode cX9_laysShape 6 = .ok (.getfield 13, 3) := by decide +kernel
theorem dX9_laysShape_9 : decode cX9_laysShape 9 = .ok (.iload_n 2, 1) := by decide +kernel
theorem dX9_laysShape_10 : decode cX9_laysShape 10 = .ok (.iconst 0, 1) := by decide +kernel
theorem dX9_laysShape_11 : decode cX9_laysShape 11 = .ok (.iadd, 1) := by decide +kernel
theorem dX9_laysShape_12 : decode cX9_laysShape 12 = .ok (.iaload, 1) := by decide +kernel
theorem dX9_laysShape_13 : decode cX9_laysShape 13 = .ok (.istore_n 3, 1) := by decide +kernel
theorem dX9_laysShape_14 : decode cX9_laysShape 14 = .ok (.aload_n 0, 1) := by decide +kernel
theorem dX9_laysShape_15 : decode cX9_laysShape 15 = .ok (.iconst 0, 1) := by decide +kernel
theorem dX9_laysShape_16 : decode cX9_laysShape 16 = .ok (.putfield 188, 3) := by decide +kernel
theorem dX9_laysShape_19 : decode cX9_laysShape 19 = .ok (.iload_n 3, 1) := by decide +kernel
theorem dX9_laysShape_20 : decode cX9_laysShape 20 = .ok (.ifCond .eq 9, 3) := by decide +kernel
theorem dX9_laysShape_23 : decode cX9_laysShape 23 = .ok (.iload_n 3, 1) := by decide +kernel
theorem dX9_laysShape_24 : decode cX9_laysShape 24 = .ok (.bipush 6, 2) := by decide +kernel
theorem dX9_laysShape_26 : decode cX9_laysShape 26 = .ok (.if_icmp .ne 44, 3) := by decide +kernel
theorem dX9_laysShape_29 : decode cX9_laysShape 29 = .ok (.iconst 0, 1) := by decide +kernel
theorem dX9_laysShape_30 : decode cX9_laysShape 30 = .ok (.istore 4, 2) := by decide +kernel
theorem dX9_laysShape_32 : decode cX9_laysShape 32 = .ok (.iload 4, 2) := by decide +kernel
theorem dX9_laysShape_34 : decode cX9_laysShape 34 = .ok (.aload_n 0, 1) := by decide +kernel
theorem dX9_laysShape_35 : decode cX9_laysShape 35 = .ok (.getfield 13, 3) := by decide +kernel
theorem dX9_laysShape_38 : decode cX9_laysShape 38 = .ok (.iload_n 2, 1) := by decide +kernel
theorem dX9_laysShape_39 : decode cX9_laysShape 39 = .ok (.iconst 4, 1) := by decide +kernel
theorem dX9_laysShape_40 : decode cX9_laysShape 40 = .ok (.iadd, 1) := by decide +kernel
theorem dX9_laysShape_41 : decode cX9_laysShape 41 = .ok (.iaload, 1) := by decide +kernel
theorem dX9_laysShape_42 : decode cX9_laysShape 42 = .ok (.if_icmp .ge 25, 3) := by decide +kernel
theorem dX9_laysShape_45 : decode cX9_laysShape 45 = .ok (.aload_n 0, 1) := by decide +kernel
theorem dX9_laysShape_46 : decode cX9_laysShape 46 = .ok (.iload_n 1, 1) := by decide +kernel
theorem dX9_laysShape_47 : decode cX9_laysShape 47 = .ok (.aload_n 0, 1) := by decide +kernel
theorem dX9_laysShape_48 : decode cX9_laysShape 48 = .ok (.getfield 13, 3) := by decide +kernel
theorem dX9_laysShape_51 : decode cX9_laysShape 51 = .ok (.iload_n 2, 1) := by decide +kernel
theorem dX9_laysShape_52 : decode cX9_laysShape 52 = .ok (.iconst 5, 1) := by decide +kernel
theorem dX9_laysShape_53 : decode cX9_laysShape 53 = .ok (.iadd, 1) := by decide +kernel
theorem dX9_laysShape_54 : decode cX9_laysShape 54 = .ok (.iload 4, 2) := by decide +kernel
theorem dX9_laysShape_56 : decode cX9_laysShape 56 = .ok (.iadd, 1) := by decide +kernel
theorem dX9_laysShape_57 : decode cX9_laysShape 57 = .ok (.iaload, 1) := by decide +kernel
theorem dX9_laysShape_58 : decode cX9_laysShape 58 = .ok (.invokevirtual 195, 3) := by decide +kernel
theorem dX9_laysShape_61 : decode cX9_laysShape 61 = .ok (.iinc 4 1, 3) := by decide +kernel
theorem dX9_laysShape_64 : decode cX9_laysShape 64 = .ok (.goto (-32), 3) := by decide +kernel
theorem dX9_laysShape_67 : decode cX9_laysShape 67 = .ok (.goto 37, 3) := by decide +kernel
theorem dX9_laysShape_70 : decode cX9_laysShape 70 = .ok (.iload_n 3, 1) := by decide +kernel
theorem dX9_laysShape_71 : decode cX9_laysShape 71 = .ok (.iconst 1, 1) := by decide +kernel
theorem dX9_laysShape_72 : decode cX9_laysShape 72 = .ok (.if_icmp .eq 8, 3) := by decide +kernel
theorem dX9_laysShape_75 : decode cX9_laysShape 75 = .ok (.iload_n 3, 1) := by decide +kernel
theorem dX9_laysShape_76 : decode cX9_laysShape 76 = .ok (.iconst 2, 1) := by decide +kernel
theorem dX9_laysShape_77 : decode cX9_laysShape 77 = .ok (.if_icmp .ne 21, 3) := by decide +kernel
theorem dX9_laysShape_80 : decode cX9_laysShape 80 = .ok (.aload_n 0, 1) := by decide +kernel
theorem dX9_laysShape_81 : decode cX9_laysShape 81 = .ok (.iload_n 1, 1) := by decide +kernel
theorem dX9_laysShape_82 : decode cX9_laysShape 82 = .ok (.iload_n 3, 1) := by decide +kernel
theorem dX9_laysShape_83 : decode cX9_laysShape 83 = .ok (.iconst 2, 1) := by decide +kernel
theorem dX9_laysShape_84 : decode cX9_laysShape 84 = .ok (.if_icmp .ne 7, 3) := by decide +kernel
theorem dX9_laysShape_87 : decode cX9_laysShape 87 = .ok (.iconst 1, 1) := by decide +kernel
theorem dX9_laysShape_88 : decode cX9_laysShape 88 = .ok (.goto 4, 3) := by decide +kernel
theorem dX9_laysShape_91 : decode cX9_laysShape 91 = .ok (.iconst 0, 1) := by decide +kernel
theorem dX9_laysShape_92 : decode cX9_laysShape 92 = .ok (.invokevirtual 210, 3) := by decide +kernel
theorem dX9_laysShape_95 : decode cX9_laysShape 95 = .ok (.goto 9, 3) := by decide +kernel
theorem dX9_laysShape_98 : decode cX9_laysShape 98 = .ok (.aload_n 0, 1) := by decide +kernel
theorem dX9_laysShape_99 : decode cX9_laysShape 99 = .ok (.iload_n 1, 1) := by decide +kernel
theorem dX9_laysShape_100 : decode cX9_laysShape 100 = .ok (.iload_n 3, 1) := by decide +kernel
theorem dX9_laysShape_101 : decode cX9_laysShape 101 = .ok (.invokevirtual 214, 3) := by decide +kernel
theorem dX9_laysShape_104 : decode cX9_laysShape 104 = .ok (.aload_n 0, 1) := by decide +kernel
theorem dX9_laysShape_105 : decode cX9_laysShape 105 = .ok (.getfield 13, 3) := by decide +kernel
theorem dX9_laysShape_108 : decode cX9_laysShape 108 = .ok (.iload_n 2, 1) := by decide +kernel
theorem dX9_laysShape_109 : decode cX9_laysShape 109 = .ok (.bipush 8, 2) := by decide +kernel
theorem dX9_laysShape_111 : decode cX9_laysShape 111 = .ok (.iadd, 1) := by decide +kernel
theorem dX9_laysShape_112 : decode cX9_laysShape 112 = .ok (.aload_n 0, 1) := by decide +kernel
theorem dX9_laysShape_113 : decode cX9_laysShape 113 = .ok (.getfield 188, 3) := by decide +kernel
theorem dX9_laysShape_116 : decode cX9_laysShape 116 = .ok (.iastore, 1) := by decide +kernel
theorem dX9_laysShape_117 : decode cX9_laysShape 117 = .ok (.aload_n 0, 1) := by decide +kernel
theorem dX9_laysShape_118 : decode cX9_laysShape 118 = .ok (.getfield 188, 3) := by decide +kernel
theorem dX9_laysShape_121 : decode cX9_laysShape 121 = .ok (.ifCond .lt 7, 3) := by decide +kernel
theorem dX9_laysShape_124 : decode cX9_laysShape 124 = .ok (.iconst 1, 1) := by decide +kernel
theorem dX9_laysShape_125 : decode cX9_laysShape 125 = .ok (.goto 4, 3) := by decide +kernel
theorem dX9_laysShape_128 : decode cX9_laysShape 128 = .ok (.iconst 0, 1) := by decide +kernel
theorem dX9_laysShape_129 : decode cX9_laysShape 129 = .ok (.ireturn, 1) := by decide +kernel
set_option maxHeartbeats 4000000 in
set_option maxRecDepth 100000 in
theorem t_X9_laysShape_L32 {p : Program} {l : Launch} {e : Env} {s : State} {m : MethodId} {args : Array Value} {below : List Frame} {meth : Method} {c : Code} {D : va_G} {aC : Nat → ClassId} {A : Nat → Prop} {a_o : Nat → Nat} {out : Int32 × Ob_T} {k67 : Int32 → Ob_T → Option (Int32 × Ob_T)} {rec32 : (Int32 × Int32 × Int32 × Ob_T) → Option (Int32 × Ob_T)} (hX : K_X p s m args meth c cX9_laysShape 5 WL_ RX9 D aC A) (hr : meth.sig.returnType = (some .boolean)) (hk67 : ∀ (y2 : Int32) (t_o : Ob_T), k67 y2 t_o = some out → ∀ (H : Heap) (locs : List Loc) (ls : Array Slot), K_S D A s (wd_X9 aC a_o t_o) H locs → lv_has ls 5 [(0, .ref (a_o 0)), (2, .int y2)] → W p l e (R_m 3 78) s m args below meth c H locs 0 0 (MQ below (Q_W (some (.int out.1)) D A (wd_X9 aC a_o out.2)) args s 0 0 A) (F0 m 67 ls [])) (hrec32 : ∀ x : Int32 × Int32 × Int32 × Ob_T, rec32 x = some out → ∀ (H : Heap) (locs : List Loc) (ls : Array Slot), K_S D A s (wd_X9 aC a_o x.2.2.2) H locs → lv_has ls 5 [(0, .ref (a_o 0)), (1, .int x.1), (2, .int x.2.1), (4, .int x.2.2.1)] → W p l e (R_m 3 78) s m args below meth c H locs 0 0 (MQ below (Q_W (some (.int out.1)) D A (wd_X9 aC a_o out.2)) args s 0 0 A) (F0 m 32 ls [])) (x1 : Int32) (x2 : Int32) (x4 : Int32) (s_o : Ob_T) (h : f_X9_laysShape_L32 k67 rec32 x1 x2 x4 s_o = some out) (H : Heap) (locs : List Loc) (ls : Array Slot) (hZ : K_S D A s (wd_X9 aC a_o s_o) H locs) (hl : lv_has ls 5 [(0, .ref (a_o 0)), (1, .int x1), (2, .int x2), (4, .int x4)]) : W p l e (R_m 3 78) s m args below meth c H locs 0 0 (MQ below (Q_W (some (.int out.1)) D A (wd_X9 aC a_o out.2)) args s 0 0 A) (F0 m 32 ls []) := by
  obtain ⟨hx, hb, hml, hown, hts, hK, hA, hlk⟩ := id hX
  unfold f_X9_laysShape_L32 at h
  refine lv_iload hx hb dX9_laysShape_32 (lv_at hl 3 rfl) ?_
  refine lv_aload_n hx hb dX9_laysShape_34 rfl (lv_at hl 0 rfl) ?_
  refine k_get hX hZ.1 0 9 rfl rfl iw_X9 1 rfl (wm_31) (v := .ref (a_o 2)) rfl dX9_laysShape_35 ?_
  refine lv_iload_n hx hb dX9_laysShape_38 rfl (lv_at hl 2 rfl) ?_
  refine lv_iconst (v := 4) hx hb dX9_laysShape_39 (by decide) ?_
  refine lv_iadd hx hb dX9_laysShape_40 ?_
  refine k_iald hX hZ.1 2 rfl h dX9_laysShape_41 (fun v3 h => ?_)
  refine lv_icmp_ge (tgt := 67) hx hb dX9_laysShape_42 (by decide) (fun cd => ?_) (fun cd => ?_)
  · replace h := k_t cd h
    clear cd
    exact hk67 x2 s_o h H locs ls hZ (lv_sub hl [0, 2] rfl)
  · replace h := k_f cd h
    clear cd
    refine lv_aload_n hx hb dX9_laysShape_45 rfl (lv_at hl 0 rfl) ?_
    refine lv_iload_n hx hb dX9_laysShape_46 rfl (lv_at hl 1 rfl) ?_
    refine lv_aload_n hx hb dX9_laysShape_47 rfl (lv_at hl 0 rfl) ?_
    refine k_get hX hZ.1 0 9 rfl rfl iw_X9 1 rfl (wm_31) (v := .ref (a_o 2)) rfl dX9_laysShape_48 ?_
    refine lv_iload_n hx hb dX9_laysShape_51 rfl (lv_at hl 2 rfl) ?_
    refine lv_iconst (v := 5) hx hb dX9_laysShape_52 (by decide) ?_
    refine lv_iadd hx hb dX9_laysShape_53 ?_
    refine lv_iload hx hb dX9_laysShape_54 (lv_at hl 3 rfl) ?_
    refine lv_iadd hx hb dX9_laysShape_56 ?_
    refine k_iald hX hZ.1 2 rfl h dX9_laysShape_57 (fun v4 h => ?_)
    obtain ⟨u5, hu, h⟩ := k_bd h
    refine k_vWs (As := [.int x1, .int v4]) (rest := []) (v := none) (st1 := []) hX hl.1 hZ (c_X9_layExtent (a_o := a_o) s_o x1 v4 hu) (gv_ wm_67 wm_69 wm_70 wm_11 wm_68) rfl hd_X9_layExtent ⟨rfl, rfl⟩ 9 0 rfl rfl rfl rfl rfl dX9_laysShape_58 rfl ⟨rfl, rfl⟩ rfl (fun H locs hZ => ?_)
    clear hu
    refine lv_iinc (v := (x4 + (1 : Int32))) (lv' := [(4, .int (x4 + (1 : Int32))), (0, .ref (a_o 0)), (1, .int x1), (2, .int x2)]) hx hb dX9_laysShape_61 hl (k := 3) rfl rfl (by decide) rfl (fun ls hl => ?_)
    refine lv_goto (tgt := 32) hx hb dX9_laysShape_64 (by decide) ?_
    exact hrec32 (x1, x2, (x4 + (1 : Int32)), u5) h H locs ls hZ (lv_sub hl [1, 2, 3, 0] rfl)
set_option maxHeartbeats 4000000 in
set_option maxRecDepth 100000 in
theorem t_X9_laysShape_J104 {p : Program} {l : Launch} {e : Env} {s : State} {m : MethodId} {args : Array Value} {below : List Frame} {meth : Method} {c : Code} {D : va_G} {aC : Nat → ClassId} {A : Nat → Prop} {a_o : Nat → Nat} {out : Int32 × Ob_T} (hX : K_X p s m args meth c cX9_laysShape 5 WL_ RX9 D aC A) (hr : meth.sig.returnType = (some .boolean)) (x2 : Int32) (s_o : Ob_T) (h : f_X9_laysShape_J104 x2 s_o = some out) (H : Heap) (locs : List Loc) (ls : Array Slot) (hZ : K_S D A s (wd_X9 aC a_o s_o) H locs) (hl : lv_has ls 5 [(0, .ref (a_o 0)), (2, .int x2)]) : W p l e (R_m 3 78) s m args below meth c H locs 0 0 (MQ below (Q_W (some (.int out.1)) D A (wd_X9 aC a_o out.2)) args s 0 0 A) (F0 m 104 ls []) := by
  obtain ⟨hx, hb, hml, hown, hts, hK, hA, hlk⟩ := id hX
  unfold f_X9_laysShape_J104 at h
  refine lv_aload_n hx hb dX9_laysShape_104 rfl (lv_at hl 0 rfl) ?_
  refine k_get hX hZ.1 0 9 rfl rfl iw_X9 1 rfl (wm_31) (v := .ref (a_o 2)) rfl dX9_laysShape_105 ?_
  refine lv_iload_n hx hb dX9_laysShape_108 rfl (lv_at hl 1 rfl) ?_
  refine lv_bipush (v := 8) hx hb dX9_laysShape_109 (by decide) ?_
  refine lv_iadd hx hb dX9_laysShape_111 ?_
  refine lv_aload_n hx hb dX9_laysShape_112 rfl (lv_at hl 0 rfl) ?_
  refine k_get hX hZ.1 0 9 rfl rfl iw_X9 30 rfl (wm_66) (v := .int (o_F s_o 30)) rfl dX9_laysShape_113 ?_
  refine k_iast (wf := (fun o => wd_X9 aC a_o o)) (o := s_o) hX hZ 2 1 rfl (fun _ => rfl) h dX9_laysShape_116 (fun o6 H locs hZ h => ?_)
  refine lv_aload_n hx hb dX9_laysShape_117 rfl (lv_at hl 0 rfl) ?_
  refine k_get hX hZ.1 0 9 rfl rfl iw_X9 30 rfl (wm_66) (v := .int (o_F o6 30)) rfl dX9_laysShape_118 ?_
  refine lv_if_lt (tgt := 128) hx hb dX9_laysShape_121 (by decide) (fun cd => ?_) (fun cd => ?_)
  · replace h := k_t cd h
    clear cd
    refine lv_iconst (v := 0) hx hb dX9_laysShape_128 (by decide) ?_
    cases h
    exact k_zretW (v := (0 : Int32)) hX hr rfl hZ dX9_laysShape_129
  · replace h := k_f cd h
    clear cd
    refine lv_iconst (v := 1) hx hb dX9_laysShape_124 (by decide) ?_
    refine lv_goto (tgt := 129) hx hb dX9_laysShape_125 (by decide) ?_
    cases h
    exact k_zretW (v := (1 : Int32)) hX hr rfl hZ dX9_laysShape_129
set_option maxHeartbeats 4000000 in
set_option maxRecDepth 100000 in
theorem t_X9_laysShape_J67 {p : Program} {l : Launch} {e : Env} {s : State} {m : MethodId} {args : Array Value} {below : List Frame} {meth : Method} {c : Code} {D : va_G} {aC : Nat → ClassId} {A : Nat → Prop} {a_o : Nat → Nat} {out : Int32 × Ob_T} (hX : K_X p s m args meth c cX9_laysShape 5 WL_ RX9 D aC A) (hr : meth.sig.returnType = (some .boolean)) (x2 : Int32) (s_o : Ob_T) (h : f_X9_laysShape_J67 x2 s_o = some out) (H : Heap) (locs : List Loc) (ls : Array Slot) (hZ : K_S D A s (wd_X9 aC a_o s_o) H locs) (hl : lv_has ls 5 [(0, .ref (a_o 0)), (2, .int x2)]) : W p l e (R_m 3 78) s m args below meth c H locs 0 0 (MQ below (Q_W (some (.int out.1)) D A (wd_X9 aC a_o out.2)) args s 0 0 A) (F0 m 67 ls []) := by
  obtain ⟨hx, hb, hml, hown, hts, hK, hA, hlk⟩ := id hX
  unfold f_X9_laysShape_J67 at h
  refine lv_goto (tgt := 104) hx hb dX9_laysShape_67 (by decide) ?_
  exact t_X9_laysShape_J104 hX hr x2 s_o h H locs ls hZ (lv_sub hl [0, 1] rfl)
set_option maxHeartbeats 4000000 in
set_option maxRecDepth 100000 in
theorem t_X9_laysShape_J29 {p : Program} {l : Launch} {e : Env} {s : State} {m : MethodId} {args : Array Value} {below : List Frame} {meth : Method} {c : Code} {D : va_G} {aC : Nat → ClassId} {A : Nat → Prop} {a_o : Nat → Nat} {out : Int32 × Ob_T} (hX : K_X p s m args meth c cX9_laysShape 5 WL_ RX9 D aC A) (hr : meth.sig.returnType = (some .boolean)) (x1 : Int32) (x2 : Int32) (s_o : Ob_T) (h : f_X9_laysShape_J29 x1 x2 s_o = some out) (H : Heap) (locs : List Loc) (ls : Array Slot) (hZ : K_S D A s (wd_X9 aC a_o s_o) H locs) (hl : lv_has ls 5 [(0, .ref (a_o 0)), (1, .int x1), (2, .int x2)]) : W p l e (R_m 3 78) s m args below meth c H locs 0 0 (MQ below (Q_W (some (.int out.1)) D A (wd_X9 aC a_o out.2)) args s 0 0 A) (F0 m 29 ls []) := by
  obtain ⟨hx, hb, hml, hown, hts, hK, hA, hlk⟩ := id hX
  unfold f_X9_laysShape_J29 at h
  refine lv_iconst (v := 0) hx hb dX9_laysShape_29 (by decide) ?_
  refine lv_istore (lv' := [(4, .int (0 : Int32)), (0, .ref (a_o 0)), (1, .int x1), (2, .int x2)]) hx hb dX9_laysShape_30 hl (by decide) rfl (fun ls hl => ?_)
  exact Lp_ok (body := (fun (rec : (Int32 × Int32 × Int32 × Ob_T) → Option (Int32 × Ob_T)) x => f_X9_laysShape_L32 (fun y2 t_o => f_X9_laysShape_J67 y2 t_o) rec x.1 x.2.1 x.2.2.1 x.2.2.2)) (out := out) (fun x => ∀ (H : Heap) (locs : List Loc) (ls : Array Slot), K_S D A s (wd_X9 aC a_o x.2.2.2) H locs → lv_has ls 5 [(0, .ref (a_o 0)), (1, .int x.1), (2, .int x.2.1), (4, .int x.2.2.1)] → W p l e (R_m 3 78) s m args below meth c H locs 0 0 (MQ below (Q_W (some (.int out.1)) D A (wd_X9 aC a_o out.2)) args s 0 0 A) (F0 m 32 ls [])) (fun rec hrec x h H locs ls hZ hl => t_X9_laysShape_L32 hX hr (fun y2 t_o h H locs ls hZ hl => t_X9_laysShape_J67 hX hr y2 t_o h H locs ls hZ (lv_sub hl [0, 1] rfl)) hrec x.1 x.2.1 x.2.2.1 x.2.2.2 h H locs ls hZ hl) FU_ (x1, x2, (0 : Int32), s_o) h H locs ls hZ (lv_sub hl [1, 2, 3, 0] rfl)
set_option maxHeartbeats 4000000 in
set_option maxRecDepth 100000 in
theorem t_X9_laysShape_J92 {p : Program} {l : Launch} {e : Env} {s : State} {m : MethodId} {args : Array Value} {below : List Frame} {meth : Method} {c : Code} {D : va_G} {aC : Nat → ClassId} {A : Nat → Prop} {a_o : Nat → Nat} {out : Int32 × Ob_T} (hX : K_X p s m args meth c cX9_laysShape 5 WL_ RX9 D aC A) (hr : meth.sig.returnType = (some .boolean)) (x2 : Int32) (k1 : Int32) (k2 : Int32) (s_o : Ob_T) (h : f_X9_laysShape_J92 x2 k1 k2 s_o = some out) (H : Heap) (locs : List Loc) (ls : Array Slot) (hZ : K_S D A s (wd_X9 aC a_o s_o) H locs) (hl : lv_has ls 5 [(0, .ref (a_o 0)), (2, .int x2)]) : W p l e (R_m 3 78) s m args below meth c H locs 0 0 (MQ below (Q_W (some (.int out.1)) D A (wd_X9 aC a_o out.2)) args s 0 0 A) (F0 m 92 ls [.int k2, .int k1, .ref (a_o 0)]) := by
  obtain ⟨hx, hb, hml, hown, hts, hK, hA, hlk⟩ := id hX
  unfold f_X9_laysShape_J92 at h
  obtain ⟨u7, hu, h⟩ := k_bd h
  refine k_vWs (As := [.int k1, .int k2]) (rest := []) (v := none) (st1 := []) hX hl.1 hZ (c_X9_layTwo (a_o := a_o) s_o k1 k2 hu) (gv_ wm_86 wm_88 wm_89 wm_11 wm_87) rfl hd_X9_layTwo ⟨rfl, rfl⟩ 9 0 rfl rfl rfl rfl rfl dX9_laysShape_92 rfl ⟨rfl, rfl⟩ rfl (fun H locs hZ => ?_)
  clear hu
  refine lv_goto (tgt := 104) hx hb dX9_laysShape_95 (by decide) ?_
  exact t_X9_laysShape_J104 hX hr x2 u7 h H locs ls hZ (lv_sub hl [0, 1] rfl)
set_option maxHeartbeats 4000000 in
set_option maxRecDepth 100000 in
theorem t_X9_laysShape_J80 {p : Program} {l : Launch} {e : Env} {s : State} {m : MethodId} {args : Array Value} {below : List Frame} {meth : Method} {c : Code} {D : va_G} {aC : Nat → ClassId} {A : Nat → Prop} {a_o : Nat → Nat} {out : Int32 × Ob_T} (hX : K_X p s m args meth c cX9_laysShape 5 WL_ RX9 D aC A) (hr : meth.sig.returnType = (some .boolean)) (x1 : Int32) (x2 : Int32) (x3 : Int32) (s_o : Ob_T) (h : f_X9_laysShape_J80 x1 x2 x3 s_o = some out) (H : Heap) (locs : List Loc) (ls : Array Slot) (hZ : K_S D A s (wd_X9 aC a_o s_o) H locs) (hl : lv_has ls 5 [(0, .ref (a_o 0)), (1, .int x1), (2, .int x2), (3, .int x3)]) : W p l e (R_m 3 78) s m args below meth c H locs 0 0 (MQ below (Q_W (some (.int out.1)) D A (wd_X9 aC a_o out.2)) args s 0 0 A) (F0 m 80 ls []) := by
  obtain ⟨hx, hb, hml, hown, hts, hK, hA, hlk⟩ := id hX
  unfold f_X9_laysShape_J80 at h
  refine lv_aload_n hx hb dX9_laysShape_80 rfl (lv_at hl 0 rfl) ?_
  refine lv_iload_n hx hb dX9_laysShape_81 rfl (lv_at hl 1 rfl) ?_
  refine lv_iload_n hx hb dX9_laysShape_82 rfl (lv_at hl 3 rfl) ?_
  refine lv_iconst (v := 2) hx hb dX9_laysShape_83 (by decide) ?_
  refine lv_icmp_ne (tgt := 91) hx hb dX9_laysShape_84 (by decide) (fun cd => ?_) (fun cd => ?_)
  · replace h := k_f cd h
    clear cd
    refine lv_iconst (v := 0) hx hb dX9_laysShape_91 (by decide) ?_
    exact t_X9_laysShape_J92 hX hr x2 x1 (0 : Int32) s_o h H locs ls hZ (lv_sub hl [0, 2] rfl)
  · replace h := k_t cd h
    clear cd
    refine lv_iconst (v := 1) hx hb dX9_laysShape_87 (by decide) ?_
    refine lv_goto (tgt := 92) hx hb dX9_laysShape_88 (by decide) ?_
    exact t_X9_laysShape_J92 hX hr x2 x1 (1 : Int32) s_o h H locs ls hZ (lv_sub hl [0, 2] rfl)
set_option maxHeartbeats 4000000 in
set_option maxRecDepth 100000 in
theorem c_X9_laysShape {l : Launch} {D : va_G} {aC : Nat → ClassId} {a_o : Nat → Nat} (s_o : Ob_T) (x1 : Int32) {out : Int32 × Ob_T} (h : f_X9_laysShape s_o x1 = some out) : M_W l yX9_laysShape wlX9_laysShape 3 78 D aC [.ref (a_o 0), .int x1] (wd_X9 aC a_o s_o) (some (.int out.1)) (wd_X9 aC a_o out.2) := by
  refine k_entW (cc := cX9_laysShape) (ret := (some .boolean)) (maxL := 5) (own := RX9) (by decide) rfl rfl rfl ?_
  intro p e s m below meth c A ls hX hr hZ hl
  have hl : lv_has ls 5 [(0, .ref (a_o 0)), (1, .int x1)] := hl
  generalize ([.ref (a_o 0), .int x1] : List Value).toArray = args at hX ⊢
  obtain ⟨hx, hb, hml, hown, hts, hK, hA, hlk⟩ := id hX
  unfold f_X9_laysShape at h
  generalize s.heap = H at hZ ⊢
  generalize ([] : List Loc) = locs at hZ ⊢
  refine lv_bipush (v := 15) hx hb dX9_laysShape_0 (by decide) ?_
  refine lv_iload_n hx hb dX9_laysShape_2 rfl (lv_at hl 1 rfl) ?_
  refine lv_imul hx hb dX9_laysShape_3 ?_
  refine lv_istore_n (lv' := [(2, .int ((15 : Int32) * x1)), (0, .ref (a_o 0)), (1, .int x1)]) hx hb dX9_laysShape_4 rfl hl (by decide) rfl (fun ls hl => ?_)
  refine lv_aload_n hx hb dX9_laysShape_5 rfl (lv_at hl 1 rfl) ?_
  refine k_get hX hZ.1 0 9 rfl rfl iw_X9 1 rfl (wm_31) (v := .ref (a_o 2)) rfl dX9_laysShape_6 ?_
  refine lv_iload_n hx hb dX9_laysShape_9 rfl (lv_at hl 0 rfl) ?_
  refine lv_iconst (v := 0) hx hb dX9_laysShape_10 (by decide) ?_
  refine lv_iadd hx hb dX9_laysShape_11 ?_
  refine k_iald hX hZ.1 2 rfl h dX9_laysShape_12 (fun v1 h => ?_)
  refine lv_istore_n (lv' := [(3, .int v1), (2, .int ((15 : Int32) * x1)), (0, .ref (a_o 0)), (1, .int x1)]) hx hb dX9_laysShape_13 rfl hl (by decide) rfl (fun ls hl => ?_)
  refine lv_aload_n hx hb dX9_laysShape_14 rfl (lv_at hl 2 rfl) ?_
  refine lv_iconst (v := 0) hx hb dX9_laysShape_15 (by decide) ?_
  refine k_put (wf := (fun o => wd_X9 aC a_o o)) (o := s_o) hX hZ 0 9 rfl rfl iw_X9 tyX9 tyX9_ok nmX9 30 rfl (wm_66) rfl rfl rfl rfl rfl h dX9_laysShape_16 (fun o2 H locs hZ h => ?_)
  refine lv_iload_n hx hb dX9_laysShape_19 rfl (lv_at hl 0 rfl) ?_
  refine lv_if_eq (tgt := 29) hx hb dX9_laysShape_20 (by decide) (fun cd => ?_) (fun cd => ?_)
  · replace h := k_t cd h
    clear cd
    exact t_X9_laysShape_J29 hX hr x1 ((15 : Int32) * x1) o2 h H locs ls hZ (lv_sub hl [2, 3, 1] rfl)
  · replace h := k_f cd h
    clear cd
    refine lv_iload_n hx hb dX9_laysShape_23 rfl (lv_at hl 0 rfl) ?_
    refine lv_bipush (v := 6) hx hb dX9_laysShape_24 (by decide) ?_
    refine lv_icmp_ne (tgt := 70) hx hb dX9_laysShape_26 (by decide) (fun cd => ?_) (fun cd => ?_)
    · replace h := k_f cd h
      clear cd
      refine lv_iload_n hx hb dX9_laysShape_70 rfl (lv_at hl 0 rfl) ?_
      refine lv_iconst (v := 1) hx hb dX9_laysShape_71 (by decide) ?_
      refine lv_icmp_eq (tgt := 80) hx hb dX9_laysShape_72 (by decide) (fun cd => ?_) (fun cd => ?_)
      · replace h := k_t cd h
        clear cd
        exact t_X9_laysShape_J80 hX hr x1 ((15 : Int32) * x1) v1 o2 h H locs ls hZ (lv_sub hl [2, 3, 1, 0] rfl)
      · replace h := k_f cd h
        clear cd
        refine lv_iload_n hx hb dX9_laysShape_75 rfl (lv_at hl 0 rfl) ?_
        refine lv_iconst (v := 2) hx hb dX9_laysShape_76 (by decide) ?_
        refine lv_icmp_ne (tgt := 98) hx hb dX9_laysShape_77 (by decide) (fun cd => ?_) (fun cd => ?_)
        · replace h := k_f cd h
          clear cd
          refine lv_aload_n hx hb dX9_laysShape_98 rfl (lv_at hl 2 rfl) ?_
          refine lv_iload_n hx hb dX9_laysShape_99 rfl (lv_at hl 3 rfl) ?_
          refine lv_iload_n hx hb dX9_laysShape_100 rfl (lv_at hl 0 rfl) ?_
          obtain ⟨u8, hu, h⟩ := k_bd h
          refine k_vWs (As := [.int x1, .int v1]) (rest := []) (v := none) (st1 := []) hX hl.1 hZ (c_X9_layOne (a_o := a_o) o2 x1 v1 hu) (gv_ wm_90 wm_92 wm_93 wm_11 wm_91) rfl hd_X9_layOne ⟨rfl, rfl⟩ 9 0 rfl rfl rfl rfl rfl dX9_laysShape_101 rfl ⟨rfl, rfl⟩ rfl (fun H locs hZ => ?_)
          clear hu
          exact t_X9_laysShape_J104 hX hr ((15 : Int32) * x1) u8 h H locs ls hZ (lv_sub hl [2, 1] rfl)
        · replace h := k_t cd h
          clear cd
          exact t_X9_laysShape_J80 hX hr x1 ((15 : Int32) * x1) v1 o2 h H locs ls hZ (lv_sub hl [2, 3, 1, 0] rfl)
    · replace h := k_t cd h
      clear cd
      exact t_X9_laysShape_J29 hX hr x1 ((15 : Int32) * x1) o2 h H locs ls hZ (lv_sub hl [2, 3, 1] rfl)
