def wlX5_settleOne : List Cond := .code yX5_settleOne cX5_settleOne 5 (some .boolean) :: WL_
theorem hd_X5_settleOne : yX5_settleOne.cls = RX5 ∧ yX5_settleOne.cls ≠ "java/lang/invoke/MethodHandle" ∧ yX5_settleOne.cls ≠ "java/lang/invoke/VarHandle" ∧ (parseMethodDescriptor yX5_settleOne.desc).map (fun d => d.parameters.length) = some 1 := by decide +kernel
theorem dX5_settleOne_0 : decode cX5_settleOne 0 = .ok (.aload_n 0, 1) := by decide +kernel
theorem dX5_settleOne_1 : decode cX5_settleOne 1 = .ok (.getfield 31, 3) := by decide +kernel
theorem dX5_settleOne_4 : decode cX5_settleOne 4 = .ok (.iload_n 1, 1) := by decide +kernel
theorem dX5_settleOne_5 : decode cX5_settleOne 5 = .ok (.invokevirtual 74, 3) := by decide +kernel
theorem dX5_settleOne_8 : decode cX5_settleOne 8 = .ok (.iconst 2, 1) := by decide +kernel
theorem dX5_settleOne_9 : decode cX5_settleOne 9 = .ok (.if_icmp .ne 7, 3) := by decide +kernel
theorem dX5_settleOne_12 : decode cX5_settleOne 12 = .ok (.iconst 1, 1) := by decide +kernel
theorem dX5_settleOne_13 : decode cX5_settleOne 13 = .ok (.goto 4, 3) := by decide +kernel
theorem dX5_settleOne_16 : decode cX5_settleOne 16 = .ok (.iconst 0, 1) := by decide +kernel
theorem dX5_settleOne_17 : decode cX5_settleOne 17 = .ok (.istore_n 2, 1) := by decide +kernel
theorem dX5_settleOne_18 : decode cX5_settleOne 18 = .ok (.iload_n 2, 1) := by decide +kernel
theorem dX5_settleOne_19 : decode cX5_settleOne 19 = .ok (.ifCond .eq 13, 3) := by decide +kernel
theorem dX5_settleOne_22 : decode cX5_settleOne 22 = .ok (.aload_n 0, 1) := by decide +kernel
theorem dX5_settleOne_23 : decode cX5_settleOne 23 = .ok (.getfield 12, 3) := by decide +kernel
theorem dX5_settleOne_26 : decode cX5_settleOne 26 = .ok (.invokevirtual 148, 3) := by decide +kernel
theorem dX5_settleOne_29 : decode cX5_settleOne 29 = .ok (.goto 10, 3) := by decide +kernel
theorem dX5_settleOne_32 : decode cX5_settleOne 32 = .ok (.aload_n 0, 1) := by decide +kernel
theorem dX5_settleOne_33 : decode cX5_settleOne 33 = .ok (.getfield 12, 3) := by decide +kernel
theorem dX5_settleOne_36 : decode cX5_settleOne 36 = .ok (.invokevirtual 152, 3) := by decide +kernel
theorem dX5_settleOne_39 : decode cX5_settleOne 39 = .ok (.lstore_n 3, 1) := by decide +kernel
theorem dX5_settleOne_40 : decode cX5_settleOne 40 = .ok (.lload_n 3, 1) := by decide +kernel
theorem dX5_settleOne_41 : decode cX5_settleOne 41 = .ok (.ldc2_w 155, 3) := by decide +kernel
theorem dX5_settleOne_44 : decode cX5_settleOne 44 = .ok (.lcmp, 1) := by decide +kernel
theorem dX5_settleOne_45 : decode cX5_settleOne 45 = .ok (.ifCond .ne 45, 3) := by decide +kernel
theorem dX5_settleOne_48 : decode cX5_settleOne 48 = .ok (.aload_n 0, 1) := by decide +kernel
theorem dX5_settleOne_49 : decode cX5_settleOne 49 = .ok (.iload_n 2, 1) := by decide +kernel
theorem dX5_settleOne_50 : decode cX5_settleOne 50 = .ok (.ifCond .ne 17, 3) := by decide +kernel
theorem dX5_settleOne_53 : decode cX5_settleOne 53 = .ok (.aload_n 0, 1) := by decide +kernel
theorem dX5_settleOne_54 : decode cX5_settleOne 54 = .ok (.getfield 12, 3) := by decide +kernel
theorem dX5_settleOne_57 : decode cX5_settleOne 57 = .ok (.invokevirtual 157, 3) := by decide +kernel
theorem dX5_settleOne_60 : decode cX5_settleOne 60 = .ok (.ifCond .eq 7, 3) := by decide +kernel
theorem dX5_settleOne_63 : decode cX5_settleOne 63 = .ok (.iconst 1, 1) := by decide +kernel
theorem dX5_settleOne_64 : decode cX5_settleOne 64 = .ok (.goto 4, 3) := by decide +kernel
theorem dX5_settleOne_67 : decode cX5_settleOne 67 = .ok (.iconst 0, 1) := by decide +kernel
theorem dX5_settleOne_68 : decode cX5_settleOne 68 = .ok (.putfield 42, 3) := by decide +kernel
theorem dX5_settleOne_71 : decode cX5_settleOne 71 = .ok (.aload_n 0, 1) := by decide +kernel
theorem dX5_settleOne_72 : decode cX5_settleOne 72 = .ok (.iload_n 1, 1) := by decide +kernel
theorem dX5_settleOne_73 : decode cX5_settleOne 73 = .ok (.iload_n 2, 1) := by decide +kernel
theorem dX5_settleOne_74 : decode cX5_settleOne 74 = .ok (.ifCond .eq 7, 3) := by decide +kernel
theorem dX5_settleOne_77 : decode cX5_settleOne 77 = .ok (.iconst 3, 1) := by decide +kernel
theorem dX5_settleOne_78 : decode cX5_settleOne 78 = .ok (.goto 4, 3) := by decide +kernel
theorem dX5_settleOne_81 : decode cX5_settleOne 81 = .ok (.iconst 4, 1) := by decide +kernel
theorem dX5_settleOne_82 : decode cX5_settleOne 82 = .ok (.iconst 0, 1) := by decide +kernel
theorem dX5_settleOne_83 : decode cX5_settleOne 83 = .ok (.iconst 0, 1) := by decide +kernel
theorem dX5_settleOne_84 : decode cX5_settleOne 84 = .ok (.iconst 0, 1) := by decide +kernel
theorem dX5_settleOne_85 : decode cX5_settleOne 85 = .ok (.invokevirtual 121, 3) := by decide +kernel
theorem dX5_settleOne_88 : decode cX5_settleOne 88 = .ok (.iconst 0, 1) := by decide +kernel
theorem dX5_settleOne_89 : decode cX5_settleOne 89 = .ok (.ireturn, 1) := by decide +kernel
theorem dX5_settleOne_90 : decode cX5_settleOne 90 = .ok (.lload_n 3, 1) := by decide +kernel
theorem dX5_settleOne_91 : decode cX5_settleOne 91 = .ok (.ldc2_w 160, 3) := by decide +kernel
theorem dX5_settleOne_94 : decode cX5_settleOne 94 = .ok (.lcmp, 1) := by decide +kernel
theorem dX5_settleOne_95 : decode cX5_settleOne 95 = .ok (.ifCond .ne 5, 3) := by decide +kernel
theorem dX5_settleOne_98 : decode cX5_settleOne 98 = .ok (.iconst 0, 1) := by decide +kernel
theorem dX5_settleOne_99 : decode cX5_settleOne 99 = .ok (.ireturn, 1) := by decide +kernel
theorem dX5_settleOne_100 : decode cX5_settleOne 100 = .ok (.aload_n 0, 1) := by decide +kernel
theorem dX5_settleOne_101 : decode cX5_settleOne 101 = .ok (.getfield 22, 3) := by decide +kernel
theorem dX5_settleOne_104 : decode cX5_settleOne 104 = .ok (.aload_n 0, 1) := by decide +kernel
theorem dX5_settleOne_105 : decode cX5_settleOne 105 = .ok (.getfield 12, 3) := by decide +kernel
theorem dX5_settleOne_108 : decode cX5_settleOne 108 = .ok (.invokevirtual 162, 3) := by decide +kernel
theorem dX5_settleOne_111 : decode cX5_settleOne 111 = .ok (.lload_n 3, 1) := by decide +kernel
theorem dX5_settleOne_112 : decode cX5_settleOne 112 = .ok (.l2i, 1) := by decide +kernel
theorem dX5_settleOne_113 : decode cX5_settleOne 113 = .ok (.iastore, 1) := by decide +kernel
theorem dX5_settleOne_114 : decode cX5_settleOne 114 = .ok (.iconst 1, 1) := by decide +kernel
theorem dX5_settleOne_115 : decode cX5_settleOne 115 = .ok (.ireturn, 1) := by decide +kernel
set_option maxHeartbeats 4000000 in
set_option maxRecDepth 100000 in
theorem t_X5_settleOne_J82 {p : Program} {l : Launch} {e : Env} {s : State} {m : MethodId} {args : Array Value} {below : List Frame} {meth : Method} {c : Code} {D : va_G} {aC : Nat → ClassId} {A : Nat → Prop} {a_v a_d a_n : Nat → Nat} {out : Int32 × Ob_T} {s_d : Ob_T} {s_n : Ob_T} (hX : K_X p s m args meth c cX5_settleOne 5 WL_ RX5 D aC A) (hr : meth.sig.returnType = (some .boolean)) (k1 : Int32) (k2 : Int32) (s_v : Ob_T) (h : f_X5_settleOne_J82 k1 k2 s_v s_d s_n = some out) (H : Heap) (locs : List Loc) (ls : Array Slot) (hZ : K_S D A s (wd_X5 aC a_v (a_n 0) (a_d 0) s_v ++ (wd_X4 aC a_d s_d ++ wd_X1 aC a_n s_n)) H locs) (hl : lv_has ls 5 []) : W p l e (R_m 1 25) s m args below meth c H locs 0 0 (MQ below (Q_W (some (.int out.1)) D A (wd_X5 aC a_v (a_n 0) (a_d 0) out.2 ++ (wd_X4 aC a_d s_d ++ wd_X1 aC a_n s_n))) args s 0 0 A) (F0 m 82 ls [.int k2, .int k1, .ref (a_v 0)]) := by
  obtain ⟨hx, hb, hml, hown, hts, hK, hA, hlk⟩ := id hX
  unfold f_X5_settleOne_J82 at h
  refine lv_iconst (v := 0) hx hb dX5_settleOne_82 (by decide) ?_
  refine lv_iconst (v := 0) hx hb dX5_settleOne_83 (by decide) ?_
  refine lv_iconst (v := 0) hx hb dX5_settleOne_84 (by decide) ?_
  obtain ⟨u7, hu, h⟩ := k_bd h
  refine k_vW (As := [.int k1, .int k2, .int (0 : Int32), .int (0 : Int32), .int (0 : Int32)]) (rest := []) (wc := wd_X5 aC a_v (a_n 0) (a_d 0) s_v) (v := none) (st1 := []) (w' := wd_X5 aC a_v (a_n 0) (a_d 0) u7 ++ (wd_X4 aC a_d s_d ++ wd_X1 aC a_n s_n)) hX hl.1 hZ (c_X5_failAt (a_v := a_v) (a_n := a_n) (a_d := a_d) s_v k1 k2 (0 : Int32) (0 : Int32) (0 : Int32) hu) (gv_ wm_440 wm_442 wm_443 wm_432 wm_441) rfl hd_X5_failAt ⟨rfl, rfl⟩ 5 0 rfl rfl [0, 1, 2, 3, 4] rfl rfl rfl rfl rfl dX5_settleOne_85 rfl ⟨rfl, rfl⟩ rfl rfl rfl (fun H locs hZ => ?_)
  clear hu
  refine lv_iconst (v := 0) hx hb dX5_settleOne_88 (by decide) ?_
  cases h
  exact k_zretW (v := (0 : Int32)) hX hr rfl hZ dX5_settleOne_89
set_option maxHeartbeats 4000000 in
set_option maxRecDepth 100000 in
theorem t_X5_settleOne_J68 {p : Program} {l : Launch} {e : Env} {s : State} {m : MethodId} {args : Array Value} {below : List Frame} {meth : Method} {c : Code} {D : va_G} {aC : Nat → ClassId} {A : Nat → Prop} {a_v a_d a_n : Nat → Nat} {out : Int32 × Ob_T} {s_d : Ob_T} {s_n : Ob_T} (hX : K_X p s m args meth c cX5_settleOne 5 WL_ RX5 D aC A) (hr : meth.sig.returnType = (some .boolean)) (x1 : Int32) (x2 : Int32) (k1 : Int32) (s_v : Ob_T) (h : f_X5_settleOne_J68 x1 x2 k1 s_v s_d s_n = some out) (H : Heap) (locs : List Loc) (ls : Array Slot) (hZ : K_S D A s (wd_X5 aC a_v (a_n 0) (a_d 0) s_v ++ (wd_X4 aC a_d s_d ++ wd_X1 aC a_n s_n)) H locs) (hl : lv_has ls 5 [(0, .ref (a_v 0)), (1, .int x1), (2, .int x2)]) : W p l e (R_m 1 25) s m args below meth c H locs 0 0 (MQ below (Q_W (some (.int out.1)) D A (wd_X5 aC a_v (a_n 0) (a_d 0) out.2 ++ (wd_X4 aC a_d s_d ++ wd_X1 aC a_n s_n))) args s 0 0 A) (F0 m 68 ls [.int k1, .ref (a_v 0)]) := by
  obtain ⟨hx, hb, hml, hown, hts, hK, hA, hlk⟩ := id hX
  unfold f_X5_settleOne_J68 at h
  obtain ⟨b5, hb0, h⟩ := k_bd h
  obtain ⟨hb1, hb2, hb3⟩ := k_zb hb0
  clear hb0
  refine k_put (wf := (fun o => wd_X5 aC a_v (a_n 0) (a_d 0) o ++ (wd_X4 aC a_d s_d ++ wd_X1 aC a_n s_n))) (o := s_v) hX hZ 0 5 rfl rfl iw_X5 tyX5 tyX5_ok nmX5 6 rfl (wm_428) rfl hb2 hb3 rfl rfl h dX5_settleOne_68 (fun o6 H locs hZ h => ?_)
  refine lv_aload_n hx hb dX5_settleOne_71 rfl (lv_at hl 0 rfl) ?_
  refine lv_iload_n hx hb dX5_settleOne_72 rfl (lv_at hl 1 rfl) ?_
  refine lv_iload_n hx hb dX5_settleOne_73 rfl (lv_at hl 2 rfl) ?_
  refine lv_if_eq (tgt := 81) hx hb dX5_settleOne_74 (by decide) (fun cd => ?_) (fun cd => ?_)
  · replace h := k_t cd h
    clear cd
    refine lv_iconst (v := 4) hx hb dX5_settleOne_81 (by decide) ?_
    exact t_X5_settleOne_J82 hX hr x1 (4 : Int32) o6 h H locs ls hZ (lv_sub hl [] rfl)
  · replace h := k_f cd h
    clear cd
    refine lv_iconst (v := 3) hx hb dX5_settleOne_77 (by decide) ?_
    refine lv_goto (tgt := 82) hx hb dX5_settleOne_78 (by decide) ?_
    exact t_X5_settleOne_J82 hX hr x1 (3 : Int32) o6 h H locs ls hZ (lv_sub hl [] rfl)
set_option maxHeartbeats 4000000 in
set_option maxRecDepth 100000 in
theorem t_X5_settleOne_J67 {p : Program} {l : Launch} {e : Env} {s : State} {m : MethodId} {args : Array Value} {below : List Frame} {meth : Method} {c : Code} {D : va_G} {aC : Nat → ClassId} {A : Nat → Prop} {a_v a_d a_n : Nat → Nat} {out : Int32 × Ob_T} {s_d : Ob_T} {s_n : Ob_T} (hX : K_X p s m args meth c cX5_settleOne 5 WL_ RX5 D aC A) (hr : meth.sig.returnType = (some .boolean)) (x1 : Int32) (x2 : Int32) (s_v : Ob_T) (h : f_X5_settleOne_J67 x1 x2 s_v s_d s_n = some out) (H : Heap) (locs : List Loc) (ls : Array Slot) (hZ : K_S D A s (wd_X5 aC a_v (a_n 0) (a_d 0) s_v ++ (wd_X4 aC a_d s_d ++ wd_X1 aC a_n s_n)) H locs) (hl : lv_has ls 5 [(0, .ref (a_v 0)), (1, .int x1), (2, .int x2)]) : W p l e (R_m 1 25) s m args below meth c H locs 0 0 (MQ below (Q_W (some (.int out.1)) D A (wd_X5 aC a_v (a_n 0) (a_d 0) out.2 ++ (wd_X4 aC a_d s_d ++ wd_X1 aC a_n s_n))) args s 0 0 A) (F0 m 67 ls [.ref (a_v 0)]) := by
  obtain ⟨hx, hb, hml, hown, hts, hK, hA, hlk⟩ := id hX
  unfold f_X5_settleOne_J67 at h
  refine lv_iconst (v := 0) hx hb dX5_settleOne_67 (by decide) ?_
  exact t_X5_settleOne_J68 hX hr x1 x2 (0 : Int32) s_v h H locs ls hZ (lv_sub hl [0, 1, 2] rfl)
set_option maxHeartbeats 4000000 in
set_option maxRecDepth 100000 in
theorem t_X5_settleOne_J39 {p : Program} {l : Launch} {e : Env} {s : State} {m : MethodId} {args : Array Value} {below : List Frame} {meth : Method} {c : Code} {D : va_G} {aC : Nat → ClassId} {A : Nat → Prop} {a_v a_d a_n : Nat → Nat} {out : Int32 × Ob_T} {s_d : Ob_T} {s_n : Ob_T} (hX : K_X p s m args meth c cX5_settleOne 5 WL_ RX5 D aC A) (hr : meth.sig.returnType = (some .boolean)) (x1 : Int32) (x2 : Int32) (k0 : Int64) (s_v : Ob_T) (h : f_X5_settleOne_J39 x1 x2 k0 s_v s_d s_n = some out) (H : Heap) (locs : List Loc) (ls : Array Slot) (hZ : K_S D A s (wd_X5 aC a_v (a_n 0) (a_d 0) s_v ++ (wd_X4 aC a_d s_d ++ wd_X1 aC a_n s_n)) H locs) (hl : lv_has ls 5 [(0, .ref (a_v 0)), (1, .int x1), (2, .int x2)]) : W p l e (R_m 1 25) s m args below meth c H locs 0 0 (MQ below (Q_W (some (.int out.1)) D A (wd_X5 aC a_v (a_n 0) (a_d 0) out.2 ++ (wd_X4 aC a_d s_d ++ wd_X1 aC a_n s_n))) args s 0 0 A) (F0 m 39 ls [.long k0]) := by
  obtain ⟨hx, hb, hml, hown, hts, hK, hA, hlk⟩ := id hX
  unfold f_X5_settleOne_J39 at h
  refine lv_lstore_n (lv' := [(3, .long k0), (0, .ref (a_v 0)), (1, .int x1), (2, .int x2)]) hx hb dX5_settleOne_39 rfl hl (by decide) rfl (fun ls hl => ?_)
  refine lv_lload_n hx hb dX5_settleOne_40 rfl (lv_at hl 0 rfl) ?_
  refine lv_ldc2 (v := -1) hx hb hown (hts _ wm_513) dX5_settleOne_41 ?_
  refine W.lcmp hx hb dX5_settleOne_44 ?_
  refine lv_if_ne (tgt := 90) hx hb dX5_settleOne_45 (by decide) (fun cd => ?_) (fun cd => ?_)
  · replace h := k_f cd h
    clear cd
    refine lv_lload_n hx hb dX5_settleOne_90 rfl (lv_at hl 0 rfl) ?_
    refine lv_ldc2 (v := -2) hx hb hown (hts _ wm_514) dX5_settleOne_91 ?_
    refine W.lcmp hx hb dX5_settleOne_94 ?_
    refine lv_if_ne (tgt := 100) hx hb dX5_settleOne_95 (by decide) (fun cd => ?_) (fun cd => ?_)
    · replace h := k_f cd h
      clear cd
      refine lv_aload_n hx hb dX5_settleOne_100 rfl (lv_at hl 1 rfl) ?_
      refine k_get hX hZ.1 0 5 rfl rfl iw_X5 3 rfl (wm_430) (v := .ref (a_v 2)) rfl dX5_settleOne_101 ?_
      refine lv_aload_n hx hb dX5_settleOne_104 rfl (lv_at hl 1 rfl) ?_
      refine k_get hX hZ.1 0 5 rfl rfl iw_X5 1 rfl (wm_494) (v := .ref (a_d 0)) rfl dX5_settleOne_105 ?_
      obtain ⟨u3, hu, h⟩ := k_bd h
      refine k_vR (As := []) (rest := [.ref (a_v 2)]) (wc := wd_X4 aC a_d s_d) (v := some (.int u3)) (st1 := [.int u3, .ref (a_v 2)]) hX hl.1 hZ (c_X4_latestLetter (a_d := a_d) s_d hu) (gv_ wm_515 wm_517 wm_518 wm_496 wm_516) rfl hd_X4_latestLetter ⟨rfl, rfl⟩ 4 0 rfl rfl [5, 6, 7] rfl rfl rfl rfl rfl dX5_settleOne_108 rfl ⟨rfl, rfl⟩ (fun locs hZ => ?_)
      clear hu
      refine lv_lload_n hx hb dX5_settleOne_111 rfl (lv_at hl 0 rfl) ?_
      refine lv_l2i (v := k0.toInt32) hx hb dX5_settleOne_112 rfl ?_
      refine k_iast (wf := (fun o => wd_X5 aC a_v (a_n 0) (a_d 0) o ++ (wd_X4 aC a_d s_d ++ wd_X1 aC a_n s_n))) (o := s_v) hX hZ 2 3 rfl (fun _ => rfl) h dX5_settleOne_113 (fun o4 H locs hZ h => ?_)
      refine lv_iconst (v := 1) hx hb dX5_settleOne_114 (by decide) ?_
      cases h
      exact k_zretW (v := (1 : Int32)) hX hr rfl hZ dX5_settleOne_115
    · replace h := k_t cd h
      clear cd
      refine lv_iconst (v := 0) hx hb dX5_settleOne_98 (by decide) ?_
      cases h
      exact k_zretW (v := (0 : Int32)) hX hr rfl hZ dX5_settleOne_99
  · replace h := k_t cd h
    clear cd
    refine lv_aload_n hx hb dX5_settleOne_48 rfl (lv_at hl 1 rfl) ?_
    refine lv_iload_n hx hb dX5_settleOne_49 rfl (lv_at hl 3 rfl) ?_
    refine lv_if_ne (tgt := 67) hx hb dX5_settleOne_50 (by decide) (fun cd => ?_) (fun cd => ?_)
    · replace h := k_f cd h
      clear cd
      exact t_X5_settleOne_J67 hX hr x1 x2 s_v h H locs ls hZ (lv_sub hl [1, 2, 3] rfl)
    · replace h := k_t cd h
      clear cd
      refine lv_aload_n hx hb dX5_settleOne_53 rfl (lv_at hl 1 rfl) ?_
      refine k_get hX hZ.1 0 5 rfl rfl iw_X5 1 rfl (wm_494) (v := .ref (a_d 0)) rfl dX5_settleOne_54 ?_
      obtain ⟨u8, hu, h⟩ := k_bd h
      refine k_vR (As := []) (rest := [.ref (a_v 0)]) (wc := wd_X4 aC a_d s_d) (v := some (.int u8)) (st1 := [.int u8, .ref (a_v 0)]) hX hl.1 hZ (c_X4_isTooGreat (a_d := a_d) s_d hu) (gv_ wm_519 wm_521 wm_522 wm_496 wm_520) rfl hd_X4_isTooGreat ⟨rfl, rfl⟩ 4 0 rfl rfl [5, 6, 7] rfl rfl rfl rfl rfl dX5_settleOne_57 rfl ⟨rfl, rfl⟩ (fun locs hZ => ?_)
      clear hu
      refine lv_if_eq (tgt := 67) hx hb dX5_settleOne_60 (by decide) (fun cd => ?_) (fun cd => ?_)
      · replace h := k_t cd h
        clear cd
        exact t_X5_settleOne_J67 hX hr x1 x2 s_v h H locs ls hZ (lv_sub hl [1, 2, 3] rfl)
      · replace h := k_f cd h
        clear cd
        refine lv_iconst (v := 1) hx hb dX5_settleOne_63 (by decide) ?_
        refine lv_goto (tgt := 68) hx hb dX5_settleOne_64 (by decide) ?_
        exact t_X5_settleOne_J68 hX hr x1 x2 (1 : Int32) s_v h H locs ls hZ (lv_sub hl [1, 2, 3] rfl)
set_option maxHeartbeats 4000000 in
set_option maxRecDepth 100000 in
theorem t_X5_settleOne_J17 {p : Program} {l : Launch} {e : Env} {s : State} {m : MethodId} {args : Array Value} {below : List Frame} {meth : Method} {c : Code} {D : va_G} {aC : Nat → ClassId} {A : Nat → Prop} {a_v a_d a_n : Nat → Nat} {out : Int32 × Ob_T} {s_d : Ob_T} {s_n : Ob_T} (hX : K_X p s m args meth c cX5_settleOne 5 WL_ RX5 D aC A) (hr : meth.sig.returnType = (some .boolean)) (x1 : Int32) (k0 : Int32) (s_v : Ob_T) (h : f_X5_settleOne_J17 x1 k0 s_v s_d s_n = some out) (H : Heap) (locs : List Loc) (ls : Array Slot) (hZ : K_S D A s (wd_X5 aC a_v (a_n 0) (a_d 0) s_v ++ (wd_X4 aC a_d s_d ++ wd_X1 aC a_n s_n)) H locs) (hl : lv_has ls 5 [(0, .ref (a_v 0)), (1, .int x1)]) : W p l e (R_m 1 25) s m args below meth c H locs 0 0 (MQ below (Q_W (some (.int out.1)) D A (wd_X5 aC a_v (a_n 0) (a_d 0) out.2 ++ (wd_X4 aC a_d s_d ++ wd_X1 aC a_n s_n))) args s 0 0 A) (F0 m 17 ls [.int k0]) := by
  obtain ⟨hx, hb, hml, hown, hts, hK, hA, hlk⟩ := id hX
  unfold f_X5_settleOne_J17 at h
  refine lv_istore_n (lv' := [(2, .int k0), (0, .ref (a_v 0)), (1, .int x1)]) hx hb dX5_settleOne_17 rfl hl (by decide) rfl (fun ls hl => ?_)
  refine lv_iload_n hx hb dX5_settleOne_18 rfl (lv_at hl 0 rfl) ?_
  refine lv_if_eq (tgt := 32) hx hb dX5_settleOne_19 (by decide) (fun cd => ?_) (fun cd => ?_)
  · replace h := k_t cd h
    clear cd
    refine lv_aload_n hx hb dX5_settleOne_32 rfl (lv_at hl 1 rfl) ?_
    refine k_get hX hZ.1 0 5 rfl rfl iw_X5 1 rfl (wm_494) (v := .ref (a_d 0)) rfl dX5_settleOne_33 ?_
    obtain ⟨u2, hu, h⟩ := k_bd h
    refine k_vR (As := []) (rest := []) (wc := wd_X4 aC a_d s_d) (v := some (.long u2)) (st1 := [.long u2]) hX hl.1 hZ (c_X4_missingFactor (a_d := a_d) s_d hu) (gv_ wm_523 wm_525 wm_526 wm_496 wm_524) rfl hd_X4_missingFactor ⟨rfl, rfl⟩ 4 0 rfl rfl [5, 6, 7] rfl rfl rfl rfl rfl dX5_settleOne_36 rfl ⟨rfl, rfl⟩ (fun locs hZ => ?_)
    clear hu
    exact t_X5_settleOne_J39 hX hr x1 k0 u2 s_v h H locs ls hZ (lv_sub hl [1, 2, 0] rfl)
  · replace h := k_f cd h
    clear cd
    refine lv_aload_n hx hb dX5_settleOne_22 rfl (lv_at hl 1 rfl) ?_
    refine k_get hX hZ.1 0 5 rfl rfl iw_X5 1 rfl (wm_494) (v := .ref (a_d 0)) rfl dX5_settleOne_23 ?_
    obtain ⟨u9, hu, h⟩ := k_bd h
    refine k_vR (As := []) (rest := []) (wc := wd_X4 aC a_d s_d) (v := some (.long u9)) (st1 := [.long u9]) hX hl.1 hZ (c_X4_missingAddend (a_d := a_d) s_d hu) (gv_ wm_527 wm_529 wm_530 wm_496 wm_528) rfl hd_X4_missingAddend ⟨rfl, rfl⟩ 4 0 rfl rfl [5, 6, 7] rfl rfl rfl rfl rfl dX5_settleOne_26 rfl ⟨rfl, rfl⟩ (fun locs hZ => ?_)
    clear hu
    refine lv_goto (tgt := 39) hx hb dX5_settleOne_29 (by decide) ?_
    exact t_X5_settleOne_J39 hX hr x1 k0 u9 s_v h H locs ls hZ (lv_sub hl [1, 2, 0] rfl)
set_option maxHeartbeats 4000000 in
set_option maxRecDepth 100000 in
theorem c_X5_settleOne {l : Launch} {D : va_G} {aC : Nat → ClassId} {a_v : Nat → Nat} {a_d : Nat → Nat} {a_n : Nat → Nat} (s_v : Ob_T) (s_d : Ob_T) (s_n : Ob_T) (x1 : Int32) {out : Int32 × Ob_T} (h : f_X5_settleOne s_v s_d s_n x1 = some out) : M_W l yX5_settleOne wlX5_settleOne 1 25 D aC [.ref (a_v 0), .int x1] (wd_X5 aC a_v (a_n 0) (a_d 0) s_v ++ (wd_X4 aC a_d s_d ++ wd_X1 aC a_n s_n)) (some (.int out.1)) (wd_X5 aC a_v (a_n 0) (a_d 0) out.2 ++ (wd_X4 aC a_d s_d ++ wd_X1 aC a_n s_n)) := by
  refine k_entW (cc := cX5_settleOne) (ret := (some .boolean)) (maxL := 5) (own := RX5) (by decide) rfl rfl rfl ?_
  intro p e s m below meth c A ls hX hr hZ hl
  have hl : lv_has ls 5 [(0, .ref (a_v 0)), (1, .int x1)] := hl
  generalize ([.ref (a_v 0), .int x1] : List Value).toArray = args at hX ⊢
  obtain ⟨hx, hb, hml, hown, hts, hK, hA, hlk⟩ := id hX
  unfold f_X5_settleOne at h
  generalize s.heap = H at hZ ⊢
  generalize ([] : List Loc) = locs at hZ ⊢
  refine lv_aload_n hx hb dX5_settleOne_0 rfl (lv_at hl 0 rfl) ?_
  refine k_get hX hZ.1 0 5 rfl rfl iw_X5 0 rfl (wm_448) (v := .ref (a_n 0)) rfl dX5_settleOne_1 ?_
  refine lv_iload_n hx hb dX5_settleOne_4 rfl (lv_at hl 1 rfl) ?_
  obtain ⟨u1, hu, h⟩ := k_bd h
  refine k_vR (As := [.int x1]) (rest := []) (wc := wd_X1 aC a_n s_n) (v := some (.int u1)) (st1 := [.int u1]) hX hl.1 hZ (c_X1_kindOf (a_n := a_n) s_n x1 hu) (gv_ wm_480 wm_482 wm_483 wm_321 wm_481) rfl hd_X1_kindOf ⟨rfl, rfl⟩ 1 0 rfl rfl [8, 9, 10, 11, 12, 13, 14] rfl rfl rfl rfl rfl dX5_settleOne_5 rfl ⟨rfl, rfl⟩ (fun locs hZ => ?_)
  clear hu
  refine lv_iconst (v := 2) hx hb dX5_settleOne_8 (by decide) ?_
  refine lv_icmp_ne (tgt := 16) hx hb dX5_settleOne_9 (by decide) (fun cd => ?_) (fun cd => ?_)
  · replace h := k_f cd h
    clear cd
    refine lv_iconst (v := 0) hx hb dX5_settleOne_16 (by decide) ?_
    exact t_X5_settleOne_J17 hX hr x1 (0 : Int32) s_v h H locs ls hZ (lv_sub hl [0, 1] rfl)
  · replace h := k_t cd h
    clear cd
    refine lv_iconst (v := 1) hx hb dX5_settleOne_12 (by decide) ?_
    refine lv_goto (tgt := 17) hx hb dX5_settleOne_13 (by decide) ?_
    exact t_X5_settleOne_J17 hX hr x1 (1 : Int32) s_v h H locs ls hZ (lv_sub hl [0, 1] rfl)
