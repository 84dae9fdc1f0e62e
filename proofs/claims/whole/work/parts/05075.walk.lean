def wlX5_makeAlike : List Cond := .code yX5_makeAlike cX5_makeAlike 4 none :: WL_
theorem hd_X5_makeAlike : yX5_makeAlike.cls = RX5 ∧ yX5_makeAlike.cls ≠ "java/lang/invoke/MethodHandle" ∧ yX5_makeAlike.cls ≠ "java/lang/invoke/VarHandle" ∧ (parseMethodDescriptor yX5_makeAlike.desc).map (fun d => d.parameters.length) = some 2 := by decide +kernel
theorem dX5_makeAlike_0 : decode cX5_makeAlike 0 = .ok (.iconst 0, 1) := by decide +kernel
theorem dX5_makeAlike_1 : decode cX5_makeAlike 1 = .ok (.istore_n 3, 1) := by decide +kernel
theorem dX5_makeAlike_2 : decode cX5_makeAlike 2 = .ok (.iload_n 3, 1) := by decide +kernel
theorem dX5_makeAlike_3 : decode cX5_makeAlike 3 = .ok (.bipush 14, 2) := by decide +kernel
theorem dX5_makeAlike_5 : decode cX5_makeAlike 5 = .ok (.if_icmp .ge 26, 3) := by decide +kernel
theorem dX5_makeAlike_8 : decode cX5_makeAlike 8 = .ok (.aload_n 0, 1) := by decide +kernel
theorem dX5_makeAlike_9 : decode cX5_makeAlike 9 = .ok (.getfield 18, 3) := by decide +kernel
theorem dX5_makeAlike_12 : decode cX5_makeAlike 12 = .ok (.iload_n 3, 1) := by decide +kernel
theorem dX5_makeAlike_13 : decode cX5_makeAlike 13 = .ok (.iaload, 1) := by decide +kernel
theorem dX5_makeAlike_14 : decode cX5_makeAlike 14 = .ok (.iload_n 2, 1) := by decide +kernel
theorem dX5_makeAlike_15 : decode cX5_makeAlike 15 = .ok (.if_icmp .ne 10, 3) := by decide +kernel
theorem dX5_makeAlike_18 : decode cX5_makeAlike 18 = .ok (.aload_n 0, 1) := by decide +kernel
theorem dX5_makeAlike_19 : decode cX5_makeAlike 19 = .ok (.getfield 18, 3) := by decide +kernel
theorem dX5_makeAlike_22 : decode cX5_makeAlike 22 = .ok (.iload_n 3, 1) := by decide +kernel
theorem dX5_makeAlike_23 : decode cX5_makeAlike 23 = .ok (.iload_n 1, 1) := by decide +kernel
theorem dX5_makeAlike_24 : decode cX5_makeAlike 24 = .ok (.iastore, 1) := by decide +kernel
theorem dX5_makeAlike_25 : decode cX5_makeAlike 25 = .ok (.iinc 3 1, 3) := by decide +kernel
theorem dX5_makeAlike_28 : decode cX5_makeAlike 28 = .ok (.goto (-26), 3) := by decide +kernel
theorem dX5_makeAlike_31 : decode cX5_makeAlike 31 = .ok (.return_, 1) := by decide +kernel
set_option maxHeartbeats 4000000 in
set_option maxRecDepth 100000 in
theorem t_X5_makeAlike_L2 {p : Program} {l : Launch} {e : Env} {s : State} {m : MethodId} {args : Array Value} {below : List Frame} {meth : Method} {c : Code} {D : va_G} {aC : Nat → ClassId} {A : Nat → Prop} {a_v a_n a_d : Nat → Nat} {out : Ob_T} {rec2 : (Int32 × Int32 × Int32 × Ob_T) → Option Ob_T} (hX : K_X p s m args meth c cX5_makeAlike 4 WL_ RX5 D aC A) (hr : meth.sig.returnType = none) (hrec2 : ∀ x : Int32 × Int32 × Int32 × Ob_T, rec2 x = some out → ∀ (H : Heap) (locs : List Loc) (ls : Array Slot), K_S D A s (wd_X5 aC a_v (a_n 0) (a_d 0) x.2.2.2) H locs → lv_has ls 4 [(0, .ref (a_v 0)), (1, .int x.1), (2, .int x.2.1), (3, .int x.2.2.1)] → W p l e (R_m 0 0) s m args below meth c H locs 0 0 (MQ below (Q_W (none) D A (wd_X5 aC a_v (a_n 0) (a_d 0) out)) args s 0 0 A) (F0 m 2 ls [])) (x1 : Int32) (x2 : Int32) (x3 : Int32) (s_v : Ob_T) (h : f_X5_makeAlike_L2 rec2 x1 x2 x3 s_v = some out) (H : Heap) (locs : List Loc) (ls : Array Slot) (hZ : K_S D A s (wd_X5 aC a_v (a_n 0) (a_d 0) s_v) H locs) (hl : lv_has ls 4 [(0, .ref (a_v 0)), (1, .int x1), (2, .int x2), (3, .int x3)]) : W p l e (R_m 0 0) s m args below meth c H locs 0 0 (MQ below (Q_W (none) D A (wd_X5 aC a_v (a_n 0) (a_d 0) out)) args s 0 0 A) (F0 m 2 ls []) := by
  obtain ⟨hx, hb, hml, hown, hts, hK, hA, hlk⟩ := id hX
  unfold f_X5_makeAlike_L2 at h
  refine lv_iload_n hx hb dX5_makeAlike_2 rfl (lv_at hl 3 rfl) ?_
  refine lv_bipush (v := 14) hx hb dX5_makeAlike_3 (by decide) ?_
  refine lv_icmp_ge (tgt := 31) hx hb dX5_makeAlike_5 (by decide) (fun cd => ?_) (fun cd => ?_)
  · replace h := k_t cd h
    clear cd
    cases h
    exact k_vretW hX hr hZ dX5_makeAlike_31
  · replace h := k_f cd h
    clear cd
    refine lv_aload_n hx hb dX5_makeAlike_8 rfl (lv_at hl 0 rfl) ?_
    refine k_get hX hZ.1 0 5 rfl rfl iw_X5 2 rfl (wm_429) (v := .ref (a_v 1)) rfl dX5_makeAlike_9 ?_
    refine lv_iload_n hx hb dX5_makeAlike_12 rfl (lv_at hl 3 rfl) ?_
    refine k_iald hX hZ.1 1 rfl h dX5_makeAlike_13 (fun v1 h => ?_)
    refine lv_iload_n hx hb dX5_makeAlike_14 rfl (lv_at hl 2 rfl) ?_
    refine lv_icmp_ne (tgt := 25) hx hb dX5_makeAlike_15 (by decide) (fun cd => ?_) (fun cd => ?_)
    · replace h := k_f cd h
      clear cd
      refine lv_iinc (v := (x3 + (1 : Int32))) (lv' := [(3, .int (x3 + (1 : Int32))), (0, .ref (a_v 0)), (1, .int x1), (2, .int x2)]) hx hb dX5_makeAlike_25 hl (k := 3) rfl rfl (by decide) rfl (fun ls hl => ?_)
      refine lv_goto (tgt := 2) hx hb dX5_makeAlike_28 (by decide) ?_
      exact hrec2 (x1, x2, (x3 + (1 : Int32)), s_v) h H locs ls hZ (lv_sub hl [1, 2, 3, 0] rfl)
    · replace h := k_t cd h
      clear cd
      refine lv_aload_n hx hb dX5_makeAlike_18 rfl (lv_at hl 0 rfl) ?_
      refine k_get hX hZ.1 0 5 rfl rfl iw_X5 2 rfl (wm_429) (v := .ref (a_v 1)) rfl dX5_makeAlike_19 ?_
      refine lv_iload_n hx hb dX5_makeAlike_22 rfl (lv_at hl 3 rfl) ?_
      refine lv_iload_n hx hb dX5_makeAlike_23 rfl (lv_at hl 1 rfl) ?_
      refine k_iast (wf := (fun o => wd_X5 aC a_v (a_n 0) (a_d 0) o)) (o := s_v) hX hZ 1 2 rfl (fun _ => rfl) h dX5_makeAlike_24 (fun o2 H locs hZ h => ?_)
      refine lv_iinc (v := (x3 + (1 : Int32))) (lv' := [(3, .int (x3 + (1 : Int32))), (0, .ref (a_v 0)), (1, .int x1), (2, .int x2)]) hx hb dX5_makeAlike_25 hl (k := 3) rfl rfl (by decide) rfl (fun ls hl => ?_)
      refine lv_goto (tgt := 2) hx hb dX5_makeAlike_28 (by decide) ?_
      exact hrec2 (x1, x2, (x3 + (1 : Int32)), o2) h H locs ls hZ (lv_sub hl [1, 2, 3, 0] rfl)
set_option maxHeartbeats 4000000 in
set_option maxRecDepth 100000 in
theorem c_X5_makeAlike {l : Launch} {D : va_G} {aC : Nat → ClassId} {a_v : Nat → Nat} {a_n : Nat → Nat} {a_d : Nat → Nat} (s_v : Ob_T) (x1 : Int32) (x2 : Int32) {out : Ob_T} (h : f_X5_makeAlike s_v x1 x2 = some out) : M_W l yX5_makeAlike wlX5_makeAlike 0 0 D aC [.ref (a_v 0), .int x1, .int x2] (wd_X5 aC a_v (a_n 0) (a_d 0) s_v) (none) (wd_X5 aC a_v (a_n 0) (a_d 0) out) := by
  refine k_entW (cc := cX5_makeAlike) (ret := none) (maxL := 4) (own := RX5) (by decide) rfl rfl rfl ?_
  intro p e s m below meth c A ls hX hr hZ hl
  have hl : lv_has ls 4 [(0, .ref (a_v 0)), (1, .int x1), (2, .int x2)] := hl
  generalize ([.ref (a_v 0), .int x1, .int x2] : List Value).toArray = args at hX ⊢
  obtain ⟨hx, hb, hml, hown, hts, hK, hA, hlk⟩ := id hX
  unfold f_X5_makeAlike at h
  generalize s.heap = H at hZ ⊢
  generalize ([] : List Loc) = locs at hZ ⊢
  refine lv_iconst (v := 0) hx hb dX5_makeAlike_0 (by decide) ?_
  refine lv_istore_n (lv' := [(3, .int (0 : Int32)), (0, .ref (a_v 0)), (1, .int x1), (2, .int x2)]) hx hb dX5_makeAlike_1 rfl hl (by decide) rfl (fun ls hl => ?_)
  exact Lp_ok (body := (fun (rec : (Int32 × Int32 × Int32 × Ob_T) → Option Ob_T) x => f_X5_makeAlike_L2 rec x.1 x.2.1 x.2.2.1 x.2.2.2)) (out := out) (fun x => ∀ (H : Heap) (locs : List Loc) (ls : Array Slot), K_S D A s (wd_X5 aC a_v (a_n 0) (a_d 0) x.2.2.2) H locs → lv_has ls 4 [(0, .ref (a_v 0)), (1, .int x.1), (2, .int x.2.1), (3, .int x.2.2.1)] → W p l e (R_m 0 0) s m args below meth c H locs 0 0 (MQ below (Q_W (none) D A (wd_X5 aC a_v (a_n 0) (a_d 0) out)) args s 0 0 A) (F0 m 2 ls [])) (fun rec hrec x h H locs ls hZ hl => t_X5_makeAlike_L2 hX hr hrec x.1 x.2.1 x.2.2.1 x.2.2.2 h H locs ls hZ hl) FU_ (x1, x2, (0 : Int32), s_v) h H locs ls hZ (lv_sub hl [1, 2, 3, 0] rfl)
def wlX5_meet : List Cond := .code yX5_meet cX5_meet 8 none :: WL_
theorem hd_X5_meet : yX5_meet.cls = RX5 ∧ yX5_meet.cls ≠ "java/lang/invoke/MethodHandle" ∧ yX5_meet.cls ≠ "java/lang/invoke/VarHandle" ∧ (parseMethodDescriptor yX5_meet.desc).map (fun d => d.parameters.length) = some 5 := by decide +kernel
theorem dX5_meet_0 : decode cX5_meet 0 = .ok (.aload_n 0, 1) := by decide +kernel
theorem dX5_meet_1 : decode cX5_meet 1 = .ok (.iload_n 1, 1) := by decide +kernel
theorem dX5_meet_2 : decode cX5_meet 2 = .ok (.invokevirtual 64, 3) := by decide +kernel
theorem dX5_meet_5 : decode cX5_meet 5 = .ok (.istore 6, 2) := by decide +kernel
theorem dX5_meet_7 : decode cX5_meet 7 = .ok (.aload_n 0, 1) := by decide +kernel
theorem dX5_meet_8 : decode cX5_meet 8 = .ok (.iload_n 2, 1) := by decide +kernel
theorem dX5_meet_9 : decode cX5_meet 9 = .ok (.invokevirtual 64, 3) := by decide +kernel
theorem dX5_meet_12 : decode cX5_meet 12 = .ok (.istore 7, 2) := by decide +kernel
theorem dX5_meet_14 : decode cX5_meet 14 = .ok (.iload 6, 2) := by decide +kernel
theorem dX5_meet_16 : decode cX5_meet 16 = .ok (.sipush 20000, 3) := by decide +kernel
theorem dX5_meet_19 : decode cX5_meet 19 = .ok (.if_icmp .ge 34, 3) := by decide +kernel
theorem dX5_meet_22 : decode cX5_meet 22 = .ok (.iload 7, 2) := by decide +kernel
theorem dX5_meet_24 : decode cX5_meet 24 = .ok (.sipush 20000, 3) := by decide +kernel
theorem dX5_meet_27 : decode cX5_meet 27 = .ok (.if_icmp .ge 26, 3) := by decide +kernel
theorem dX5_meet_30 : decode cX5_meet 30 = .ok (.iload 6, 2) := by decide +kernel
theorem dX5_meet_32 : decode cX5_meet 32 = .ok (.iload 7, 2) := by decide +kernel
theorem dX5_meet_34 : decode cX5_meet 34 = .ok (.if_icmp .eq 93, 3) := by decide +kernel
theorem dX5_meet_37 : decode cX5_meet 37 = .ok (.aload_n 0, 1) := by decide +kernel
theorem dX5_meet_38 : decode cX5_meet 38 = .ok (.iload_n 3, 1) := by decide +kernel
theorem dX5_meet_39 : decode cX5_meet 39 = .ok (.iload 4, 2) := by decide +kernel
theorem dX5_meet_41 : decode cX5_meet 41 = .ok (.iload 5, 2) := by decide +kernel
theorem dX5_meet_43 : decode cX5_meet 43 = .ok (.iload 6, 2) := by decide +kernel
theorem dX5_meet_45 : decode cX5_meet 45 = .ok (.iload 7, 2) := by decide +kernel
theorem dX5_meet_47 : decode cX5_meet 47 = .ok (.invokevirtual 121, 3) := by decide +kernel
theorem dX5_meet_50 : decode cX5_meet 50 = .ok (.goto 77, 3) := by decide +kernel
theorem dX5_meet_53 : decode cX5_meet 53 = .ok (.iload 6, 2) := by decide +kernel
theorem dX5_meet_55 : decode cX5_meet 55 = .ok (.sipush 20000, 3) := by decide +kernel
theorem dX5_meet_58 : decode cX5_meet 58 = .ok (.if_icmp .ge 19, 3) := by decide +kernel
theorem dX5_meet_61 : decode cX5_meet 61 = .ok (.aload_n 0, 1) := by decide +kernel
theorem dX5_meet_62 : decode cX5_meet 62 = .ok (.getfield 22, 3) := by decide +kernel
theorem dX5_meet_65 : decode cX5_meet 65 = .ok (.iload 7, 2) := by decide +kernel
theorem dX5_meet_67 : decode cX5_meet 67 = .ok (.sipush 20000, 3) := by decide +kernel
theorem dX5_meet_70 : decode cX5_meet 70 = .ok (.isub, 1) := by decide +kernel
theorem dX5_meet_71 : decode cX5_meet 71 = .ok (.iload 6, 2) := by decide +kernel
theorem dX5_meet_73 : decode cX5_meet 73 = .ok (.iastore, 1) := by decide +kernel
theorem dX5_meet_74 : decode cX5_meet 74 = .ok (.goto 53, 3) := by decide +kernel
theorem dX5_meet_77 : decode cX5_meet 77 = .ok (.iload 7, 2) := by decide +kernel
theorem dX5_meet_79 : decode cX5_meet 79 = .ok (.sipush 20000, 3) := by decide +kernel
theorem dX5_meet_82 : decode cX5_meet 82 = .ok (.if_icmp .ge 19, 3) := by decide +kernel
theorem dX5_meet_85 : decode cX5_meet 85 = .ok (.aload_n 0, 1) := by decide +kernel
theorem dX5_meet_86 : decode cX5_meet 86 = .ok (.getfield 22, 3) := by decide +kernel
theorem dX5_meet_89 : decode cX5_meet 89 = .ok (.iload 6, 2) := by decide +kernel
theorem dX5_meet_91 : decode cX5_meet 91 = .ok (.sipush 20000, 3) := by decide +kernel
theorem dX5_meet_94 : decode cX5_meet 94 = .ok (.isub, 1) := by decide +kernel
theorem dX5_meet_95 : decode cX5_meet 95 = .ok (.iload 7, 2) := by decide +kernel
theorem dX5_meet_97 : decode cX5_meet 97 = .ok (.iastore, 1) := by decide +kernel
theorem dX5_meet_98 : decode cX5_meet 98 = .ok (.goto 29, 3) := by decide +kernel
theorem dX5_meet_101 : decode cX5_meet 101 = .ok (.aload_n 0, 1) := by decide +kernel
theorem dX5_meet_102 : decode cX5_meet 102 = .ok (.iload 6, 2) := by decide +kernel
theorem dX5_meet_104 : decode cX5_meet 104 = .ok (.iload 7, 2) := by decide +kernel
theorem dX5_meet_106 : decode cX5_meet 106 = .ok (.invokestatic 109, 3) := by decide +kernel
theorem dX5_meet_109 : decode cX5_meet 109 = .ok (.sipush 20000, 3) := by decide +kernel
theorem dX5_meet_112 : decode cX5_meet 112 = .ok (.isub, 1) := by decide +kernel
theorem dX5_meet_113 : decode cX5_meet 113 = .ok (.iload 6, 2) := by decide +kernel
theorem dX5_meet_115 : decode cX5_meet 115 = .ok (.iload 7, 2) := by decide +kernel
theorem dX5_meet_117 : decode cX5_meet 117 = .ok (.invokestatic 124, 3) := by decide +kernel
theorem dX5_meet_120 : decode cX5_meet 120 = .ok (.sipush 20000, 3) := by decide +kernel
theorem dX5_meet_123 : decode cX5_meet 123 = .ok (.isub, 1) := by decide +kernel
theorem dX5_meet_124 : decode cX5_meet 124 = .ok (.invokevirtual 127, 3) := by decide +kernel
theorem dX5_meet_127 : decode cX5_meet 127 = .ok (.return_, 1) := by decide +kernel
set_option maxHeartbeats 4000000 in
set_option maxRecDepth 100000 in
theorem t_X5_meet_J53 {p : Program} {l : Launch} {e : Env} {s : State} {m : MethodId} {args : Array Value} {below : List Frame} {meth : Method} {c : Code} {D : va_G} {aC : Nat → ClassId} {A : Nat → Prop} {a_v a_n a_d : Nat → Nat} {out : Ob_T} (hX : K_X p s m args meth c cX5_meet 8 WL_ RX5 D aC A) (hr : meth.sig.returnType = none) (x6 : Int32) (x7 : Int32) (s_v : Ob_T) (h : f_X5_meet_J53 x6 x7 s_v = some out) (H : Heap) (locs : List Loc) (ls : Array Slot) (hZ : K_S D A s (wd_X5 aC a_v (a_n 0) (a_d 0) s_v) H locs) (hl : lv_has ls 8 [(0, .ref (a_v 0)), (6, .int x6), (7, .int x7)]) : W p l e (R_m 1 40) s m args below meth c H locs 0 0 (MQ below (Q_W (none) D A (wd_X5 aC a_v (a_n 0) (a_d 0) out)) args s 0 0 A) (F0 m 53 ls []) := by
  obtain ⟨hx, hb, hml, hown, hts, hK, hA, hlk⟩ := id hX
  unfold f_X5_meet_J53 at h
  refine lv_iload hx hb dX5_meet_53 (lv_at hl 1 rfl) ?_
  refine lv_sipush (v := 20000) hx hb dX5_meet_55 (by decide) ?_
  refine lv_icmp_ge (tgt := 77) hx hb dX5_meet_58 (by decide) (fun cd => ?_) (fun cd => ?_)
  · replace h := k_t cd h
    clear cd
    refine lv_iload hx hb dX5_meet_77 (lv_at hl 2 rfl) ?_
    refine lv_sipush (v := 20000) hx hb dX5_meet_79 (by decide) ?_
    refine lv_icmp_ge (tgt := 101) hx hb dX5_meet_82 (by decide) (fun cd => ?_) (fun cd => ?_)
    · replace h := k_t cd h
      clear cd
      refine lv_aload_n hx hb dX5_meet_101 rfl (lv_at hl 0 rfl) ?_
      refine lv_iload hx hb dX5_meet_102 (lv_at hl 1 rfl) ?_
      refine lv_iload hx hb dX5_meet_104 (lv_at hl 2 rfl) ?_
      refine va_mmin (x := x6) (y := x7) hx hb (hml.trans hl.1.symm) hown (hts _ wm_437) (hts _ wm_438) (hts _ wm_339) (hts _ wm_439) (Nat.le_of_ble_eq_true rfl) (Nat.le_of_ble_eq_true rfl) (Nat.zero_le _) (Nat.zero_le _) dX5_meet_106 ?_
      refine lv_sipush (v := 20000) hx hb dX5_meet_109 (by decide) ?_
      refine lv_isub hx hb dX5_meet_112 ?_
      refine lv_iload hx hb dX5_meet_113 (lv_at hl 1 rfl) ?_
      refine lv_iload hx hb dX5_meet_115 (lv_at hl 2 rfl) ?_
      refine va_mmax (x := x6) (y := x7) hx hb (hml.trans hl.1.symm) hown (hts _ wm_436) (hts _ wm_338) (hts _ wm_339) (hts _ wm_340) (Nat.le_of_ble_eq_true rfl) (Nat.le_of_ble_eq_true rfl) (Nat.zero_le _) (Nat.zero_le _) dX5_meet_117 ?_
      refine lv_sipush (v := 20000) hx hb dX5_meet_120 (by decide) ?_
      refine lv_isub hx hb dX5_meet_123 ?_
      obtain ⟨u3, hu, h⟩ := k_bd h
      refine k_vWs (As := [.int ((if x7 < x6 then x7 else x6) - (20000 : Int32)), .int ((if x6 < x7 then x7 else x6) - (20000 : Int32))]) (rest := []) (v := none) (st1 := []) hX hl.1 hZ (c_X5_makeAlike (a_v := a_v) (a_n := a_n) (a_d := a_d) s_v ((if x7 < x6 then x7 else x6) - (20000 : Int32)) ((if x6 < x7 then x7 else x6) - (20000 : Int32)) hu) (gv_ wm_431 wm_434 wm_435 wm_432 wm_433) rfl hd_X5_makeAlike ⟨rfl, rfl⟩ 5 0 rfl rfl rfl rfl rfl dX5_meet_124 rfl ⟨rfl, rfl⟩ rfl (fun H locs hZ => ?_)
      clear hu
      cases h
      exact k_vretW hX hr hZ dX5_meet_127
    · replace h := k_f cd h
      clear cd
      refine lv_aload_n hx hb dX5_meet_85 rfl (lv_at hl 0 rfl) ?_
      refine k_get hX hZ.1 0 5 rfl rfl iw_X5 3 rfl (wm_430) (v := .ref (a_v 2)) rfl dX5_meet_86 ?_
      refine lv_iload hx hb dX5_meet_89 (lv_at hl 1 rfl) ?_
      refine lv_sipush (v := 20000) hx hb dX5_meet_91 (by decide) ?_
      refine lv_isub hx hb dX5_meet_94 ?_
      refine lv_iload hx hb dX5_meet_95 (lv_at hl 2 rfl) ?_
      refine k_iast (wf := (fun o => wd_X5 aC a_v (a_n 0) (a_d 0) o)) (o := s_v) hX hZ 2 3 rfl (fun _ => rfl) h dX5_meet_97 (fun o4 H locs hZ h => ?_)
      refine lv_goto (tgt := 127) hx hb dX5_meet_98 (by decide) ?_
      cases h
      exact k_vretW hX hr hZ dX5_meet_127
  · replace h := k_f cd h
    clear cd
    refine lv_aload_n hx hb dX5_meet_61 rfl (lv_at hl 0 rfl) ?_
    refine k_get hX hZ.1 0 5 rfl rfl iw_X5 3 rfl (wm_430) (v := .ref (a_v 2)) rfl dX5_meet_62 ?_
    refine lv_iload hx hb dX5_meet_65 (lv_at hl 2 rfl) ?_
    refine lv_sipush (v := 20000) hx hb dX5_meet_67 (by decide) ?_
    refine lv_isub hx hb dX5_meet_70 ?_
    refine lv_iload hx hb dX5_meet_71 (lv_at hl 1 rfl) ?_
    refine k_iast (wf := (fun o => wd_X5 aC a_v (a_n 0) (a_d 0) o)) (o := s_v) hX hZ 2 3 rfl (fun _ => rfl) h dX5_meet_73 (fun o5 H locs hZ h => ?_)
    refine lv_goto (tgt := 127) hx hb dX5_meet_74 (by decide) ?_
    cases h
    exact k_vretW hX hr hZ dX5_meet_127
set_option maxHeartbeats 4000000 in
set_option maxRecDepth 100000 in
theorem c_X5_meet {l : Launch} {D : va_G} {aC : Nat → ClassId} {a_v : Nat → Nat} {a_n : Nat → Nat} {a_d : Nat → Nat} (s_v : Ob_T) (x1 : Int32) (x2 : Int32) (x3 : Int32) (x4 : Int32) (x5 : Int32) {out : Ob_T} (h : f_X5_meet s_v x1 x2 x3 x4 x5 = some out) : M_W l yX5_meet wlX5_meet 1 40 D aC [.ref (a_v 0), .int x1, .int x2, .int x3, .int x4, .int x5] (wd_X5 aC a_v (a_n 0) (a_d 0) s_v) (none) (wd_X5 aC a_v (a_n 0) (a_d 0) out) := by
  refine k_entW (cc := cX5_meet) (ret := none) (maxL := 8) (own := RX5) (by decide) rfl rfl rfl ?_
  intro p e s m below meth c A ls hX hr hZ hl
  have hl : lv_has ls 8 [(0, .ref (a_v 0)), (1, .int x1), (2, .int x2), (3, .int x3), (4, .int x4), (5, .int x5)] := hl
  generalize ([.ref (a_v 0), .int x1, .int x2, .int x3, .int x4, .int x5] : List Value).toArray = args at hX ⊢
  obtain ⟨hx, hb, hml, hown, hts, hK, hA, hlk⟩ := id hX
  unfold f_X5_meet at h
  generalize s.heap = H at hZ ⊢
  generalize ([] : List Loc) = locs at hZ ⊢
  refine lv_aload_n hx hb dX5_meet_0 rfl (lv_at hl 0 rfl) ?_
  refine lv_iload_n hx hb dX5_meet_1 rfl (lv_at hl 1 rfl) ?_
  obtain ⟨u1, hu, h⟩ := k_bd h
  refine k_vRs (As := [.int x1]) (rest := []) (v := some (.int u1)) (st1 := [.int u1]) hX hl.1 hZ (c_X5_valueOf (a_v := a_v) (a_n := a_n) (a_d := a_d) s_v x1 hu) (gv_ wm_444 wm_446 wm_447 wm_432 wm_445) rfl hd_X5_valueOf ⟨rfl, rfl⟩ 5 0 rfl rfl rfl rfl rfl dX5_meet_2 rfl ⟨rfl, rfl⟩ (fun locs hZ => ?_)
  clear hu
  refine lv_istore (lv' := [(6, .int u1), (0, .ref (a_v 0)), (1, .int x1), (2, .int x2), (3, .int x3), (4, .int x4), (5, .int x5)]) hx hb dX5_meet_5 hl (by decide) rfl (fun ls hl => ?_)
  refine lv_aload_n hx hb dX5_meet_7 rfl (lv_at hl 1 rfl) ?_
  refine lv_iload_n hx hb dX5_meet_8 rfl (lv_at hl 3 rfl) ?_
  obtain ⟨u2, hu, h⟩ := k_bd h
  refine k_vRs (As := [.int x2]) (rest := []) (v := some (.int u2)) (st1 := [.int u2]) hX hl.1 hZ (c_X5_valueOf (a_v := a_v) (a_n := a_n) (a_d := a_d) s_v x2 hu) (gv_ wm_444 wm_446 wm_447 wm_432 wm_445) rfl hd_X5_valueOf ⟨rfl, rfl⟩ 5 0 rfl rfl rfl rfl rfl dX5_meet_9 rfl ⟨rfl, rfl⟩ (fun locs hZ => ?_)
  clear hu
  refine lv_istore (lv' := [(7, .int u2), (6, .int u1), (0, .ref (a_v 0)), (1, .int x1), (2, .int x2), (3, .int x3), (4, .int x4), (5, .int x5)]) hx hb dX5_meet_12 hl (by decide) rfl (fun ls hl => ?_)
  refine lv_iload hx hb dX5_meet_14 (lv_at hl 1 rfl) ?_
  refine lv_sipush (v := 20000) hx hb dX5_meet_16 (by decide) ?_
  refine lv_icmp_ge (tgt := 53) hx hb dX5_meet_19 (by decide) (fun cd => ?_) (fun cd => ?_)
  · replace h := k_t cd h
    clear cd
    exact t_X5_meet_J53 hX hr u1 u2 s_v h H locs ls hZ (lv_sub hl [2, 1, 0] rfl)
  · replace h := k_f cd h
    clear cd
    refine lv_iload hx hb dX5_meet_22 (lv_at hl 0 rfl) ?_
    refine lv_sipush (v := 20000) hx hb dX5_meet_24 (by decide) ?_
    refine lv_icmp_ge (tgt := 53) hx hb dX5_meet_27 (by decide) (fun cd => ?_) (fun cd => ?_)
    · replace h := k_t cd h
      clear cd
      exact t_X5_meet_J53 hX hr u1 u2 s_v h H locs ls hZ (lv_sub hl [2, 1, 0] rfl)
    · replace h := k_f cd h
      clear cd
      refine lv_iload hx hb dX5_meet_30 (lv_at hl 1 rfl) ?_
      refine lv_iload hx hb dX5_meet_32 (lv_at hl 0 rfl) ?_
      refine lv_icmp_eq (tgt := 127) hx hb dX5_meet_34 (by decide) (fun cd => ?_) (fun cd => ?_)
      · replace h := k_t cd h
        clear cd
        cases h
        exact k_vretW hX hr hZ dX5_meet_127
      · replace h := k_f cd h
        clear cd
        refine lv_aload_n hx hb dX5_meet_37 rfl (lv_at hl 2 rfl) ?_
        refine lv_iload_n hx hb dX5_meet_38 rfl (lv_at hl 5 rfl) ?_
        refine lv_iload hx hb dX5_meet_39 (lv_at hl 6 rfl) ?_
        refine lv_iload hx hb dX5_meet_41 (lv_at hl 7 rfl) ?_
        refine lv_iload hx hb dX5_meet_43 (lv_at hl 1 rfl) ?_
        refine lv_iload hx hb dX5_meet_45 (lv_at hl 0 rfl) ?_
        obtain ⟨u6, hu, h⟩ := k_bd h
        refine k_vWs (As := [.int x3, .int x4, .int x5, .int u1, .int u2]) (rest := []) (v := none) (st1 := []) hX hl.1 hZ (c_X5_failAt (a_v := a_v) (a_n := a_n) (a_d := a_d) s_v x3 x4 x5 u1 u2 hu) (gv_ wm_440 wm_442 wm_443 wm_432 wm_441) rfl hd_X5_failAt ⟨rfl, rfl⟩ 5 0 rfl rfl rfl rfl rfl dX5_meet_47 rfl ⟨rfl, rfl⟩ rfl (fun H locs hZ => ?_)
        clear hu
        refine lv_goto (tgt := 127) hx hb dX5_meet_50 (by decide) ?_
        cases h
        exact k_vretW hX hr hZ dX5_meet_127
