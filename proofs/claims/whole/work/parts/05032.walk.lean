def wlX9_as : List Cond := .code yX9_as cX9_as 5 (some .int) :: WL_
theorem hd_X9_as : yX9_as.cls = RX9 ∧ yX9_as.cls ≠ "java/lang/invoke/MethodHandle" ∧ yX9_as.cls ≠ "java/lang/invoke/VarHandle" ∧ (parseMethodDescriptor yX9_as.desc).map (fun d => d.parameters.length) = some 2 := by decide +kernel
theorem dX9_as_0 : decode cX9_as 0 = .ok (.aload_n 0, 1) := by decide +kernel
theorem dX9_as_1 : decode cX9_as 1 = .ok (.iload_n 1, 1) := by decide +kernel
theorem dX9_as_2 : decode cX9_as 2 = .ok (.invokevirtual 296, 3) := by decide +kernel
theorem dX9_as_5 : decode cX9_as 5 = .ok (.ifCond .ne 6, 3) := by decide +kernel
theorem dX9_as_8 : decode cX9_as 8 = .ok (.bipush (-2), 2) := by decide +kernel
theorem dX9_as_10 : decode cX9_as 10 = .ok (.ireturn, 1) := by decide +kernel
theorem dX9_as_11 : decode cX9_as 11 = .ok (.iload_n 2, 1) := by decide +kernel
theorem dX9_as_12 : decode cX9_as 12 = .ok (.i2l, 1) := by decide +kernel
theorem dX9_as_13 : decode cX9_as 13 = .ok (.lconst 0, 1) := by decide +kernel
theorem dX9_as_14 : decode cX9_as 14 = .ok (.ldc2_w 299, 3) := by decide +kernel
theorem dX9_as_17 : decode cX9_as 17 = .ok (.invokestatic 97, 3) := by decide +kernel
theorem dX9_as_20 : decode cX9_as 20 = .ok (.ifCond .ne 6, 3) := by decide +kernel
theorem dX9_as_23 : decode cX9_as 23 = .ok (.bipush (-3), 2) := by decide +kernel
theorem dX9_as_25 : decode cX9_as 25 = .ok (.ireturn, 1) := by decide +kernel
theorem dX9_as_26 : decode cX9_as 26 = .ok (.aload_n 0, 1) := by decide +kernel
theorem dX9_as_27 : decode cX9_as 27 = .ok (.getfield 7, 3) := by decide +kernel
theorem dX9_as_30 : decode cX9_as 30 = .ok (.bipush 15, 2) := by decide +kernel
theorem dX9_as_32 : decode cX9_as 32 = .ok (.iload_n 1, 1) := by decide +kernel
theorem dX9_as_33 : decode cX9_as 33 = .ok (.imul, 1) := by decide +kernel
theorem dX9_as_34 : decode cX9_as 34 = .ok (.iconst 0, 1) := by decide +kernel
theorem dX9_as_35 : decode cX9_as 35 = .ok (.iadd, 1) := by decide +kernel
theorem dX9_as_36 : decode cX9_as 36 = .ok (.iaload, 1) := by decide +kernel
theorem dX9_as_37 : decode cX9_as 37 = .ok (.istore_n 3, 1) := by decide +kernel
theorem dX9_as_38 : decode cX9_as 38 = .ok (.iload_n 2, 1) := by decide +kernel
theorem dX9_as_39 : decode cX9_as 39 = .ok (.ifCond .eq 38, 3) := by decide +kernel
theorem dX9_as_42 : decode cX9_as 42 = .ok (.iload_n 2, 1) := by decide +kernel
theorem dX9_as_43 : decode cX9_as 43 = .ok (.iload_n 3, 1) := by decide +kernel
theorem dX9_as_44 : decode cX9_as 44 = .ok (.if_icmp .eq 33, 3) := by decide +kernel
theorem dX9_as_47 : decode cX9_as 47 = .ok (.iload_n 2, 1) := by decide +kernel
theorem dX9_as_48 : decode cX9_as 48 = .ok (.iconst 1, 1) := by decide +kernel
theorem dX9_as_49 : decode cX9_as 49 = .ok (.if_icmp .ne 8, 3) := by decide +kernel
theorem dX9_as_52 : decode cX9_as 52 = .ok (.iload_n 3, 1) := by decide +kernel
theorem dX9_as_53 : decode cX9_as 53 = .ok (.iconst 2, 1) := by decide +kernel
theorem dX9_as_54 : decode cX9_as 54 = .ok (.if_icmp .eq 23, 3) := by decide +kernel
theorem dX9_as_57 : decode cX9_as 57 = .ok (.iload_n 2, 1) := by decide +kernel
theorem dX9_as_58 : decode cX9_as 58 = .ok (.iconst 3, 1) := by decide +kernel
theorem dX9_as_59 : decode cX9_as 59 = .ok (.if_icmp .ne 8, 3) := by decide +kernel
theorem dX9_as_62 : decode cX9_as 62 = .ok (.iload_n 3, 1) := by decide +kernel
theorem dX9_as_63 : decode cX9_as 63 = .ok (.iconst 3, 1) := by decide +kernel
theorem dX9_as_64 : decode cX9_as 64 = .ok (.if_icmp .gt 13, 3) := by decide +kernel
theorem dX9_as_67 : decode cX9_as 67 = .ok (.iload_n 2, 1) := by decide +kernel
theorem dX9_as_68 : decode cX9_as 68 = .ok (.iconst 4, 1) := by decide +kernel
theorem dX9_as_69 : decode cX9_as 69 = .ok (.if_icmp .ne 12, 3) := by decide +kernel
theorem dX9_as_72 : decode cX9_as 72 = .ok (.iload_n 3, 1) := by decide +kernel
theorem dX9_as_73 : decode cX9_as 73 = .ok (.iconst 5, 1) := by decide +kernel
theorem dX9_as_74 : decode cX9_as 74 = .ok (.if_icmp .ne 7, 3) := by decide +kernel
theorem dX9_as_77 : decode cX9_as 77 = .ok (.iconst 1, 1) := by decide +kernel
theorem dX9_as_78 : decode cX9_as 78 = .ok (.goto 4, 3) := by decide +kernel
theorem dX9_as_81 : decode cX9_as 81 = .ok (.iconst 0, 1) := by decide +kernel
theorem dX9_as_82 : decode cX9_as 82 = .ok (.istore 4, 2) := by decide +kernel
theorem dX9_as_84 : decode cX9_as 84 = .ok (.iload 4, 2) := by decide +kernel
theorem dX9_as_86 : decode cX9_as 86 = .ok (.ifCond .eq 19, 3) := by decide +kernel
theorem dX9_as_89 : decode cX9_as 89 = .ok (.iload_n 3, 1) := by decide +kernel
theorem dX9_as_90 : decode cX9_as 90 = .ok (.i2l, 1) := by decide +kernel
theorem dX9_as_91 : decode cX9_as 91 = .ok (.lconst 1, 1) := by decide +kernel
theorem dX9_as_92 : decode cX9_as 92 = .ok (.ldc2_w 299, 3) := by decide +kernel
theorem dX9_as_95 : decode cX9_as 95 = .ok (.invokestatic 97, 3) := by decide +kernel
theorem dX9_as_98 : decode cX9_as 98 = .ok (.ifCond .eq 7, 3) := by decide +kernel
theorem dX9_as_101 : decode cX9_as 101 = .ok (.iconst 1, 1) := by decide +kernel
theorem dX9_as_102 : decode cX9_as 102 = .ok (.goto 5, 3) := by decide +kernel
theorem dX9_as_105 : decode cX9_as 105 = .ok (.bipush (-4), 2) := by decide +kernel
theorem dX9_as_107 : decode cX9_as 107 = .ok (.ireturn, 1) := by decide +kernel
set_option maxHeartbeats 4000000 in
set_option maxRecDepth 100000 in
theorem t_X9_as_J82 {p : Program} {l : Launch} {e : Env} {s : State} {m : MethodId} {args : Array Value} {below : List Frame} {meth : Method} {c : Code} {D : va_G} {aC : Nat → ClassId} {A : Nat → Prop} {a_o : Nat → Nat} {out : Int32} {s_o : Ob_T} (hX : K_X p s m args meth c cX9_as 5 WL_ RX9 D aC A) (hr : meth.sig.returnType = (some .int)) (hZ : va_P D vwCl (wd_X9 aC a_o s_o) s.heap ∧ va_D (fun _ => True) (wd_X9 aC a_o s_o)) (x3 : Int32) (k0 : Int32) (h : f_X9_as_J82 x3 k0 s_o = some out) (locs : List Loc) (ls : Array Slot) (hF : ∀ q ∈ locs, False) (hl : lv_has ls 5 [(3, .int x3)]) : W p l e (R_m 2 46) s m args below meth c s.heap locs 0 0 (MQ below (Q_R (some (.int out))) args s 0 0 (fun _ => False)) (F0 m 82 ls [.int k0]) := by
  obtain ⟨hx, hb, hml, hown, hts, hK, hA, hlk⟩ := id hX
  unfold f_X9_as_J82 at h
  refine lv_istore (lv' := [(4, .int k0), (3, .int x3)]) hx hb dX9_as_82 hl (by decide) rfl (fun ls hl => ?_)
  refine lv_iload hx hb dX9_as_84 (lv_at hl 0 rfl) ?_
  refine lv_if_eq (tgt := 105) hx hb dX9_as_86 (by decide) (fun cd => ?_) (fun cd => ?_)
  · replace h := k_t cd h
    clear cd
    refine lv_bipush (v := -4) hx hb dX9_as_105 (by decide) ?_
    cases h
    exact k_iretR hX hr hF dX9_as_107
  · replace h := k_f cd h
    clear cd
    refine lv_iload_n hx hb dX9_as_89 rfl (lv_at hl 1 rfl) ?_
    refine lv_i2l (v := x3.toInt64) hx hb dX9_as_90 rfl ?_
    refine lv_lconst (v := 1) hx hb dX9_as_91 (by decide) ?_
    refine lv_ldc2 (v := 5) hx hb hown (hts _ wm_206) dX9_as_92 ?_
    obtain ⟨u4, hu, h⟩ := k_bd h
    refine k_sRR (As := [.long x3.toInt64, .long (1 : Int64), .long (5 : Int64)]) (rest := []) (wc := []) (v := some (.int u4)) (st1 := [.int u4]) hX hl.1 hZ hF (c_X9_in  x3.toInt64 (1 : Int64) (5 : Int64) hu) (gs_ wm_10 wm_13 wm_11 wm_12) rfl hd_X9_in ⟨rfl, rfl⟩ [] rfl rfl rfl rfl rfl dX9_as_95 rfl ⟨rfl, rfl⟩ (fun locs hF => ?_)
    clear hu
    refine lv_if_eq (tgt := 105) hx hb dX9_as_98 (by decide) (fun cd => ?_) (fun cd => ?_)
    · replace h := k_t cd h
      clear cd
      refine lv_bipush (v := -4) hx hb dX9_as_105 (by decide) ?_
      cases h
      exact k_iretR hX hr hF dX9_as_107
    · replace h := k_f cd h
      clear cd
      refine lv_iconst (v := 1) hx hb dX9_as_101 (by decide) ?_
      refine lv_goto (tgt := 107) hx hb dX9_as_102 (by decide) ?_
      cases h
      exact k_iretR hX hr hF dX9_as_107
set_option maxHeartbeats 4000000 in
set_option maxRecDepth 100000 in
theorem t_X9_as_J77 {p : Program} {l : Launch} {e : Env} {s : State} {m : MethodId} {args : Array Value} {below : List Frame} {meth : Method} {c : Code} {D : va_G} {aC : Nat → ClassId} {A : Nat → Prop} {a_o : Nat → Nat} {out : Int32} {s_o : Ob_T} (hX : K_X p s m args meth c cX9_as 5 WL_ RX9 D aC A) (hr : meth.sig.returnType = (some .int)) (hZ : va_P D vwCl (wd_X9 aC a_o s_o) s.heap ∧ va_D (fun _ => True) (wd_X9 aC a_o s_o)) (x3 : Int32) (h : f_X9_as_J77 x3 s_o = some out) (locs : List Loc) (ls : Array Slot) (hF : ∀ q ∈ locs, False) (hl : lv_has ls 5 [(3, .int x3)]) : W p l e (R_m 2 46) s m args below meth c s.heap locs 0 0 (MQ below (Q_R (some (.int out))) args s 0 0 (fun _ => False)) (F0 m 77 ls []) := by
  obtain ⟨hx, hb, hml, hown, hts, hK, hA, hlk⟩ := id hX
  unfold f_X9_as_J77 at h
  refine lv_iconst (v := 1) hx hb dX9_as_77 (by decide) ?_
  refine lv_goto (tgt := 82) hx hb dX9_as_78 (by decide) ?_
  exact t_X9_as_J82 hX hr hZ x3 (1 : Int32) h locs ls hF (lv_sub hl [0] rfl)
set_option maxHeartbeats 4000000 in
set_option maxRecDepth 100000 in
theorem t_X9_as_J81 {p : Program} {l : Launch} {e : Env} {s : State} {m : MethodId} {args : Array Value} {below : List Frame} {meth : Method} {c : Code} {D : va_G} {aC : Nat → ClassId} {A : Nat → Prop} {a_o : Nat → Nat} {out : Int32} {s_o : Ob_T} (hX : K_X p s m args meth c cX9_as 5 WL_ RX9 D aC A) (hr : meth.sig.returnType = (some .int)) (hZ : va_P D vwCl (wd_X9 aC a_o s_o) s.heap ∧ va_D (fun _ => True) (wd_X9 aC a_o s_o)) (x3 : Int32) (h : f_X9_as_J81 x3 s_o = some out) (locs : List Loc) (ls : Array Slot) (hF : ∀ q ∈ locs, False) (hl : lv_has ls 5 [(3, .int x3)]) : W p l e (R_m 2 46) s m args below meth c s.heap locs 0 0 (MQ below (Q_R (some (.int out))) args s 0 0 (fun _ => False)) (F0 m 81 ls []) := by
  obtain ⟨hx, hb, hml, hown, hts, hK, hA, hlk⟩ := id hX
  unfold f_X9_as_J81 at h
  refine lv_iconst (v := 0) hx hb dX9_as_81 (by decide) ?_
  exact t_X9_as_J82 hX hr hZ x3 (0 : Int32) h locs ls hF (lv_sub hl [0] rfl)
set_option maxHeartbeats 4000000 in
set_option maxRecDepth 100000 in
theorem t_X9_as_J67 {p : Program} {l : Launch} {e : Env} {s : State} {m : MethodId} {args : Array Value} {below : List Frame} {meth : Method} {c : Code} {D : va_G} {aC : Nat → ClassId} {A : Nat → Prop} {a_o : Nat → Nat} {out : Int32} {s_o : Ob_T} (hX : K_X p s m args meth c cX9_as 5 WL_ RX9 D aC A) (hr : meth.sig.returnType = (some .int)) (hZ : va_P D vwCl (wd_X9 aC a_o s_o) s.heap ∧ va_D (fun _ => True) (wd_X9 aC a_o s_o)) (x2 : Int32) (x3 : Int32) (h : f_X9_as_J67 x2 x3 s_o = some out) (locs : List Loc) (ls : Array Slot) (hF : ∀ q ∈ locs, False) (hl : lv_has ls 5 [(2, .int x2), (3, .int x3)]) : W p l e (R_m 2 46) s m args below meth c s.heap locs 0 0 (MQ below (Q_R (some (.int out))) args s 0 0 (fun _ => False)) (F0 m 67 ls []) := by
  obtain ⟨hx, hb, hml, hown, hts, hK, hA, hlk⟩ := id hX
  unfold f_X9_as_J67 at h
  refine lv_iload_n hx hb dX9_as_67 rfl (lv_at hl 0 rfl) ?_
  refine lv_iconst (v := 4) hx hb dX9_as_68 (by decide) ?_
  refine lv_icmp_ne (tgt := 81) hx hb dX9_as_69 (by decide) (fun cd => ?_) (fun cd => ?_)
  · replace h := k_f cd h
    clear cd
    exact t_X9_as_J81 hX hr hZ x3 h locs ls hF (lv_sub hl [1] rfl)
  · replace h := k_t cd h
    clear cd
    refine lv_iload_n hx hb dX9_as_72 rfl (lv_at hl 1 rfl) ?_
    refine lv_iconst (v := 5) hx hb dX9_as_73 (by decide) ?_
    refine lv_icmp_ne (tgt := 81) hx hb dX9_as_74 (by decide) (fun cd => ?_) (fun cd => ?_)
    · replace h := k_f cd h
      clear cd
      exact t_X9_as_J81 hX hr hZ x3 h locs ls hF (lv_sub hl [1] rfl)
    · replace h := k_t cd h
      clear cd
      exact t_X9_as_J77 hX hr hZ x3 h locs ls hF (lv_sub hl [1] rfl)
set_option maxHeartbeats 4000000 in
set_option maxRecDepth 100000 in
theorem t_X9_as_J57 {p : Program} {l : Launch} {e : Env} {s : State} {m : MethodId} {args : Array Value} {below : List Frame} {meth : Method} {c : Code} {D : va_G} {aC : Nat → ClassId} {A : Nat → Prop} {a_o : Nat → Nat} {out : Int32} {s_o : Ob_T} (hX : K_X p s m args meth c cX9_as 5 WL_ RX9 D aC A) (hr : meth.sig.returnType = (some .int)) (hZ : va_P D vwCl (wd_X9 aC a_o s_o) s.heap ∧ va_D (fun _ => True) (wd_X9 aC a_o s_o)) (x2 : Int32) (x3 : Int32) (h : f_X9_as_J57 x2 x3 s_o = some out) (locs : List Loc) (ls : Array Slot) (hF : ∀ q ∈ locs, False) (hl : lv_has ls 5 [(2, .int x2), (3, .int x3)]) : W p l e (R_m 2 46) s m args below meth c s.heap locs 0 0 (MQ below (Q_R (some (.int out))) args s 0 0 (fun _ => False)) (F0 m 57 ls []) := by
  obtain ⟨hx, hb, hml, hown, hts, hK, hA, hlk⟩ := id hX
  unfold f_X9_as_J57 at h
  refine lv_iload_n hx hb dX9_as_57 rfl (lv_at hl 0 rfl) ?_
  refine lv_iconst (v := 3) hx hb dX9_as_58 (by decide) ?_
  refine lv_icmp_ne (tgt := 67) hx hb dX9_as_59 (by decide) (fun cd => ?_) (fun cd => ?_)
  · replace h := k_f cd h
    clear cd
    exact t_X9_as_J67 hX hr hZ x2 x3 h locs ls hF (lv_sub hl [0, 1] rfl)
  · replace h := k_t cd h
    clear cd
    refine lv_iload_n hx hb dX9_as_62 rfl (lv_at hl 1 rfl) ?_
    refine lv_iconst (v := 3) hx hb dX9_as_63 (by decide) ?_
    refine lv_icmp_gt (tgt := 77) hx hb dX9_as_64 (by decide) (fun cd => ?_) (fun cd => ?_)
    · replace h := k_t cd h
      clear cd
      exact t_X9_as_J77 hX hr hZ x3 h locs ls hF (lv_sub hl [1] rfl)
    · replace h := k_f cd h
      clear cd
      exact t_X9_as_J67 hX hr hZ x2 x3 h locs ls hF (lv_sub hl [0, 1] rfl)
set_option maxHeartbeats 4000000 in
set_option maxRecDepth 100000 in
theorem c_X9_as {l : Launch} {D : va_G} {aC : Nat → ClassId} {a_o : Nat → Nat} (s_o : Ob_T) (x1 : Int32) (x2 : Int32) {out : Int32} (h : f_X9_as s_o x1 x2 = some out) : M_R l yX9_as wlX9_as 2 46 D aC [.ref (a_o 0), .int x1, .int x2] (wd_X9 aC a_o s_o) (some (.int out)) := by
  refine k_entR (cc := cX9_as) (ret := (some .int)) (maxL := 5) (own := RX9) (by decide) rfl rfl rfl ?_
  intro p e s m below meth c A ls hX hr hZ hl
  have hl : lv_has ls 5 [(0, .ref (a_o 0)), (1, .int x1), (2, .int x2)] := hl
  generalize ([.ref (a_o 0), .int x1, .int x2] : List Value).toArray = args at hX ⊢
  obtain ⟨hx, hb, hml, hown, hts, hK, hA, hlk⟩ := id hX
  unfold f_X9_as at h
  have hF : ∀ q ∈ ([] : List Loc), False := fun _ h => nomatch h
  generalize ([] : List Loc) = locs at hF ⊢
  refine lv_aload_n hx hb dX9_as_0 rfl (lv_at hl 0 rfl) ?_
  refine lv_iload_n hx hb dX9_as_1 rfl (lv_at hl 1 rfl) ?_
  obtain ⟨u1, hu, h⟩ := k_bd h
  refine k_vRRs (As := [.int x1]) (rest := []) (v := some (.int u1)) (st1 := [.int u1]) hX hl.1 hZ hF (c_X9_isNode (a_o := a_o) s_o x1 hu) (gv_ wm_207 wm_209 wm_210 wm_11 wm_208) rfl hd_X9_isNode ⟨rfl, rfl⟩ 9 0 rfl rfl rfl rfl rfl dX9_as_2 rfl ⟨rfl, rfl⟩ (fun locs hF => ?_)
  clear hu
  refine lv_if_ne (tgt := 11) hx hb dX9_as_5 (by decide) (fun cd => ?_) (fun cd => ?_)
  · replace h := k_f cd h
    clear cd
    refine lv_iload_n hx hb dX9_as_11 rfl (lv_at hl 2 rfl) ?_
    refine lv_i2l (v := x2.toInt64) hx hb dX9_as_12 rfl ?_
    refine lv_lconst (v := 0) hx hb dX9_as_13 (by decide) ?_
    refine lv_ldc2 (v := 5) hx hb hown (hts _ wm_206) dX9_as_14 ?_
    obtain ⟨u2, hu, h⟩ := k_bd h
    refine k_sRR (As := [.long x2.toInt64, .long (0 : Int64), .long (5 : Int64)]) (rest := []) (wc := []) (v := some (.int u2)) (st1 := [.int u2]) hX hl.1 hZ hF (c_X9_in  x2.toInt64 (0 : Int64) (5 : Int64) hu) (gs_ wm_10 wm_13 wm_11 wm_12) rfl hd_X9_in ⟨rfl, rfl⟩ [] rfl rfl rfl rfl rfl dX9_as_17 rfl ⟨rfl, rfl⟩ (fun locs hF => ?_)
    clear hu
    refine lv_if_ne (tgt := 26) hx hb dX9_as_20 (by decide) (fun cd => ?_) (fun cd => ?_)
    · replace h := k_f cd h
      clear cd
      refine lv_aload_n hx hb dX9_as_26 rfl (lv_at hl 0 rfl) ?_
      refine k_get hX hZ.1 0 9 rfl rfl iw_X9 0 rfl (wm_107) (v := .ref (a_o 1)) rfl dX9_as_27 ?_
      refine lv_bipush (v := 15) hx hb dX9_as_30 (by decide) ?_
      refine lv_iload_n hx hb dX9_as_32 rfl (lv_at hl 1 rfl) ?_
      refine lv_imul hx hb dX9_as_33 ?_
      refine lv_iconst (v := 0) hx hb dX9_as_34 (by decide) ?_
      refine lv_iadd hx hb dX9_as_35 ?_
      refine k_iald hX hZ.1 1 rfl h dX9_as_36 (fun v3 h => ?_)
      refine lv_istore_n (lv' := [(3, .int v3), (0, .ref (a_o 0)), (1, .int x1), (2, .int x2)]) hx hb dX9_as_37 rfl hl (by decide) rfl (fun ls hl => ?_)
      refine lv_iload_n hx hb dX9_as_38 rfl (lv_at hl 3 rfl) ?_
      refine lv_if_eq (tgt := 77) hx hb dX9_as_39 (by decide) (fun cd => ?_) (fun cd => ?_)
      · replace h := k_t cd h
        clear cd
        exact t_X9_as_J77 hX hr hZ v3 h locs ls hF (lv_sub hl [0] rfl)
      · replace h := k_f cd h
        clear cd
        refine lv_iload_n hx hb dX9_as_42 rfl (lv_at hl 3 rfl) ?_
        refine lv_iload_n hx hb dX9_as_43 rfl (lv_at hl 0 rfl) ?_
        refine lv_icmp_eq (tgt := 77) hx hb dX9_as_44 (by decide) (fun cd => ?_) (fun cd => ?_)
        · replace h := k_t cd h
          clear cd
          exact t_X9_as_J77 hX hr hZ v3 h locs ls hF (lv_sub hl [0] rfl)
        · replace h := k_f cd h
          clear cd
          refine lv_iload_n hx hb dX9_as_47 rfl (lv_at hl 3 rfl) ?_
          refine lv_iconst (v := 1) hx hb dX9_as_48 (by decide) ?_
          refine lv_icmp_ne (tgt := 57) hx hb dX9_as_49 (by decide) (fun cd => ?_) (fun cd => ?_)
          · replace h := k_f cd h
            clear cd
            exact t_X9_as_J57 hX hr hZ x2 v3 h locs ls hF (lv_sub hl [3, 0] rfl)
          · replace h := k_t cd h
            clear cd
            refine lv_iload_n hx hb dX9_as_52 rfl (lv_at hl 0 rfl) ?_
            refine lv_iconst (v := 2) hx hb dX9_as_53 (by decide) ?_
            refine lv_icmp_eq (tgt := 77) hx hb dX9_as_54 (by decide) (fun cd => ?_) (fun cd => ?_)
            · replace h := k_t cd h
              clear cd
              exact t_X9_as_J77 hX hr hZ v3 h locs ls hF (lv_sub hl [0] rfl)
            · replace h := k_f cd h
              clear cd
              exact t_X9_as_J57 hX hr hZ x2 v3 h locs ls hF (lv_sub hl [3, 0] rfl)
    · replace h := k_t cd h
      clear cd
      refine lv_bipush (v := -3) hx hb dX9_as_23 (by decide) ?_
      cases h
      exact k_iretR hX hr hF dX9_as_25
  · replace h := k_t cd h
    clear cd
    refine lv_bipush (v := -2) hx hb dX9_as_8 (by decide) ?_
    cases h
    exact k_iretR hX hr hF dX9_as_10
