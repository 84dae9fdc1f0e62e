def wlX9_readsArguments : List Cond := .code yX9_readsArguments cX9_readsArguments 4 (some .boolean) :: WL_
theorem hd_X9_readsArguments : yX9_readsArguments.cls = RX9 ∧ yX9_readsArguments.cls ≠ "java/lang/invoke/MethodHandle" ∧ yX9_readsArguments.cls ≠ "java/lang/invoke/VarHandle" ∧ (parseMethodDescriptor yX9_readsArguments.desc).map (fun d => d.parameters.length) = some 2 := by decide +kernel
theorem dX9_readsArguments_0 : decode cX9_readsArguments 0 = .ok (.iload_n 2, 1) := by decide +kernel
theorem dX9_readsArguments_1 : decode cX9_readsArguments 1 = .ok (.ifCond .eq 12, 3) := by decide +kernel
theorem dX9_readsArguments_4 : decode cX9_readsArguments 4 = .ok (.aload_n 0, 1) := by decide +kernel
theorem dX9_readsArguments_5 : decode cX9_readsArguments 5 = .ok (.iload_n 1, 1) := by decide +kernel
theorem dX9_readsArguments_6 : decode cX9_readsArguments 6 = .ok (.iconst 1, 1) := by decide +kernel
theorem dX9_readsArguments_7 : decode cX9_readsArguments 7 = .ok (.invokevirtual 151, 3) := by decide +kernel
theorem dX9_readsArguments_10 : decode cX9_readsArguments 10 = .ok (.ifCond .eq 7, 3) := by decide +kernel
theorem dX9_readsArguments_13 : decode cX9_readsArguments 13 = .ok (.iconst 1, 1) := by decide +kernel
theorem dX9_readsArguments_14 : decode cX9_readsArguments 14 = .ok (.goto 4, 3) := by decide +kernel
theorem dX9_readsArguments_17 : decode cX9_readsArguments 17 = .ok (.iconst 0, 1) := by decide +kernel
theorem dX9_readsArguments_18 : decode cX9_readsArguments 18 = .ok (.istore_n 3, 1) := by decide +kernel
theorem dX9_readsArguments_19 : decode cX9_readsArguments 19 = .ok (.iload_n 3, 1) := by decide +kernel
theorem dX9_readsArguments_20 : decode cX9_readsArguments 20 = .ok (.ifCond .eq 26, 3) := by decide +kernel
theorem dX9_readsArguments_23 : decode cX9_readsArguments 23 = .ok (.iload_n 2, 1) := by decide +kernel
theorem dX9_readsArguments_24 : decode cX9_readsArguments 24 = .ok (.iconst 1, 1) := by decide +kernel
theorem dX9_readsArguments_25 : decode cX9_readsArguments 25 = .ok (.if_icmp .eq 8, 3) := by decide +kernel
theorem dX9_readsArguments_28 : decode cX9_readsArguments 28 = .ok (.iload_n 2, 1) := by decide +kernel
theorem dX9_readsArguments_29 : decode cX9_readsArguments 29 = .ok (.iconst 2, 1) := by decide +kernel
theorem dX9_readsArguments_30 : decode cX9_readsArguments 30 = .ok (.if_icmp .ne 12, 3) := by decide +kernel
theorem dX9_readsArguments_33 : decode cX9_readsArguments 33 = .ok (.aload_n 0, 1) := by decide +kernel
theorem dX9_readsArguments_34 : decode cX9_readsArguments 34 = .ok (.iload_n 1, 1) := by decide +kernel
theorem dX9_readsArguments_35 : decode cX9_readsArguments 35 = .ok (.iconst 2, 1) := by decide +kernel
theorem dX9_readsArguments_36 : decode cX9_readsArguments 36 = .ok (.invokevirtual 151, 3) := by decide +kernel
theorem dX9_readsArguments_39 : decode cX9_readsArguments 39 = .ok (.ifCond .eq 7, 3) := by decide +kernel
theorem dX9_readsArguments_42 : decode cX9_readsArguments 42 = .ok (.iconst 1, 1) := by decide +kernel
theorem dX9_readsArguments_43 : decode cX9_readsArguments 43 = .ok (.goto 4, 3) := by decide +kernel
theorem dX9_readsArguments_46 : decode cX9_readsArguments 46 = .ok (.iconst 0, 1) := by decide +kernel
theorem dX9_readsArguments_47 : decode cX9_readsArguments 47 = .ok (.istore_n 3, 1) := by decide +kernel
theorem dX9_readsArguments_48 : decode cX9_readsArguments 48 = .ok (.iload_n 3, 1) := by decide +kernel
theorem dX9_readsArguments_49 : decode cX9_readsArguments 49 = .ok (.ifCond .eq 36, 3) := by decide +kernel
theorem dX9_readsArguments_52 : decode cX9_readsArguments 52 = .ok (.iload_n 2, 1) := by decide +kernel
theorem dX9_readsArguments_53 : decode cX9_readsArguments 53 = .ok (.ifCond .eq 9, 3) := by decide +kernel
theorem dX9_readsArguments_56 : decode cX9_readsArguments 56 = .ok (.iload_n 2, 1) := by decide +kernel
theorem dX9_readsArguments_57 : decode cX9_readsArguments 57 = .ok (.bipush 6, 2) := by decide +kernel
theorem dX9_readsArguments_59 : decode cX9_readsArguments 59 = .ok (.if_icmp .ne 14, 3) := by decide +kernel
theorem dX9_readsArguments_62 : decode cX9_readsArguments 62 = .ok (.aload_n 0, 1) := by decide +kernel
theorem dX9_readsArguments_63 : decode cX9_readsArguments 63 = .ok (.iload_n 1, 1) := by decide +kernel
theorem dX9_readsArguments_64 : decode cX9_readsArguments 64 = .ok (.invokevirtual 154, 3) := by decide +kernel
theorem dX9_readsArguments_67 : decode cX9_readsArguments 67 = .ok (.ifCond .eq 18, 3) := by decide +kernel
theorem dX9_readsArguments_70 : decode cX9_readsArguments 70 = .ok (.goto 11, 3) := by decide +kernel
theorem dX9_readsArguments_73 : decode cX9_readsArguments 73 = .ok (.aload_n 0, 1) := by decide +kernel
theorem dX9_readsArguments_74 : decode cX9_readsArguments 74 = .ok (.iload_n 1, 1) := by decide +kernel
theorem dX9_readsArguments_75 : decode cX9_readsArguments 75 = .ok (.invokevirtual 157, 3) := by decide +kernel
theorem dX9_readsArguments_78 : decode cX9_readsArguments 78 = .ok (.ifCond .eq 7, 3) := by decide +kernel
theorem dX9_readsArguments_81 : decode cX9_readsArguments 81 = .ok (.iconst 1, 1) := by decide +kernel
theorem dX9_readsArguments_82 : decode cX9_readsArguments 82 = .ok (.goto 4, 3) := by decide +kernel
theorem dX9_readsArguments_85 : decode cX9_readsArguments 85 = .ok (.iconst 0, 1) := by decide +kernel
theorem dX9_readsArguments_86 : decode cX9_readsArguments 86 = .ok (.ireturn, 1) := by decide +kernel
set_option maxHeartbeats 4000000 in
set_option maxRecDepth 100000 in
theorem t_X9_readsArguments_J62 {p : Program} {l : Launch} {e : Env} {s : State} {m : MethodId} {args : Array Value} {below : List Frame} {meth : Method} {c : Code} {D : va_G} {aC : Nat → ClassId} {A : Nat → Prop} {a_o : Nat → Nat} {out : Int32 × Ob_T} (hX : K_X p s m args meth c cX9_readsArguments 4 WL_ RX9 D aC A) (hr : meth.sig.returnType = (some .boolean)) (x1 : Int32) (s_o : Ob_T) (h : f_X9_readsArguments_J62 x1 s_o = some out) (H : Heap) (locs : List Loc) (ls : Array Slot) (hZ : K_S D A s (wd_X9 aC a_o s_o) H locs) (hl : lv_has ls 4 [(0, .ref (a_o 0)), (1, .int x1)]) : W p l e (R_m 5 112) s m args below meth c H locs 0 0 (MQ below (Q_W (some (.int out.1)) D A (wd_X9 aC a_o out.2)) args s 0 0 A) (F0 m 62 ls []) := by
  obtain ⟨hx, hb, hml, hown, hts, hK, hA, hlk⟩ := id hX
  unfold f_X9_readsArguments_J62 at h
  refine lv_aload_n hx hb dX9_readsArguments_62 rfl (lv_at hl 0 rfl) ?_
  refine lv_iload_n hx hb dX9_readsArguments_63 rfl (lv_at hl 1 rfl) ?_
  obtain ⟨u1, hu, h⟩ := k_bd h
  refine k_vWs (As := [.int x1]) (rest := []) (v := some (.int u1.1)) (st1 := [.int u1.1]) hX hl.1 hZ (c_X9_readsExtents (a_o := a_o) s_o x1 hu) (gv_ wm_54 wm_56 wm_57 wm_11 wm_55) rfl hd_X9_readsExtents ⟨rfl, rfl⟩ 9 0 rfl rfl rfl rfl rfl dX9_readsArguments_64 rfl ⟨rfl, rfl⟩ rfl (fun H locs hZ => ?_)
  clear hu
  refine lv_if_eq (tgt := 85) hx hb dX9_readsArguments_67 (by decide) (fun cd => ?_) (fun cd => ?_)
  · replace h := k_t cd h
    clear cd
    refine lv_iconst (v := 0) hx hb dX9_readsArguments_85 (by decide) ?_
    cases h
    exact k_zretW (v := (0 : Int32)) hX hr rfl hZ dX9_readsArguments_86
  · replace h := k_f cd h
    clear cd
    refine lv_goto (tgt := 81) hx hb dX9_readsArguments_70 (by decide) ?_
    refine lv_iconst (v := 1) hx hb dX9_readsArguments_81 (by decide) ?_
    refine lv_goto (tgt := 86) hx hb dX9_readsArguments_82 (by decide) ?_
    cases h
    exact k_zretW (v := (1 : Int32)) hX hr rfl hZ dX9_readsArguments_86
set_option maxHeartbeats 4000000 in
set_option maxRecDepth 100000 in
theorem t_X9_readsArguments_J47 {p : Program} {l : Launch} {e : Env} {s : State} {m : MethodId} {args : Array Value} {below : List Frame} {meth : Method} {c : Code} {D : va_G} {aC : Nat → ClassId} {A : Nat → Prop} {a_o : Nat → Nat} {out : Int32 × Ob_T} (hX : K_X p s m args meth c cX9_readsArguments 4 WL_ RX9 D aC A) (hr : meth.sig.returnType = (some .boolean)) (x1 : Int32) (x2 : Int32) (k0 : Int32) (s_o : Ob_T) (h : f_X9_readsArguments_J47 x1 x2 k0 s_o = some out) (H : Heap) (locs : List Loc) (ls : Array Slot) (hZ : K_S D A s (wd_X9 aC a_o s_o) H locs) (hl : lv_has ls 4 [(0, .ref (a_o 0)), (1, .int x1), (2, .int x2)]) : W p l e (R_m 5 112) s m args below meth c H locs 0 0 (MQ below (Q_W (some (.int out.1)) D A (wd_X9 aC a_o out.2)) args s 0 0 A) (F0 m 47 ls [.int k0]) := by
  obtain ⟨hx, hb, hml, hown, hts, hK, hA, hlk⟩ := id hX
  unfold f_X9_readsArguments_J47 at h
  refine lv_istore_n (lv' := [(3, .int k0), (0, .ref (a_o 0)), (1, .int x1), (2, .int x2)]) hx hb dX9_readsArguments_47 rfl hl (by decide) rfl (fun ls hl => ?_)
  refine lv_iload_n hx hb dX9_readsArguments_48 rfl (lv_at hl 0 rfl) ?_
  refine lv_if_eq (tgt := 85) hx hb dX9_readsArguments_49 (by decide) (fun cd => ?_) (fun cd => ?_)
  · replace h := k_t cd h
    clear cd
    refine lv_iconst (v := 0) hx hb dX9_readsArguments_85 (by decide) ?_
    cases h
    exact k_zretW (v := (0 : Int32)) hX hr rfl hZ dX9_readsArguments_86
  · replace h := k_f cd h
    clear cd
    refine lv_iload_n hx hb dX9_readsArguments_52 rfl (lv_at hl 3 rfl) ?_
    refine lv_if_eq (tgt := 62) hx hb dX9_readsArguments_53 (by decide) (fun cd => ?_) (fun cd => ?_)
    · replace h := k_t cd h
      clear cd
      exact t_X9_readsArguments_J62 hX hr x1 s_o h H locs ls hZ (lv_sub hl [1, 2] rfl)
    · replace h := k_f cd h
      clear cd
      refine lv_iload_n hx hb dX9_readsArguments_56 rfl (lv_at hl 3 rfl) ?_
      refine lv_bipush (v := 6) hx hb dX9_readsArguments_57 (by decide) ?_
      refine lv_icmp_ne (tgt := 73) hx hb dX9_readsArguments_59 (by decide) (fun cd => ?_) (fun cd => ?_)
      · replace h := k_f cd h
        clear cd
        refine lv_aload_n hx hb dX9_readsArguments_73 rfl (lv_at hl 1 rfl) ?_
        refine lv_iload_n hx hb dX9_readsArguments_74 rfl (lv_at hl 2 rfl) ?_
        obtain ⟨u2, hu, h⟩ := k_bd h
        refine k_vWs (As := [.int x1]) (rest := []) (v := some (.int u2.1)) (st1 := [.int u2.1]) hX hl.1 hZ (c_X9_readsRank (a_o := a_o) s_o x1 hu) (gv_ wm_58 wm_60 wm_61 wm_11 wm_59) rfl hd_X9_readsRank ⟨rfl, rfl⟩ 9 0 rfl rfl rfl rfl rfl dX9_readsArguments_75 rfl ⟨rfl, rfl⟩ rfl (fun H locs hZ => ?_)
        clear hu
        refine lv_if_eq (tgt := 85) hx hb dX9_readsArguments_78 (by decide) (fun cd => ?_) (fun cd => ?_)
        · replace h := k_t cd h
          clear cd
          refine lv_iconst (v := 0) hx hb dX9_readsArguments_85 (by decide) ?_
          cases h
          exact k_zretW (v := (0 : Int32)) hX hr rfl hZ dX9_readsArguments_86
        · replace h := k_f cd h
          clear cd
          refine lv_iconst (v := 1) hx hb dX9_readsArguments_81 (by decide) ?_
          refine lv_goto (tgt := 86) hx hb dX9_readsArguments_82 (by decide) ?_
          cases h
          exact k_zretW (v := (1 : Int32)) hX hr rfl hZ dX9_readsArguments_86
      · replace h := k_t cd h
        clear cd
        exact t_X9_readsArguments_J62 hX hr x1 s_o h H locs ls hZ (lv_sub hl [1, 2] rfl)
set_option maxHeartbeats 4000000 in
set_option maxRecDepth 100000 in
theorem t_X9_readsArguments_J46 {p : Program} {l : Launch} {e : Env} {s : State} {m : MethodId} {args : Array Value} {below : List Frame} {meth : Method} {c : Code} {D : va_G} {aC : Nat → ClassId} {A : Nat → Prop} {a_o : Nat → Nat} {out : Int32 × Ob_T} (hX : K_X p s m args meth c cX9_readsArguments 4 WL_ RX9 D aC A) (hr : meth.sig.returnType = (some .boolean)) (x1 : Int32) (x2 : Int32) (s_o : Ob_T) (h : f_X9_readsArguments_J46 x1 x2 s_o = some out) (H : Heap) (locs : List Loc) (ls : Array Slot) (hZ : K_S D A s (wd_X9 aC a_o s_o) H locs) (hl : lv_has ls 4 [(0, .ref (a_o 0)), (1, .int x1), (2, .int x2)]) : W p l e (R_m 5 112) s m args below meth c H locs 0 0 (MQ below (Q_W (some (.int out.1)) D A (wd_X9 aC a_o out.2)) args s 0 0 A) (F0 m 46 ls []) := by
  obtain ⟨hx, hb, hml, hown, hts, hK, hA, hlk⟩ := id hX
  unfold f_X9_readsArguments_J46 at h
  refine lv_iconst (v := 0) hx hb dX9_readsArguments_46 (by decide) ?_
  exact t_X9_readsArguments_J47 hX hr x1 x2 (0 : Int32) s_o h H locs ls hZ (lv_sub hl [0, 1, 2] rfl)
set_option maxHeartbeats 4000000 in
set_option maxRecDepth 100000 in
theorem t_X9_readsArguments_J42 {p : Program} {l : Launch} {e : Env} {s : State} {m : MethodId} {args : Array Value} {below : List Frame} {meth : Method} {c : Code} {D : va_G} {aC : Nat → ClassId} {A : Nat → Prop} {a_o : Nat → Nat} {out : Int32 × Ob_T} (hX : K_X p s m args meth c cX9_readsArguments 4 WL_ RX9 D aC A) (hr : meth.sig.returnType = (some .boolean)) (x1 : Int32) (x2 : Int32) (s_o : Ob_T) (h : f_X9_readsArguments_J42 x1 x2 s_o = some out) (H : Heap) (locs : List Loc) (ls : Array Slot) (hZ : K_S D A s (wd_X9 aC a_o s_o) H locs) (hl : lv_has ls 4 [(0, .ref (a_o 0)), (1, .int x1), (2, .int x2)]) : W p l e (R_m 5 112) s m args below meth c H locs 0 0 (MQ below (Q_W (some (.int out.1)) D A (wd_X9 aC a_o out.2)) args s 0 0 A) (F0 m 42 ls []) := by
  obtain ⟨hx, hb, hml, hown, hts, hK, hA, hlk⟩ := id hX
  unfold f_X9_readsArguments_J42 at h
  refine lv_iconst (v := 1) hx hb dX9_readsArguments_42 (by decide) ?_
  refine lv_goto (tgt := 47) hx hb dX9_readsArguments_43 (by decide) ?_
  exact t_X9_readsArguments_J47 hX hr x1 x2 (1 : Int32) s_o h H locs ls hZ (lv_sub hl [0, 1, 2] rfl)
set_option maxHeartbeats 4000000 in
set_option maxRecDepth 100000 in
theorem t_X9_readsArguments_J33 {p : Program} {l : Launch} {e : Env} {s : State} {m : MethodId} {args : Array Value} {below : List Frame} {meth : Method} {c : Code} {D : va_G} {aC : Nat → ClassId} {A : Nat → Prop} {a_o : Nat → Nat} {out : Int32 × Ob_T} (hX : K_X p s m args meth c cX9_readsArguments 4 WL_ RX9 D aC A) (hr : meth.sig.returnType = (some .boolean)) (x1 : Int32) (x2 : Int32) (s_o : Ob_T) (h : f_X9_readsArguments_J33 x1 x2 s_o = some out) (H : Heap) (locs : List Loc) (ls : Array Slot) (hZ : K_S D A s (wd_X9 aC a_o s_o) H locs) (hl : lv_has ls 4 [(0, .ref (a_o 0)), (1, .int x1), (2, .int x2)]) : W p l e (R_m 5 112) s m args below meth c H locs 0 0 (MQ below (Q_W (some (.int out.1)) D A (wd_X9 aC a_o out.2)) args s 0 0 A) (F0 m 33 ls []) := by
  obtain ⟨hx, hb, hml, hown, hts, hK, hA, hlk⟩ := id hX
  unfold f_X9_readsArguments_J33 at h
  refine lv_aload_n hx hb dX9_readsArguments_33 rfl (lv_at hl 0 rfl) ?_
  refine lv_iload_n hx hb dX9_readsArguments_34 rfl (lv_at hl 1 rfl) ?_
  refine lv_iconst (v := 2) hx hb dX9_readsArguments_35 (by decide) ?_
  obtain ⟨u3, hu, h⟩ := k_bd h
  refine k_vWs (As := [.int x1, .int (2 : Int32)]) (rest := []) (v := some (.int u3.1)) (st1 := [.int u3.1]) hX hl.1 hZ (c_X9_readsNode (a_o := a_o) s_o x1 (2 : Int32) hu) (gv_ wm_62 wm_64 wm_65 wm_11 wm_63) rfl hd_X9_readsNode ⟨rfl, rfl⟩ 9 0 rfl rfl rfl rfl rfl dX9_readsArguments_36 rfl ⟨rfl, rfl⟩ rfl (fun H locs hZ => ?_)
  clear hu
  refine lv_if_eq (tgt := 46) hx hb dX9_readsArguments_39 (by decide) (fun cd => ?_) (fun cd => ?_)
  · replace h := k_t cd h
    clear cd
    exact t_X9_readsArguments_J46 hX hr x1 x2 u3.2 h H locs ls hZ (lv_sub hl [0, 1, 2] rfl)
  · replace h := k_f cd h
    clear cd
    exact t_X9_readsArguments_J42 hX hr x1 x2 u3.2 h H locs ls hZ (lv_sub hl [0, 1, 2] rfl)
set_option maxHeartbeats 4000000 in
set_option maxRecDepth 100000 in
theorem t_X9_readsArguments_J18 {p : Program} {l : Launch} {e : Env} {s : State} {m : MethodId} {args : Array Value} {below : List Frame} {meth : Method} {c : Code} {D : va_G} {aC : Nat → ClassId} {A : Nat → Prop} {a_o : Nat → Nat} {out : Int32 × Ob_T} (hX : K_X p s m args meth c cX9_readsArguments 4 WL_ RX9 D aC A) (hr : meth.sig.returnType = (some .boolean)) (x1 : Int32) (x2 : Int32) (k0 : Int32) (s_o : Ob_T) (h : f_X9_readsArguments_J18 x1 x2 k0 s_o = some out) (H : Heap) (locs : List Loc) (ls : Array Slot) (hZ : K_S D A s (wd_X9 aC a_o s_o) H locs) (hl : lv_has ls 4 [(0, .ref (a_o 0)), (1, .int x1), (2, .int x2)]) : W p l e (R_m 5 112) s m args below meth c H locs 0 0 (MQ below (Q_W (some (.int out.1)) D A (wd_X9 aC a_o out.2)) args s 0 0 A) (F0 m 18 ls [.int k0]) := by
  obtain ⟨hx, hb, hml, hown, hts, hK, hA, hlk⟩ := id hX
  unfold f_X9_readsArguments_J18 at h
  refine lv_istore_n (lv' := [(3, .int k0), (0, .ref (a_o 0)), (1, .int x1), (2, .int x2)]) hx hb dX9_readsArguments_18 rfl hl (by decide) rfl (fun ls hl => ?_)
  refine lv_iload_n hx hb dX9_readsArguments_19 rfl (lv_at hl 0 rfl) ?_
  refine lv_if_eq (tgt := 46) hx hb dX9_readsArguments_20 (by decide) (fun cd => ?_) (fun cd => ?_)
  · replace h := k_t cd h
    clear cd
    exact t_X9_readsArguments_J46 hX hr x1 x2 s_o h H locs ls hZ (lv_sub hl [1, 2, 3] rfl)
  · replace h := k_f cd h
    clear cd
    refine lv_iload_n hx hb dX9_readsArguments_23 rfl (lv_at hl 3 rfl) ?_
    refine lv_iconst (v := 1) hx hb dX9_readsArguments_24 (by decide) ?_
    refine lv_icmp_eq (tgt := 33) hx hb dX9_readsArguments_25 (by decide) (fun cd => ?_) (fun cd => ?_)
    · replace h := k_t cd h
      clear cd
      exact t_X9_readsArguments_J33 hX hr x1 x2 s_o h H locs ls hZ (lv_sub hl [1, 2, 3] rfl)
    · replace h := k_f cd h
      clear cd
      refine lv_iload_n hx hb dX9_readsArguments_28 rfl (lv_at hl 3 rfl) ?_
      refine lv_iconst (v := 2) hx hb dX9_readsArguments_29 (by decide) ?_
      refine lv_icmp_ne (tgt := 42) hx hb dX9_readsArguments_30 (by decide) (fun cd => ?_) (fun cd => ?_)
      · replace h := k_f cd h
        clear cd
        exact t_X9_readsArguments_J42 hX hr x1 x2 s_o h H locs ls hZ (lv_sub hl [1, 2, 3] rfl)
      · replace h := k_t cd h
        clear cd
        exact t_X9_readsArguments_J33 hX hr x1 x2 s_o h H locs ls hZ (lv_sub hl [1, 2, 3] rfl)
set_option maxHeartbeats 4000000 in
set_option maxRecDepth 100000 in
theorem t_X9_readsArguments_J13 {p : Program} {l : Launch} {e : Env} {s : State} {m : MethodId} {args : Array Value} {below : List Frame} {meth : Method} {c : Code} {D : va_G} {aC : Nat → ClassId} {A : Nat → Prop} {a_o : Nat → Nat} {out : Int32 × Ob_T} (hX : K_X p s m args meth c cX9_readsArguments 4 WL_ RX9 D aC A) (hr : meth.sig.returnType = (some .boolean)) (x1 : Int32) (x2 : Int32) (s_o : Ob_T) (h : f_X9_readsArguments_J13 x1 x2 s_o = some out) (H : Heap) (locs : List Loc) (ls : Array Slot) (hZ : K_S D A s (wd_X9 aC a_o s_o) H locs) (hl : lv_has ls 4 [(0, .ref (a_o 0)), (1, .int x1), (2, .int x2)]) : W p l e (R_m 5 112) s m args below meth c H locs 0 0 (MQ below (Q_W (some (.int out.1)) D A (wd_X9 aC a_o out.2)) args s 0 0 A) (F0 m 13 ls []) := by
  obtain ⟨hx, hb, hml, hown, hts, hK, hA, hlk⟩ := id hX
  unfold f_X9_readsArguments_J13 at h
  refine lv_iconst (v := 1) hx hb dX9_readsArguments_13 (by decide) ?_
  refine lv_goto (tgt := 18) hx hb dX9_readsArguments_14 (by decide) ?_
  exact t_X9_readsArguments_J18 hX hr x1 x2 (1 : Int32) s_o h H locs ls hZ (lv_sub hl [0, 1, 2] rfl)
set_option maxHeartbeats 4000000 in
set_option maxRecDepth 100000 in
theorem c_X9_readsArguments {l : Launch} {D : va_G} {aC : Nat → ClassId} {a_o : Nat → Nat} (s_o : Ob_T) (x1 : Int32) (x2 : Int32) {out : Int32 × Ob_T} (h : f_X9_readsArguments s_o x1 x2 = some out) : M_W l yX9_readsArguments wlX9_readsArguments 5 112 D aC [.ref (a_o 0), .int x1, .int x2] (wd_X9 aC a_o s_o) (some (.int out.1)) (wd_X9 aC a_o out.2) := by
  refine k_entW (cc := cX9_readsArguments) (ret := (some .boolean)) (maxL := 4) (own := RX9) (by decide) rfl rfl rfl ?_
  intro p e s m below meth c A ls hX hr hZ hl
  have hl : lv_has ls 4 [(0, .ref (a_o 0)), (1, .int x1), (2, .int x2)] := hl
  generalize ([.ref (a_o 0), .int x1, .int x2] : List Value).toArray = args at hX ⊢
  obtain ⟨hx, hb, hml, hown, hts, hK, hA, hlk⟩ := id hX
  unfold f_X9_readsArguments at h
  generalize s.heap = H at hZ ⊢
  generalize ([] : List Loc) = locs at hZ ⊢
  refine lv_iload_n hx hb dX9_readsArguments_0 rfl (lv_at hl 2 rfl) ?_
  refine lv_if_eq (tgt := 13) hx hb dX9_readsArguments_1 (by decide) (fun cd => ?_) (fun cd => ?_)
  · replace h := k_t cd h
    clear cd
    exact t_X9_readsArguments_J13 hX hr x1 x2 s_o h H locs ls hZ (lv_sub hl [0, 1, 2] rfl)
  · replace h := k_f cd h
    clear cd
    refine lv_aload_n hx hb dX9_readsArguments_4 rfl (lv_at hl 0 rfl) ?_
    refine lv_iload_n hx hb dX9_readsArguments_5 rfl (lv_at hl 1 rfl) ?_
    refine lv_iconst (v := 1) hx hb dX9_readsArguments_6 (by decide) ?_
    obtain ⟨u4, hu, h⟩ := k_bd h
    refine k_vWs (As := [.int x1, .int (1 : Int32)]) (rest := []) (v := some (.int u4.1)) (st1 := [.int u4.1]) hX hl.1 hZ (c_X9_readsNode (a_o := a_o) s_o x1 (1 : Int32) hu) (gv_ wm_62 wm_64 wm_65 wm_11 wm_63) rfl hd_X9_readsNode ⟨rfl, rfl⟩ 9 0 rfl rfl rfl rfl rfl dX9_readsArguments_7 rfl ⟨rfl, rfl⟩ rfl (fun H locs hZ => ?_)
    clear hu
    refine lv_if_eq (tgt := 17) hx hb dX9_readsArguments_10 (by decide) (fun cd => ?_) (fun cd => ?_)
    · replace h := k_t cd h
      clear cd
      refine lv_iconst (v := 0) hx hb dX9_readsArguments_17 (by decide) ?_
      exact t_X9_readsArguments_J18 hX hr x1 x2 (0 : Int32) u4.2 h H locs ls hZ (lv_sub hl [0, 1, 2] rfl)
    · replace h := k_f cd h
      clear cd
      exact t_X9_readsArguments_J13 hX hr x1 x2 u4.2 h H locs ls hZ (lv_sub hl [0, 1, 2] rfl)
