def wlX9_readsNode : List Cond := .code yX9_readsNode cX9_readsNode 4 (some .boolean) :: WL_
theorem hd_X9_readsNode : yX9_readsNode.cls = RX9 ∧ yX9_readsNode.cls ≠ "java/lang/invoke/MethodHandle" ∧ yX9_readsNode.cls ≠ "java/lang/invoke/VarHandle" ∧ (parseMethodDescriptor yX9_readsNode.desc).map (fun d => d.parameters.length) = some 2 := by decide +kernel
theorem dX9_readsNode_0 : decode cX9_readsNode 0 = .ok (.aload_n 0, 1) := by decide +kernel
theorem dX9_readsNode_1 : decode cX9_readsNode 1 = .ok (.iconst 0, 1) := by decide +kernel
theorem dX9_readsNode_2 : decode cX9_readsNode 2 = .ok (.aload_n 0, 1) := by decide +kernel
theorem dX9_readsNode_3 : decode cX9_readsNode 3 = .ok (.getfield 144, 3) := by decide +kernel
theorem dX9_readsNode_6 : decode cX9_readsNode 6 = .ok (.iconst 1, 1) := by decide +kernel
theorem dX9_readsNode_7 : decode cX9_readsNode 7 = .ok (.isub, 1) := by decide +kernel
theorem dX9_readsNode_8 : decode cX9_readsNode 8 = .ok (.invokevirtual 140, 3) := by decide +kernel
theorem dX9_readsNode_11 : decode cX9_readsNode 11 = .ok (.istore_n 3, 1) := by decide +kernel
theorem dX9_readsNode_12 : decode cX9_readsNode 12 = .ok (.aload_n 0, 1) := by decide +kernel
theorem dX9_readsNode_13 : decode cX9_readsNode 13 = .ok (.getfield 13, 3) := by decide +kernel
theorem dX9_readsNode_16 : decode cX9_readsNode 16 = .ok (.iload_n 1, 1) := by decide +kernel
theorem dX9_readsNode_17 : decode cX9_readsNode 17 = .ok (.iload_n 2, 1) := by decide +kernel
theorem dX9_readsNode_18 : decode cX9_readsNode 18 = .ok (.iadd, 1) := by decide +kernel
theorem dX9_readsNode_19 : decode cX9_readsNode 19 = .ok (.aload_n 0, 1) := by decide +kernel
theorem dX9_readsNode_20 : decode cX9_readsNode 20 = .ok (.getfield 126, 3) := by decide +kernel
theorem dX9_readsNode_23 : decode cX9_readsNode 23 = .ok (.iastore, 1) := by decide +kernel
theorem dX9_readsNode_24 : decode cX9_readsNode 24 = .ok (.iload_n 3, 1) := by decide +kernel
theorem dX9_readsNode_25 : decode cX9_readsNode 25 = .ok (.ireturn, 1) := by decide +kernel
set_option maxHeartbeats 4000000 in
set_option maxRecDepth 100000 in
theorem c_X9_readsNode {l : Launch} {D : va_G} {aC : Nat → ClassId} {a_o : Nat → Nat} (s_o : Ob_T) (x1 : Int32) (x2 : Int32) {out : Int32 × Ob_T} (h : f_X9_readsNode s_o x1 x2 = some out) : M_W l yX9_readsNode wlX9_readsNode 4 89 D aC [.ref (a_o 0), .int x1, .int x2] (wd_X9 aC a_o s_o) (some (.int out.1)) (wd_X9 aC a_o out.2) := by
  refine k_entW (cc := cX9_readsNode) (ret := (some .boolean)) (maxL := 4) (own := RX9) (by decide) rfl rfl rfl ?_
  intro p e s m below meth c A ls hX hr hZ hl
  have hl : lv_has ls 4 [(0, .ref (a_o 0)), (1, .int x1), (2, .int x2)] := hl
  generalize ([.ref (a_o 0), .int x1, .int x2] : List Value).toArray = args at hX ⊢
  obtain ⟨hx, hb, hml, hown, hts, hK, hA, hlk⟩ := id hX
  unfold f_X9_readsNode at h
  generalize s.heap = H at hZ ⊢
  generalize ([] : List Loc) = locs at hZ ⊢
  refine lv_aload_n hx hb dX9_readsNode_0 rfl (lv_at hl 0 rfl) ?_
  refine lv_iconst (v := 0) hx hb dX9_readsNode_1 (by decide) ?_
  refine lv_aload_n hx hb dX9_readsNode_2 rfl (lv_at hl 0 rfl) ?_
  refine k_get hX hZ.1 0 9 rfl rfl iw_X9 3 rfl (wm_42) (v := .int (o_F s_o 3)) rfl dX9_readsNode_3 ?_
  refine lv_iconst (v := 1) hx hb dX9_readsNode_6 (by decide) ?_
  refine lv_isub hx hb dX9_readsNode_7 ?_
  obtain ⟨u1, hu, h⟩ := k_bd h
  refine k_vWs (As := [.int (0 : Int32), .int ((o_F s_o 3) - (1 : Int32))]) (rest := []) (v := some (.int u1.1)) (st1 := [.int u1.1]) hX hl.1 hZ (c_X9_readsNumber (a_o := a_o) s_o (0 : Int32) ((o_F s_o 3) - (1 : Int32)) hu) (gv_ wm_32 wm_34 wm_35 wm_11 wm_33) rfl hd_X9_readsNumber ⟨rfl, rfl⟩ 9 0 rfl rfl rfl rfl rfl dX9_readsNode_8 rfl ⟨rfl, rfl⟩ rfl (fun H locs hZ => ?_)
  clear hu
  refine lv_istore_n (lv' := [(3, .int u1.1), (0, .ref (a_o 0)), (1, .int x1), (2, .int x2)]) hx hb dX9_readsNode_11 rfl hl (by decide) rfl (fun ls hl => ?_)
  refine lv_aload_n hx hb dX9_readsNode_12 rfl (lv_at hl 1 rfl) ?_
  refine k_get hX hZ.1 0 9 rfl rfl iw_X9 1 rfl (wm_31) (v := .ref (a_o 2)) rfl dX9_readsNode_13 ?_
  refine lv_iload_n hx hb dX9_readsNode_16 rfl (lv_at hl 2 rfl) ?_
  refine lv_iload_n hx hb dX9_readsNode_17 rfl (lv_at hl 3 rfl) ?_
  refine lv_iadd hx hb dX9_readsNode_18 ?_
  refine lv_aload_n hx hb dX9_readsNode_19 rfl (lv_at hl 1 rfl) ?_
  refine k_get hX hZ.1 0 9 rfl rfl iw_X9 21 rfl (wm_30) (v := .int (o_F u1.2 21)) rfl dX9_readsNode_20 ?_
  refine k_iast (wf := (fun o => wd_X9 aC a_o o)) (o := u1.2) hX hZ 2 1 rfl (fun _ => rfl) h dX9_readsNode_23 (fun o2 H locs hZ h => ?_)
  refine lv_iload_n hx hb dX9_readsNode_24 rfl (lv_at hl 0 rfl) ?_
  obtain ⟨b3, hb0, h⟩ := k_bd h
  obtain ⟨hb1, hb2, hb3⟩ := k_zb hb0
  clear hb0
  cases h
  exact k_zretW hX hr hb2 hZ dX9_readsNode_25
def wlX9_readsRank : List Cond := .code yX9_readsRank cX9_readsRank 4 (some .boolean) :: WL_
theorem hd_X9_readsRank : yX9_readsRank.cls = RX9 ∧ yX9_readsRank.cls ≠ "java/lang/invoke/MethodHandle" ∧ yX9_readsRank.cls ≠ "java/lang/invoke/VarHandle" ∧ (parseMethodDescriptor yX9_readsRank.desc).map (fun d => d.parameters.length) = some 1 := by decide +kernel
theorem dX9_readsRank_0 : decode cX9_readsRank 0 = .ok (.aload_n 0, 1) := by decide +kernel
theorem dX9_readsRank_1 : decode cX9_readsRank 1 = .ok (.getfield 116, 3) := by decide +kernel
theorem dX9_readsRank_4 : decode cX9_readsRank 4 = .ok (.aload_n 0, 1) := by decide +kernel
theorem dX9_readsRank_5 : decode cX9_readsRank 5 = .ok (.getfield 101, 3) := by decide +kernel
theorem dX9_readsRank_8 : decode cX9_readsRank 8 = .ok (.if_icmp .ge 21, 3) := by decide +kernel
theorem dX9_readsRank_11 : decode cX9_readsRank 11 = .ok (.aload_n 0, 1) := by decide +kernel
theorem dX9_readsRank_12 : decode cX9_readsRank 12 = .ok (.getfield 29, 3) := by decide +kernel
theorem dX9_readsRank_15 : decode cX9_readsRank 15 = .ok (.aload_n 0, 1) := by decide +kernel
theorem dX9_readsRank_16 : decode cX9_readsRank 16 = .ok (.getfield 116, 3) := by decide +kernel
theorem dX9_readsRank_19 : decode cX9_readsRank 19 = .ok (.iaload, 1) := by decide +kernel
theorem dX9_readsRank_20 : decode cX9_readsRank 20 = .ok (.bipush 45, 2) := by decide +kernel
theorem dX9_readsRank_22 : decode cX9_readsRank 22 = .ok (.if_icmp .ne 7, 3) := by decide +kernel
theorem dX9_readsRank_25 : decode cX9_readsRank 25 = .ok (.iconst 1, 1) := by decide +kernel
theorem dX9_readsRank_26 : decode cX9_readsRank 26 = .ok (.goto 4, 3) := by decide +kernel
theorem dX9_readsRank_29 : decode cX9_readsRank 29 = .ok (.iconst 0, 1) := by decide +kernel
theorem dX9_readsRank_30 : decode cX9_readsRank 30 = .ok (.istore_n 2, 1) := by decide +kernel
theorem dX9_readsRank_31 : decode cX9_readsRank 31 = .ok (.iload_n 2, 1) := by decide +kernel
theorem dX9_readsRank_32 : decode cX9_readsRank 32 = .ok (.ifCond .eq 7, 3) := by decide +kernel
theorem dX9_readsRank_35 : decode cX9_readsRank 35 = .ok (.aload_n 0, 1) := by decide +kernel
theorem dX9_readsRank_36 : decode cX9_readsRank 36 = .ok (.invokevirtual 129, 3) := by decide +kernel
theorem dX9_readsRank_39 : decode cX9_readsRank 39 = .ok (.aload_n 0, 1) := by decide +kernel
theorem dX9_readsRank_40 : decode cX9_readsRank 40 = .ok (.iload_n 2, 1) := by decide +kernel
theorem dX9_readsRank_41 : decode cX9_readsRank 41 = .ok (.ifCond .eq 7, 3) := by decide +kernel
theorem dX9_readsRank_44 : decode cX9_readsRank 44 = .ok (.iconst 1, 1) := by decide +kernel
theorem dX9_readsRank_45 : decode cX9_readsRank 45 = .ok (.goto 4, 3) := by decide +kernel
theorem dX9_readsRank_48 : decode cX9_readsRank 48 = .ok (.iconst 0, 1) := by decide +kernel
theorem dX9_readsRank_49 : decode cX9_readsRank 49 = .ok (.iconst 3, 1) := by decide +kernel
theorem dX9_readsRank_50 : decode cX9_readsRank 50 = .ok (.invokevirtual 140, 3) := by decide +kernel
theorem dX9_readsRank_53 : decode cX9_readsRank 53 = .ok (.istore_n 3, 1) := by decide +kernel
theorem dX9_readsRank_54 : decode cX9_readsRank 54 = .ok (.aload_n 0, 1) := by decide +kernel
theorem dX9_readsRank_55 : decode cX9_readsRank 55 = .ok (.getfield 13, 3) := by decide +kernel
theorem dX9_readsRank_58 : decode cX9_readsRank 58 = .ok (.iload_n 1, 1) := by decide +kernel
theorem dX9_readsRank_59 : decode cX9_readsRank 59 = .ok (.iconst 3, 1) := by decide +kernel
theorem dX9_readsRank_60 : decode cX9_readsRank 60 = .ok (.iadd, 1) := by decide +kernel
theorem dX9_readsRank_61 : decode cX9_readsRank 61 = .ok (.iload_n 2, 1) := by decide +kernel
theorem dX9_readsRank_62 : decode cX9_readsRank 62 = .ok (.ifCond .eq 11, 3) := by decide +kernel
theorem dX9_readsRank_65 : decode cX9_readsRank 65 = .ok (.aload_n 0, 1) := by decide +kernel
theorem dX9_readsRank_66 : decode cX9_readsRank 66 = .ok (.getfield 126, 3) := by decide +kernel
theorem dX9_readsRank_69 : decode cX9_readsRank 69 = .ok (.ineg, 1) := by decide +kernel
theorem dX9_readsRank_70 : decode cX9_readsRank 70 = .ok (.goto 7, 3) := by decide +kernel
theorem dX9_readsRank_73 : decode cX9_readsRank 73 = .ok (.aload_n 0, 1) := by decide +kernel
theorem dX9_readsRank_74 : decode cX9_readsRank 74 = .ok (.getfield 126, 3) := by decide +kernel
theorem dX9_readsRank_77 : decode cX9_readsRank 77 = .ok (.iastore, 1) := by decide +kernel
theorem dX9_readsRank_78 : decode cX9_readsRank 78 = .ok (.iload_n 3, 1) := by decide +kernel
theorem dX9_readsRank_79 : decode cX9_readsRank 79 = .ok (.ireturn, 1) := by decide +kernel
set_option maxHeartbeats 4000000 in
set_option maxRecDepth 100000 in
theorem t_X9_readsRank_J77 {p : Program} {l : Launch} {e : Env} {s : State} {m : MethodId} {args : Array Value} {below : List Frame} {meth : Method} {c : Code} {D : va_G} {aC : Nat → ClassId} {A : Nat → Prop} {a_o : Nat → Nat} {out : Int32 × Ob_T} (hX : K_X p s m args meth c cX9_readsRank 4 WL_ RX9 D aC A) (hr : meth.sig.returnType = (some .boolean)) (x3 : Int32) (k1 : Int32) (k2 : Int32) (s_o : Ob_T) (h : f_X9_readsRank_J77 x3 k1 k2 s_o = some out) (H : Heap) (locs : List Loc) (ls : Array Slot) (hZ : K_S D A s (wd_X9 aC a_o s_o) H locs) (hl : lv_has ls 4 [(3, .int x3)]) : W p l e (R_m 4 89) s m args below meth c H locs 0 0 (MQ below (Q_W (some (.int out.1)) D A (wd_X9 aC a_o out.2)) args s 0 0 A) (F0 m 77 ls [.int k2, .int k1, .ref (a_o 2)]) := by
  obtain ⟨hx, hb, hml, hown, hts, hK, hA, hlk⟩ := id hX
  unfold f_X9_readsRank_J77 at h
  refine k_iast (wf := (fun o => wd_X9 aC a_o o)) (o := s_o) hX hZ 2 1 rfl (fun _ => rfl) h dX9_readsRank_77 (fun o2 H locs hZ h => ?_)
  refine lv_iload_n hx hb dX9_readsRank_78 rfl (lv_at hl 0 rfl) ?_
  obtain ⟨b3, hb0, h⟩ := k_bd h
  obtain ⟨hb1, hb2, hb3⟩ := k_zb hb0
  clear hb0
  cases h
  exact k_zretW hX hr hb2 hZ dX9_readsRank_79
set_option maxHeartbeats 4000000 in
set_option maxRecDepth 100000 in
theorem t_X9_readsRank_J49 {p : Program} {l : Launch} {e : Env} {s : State} {m : MethodId} {args : Array Value} {below : List Frame} {meth : Method} {c : Code} {D : va_G} {aC : Nat → ClassId} {A : Nat → Prop} {a_o : Nat → Nat} {out : Int32 × Ob_T} (hX : K_X p s m args meth c cX9_readsRank 4 WL_ RX9 D aC A) (hr : meth.sig.returnType = (some .boolean)) (x1 : Int32) (x2 : Int32) (k1 : Int32) (s_o : Ob_T) (h : f_X9_readsRank_J49 x1 x2 k1 s_o = some out) (H : Heap) (locs : List Loc) (ls : Array Slot) (hZ : K_S D A s (wd_X9 aC a_o s_o) H locs) (hl : lv_has ls 4 [(0, .ref (a_o 0)), (1, .int x1), (2, .int x2)]) : W p l e (R_m 4 89) s m args below meth c H locs 0 0 (MQ below (Q_W (some (.int out.1)) D A (wd_X9 aC a_o out.2)) args s 0 0 A) (F0 m 49 ls [.int k1, .ref (a_o 0)]) := by
  obtain ⟨hx, hb, hml, hown, hts, hK, hA, hlk⟩ := id hX
  unfold f_X9_readsRank_J49 at h
  refine lv_iconst (v := 3) hx hb dX9_readsRank_49 (by decide) ?_
  obtain ⟨u1, hu, h⟩ := k_bd h
  refine k_vWs (As := [.int k1, .int (3 : Int32)]) (rest := []) (v := some (.int u1.1)) (st1 := [.int u1.1]) hX hl.1 hZ (c_X9_readsNumber (a_o := a_o) s_o k1 (3 : Int32) hu) (gv_ wm_32 wm_34 wm_35 wm_11 wm_33) rfl hd_X9_readsNumber ⟨rfl, rfl⟩ 9 0 rfl rfl rfl rfl rfl dX9_readsRank_50 rfl ⟨rfl, rfl⟩ rfl (fun H locs hZ => ?_)
  clear hu
  refine lv_istore_n (lv' := [(3, .int u1.1), (0, .ref (a_o 0)), (1, .int x1), (2, .int x2)]) hx hb dX9_readsRank_53 rfl hl (by decide) rfl (fun ls hl => ?_)
  refine lv_aload_n hx hb dX9_readsRank_54 rfl (lv_at hl 1 rfl) ?_
  refine k_get hX hZ.1 0 9 rfl rfl iw_X9 1 rfl (wm_31) (v := .ref (a_o 2)) rfl dX9_readsRank_55 ?_
  refine lv_iload_n hx hb dX9_readsRank_58 rfl (lv_at hl 2 rfl) ?_
  refine lv_iconst (v := 3) hx hb dX9_readsRank_59 (by decide) ?_
  refine lv_iadd hx hb dX9_readsRank_60 ?_
  refine lv_iload_n hx hb dX9_readsRank_61 rfl (lv_at hl 3 rfl) ?_
  refine lv_if_eq (tgt := 73) hx hb dX9_readsRank_62 (by decide) (fun cd => ?_) (fun cd => ?_)
  · replace h := k_t cd h
    clear cd
    refine lv_aload_n hx hb dX9_readsRank_73 rfl (lv_at hl 1 rfl) ?_
    refine k_get hX hZ.1 0 9 rfl rfl iw_X9 21 rfl (wm_30) (v := .int (o_F u1.2 21)) rfl dX9_readsRank_74 ?_
    exact t_X9_readsRank_J77 hX hr u1.1 (x1 + (3 : Int32)) (o_F u1.2 21) u1.2 h H locs ls hZ (lv_sub hl [0] rfl)
  · replace h := k_f cd h
    clear cd
    refine lv_aload_n hx hb dX9_readsRank_65 rfl (lv_at hl 1 rfl) ?_
    refine k_get hX hZ.1 0 9 rfl rfl iw_X9 21 rfl (wm_30) (v := .int (o_F u1.2 21)) rfl dX9_readsRank_66 ?_
    refine lv_ineg hx hb dX9_readsRank_69 ?_
    refine lv_goto (tgt := 77) hx hb dX9_readsRank_70 (by decide) ?_
    exact t_X9_readsRank_J77 hX hr u1.1 (x1 + (3 : Int32)) (-(o_F u1.2 21)) u1.2 h H locs ls hZ (lv_sub hl [0] rfl)
set_option maxHeartbeats 4000000 in
set_option maxRecDepth 100000 in
theorem t_X9_readsRank_J39 {p : Program} {l : Launch} {e : Env} {s : State} {m : MethodId} {args : Array Value} {below : List Frame} {meth : Method} {c : Code} {D : va_G} {aC : Nat → ClassId} {A : Nat → Prop} {a_o : Nat → Nat} {out : Int32 × Ob_T} (hX : K_X p s m args meth c cX9_readsRank 4 WL_ RX9 D aC A) (hr : meth.sig.returnType = (some .boolean)) (x1 : Int32) (x2 : Int32) (s_o : Ob_T) (h : f_X9_readsRank_J39 x1 x2 s_o = some out) (H : Heap) (locs : List Loc) (ls : Array Slot) (hZ : K_S D A s (wd_X9 aC a_o s_o) H locs) (hl : lv_has ls 4 [(0, .ref (a_o 0)), (1, .int x1), (2, .int x2)]) : W p l e (R_m 4 89) s m args below meth c H locs 0 0 (MQ below (Q_W (some (.int out.1)) D A (wd_X9 aC a_o out.2)) args s 0 0 A) (F0 m 39 ls []) := by
  obtain ⟨hx, hb, hml, hown, hts, hK, hA, hlk⟩ := id hX
  unfold f_X9_readsRank_J39 at h
  refine lv_aload_n hx hb dX9_readsRank_39 rfl (lv_at hl 0 rfl) ?_
  refine lv_iload_n hx hb dX9_readsRank_40 rfl (lv_at hl 2 rfl) ?_
  refine lv_if_eq (tgt := 48) hx hb dX9_readsRank_41 (by decide) (fun cd => ?_) (fun cd => ?_)
  · replace h := k_t cd h
    clear cd
    refine lv_iconst (v := 0) hx hb dX9_readsRank_48 (by decide) ?_
    exact t_X9_readsRank_J49 hX hr x1 x2 (0 : Int32) s_o h H locs ls hZ (lv_sub hl [0, 1, 2] rfl)
  · replace h := k_f cd h
    clear cd
    refine lv_iconst (v := 1) hx hb dX9_readsRank_44 (by decide) ?_
    refine lv_goto (tgt := 49) hx hb dX9_readsRank_45 (by decide) ?_
    exact t_X9_readsRank_J49 hX hr x1 x2 (1 : Int32) s_o h H locs ls hZ (lv_sub hl [0, 1, 2] rfl)
set_option maxHeartbeats 4000000 in
set_option maxRecDepth 100000 in
theorem t_X9_readsRank_J30 {p : Program} {l : Launch} {e : Env} {s : State} {m : MethodId} {args : Array Value} {below : List Frame} {meth : Method} {c : Code} {D : va_G} {aC : Nat → ClassId} {A : Nat → Prop} {a_o : Nat → Nat} {out : Int32 × Ob_T} (hX : K_X p s m args meth c cX9_readsRank 4 WL_ RX9 D aC A) (hr : meth.sig.returnType = (some .boolean)) (x1 : Int32) (k0 : Int32) (s_o : Ob_T) (h : f_X9_readsRank_J30 x1 k0 s_o = some out) (H : Heap) (locs : List Loc) (ls : Array Slot) (hZ : K_S D A s (wd_X9 aC a_o s_o) H locs) (hl : lv_has ls 4 [(0, .ref (a_o 0)), (1, .int x1)]) : W p l e (R_m 4 89) s m args below meth c H locs 0 0 (MQ below (Q_W (some (.int out.1)) D A (wd_X9 aC a_o out.2)) args s 0 0 A) (F0 m 30 ls [.int k0]) := by
  obtain ⟨hx, hb, hml, hown, hts, hK, hA, hlk⟩ := id hX
  unfold f_X9_readsRank_J30 at h
  refine lv_istore_n (lv' := [(2, .int k0), (0, .ref (a_o 0)), (1, .int x1)]) hx hb dX9_readsRank_30 rfl hl (by decide) rfl (fun ls hl => ?_)
  refine lv_iload_n hx hb dX9_readsRank_31 rfl (lv_at hl 0 rfl) ?_
  refine lv_if_eq (tgt := 39) hx hb dX9_readsRank_32 (by decide) (fun cd => ?_) (fun cd => ?_)
  · replace h := k_t cd h
    clear cd
    exact t_X9_readsRank_J39 hX hr x1 k0 s_o h H locs ls hZ (lv_sub hl [1, 2, 0] rfl)
  · replace h := k_f cd h
    clear cd
    refine lv_aload_n hx hb dX9_readsRank_35 rfl (lv_at hl 1 rfl) ?_
    obtain ⟨u4, hu, h⟩ := k_bd h
    refine k_vWs (As := []) (rest := []) (v := none) (st1 := []) hX hl.1 hZ (c_X9_nextToken (a_o := a_o) s_o hu) (gv_ wm_26 wm_28 wm_29 wm_11 wm_27) rfl hd_X9_nextToken ⟨rfl, rfl⟩ 9 0 rfl rfl rfl rfl rfl dX9_readsRank_36 rfl ⟨rfl, rfl⟩ rfl (fun H locs hZ => ?_)
    clear hu
    exact t_X9_readsRank_J39 hX hr x1 k0 u4 h H locs ls hZ (lv_sub hl [1, 2, 0] rfl)
set_option maxHeartbeats 4000000 in
set_option maxRecDepth 100000 in
theorem t_X9_readsRank_J29 {p : Program} {l : Launch} {e : Env} {s : State} {m : MethodId} {args : Array Value} {below : List Frame} {meth : Method} {c : Code} {D : va_G} {aC : Nat → ClassId} {A : Nat → Prop} {a_o : Nat → Nat} {out : Int32 × Ob_T} (hX : K_X p s m args meth c cX9_readsRank 4 WL_ RX9 D aC A) (hr : meth.sig.returnType = (some .boolean)) (x1 : Int32) (s_o : Ob_T) (h : f_X9_readsRank_J29 x1 s_o = some out) (H : Heap) (locs : List Loc) (ls : Array Slot) (hZ : K_S D A s (wd_X9 aC a_o s_o) H locs) (hl : lv_has ls 4 [(0, .ref (a_o 0)), (1, .int x1)]) : W p l e (R_m 4 89) s m args below meth c H locs 0 0 (MQ below (Q_W (some (.int out.1)) D A (wd_X9 aC a_o out.2)) args s 0 0 A) (F0 m 29 ls []) := by
  obtain ⟨hx, hb, hml, hown, hts, hK, hA, hlk⟩ := id hX
  unfold f_X9_readsRank_J29 at h
  refine lv_iconst (v := 0) hx hb dX9_readsRank_29 (by decide) ?_
  exact t_X9_readsRank_J30 hX hr x1 (0 : Int32) s_o h H locs ls hZ (lv_sub hl [0, 1] rfl)
set_option maxHeartbeats 4000000 in
set_option maxRecDepth 100000 in
theorem c_X9_readsRank {l : Launch} {D : va_G} {aC : Nat → ClassId} {a_o : Nat → Nat} (s_o : Ob_T) (x1 : Int32) {out : Int32 × Ob_T} (h : f_X9_readsRank s_o x1 = some out) : M_W l yX9_readsRank wlX9_readsRank 4 89 D aC [.ref (a_o 0), .int x1] (wd_X9 aC a_o s_o) (some (.int out.1)) (wd_X9 aC a_o out.2) := by
  refine k_entW (cc := cX9_readsRank) (ret := (some .boolean)) (maxL := 4) (own := RX9) (by decide) rfl rfl rfl ?_
  intro p e s m below meth c A ls hX hr hZ hl
  have hl : lv_has ls 4 [(0, .ref (a_o 0)), (1, .int x1)] := hl
  generalize ([.ref (a_o 0), .int x1] : List Value).toArray = args at hX ⊢
  obtain ⟨hx, hb, hml, hown, hts, hK, hA, hlk⟩ := id hX
  unfold f_X9_readsRank at h
  generalize s.heap = H at hZ ⊢
  generalize ([] : List Loc) = locs at hZ ⊢
  refine lv_aload_n hx hb dX9_readsRank_0 rfl (lv_at hl 0 rfl) ?_
  refine k_get hX hZ.1 0 9 rfl rfl iw_X9 18 rfl (wm_19) (v := .int (o_F s_o 18)) rfl dX9_readsRank_1 ?_
  refine lv_aload_n hx hb dX9_readsRank_4 rfl (lv_at hl 0 rfl) ?_
  refine k_get hX hZ.1 0 9 rfl rfl iw_X9 10 rfl (wm_8) (v := .int (o_F s_o 10)) rfl dX9_readsRank_5 ?_
  refine lv_icmp_ge (tgt := 29) hx hb dX9_readsRank_8 (by decide) (fun cd => ?_) (fun cd => ?_)
  · replace h := k_t cd h
    clear cd
    exact t_X9_readsRank_J29 hX hr x1 s_o h H locs ls hZ (lv_sub hl [0, 1] rfl)
  · replace h := k_f cd h
    clear cd
    refine lv_aload_n hx hb dX9_readsRank_11 rfl (lv_at hl 0 rfl) ?_
    refine k_get hX hZ.1 0 9 rfl rfl iw_X9 9 rfl (wm_9) (v := .ref (a_o 7)) rfl dX9_readsRank_12 ?_
    refine lv_aload_n hx hb dX9_readsRank_15 rfl (lv_at hl 0 rfl) ?_
    refine k_get hX hZ.1 0 9 rfl rfl iw_X9 18 rfl (wm_19) (v := .int (o_F s_o 18)) rfl dX9_readsRank_16 ?_
    refine k_iald hX hZ.1 7 rfl h dX9_readsRank_19 (fun v5 h => ?_)
    refine lv_bipush (v := 45) hx hb dX9_readsRank_20 (by decide) ?_
    refine lv_icmp_ne (tgt := 29) hx hb dX9_readsRank_22 (by decide) (fun cd => ?_) (fun cd => ?_)
    · replace h := k_f cd h
      clear cd
      exact t_X9_readsRank_J29 hX hr x1 s_o h H locs ls hZ (lv_sub hl [0, 1] rfl)
    · replace h := k_t cd h
      clear cd
      refine lv_iconst (v := 1) hx hb dX9_readsRank_25 (by decide) ?_
      refine lv_goto (tgt := 30) hx hb dX9_readsRank_26 (by decide) ?_
      exact t_X9_readsRank_J30 hX hr x1 (1 : Int32) s_o h H locs ls hZ (lv_sub hl [0, 1] rfl)
