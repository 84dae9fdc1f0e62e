def wlX9_keep : List Cond := .code yX9_keep cX9_keep 3 (some .int) :: WL_
theorem hd_X9_keep : yX9_keep.cls = RX9 ∧ yX9_keep.cls ≠ "java/lang/invoke/MethodHandle" ∧ yX9_keep.cls ≠ "java/lang/invoke/VarHandle" ∧ (parseMethodDescriptor yX9_keep.desc).map (fun d => d.parameters.length) = some 1 := by decide +kernel
theorem dX9_keep_0 : decode cX9_keep 0 = .ok (.iload_n 1, 1) := by decide +kernel
theorem dX9_keep_1 : decode cX9_keep 1 = .ok (.i2l, 1) := by decide +kernel
theorem dX9_keep_2 : decode cX9_keep 2 = .ok (.lconst 0, 1) := by decide +kernel
theorem dX9_keep_3 : decode cX9_keep 3 = .ok (.lconst 1, 1) := by decide +kernel
theorem dX9_keep_4 : decode cX9_keep 4 = .ok (.invokestatic 97, 3) := by decide +kernel
theorem dX9_keep_7 : decode cX9_keep 7 = .ok (.ifCond .ne 6, 3) := by decide +kernel
theorem dX9_keep_10 : decode cX9_keep 10 = .ok (.bipush (-2), 2) := by decide +kernel
theorem dX9_keep_12 : decode cX9_keep 12 = .ok (.ireturn, 1) := by decide +kernel
theorem dX9_keep_13 : decode cX9_keep 13 = .ok (.iconst 0, 1) := by decide +kernel
theorem dX9_keep_14 : decode cX9_keep 14 = .ok (.istore_n 2, 1) := by decide +kernel
theorem dX9_keep_15 : decode cX9_keep 15 = .ok (.iload_n 2, 1) := by decide +kernel
theorem dX9_keep_16 : decode cX9_keep 16 = .ok (.iconst 4, 1) := by decide +kernel
theorem dX9_keep_17 : decode cX9_keep 17 = .ok (.if_icmp .ge 25, 3) := by decide +kernel
theorem dX9_keep_20 : decode cX9_keep 20 = .ok (.aload_n 0, 1) := by decide +kernel
theorem dX9_keep_21 : decode cX9_keep 21 = .ok (.getfield 22, 3) := by decide +kernel
theorem dX9_keep_24 : decode cX9_keep 24 = .ok (.iconst 4, 1) := by decide +kernel
theorem dX9_keep_25 : decode cX9_keep 25 = .ok (.iload_n 1, 1) := by decide +kernel
theorem dX9_keep_26 : decode cX9_keep 26 = .ok (.imul, 1) := by decide +kernel
theorem dX9_keep_27 : decode cX9_keep 27 = .ok (.iload_n 2, 1) := by decide +kernel
theorem dX9_keep_28 : decode cX9_keep 28 = .ok (.iadd, 1) := by decide +kernel
theorem dX9_keep_29 : decode cX9_keep 29 = .ok (.aload_n 0, 1) := by decide +kernel
theorem dX9_keep_30 : decode cX9_keep 30 = .ok (.getfield 16, 3) := by decide +kernel
theorem dX9_keep_33 : decode cX9_keep 33 = .ok (.iload_n 2, 1) := by decide +kernel
theorem dX9_keep_34 : decode cX9_keep 34 = .ok (.iaload, 1) := by decide +kernel
theorem dX9_keep_35 : decode cX9_keep 35 = .ok (.iastore, 1) := by decide +kernel
theorem dX9_keep_36 : decode cX9_keep 36 = .ok (.iinc 2 1, 3) := by decide +kernel
theorem dX9_keep_39 : decode cX9_keep 39 = .ok (.goto (-24), 3) := by decide +kernel
theorem dX9_keep_42 : decode cX9_keep 42 = .ok (.aload_n 0, 1) := by decide +kernel
theorem dX9_keep_43 : decode cX9_keep 43 = .ok (.getfield 25, 3) := by decide +kernel
theorem dX9_keep_46 : decode cX9_keep 46 = .ok (.iload_n 1, 1) := by decide +kernel
theorem dX9_keep_47 : decode cX9_keep 47 = .ok (.iconst 1, 1) := by decide +kernel
theorem dX9_keep_48 : decode cX9_keep 48 = .ok (.bastore, 1) := by decide +kernel
theorem dX9_keep_49 : decode cX9_keep 49 = .ok (.aload_n 0, 1) := by decide +kernel
theorem dX9_keep_50 : decode cX9_keep 50 = .ok (.invokevirtual 314, 3) := by decide +kernel
theorem dX9_keep_53 : decode cX9_keep 53 = .ok (.ireturn, 1) := by decide +kernel
set_option maxHeartbeats 4000000 in
set_option maxRecDepth 100000 in
theorem t_X9_keep_L15 {p : Program} {l : Launch} {e : Env} {s : State} {m : MethodId} {args : Array Value} {below : List Frame} {meth : Method} {c : Code} {D : va_G} {aC : Nat → ClassId} {A : Nat → Prop} {a_o : Nat → Nat} {out : Int32 × Ob_T} {k42 : Int32 → Ob_T → Option (Int32 × Ob_T)} {rec15 : (Int32 × Int32 × Ob_T) → Option (Int32 × Ob_T)} (hX : K_X p s m args meth c cX9_keep 3 WL_ RX9 D aC A) (hr : meth.sig.returnType = (some .int)) (hk42 : ∀ (y1 : Int32) (t_o : Ob_T), k42 y1 t_o = some out → ∀ (H : Heap) (locs : List Loc) (ls : Array Slot), K_S D A s (wd_X9 aC a_o t_o) H locs → lv_has ls 3 [(0, .ref (a_o 0)), (1, .int y1)] → W p l e (R_m 1 25) s m args below meth c H locs 0 0 (MQ below (Q_W (some (.int out.1)) D A (wd_X9 aC a_o out.2)) args s 0 0 A) (F0 m 42 ls [])) (hrec15 : ∀ x : Int32 × Int32 × Ob_T, rec15 x = some out → ∀ (H : Heap) (locs : List Loc) (ls : Array Slot), K_S D A s (wd_X9 aC a_o x.2.2) H locs → lv_has ls 3 [(0, .ref (a_o 0)), (1, .int x.1), (2, .int x.2.1)] → W p l e (R_m 1 25) s m args below meth c H locs 0 0 (MQ below (Q_W (some (.int out.1)) D A (wd_X9 aC a_o out.2)) args s 0 0 A) (F0 m 15 ls [])) (x1 : Int32) (x2 : Int32) (s_o : Ob_T) (h : f_X9_keep_L15 k42 rec15 x1 x2 s_o = some out) (H : Heap) (locs : List Loc) (ls : Array Slot) (hZ : K_S D A s (wd_X9 aC a_o s_o) H locs) (hl : lv_has ls 3 [(0, .ref (a_o 0)), (1, .int x1), (2, .int x2)]) : W p l e (R_m 1 25) s m args below meth c H locs 0 0 (MQ below (Q_W (some (.int out.1)) D A (wd_X9 aC a_o out.2)) args s 0 0 A) (F0 m 15 ls []) := by
  obtain ⟨hx, hb, hml, hown, hts, hK, hA, hlk⟩ := id hX
  unfold f_X9_keep_L15 at h
  refine lv_iload_n hx hb dX9_keep_15 rfl (lv_at hl 2 rfl) ?_
  refine lv_iconst (v := 4) hx hb dX9_keep_16 (by decide) ?_
  refine lv_icmp_ge (tgt := 42) hx hb dX9_keep_17 (by decide) (fun cd => ?_) (fun cd => ?_)
  · replace h := k_t cd h
    clear cd
    exact hk42 x1 s_o h H locs ls hZ (lv_sub hl [0, 1] rfl)
  · replace h := k_f cd h
    clear cd
    refine lv_aload_n hx hb dX9_keep_20 rfl (lv_at hl 0 rfl) ?_
    refine k_get hX hZ.1 0 9 rfl rfl iw_X9 7 rfl (wm_229) (v := .ref (a_o 5)) rfl dX9_keep_21 ?_
    refine lv_iconst (v := 4) hx hb dX9_keep_24 (by decide) ?_
    refine lv_iload_n hx hb dX9_keep_25 rfl (lv_at hl 1 rfl) ?_
    refine lv_imul hx hb dX9_keep_26 ?_
    refine lv_iload_n hx hb dX9_keep_27 rfl (lv_at hl 2 rfl) ?_
    refine lv_iadd hx hb dX9_keep_28 ?_
    refine lv_aload_n hx hb dX9_keep_29 rfl (lv_at hl 0 rfl) ?_
    refine k_get hX hZ.1 0 9 rfl rfl iw_X9 4 rfl (wm_118) (v := .ref (a_o 3)) rfl dX9_keep_30 ?_
    refine lv_iload_n hx hb dX9_keep_33 rfl (lv_at hl 2 rfl) ?_
    refine k_iald hX hZ.1 3 rfl h dX9_keep_34 (fun v2 h => ?_)
    refine k_iast (wf := (fun o => wd_X9 aC a_o o)) (o := s_o) hX hZ 5 7 rfl (fun _ => rfl) h dX9_keep_35 (fun o3 H locs hZ h => ?_)
    refine lv_iinc (v := (x2 + (1 : Int32))) (lv' := [(2, .int (x2 + (1 : Int32))), (0, .ref (a_o 0)), (1, .int x1)]) hx hb dX9_keep_36 hl (k := 2) rfl rfl (by decide) rfl (fun ls hl => ?_)
    refine lv_goto (tgt := 15) hx hb dX9_keep_39 (by decide) ?_
    exact hrec15 (x1, (x2 + (1 : Int32)), o3) h H locs ls hZ (lv_sub hl [1, 2, 0] rfl)
set_option maxHeartbeats 4000000 in
set_option maxRecDepth 100000 in
theorem t_X9_keep_J42 {p : Program} {l : Launch} {e : Env} {s : State} {m : MethodId} {args : Array Value} {below : List Frame} {meth : Method} {c : Code} {D : va_G} {aC : Nat → ClassId} {A : Nat → Prop} {a_o : Nat → Nat} {out : Int32 × Ob_T} (hX : K_X p s m args meth c cX9_keep 3 WL_ RX9 D aC A) (hr : meth.sig.returnType = (some .int)) (x1 : Int32) (s_o : Ob_T) (h : f_X9_keep_J42 x1 s_o = some out) (H : Heap) (locs : List Loc) (ls : Array Slot) (hZ : K_S D A s (wd_X9 aC a_o s_o) H locs) (hl : lv_has ls 3 [(0, .ref (a_o 0)), (1, .int x1)]) : W p l e (R_m 1 25) s m args below meth c H locs 0 0 (MQ below (Q_W (some (.int out.1)) D A (wd_X9 aC a_o out.2)) args s 0 0 A) (F0 m 42 ls []) := by
  obtain ⟨hx, hb, hml, hown, hts, hK, hA, hlk⟩ := id hX
  unfold f_X9_keep_J42 at h
  refine lv_aload_n hx hb dX9_keep_42 rfl (lv_at hl 0 rfl) ?_
  refine k_get hX hZ.1 0 9 rfl rfl iw_X9 8 rfl (wm_119) (v := .ref (a_o 6)) rfl dX9_keep_43 ?_
  refine lv_iload_n hx hb dX9_keep_46 rfl (lv_at hl 1 rfl) ?_
  refine lv_iconst (v := 1) hx hb dX9_keep_47 (by decide) ?_
  refine k_zast (wf := (fun o => wd_X9 aC a_o o)) (o := s_o) hX hZ 6 8 rfl (fun _ => rfl) h dX9_keep_48 (fun o4 H locs hZ h => ?_)
  refine lv_aload_n hx hb dX9_keep_49 rfl (lv_at hl 0 rfl) ?_
  obtain ⟨u5, hu, h⟩ := k_bd h
  refine k_vRs (As := []) (rest := []) (v := some (.int u5)) (st1 := [.int u5]) hX hl.1 hZ (c_X9_givenMany (a_o := a_o) o4 hu) (gv_ wm_218 wm_220 wm_221 wm_11 wm_219) rfl hd_X9_givenMany ⟨rfl, rfl⟩ 9 0 rfl rfl rfl rfl rfl dX9_keep_50 rfl ⟨rfl, rfl⟩ (fun locs hZ => ?_)
  clear hu
  cases h
  exact k_iretW hX hr hZ dX9_keep_53
set_option maxHeartbeats 4000000 in
set_option maxRecDepth 100000 in
theorem c_X9_keep {l : Launch} {D : va_G} {aC : Nat → ClassId} {a_o : Nat → Nat} (s_o : Ob_T) (x1 : Int32) {out : Int32 × Ob_T} (h : f_X9_keep s_o x1 = some out) : M_W l yX9_keep wlX9_keep 1 25 D aC [.ref (a_o 0), .int x1] (wd_X9 aC a_o s_o) (some (.int out.1)) (wd_X9 aC a_o out.2) := by
  refine k_entW (cc := cX9_keep) (ret := (some .int)) (maxL := 3) (own := RX9) (by decide) rfl rfl rfl ?_
  intro p e s m below meth c A ls hX hr hZ hl
  have hl : lv_has ls 3 [(0, .ref (a_o 0)), (1, .int x1)] := hl
  generalize ([.ref (a_o 0), .int x1] : List Value).toArray = args at hX ⊢
  obtain ⟨hx, hb, hml, hown, hts, hK, hA, hlk⟩ := id hX
  unfold f_X9_keep at h
  generalize s.heap = H at hZ ⊢
  generalize ([] : List Loc) = locs at hZ ⊢
  refine lv_iload_n hx hb dX9_keep_0 rfl (lv_at hl 1 rfl) ?_
  refine lv_i2l (v := x1.toInt64) hx hb dX9_keep_1 rfl ?_
  refine lv_lconst (v := 0) hx hb dX9_keep_2 (by decide) ?_
  refine lv_lconst (v := 1) hx hb dX9_keep_3 (by decide) ?_
  obtain ⟨u1, hu, h⟩ := k_bd h
  refine k_sR (As := [.long x1.toInt64, .long (0 : Int64), .long (1 : Int64)]) (rest := []) (wc := []) (v := some (.int u1)) (st1 := [.int u1]) hX hl.1 hZ (c_X9_in  x1.toInt64 (0 : Int64) (1 : Int64) hu) (gs_ wm_10 wm_13 wm_11 wm_12) rfl hd_X9_in ⟨rfl, rfl⟩ [] rfl rfl rfl rfl rfl dX9_keep_4 rfl ⟨rfl, rfl⟩ (fun locs hZ => ?_)
  clear hu
  refine lv_if_ne (tgt := 13) hx hb dX9_keep_7 (by decide) (fun cd => ?_) (fun cd => ?_)
  · replace h := k_f cd h
    clear cd
    refine lv_iconst (v := 0) hx hb dX9_keep_13 (by decide) ?_
    refine lv_istore_n (lv' := [(2, .int (0 : Int32)), (0, .ref (a_o 0)), (1, .int x1)]) hx hb dX9_keep_14 rfl hl (by decide) rfl (fun ls hl => ?_)
    exact Lp_ok (body := (fun (rec : (Int32 × Int32 × Ob_T) → Option (Int32 × Ob_T)) x => f_X9_keep_L15 (fun y1 t_o => f_X9_keep_J42 y1 t_o) rec x.1 x.2.1 x.2.2)) (out := out) (fun x => ∀ (H : Heap) (locs : List Loc) (ls : Array Slot), K_S D A s (wd_X9 aC a_o x.2.2) H locs → lv_has ls 3 [(0, .ref (a_o 0)), (1, .int x.1), (2, .int x.2.1)] → W p l e (R_m 1 25) s m args below meth c H locs 0 0 (MQ below (Q_W (some (.int out.1)) D A (wd_X9 aC a_o out.2)) args s 0 0 A) (F0 m 15 ls [])) (fun rec hrec x h H locs ls hZ hl => t_X9_keep_L15 hX hr (fun y1 t_o h H locs ls hZ hl => t_X9_keep_J42 hX hr y1 t_o h H locs ls hZ (lv_sub hl [0, 1] rfl)) hrec x.1 x.2.1 x.2.2 h H locs ls hZ hl) FU_ (x1, (0 : Int32), s_o) h H locs ls hZ (lv_sub hl [1, 2, 0] rfl)
  · replace h := k_t cd h
    clear cd
    refine lv_bipush (v := -2) hx hb dX9_keep_10 (by decide) ?_
    cases h
    exact k_iretW hX hr hZ dX9_keep_12
def wlX9_back : List Cond := .code yX9_back cX9_back 3 (some .int) :: WL_
theorem hd_X9_back : yX9_back.cls = RX9 ∧ yX9_back.cls ≠ "java/lang/invoke/MethodHandle" ∧ yX9_back.cls ≠ "java/lang/invoke/VarHandle" ∧ (parseMethodDescriptor yX9_back.desc).map (fun d => d.parameters.length) = some 1 := by decide +kernel
theorem dX9_back_0 : decode cX9_back 0 = .ok (.iload_n 1, 1) := by decide +kernel
theorem dX9_back_1 : decode cX9_back 1 = .ok (.i2l, 1) := by decide +kernel
theorem dX9_back_2 : decode cX9_back 2 = .ok (.lconst 0, 1) := by decide +kernel
theorem dX9_back_3 : decode cX9_back 3 = .ok (.lconst 1, 1) := by decide +kernel
theorem dX9_back_4 : decode cX9_back 4 = .ok (.invokestatic 97, 3) := by decide +kernel
theorem dX9_back_7 : decode cX9_back 7 = .ok (.ifCond .ne 6, 3) := by decide +kernel
theorem dX9_back_10 : decode cX9_back 10 = .ok (.bipush (-2), 2) := by decide +kernel
theorem dX9_back_12 : decode cX9_back 12 = .ok (.ireturn, 1) := by decide +kernel
theorem dX9_back_13 : decode cX9_back 13 = .ok (.aload_n 0, 1) := by decide +kernel
theorem dX9_back_14 : decode cX9_back 14 = .ok (.getfield 25, 3) := by decide +kernel
theorem dX9_back_17 : decode cX9_back 17 = .ok (.iload_n 1, 1) := by decide +kernel
theorem dX9_back_18 : decode cX9_back 18 = .ok (.baload, 1) := by decide +kernel
theorem dX9_back_19 : decode cX9_back 19 = .ok (.ifCond .ne 6, 3) := by decide +kernel
theorem dX9_back_22 : decode cX9_back 22 = .ok (.bipush (-4), 2) := by decide +kernel
theorem dX9_back_24 : decode cX9_back 24 = .ok (.ireturn, 1) := by decide +kernel
theorem dX9_back_25 : decode cX9_back 25 = .ok (.iconst 0, 1) := by decide +kernel
theorem dX9_back_26 : decode cX9_back 26 = .ok (.istore_n 2, 1) := by decide +kernel
theorem dX9_back_27 : decode cX9_back 27 = .ok (.iload_n 2, 1) := by decide +kernel
theorem dX9_back_28 : decode cX9_back 28 = .ok (.iconst 4, 1) := by decide +kernel
theorem dX9_back_29 : decode cX9_back 29 = .ok (.if_icmp .ge 25, 3) := by decide +kernel
theorem dX9_back_32 : decode cX9_back 32 = .ok (.aload_n 0, 1) := by decide +kernel
theorem dX9_back_33 : decode cX9_back 33 = .ok (.getfield 16, 3) := by decide +kernel
theorem dX9_back_36 : decode cX9_back 36 = .ok (.iload_n 2, 1) := by decide +kernel
theorem dX9_back_37 : decode cX9_back 37 = .ok (.aload_n 0, 1) := by decide +kernel
theorem dX9_back_38 : decode cX9_back 38 = .ok (.getfield 22, 3) := by decide +kernel
theorem dX9_back_41 : decode cX9_back 41 = .ok (.iconst 4, 1) := by decide +kernel
theorem dX9_back_42 : decode cX9_back 42 = .ok (.iload_n 1, 1) := by decide +kernel
theorem dX9_back_43 : decode cX9_back 43 = .ok (.imul, 1) := by decide +kernel
theorem dX9_back_44 : decode cX9_back 44 = .ok (.iload_n 2, 1) := by decide +kernel
theorem dX9_back_45 : decode cX9_back 45 = .ok (.iadd, 1) := by decide +kernel
theorem dX9_back_46 : decode cX9_back 46 = .ok (.iaload, 1) := by decide +kernel
theorem dX9_back_47 : decode cX9_back 47 = .ok (.iastore, 1) := by decide +kernel
theorem dX9_back_48 : decode cX9_back 48 = .ok (.iinc 2 1, 3) := by decide +kernel
theorem dX9_back_51 : decode cX9_back 51 = .ok (.goto (-24), 3) := by decide +kernel
theorem dX9_back_54 : decode cX9_back 54 = .ok (.aload_n 0, 1) := by decide +kernel
theorem dX9_back_55 : decode cX9_back 55 = .ok (.iconst 0, 1) := by decide +kernel
theorem dX9_back_56 : decode cX9_back 56 = .ok (.putfield 182, 3) := by decide +kernel
theorem dX9_back_59 : decode cX9_back 59 = .ok (.aload_n 0, 1) := by decide +kernel
theorem dX9_back_60 : decode cX9_back 60 = .ok (.invokevirtual 314, 3) := by decide +kernel
theorem dX9_back_63 : decode cX9_back 63 = .ok (.ireturn, 1) := by decide +kernel
set_option maxHeartbeats 4000000 in
set_option maxRecDepth 100000 in
theorem t_X9_back_L27 {p : Program} {l : Launch} {e : Env} {s : State} {m : MethodId} {args : Array Value} {below : List Frame} {meth : Method} {c : Code} {D : va_G} {aC : Nat → ClassId} {A : Nat → Prop} {a_o : Nat → Nat} {out : Int32 × Ob_T} {k54 : Ob_T → Option (Int32 × Ob_T)} {rec27 : (Int32 × Int32 × Ob_T) → Option (Int32 × Ob_T)} (hX : K_X p s m args meth c cX9_back 3 WL_ RX9 D aC A) (hr : meth.sig.returnType = (some .int)) (hk54 : ∀ (t_o : Ob_T), k54 t_o = some out → ∀ (H : Heap) (locs : List Loc) (ls : Array Slot), K_S D A s (wd_X9 aC a_o t_o) H locs → lv_has ls 3 [(0, .ref (a_o 0))] → W p l e (R_m 1 25) s m args below meth c H locs 0 0 (MQ below (Q_W (some (.int out.1)) D A (wd_X9 aC a_o out.2)) args s 0 0 A) (F0 m 54 ls [])) (hrec27 : ∀ x : Int32 × Int32 × Ob_T, rec27 x = some out → ∀ (H : Heap) (locs : List Loc) (ls : Array Slot), K_S D A s (wd_X9 aC a_o x.2.2) H locs → lv_has ls 3 [(0, .ref (a_o 0)), (1, .int x.1), (2, .int x.2.1)] → W p l e (R_m 1 25) s m args below meth c H locs 0 0 (MQ below (Q_W (some (.int out.1)) D A (wd_X9 aC a_o out.2)) args s 0 0 A) (F0 m 27 ls [])) (x1 : Int32) (x2 : Int32) (s_o : Ob_T) (h : f_X9_back_L27 k54 rec27 x1 x2 s_o = some out) (H : Heap) (locs : List Loc) (ls : Array Slot) (hZ : K_S D A s (wd_X9 aC a_o s_o) H locs) (hl : lv_has ls 3 [(0, .ref (a_o 0)), (1, .int x1), (2, .int x2)]) : W p l e (R_m 1 25) s m args below meth c H locs 0 0 (MQ below (Q_W (some (.int out.1)) D A (wd_X9 aC a_o out.2)) args s 0 0 A) (F0 m 27 ls []) := by
  obtain ⟨hx, hb, hml, hown, hts, hK, hA, hlk⟩ := id hX
  unfold f_X9_back_L27 at h
  refine lv_iload_n hx hb dX9_back_27 rfl (lv_at hl 2 rfl) ?_
  refine lv_iconst (v := 4) hx hb dX9_back_28 (by decide) ?_
  refine lv_icmp_ge (tgt := 54) hx hb dX9_back_29 (by decide) (fun cd => ?_) (fun cd => ?_)
  · replace h := k_t cd h
    clear cd
    exact hk54 s_o h H locs ls hZ (lv_sub hl [0] rfl)
  · replace h := k_f cd h
    clear cd
    refine lv_aload_n hx hb dX9_back_32 rfl (lv_at hl 0 rfl) ?_
    refine k_get hX hZ.1 0 9 rfl rfl iw_X9 4 rfl (wm_118) (v := .ref (a_o 3)) rfl dX9_back_33 ?_
    refine lv_iload_n hx hb dX9_back_36 rfl (lv_at hl 2 rfl) ?_
    refine lv_aload_n hx hb dX9_back_37 rfl (lv_at hl 0 rfl) ?_
    refine k_get hX hZ.1 0 9 rfl rfl iw_X9 7 rfl (wm_229) (v := .ref (a_o 5)) rfl dX9_back_38 ?_
    refine lv_iconst (v := 4) hx hb dX9_back_41 (by decide) ?_
    refine lv_iload_n hx hb dX9_back_42 rfl (lv_at hl 1 rfl) ?_
    refine lv_imul hx hb dX9_back_43 ?_
    refine lv_iload_n hx hb dX9_back_44 rfl (lv_at hl 2 rfl) ?_
    refine lv_iadd hx hb dX9_back_45 ?_
    refine k_iald hX hZ.1 5 rfl h dX9_back_46 (fun v3 h => ?_)
    refine k_iast (wf := (fun o => wd_X9 aC a_o o)) (o := s_o) hX hZ 3 4 rfl (fun _ => rfl) h dX9_back_47 (fun o4 H locs hZ h => ?_)
    refine lv_iinc (v := (x2 + (1 : Int32))) (lv' := [(2, .int (x2 + (1 : Int32))), (0, .ref (a_o 0)), (1, .int x1)]) hx hb dX9_back_48 hl (k := 2) rfl rfl (by decide) rfl (fun ls hl => ?_)
    refine lv_goto (tgt := 27) hx hb dX9_back_51 (by decide) ?_
    exact hrec27 (x1, (x2 + (1 : Int32)), o4) h H locs ls hZ (lv_sub hl [1, 2, 0] rfl)
set_option maxHeartbeats 4000000 in
set_option maxRecDepth 100000 in
theorem t_X9_back_J54 {p : Program} {l : Launch} {e : Env} {s : State} {m : MethodId} {args : Array Value} {below : List Frame} {meth : Method} {c : Code} {D : va_G} {aC : Nat → ClassId} {A : Nat → Prop} {a_o : Nat → Nat} {out : Int32 × Ob_T} (hX : K_X p s m args meth c cX9_back 3 WL_ RX9 D aC A) (hr : meth.sig.returnType = (some .int)) (s_o : Ob_T) (h : f_X9_back_J54 s_o = some out) (H : Heap) (locs : List Loc) (ls : Array Slot) (hZ : K_S D A s (wd_X9 aC a_o s_o) H locs) (hl : lv_has ls 3 [(0, .ref (a_o 0))]) : W p l e (R_m 1 25) s m args below meth c H locs 0 0 (MQ below (Q_W (some (.int out.1)) D A (wd_X9 aC a_o out.2)) args s 0 0 A) (F0 m 54 ls []) := by
  obtain ⟨hx, hb, hml, hown, hts, hK, hA, hlk⟩ := id hX
  unfold f_X9_back_J54 at h
  refine lv_aload_n hx hb dX9_back_54 rfl (lv_at hl 0 rfl) ?_
  refine lv_iconst (v := 0) hx hb dX9_back_55 (by decide) ?_
  refine k_put (wf := (fun o => wd_X9 aC a_o o)) (o := s_o) hX hZ 0 9 rfl rfl iw_X9 tyX9 tyX9_ok nmX9 6 rfl (wm_122) rfl rfl rfl rfl rfl h dX9_back_56 (fun o5 H locs hZ h => ?_)
  refine lv_aload_n hx hb dX9_back_59 rfl (lv_at hl 0 rfl) ?_
  obtain ⟨u6, hu, h⟩ := k_bd h
  refine k_vRs (As := []) (rest := []) (v := some (.int u6)) (st1 := [.int u6]) hX hl.1 hZ (c_X9_givenMany (a_o := a_o) o5 hu) (gv_ wm_218 wm_220 wm_221 wm_11 wm_219) rfl hd_X9_givenMany ⟨rfl, rfl⟩ 9 0 rfl rfl rfl rfl rfl dX9_back_60 rfl ⟨rfl, rfl⟩ (fun locs hZ => ?_)
  clear hu
  cases h
  exact k_iretW hX hr hZ dX9_back_63
set_option maxHeartbeats 4000000 in
set_option maxRecDepth 100000 in
theorem c_X9_back {l : Launch} {D : va_G} {aC : Nat → ClassId} {a_o : Nat → Nat} (s_o : Ob_T) (x1 : Int32) {out : Int32 × Ob_T} (h : f_X9_back s_o x1 = some out) : M_W l yX9_back wlX9_back 1 25 D aC [.ref (a_o 0), .int x1] (wd_X9 aC a_o s_o) (some (.int out.1)) (wd_X9 aC a_o out.2) := by
  refine k_entW (cc := cX9_back) (ret := (some .int)) (maxL := 3) (own := RX9) (by decide) rfl rfl rfl ?_
  intro p e s m below meth c A ls hX hr hZ hl
  have hl : lv_has ls 3 [(0, .ref (a_o 0)), (1, .int x1)] := hl
  generalize ([.ref (a_o 0), .int x1] : List Value).toArray = args at hX ⊢
  obtain ⟨hx, hb, hml, hown, hts, hK, hA, hlk⟩ := id hX
  unfold f_X9_back at h
  generalize s.heap = H at hZ ⊢
  generalize ([] : List Loc) = locs at hZ ⊢
  refine lv_iload_n hx hb dX9_back_0 rfl (lv_at hl 1 rfl) ?_
  refine lv_i2l (v := x1.toInt64) hx hb dX9_back_1 rfl ?_
  refine lv_lconst (v := 0) hx hb dX9_back_2 (by decide) ?_
  refine lv_lconst (v := 1) hx hb dX9_back_3 (by decide) ?_
  obtain ⟨u1, hu, h⟩ := k_bd h
  refine k_sR (As := [.long x1.toInt64, .long (0 : Int64), .long (1 : Int64)]) (rest := []) (wc := []) (v := some (.int u1)) (st1 := [.int u1]) hX hl.1 hZ (c_X9_in  x1.toInt64 (0 : Int64) (1 : Int64) hu) (gs_ wm_10 wm_13 wm_11 wm_12) rfl hd_X9_in ⟨rfl, rfl⟩ [] rfl rfl rfl rfl rfl dX9_back_4 rfl ⟨rfl, rfl⟩ (fun locs hZ => ?_)
  clear hu
  refine lv_if_ne (tgt := 13) hx hb dX9_back_7 (by decide) (fun cd => ?_) (fun cd => ?_)
  · replace h := k_f cd h
    clear cd
    refine lv_aload_n hx hb dX9_back_13 rfl (lv_at hl 0 rfl) ?_
    refine k_get hX hZ.1 0 9 rfl rfl iw_X9 8 rfl (wm_119) (v := .ref (a_o 6)) rfl dX9_back_14 ?_
    refine lv_iload_n hx hb dX9_back_17 rfl (lv_at hl 1 rfl) ?_
    refine k_zald hX hZ.1 6 rfl h dX9_back_18 (fun v2 h => ?_)
    refine lv_if_ne (tgt := 25) hx hb dX9_back_19 (by decide) (fun cd => ?_) (fun cd => ?_)
    · replace h := k_f cd h
      clear cd
      refine lv_iconst (v := 0) hx hb dX9_back_25 (by decide) ?_
      refine lv_istore_n (lv' := [(2, .int (0 : Int32)), (0, .ref (a_o 0)), (1, .int x1)]) hx hb dX9_back_26 rfl hl (by decide) rfl (fun ls hl => ?_)
      exact Lp_ok (body := (fun (rec : (Int32 × Int32 × Ob_T) → Option (Int32 × Ob_T)) x => f_X9_back_L27 (fun t_o => f_X9_back_J54 t_o) rec x.1 x.2.1 x.2.2)) (out := out) (fun x => ∀ (H : Heap) (locs : List Loc) (ls : Array Slot), K_S D A s (wd_X9 aC a_o x.2.2) H locs → lv_has ls 3 [(0, .ref (a_o 0)), (1, .int x.1), (2, .int x.2.1)] → W p l e (R_m 1 25) s m args below meth c H locs 0 0 (MQ below (Q_W (some (.int out.1)) D A (wd_X9 aC a_o out.2)) args s 0 0 A) (F0 m 27 ls [])) (fun rec hrec x h H locs ls hZ hl => t_X9_back_L27 hX hr (fun t_o h H locs ls hZ hl => t_X9_back_J54 hX hr t_o h H locs ls hZ (lv_sub hl [0] rfl)) hrec x.1 x.2.1 x.2.2 h H locs ls hZ hl) FU_ (x1, (0 : Int32), s_o) h H locs ls hZ (lv_sub hl [1, 2, 0] rfl)
    · replace h := k_t cd h
      clear cd
      refine lv_bipush (v := -4) hx hb dX9_back_22 (by decide) ?_
      cases h
      exact k_iretW hX hr hZ dX9_back_24
  · replace h := k_t cd h
    clear cd
    refine lv_bipush (v := -2) hx hb dX9_back_10 (by decide) ?_
    cases h
    exact k_iretW hX hr hZ dX9_back_12
