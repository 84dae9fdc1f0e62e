def wlX9_becomeAlike : List Cond := .code yX9_becomeAlike cX9_becomeAlike 6 none :: WL_
theorem hd_X9_becomeAlike : yX9_becomeAlike.cls = RX9 ∧ yX9_becomeAlike.cls ≠ "java/lang/invoke/MethodHandle" ∧ yX9_becomeAlike.cls ≠ "java/lang/invoke/VarHandle" ∧ (parseMethodDescriptor yX9_becomeAlike.desc).map (fun d => d.parameters.length) = some 2 := by decide +kernel
theorem dX9_becomeAlike_0 : decode cX9_becomeAlike 0 = .ok (.iload_n 1, 1) := by decide +kernel
theorem dX9_becomeAlike_1 : decode cX9_becomeAlike 1 = .ok (.iload_n 2, 1) := by decide +kernel
theorem dX9_becomeAlike_2 : decode cX9_becomeAlike 2 = .ok (.if_icmp .ge 7, 3) := by decide +kernel
theorem dX9_becomeAlike_5 : decode cX9_becomeAlike 5 = .ok (.iload_n 1, 1) := by decide +kernel
theorem dX9_becomeAlike_6 : decode cX9_becomeAlike 6 = .ok (.goto 4, 3) := by decide +kernel
theorem dX9_becomeAlike_9 : decode cX9_becomeAlike 9 = .ok (.iload_n 2, 1) := by decide +kernel
theorem dX9_becomeAlike_10 : decode cX9_becomeAlike 10 = .ok (.istore_n 3, 1) := by decide +kernel
theorem dX9_becomeAlike_11 : decode cX9_becomeAlike 11 = .ok (.iload_n 1, 1) := by decide +kernel
theorem dX9_becomeAlike_12 : decode cX9_becomeAlike 12 = .ok (.iload_n 2, 1) := by decide +kernel
theorem dX9_becomeAlike_13 : decode cX9_becomeAlike 13 = .ok (.if_icmp .ge 7, 3) := by decide +kernel
theorem dX9_becomeAlike_16 : decode cX9_becomeAlike 16 = .ok (.iload_n 2, 1) := by decide +kernel
theorem dX9_becomeAlike_17 : decode cX9_becomeAlike 17 = .ok (.goto 4, 3) := by decide +kernel
theorem dX9_becomeAlike_20 : decode cX9_becomeAlike 20 = .ok (.iload_n 1, 1) := by decide +kernel
theorem dX9_becomeAlike_21 : decode cX9_becomeAlike 21 = .ok (.istore 4, 2) := by decide +kernel
theorem dX9_becomeAlike_23 : decode cX9_becomeAlike 23 = .ok (.iconst 0, 1) := by decide +kernel
theorem dX9_becomeAlike_24 : decode cX9_becomeAlike 24 = .ok (.istore 5, 2) := by decide +kernel
theorem dX9_becomeAlike_26 : decode cX9_becomeAlike 26 = .ok (.iload 5, 2) := by decide +kernel
theorem dX9_becomeAlike_28 : decode cX9_becomeAlike 28 = .ok (.bipush 14, 2) := by decide +kernel
theorem dX9_becomeAlike_30 : decode cX9_becomeAlike 30 = .ok (.if_icmp .ge 39, 3) := by decide +kernel
theorem dX9_becomeAlike_33 : decode cX9_becomeAlike 33 = .ok (.aload_n 0, 1) := by decide +kernel
theorem dX9_becomeAlike_34 : decode cX9_becomeAlike 34 = .ok (.getfield 74, 3) := by decide +kernel
theorem dX9_becomeAlike_37 : decode cX9_becomeAlike 37 = .ok (.iload 5, 2) := by decide +kernel
theorem dX9_becomeAlike_39 : decode cX9_becomeAlike 39 = .ok (.aload_n 0, 1) := by decide +kernel
theorem dX9_becomeAlike_40 : decode cX9_becomeAlike 40 = .ok (.getfield 74, 3) := by decide +kernel
theorem dX9_becomeAlike_43 : decode cX9_becomeAlike 43 = .ok (.iload 5, 2) := by decide +kernel
theorem dX9_becomeAlike_45 : decode cX9_becomeAlike 45 = .ok (.iaload, 1) := by decide +kernel
theorem dX9_becomeAlike_46 : decode cX9_becomeAlike 46 = .ok (.iload 4, 2) := by decide +kernel
theorem dX9_becomeAlike_48 : decode cX9_becomeAlike 48 = .ok (.if_icmp .ne 7, 3) := by decide +kernel
theorem dX9_becomeAlike_51 : decode cX9_becomeAlike 51 = .ok (.iload_n 3, 1) := by decide +kernel
theorem dX9_becomeAlike_52 : decode cX9_becomeAlike 52 = .ok (.goto 10, 3) := by decide +kernel
theorem dX9_becomeAlike_55 : decode cX9_becomeAlike 55 = .ok (.aload_n 0, 1) := by decide +kernel
theorem dX9_becomeAlike_56 : decode cX9_becomeAlike 56 = .ok (.getfield 74, 3) := by decide +kernel
theorem dX9_becomeAlike_59 : decode cX9_becomeAlike 59 = .ok (.iload 5, 2) := by decide +kernel
theorem dX9_becomeAlike_61 : decode cX9_becomeAlike 61 = .ok (.iaload, 1) := by decide +kernel
theorem dX9_becomeAlike_62 : decode cX9_becomeAlike 62 = .ok (.iastore, 1) := by decide +kernel
theorem dX9_becomeAlike_63 : decode cX9_becomeAlike 63 = .ok (.iinc 5 1, 3) := by decide +kernel
theorem dX9_becomeAlike_66 : decode cX9_becomeAlike 66 = .ok (.goto (-40), 3) := by decide +kernel
theorem dX9_becomeAlike_69 : decode cX9_becomeAlike 69 = .ok (.return_, 1) := by decide +kernel
set_option maxHeartbeats 4000000 in
set_option maxRecDepth 100000 in
theorem t_X9_becomeAlike_J62 {p : Program} {l : Launch} {e : Env} {s : State} {m : MethodId} {args : Array Value} {below : List Frame} {meth : Method} {c : Code} {D : va_G} {aC : Nat → ClassId} {A : Nat → Prop} {a_o : Nat → Nat} {out : Ob_T} {rec26 : (Int32 × Int32 × Int32 × Ob_T) → Option Ob_T} (hX : K_X p s m args meth c cX9_becomeAlike 6 WL_ RX9 D aC A) (hr : meth.sig.returnType = none) (hrec26 : ∀ x : Int32 × Int32 × Int32 × Ob_T, rec26 x = some out → ∀ (H : Heap) (locs : List Loc) (ls : Array Slot), K_S D A s (wd_X9 aC a_o x.2.2.2) H locs → lv_has ls 6 [(0, .ref (a_o 0)), (3, .int x.1), (4, .int x.2.1), (5, .int x.2.2.1)] → W p l e (R_m 0 0) s m args below meth c H locs 0 0 (MQ below (Q_W (none) D A (wd_X9 aC a_o out)) args s 0 0 A) (F0 m 26 ls [])) (x3 : Int32) (x4 : Int32) (x5 : Int32) (k1 : Int32) (k2 : Int32) (s_o : Ob_T) (h : f_X9_becomeAlike_J62 rec26 x3 x4 x5 k1 k2 s_o = some out) (H : Heap) (locs : List Loc) (ls : Array Slot) (hZ : K_S D A s (wd_X9 aC a_o s_o) H locs) (hl : lv_has ls 6 [(0, .ref (a_o 0)), (3, .int x3), (4, .int x4), (5, .int x5)]) : W p l e (R_m 0 0) s m args below meth c H locs 0 0 (MQ below (Q_W (none) D A (wd_X9 aC a_o out)) args s 0 0 A) (F0 m 62 ls [.int k2, .int k1, .ref (a_o 22)]) := by
  obtain ⟨hx, hb, hml, hown, hts, hK, hA, hlk⟩ := id hX
  unfold f_X9_becomeAlike_J62 at h
  refine k_iast (wf := (fun o => wd_X9 aC a_o o)) (o := s_o) hX hZ 22 31 rfl (fun _ => rfl) h dX9_becomeAlike_62 (fun o3 H locs hZ h => ?_)
  refine lv_iinc (v := (x5 + (1 : Int32))) (lv' := [(5, .int (x5 + (1 : Int32))), (0, .ref (a_o 0)), (3, .int x3), (4, .int x4)]) hx hb dX9_becomeAlike_63 hl (k := 3) rfl rfl (by decide) rfl (fun ls hl => ?_)
  refine lv_goto (tgt := 26) hx hb dX9_becomeAlike_66 (by decide) ?_
  exact hrec26 (x3, x4, (x5 + (1 : Int32)), o3) h H locs ls hZ (lv_sub hl [1, 2, 3, 0] rfl)
set_option maxHeartbeats 4000000 in
set_option maxRecDepth 100000 in
theorem t_X9_becomeAlike_L26 {p : Program} {l : Launch} {e : Env} {s : State} {m : MethodId} {args : Array Value} {below : List Frame} {meth : Method} {c : Code} {D : va_G} {aC : Nat → ClassId} {A : Nat → Prop} {a_o : Nat → Nat} {out : Ob_T} {rec26 : (Int32 × Int32 × Int32 × Ob_T) → Option Ob_T} (hX : K_X p s m args meth c cX9_becomeAlike 6 WL_ RX9 D aC A) (hr : meth.sig.returnType = none) (hrec26 : ∀ x : Int32 × Int32 × Int32 × Ob_T, rec26 x = some out → ∀ (H : Heap) (locs : List Loc) (ls : Array Slot), K_S D A s (wd_X9 aC a_o x.2.2.2) H locs → lv_has ls 6 [(0, .ref (a_o 0)), (3, .int x.1), (4, .int x.2.1), (5, .int x.2.2.1)] → W p l e (R_m 0 0) s m args below meth c H locs 0 0 (MQ below (Q_W (none) D A (wd_X9 aC a_o out)) args s 0 0 A) (F0 m 26 ls [])) (x3 : Int32) (x4 : Int32) (x5 : Int32) (s_o : Ob_T) (h : f_X9_becomeAlike_L26 rec26 x3 x4 x5 s_o = some out) (H : Heap) (locs : List Loc) (ls : Array Slot) (hZ : K_S D A s (wd_X9 aC a_o s_o) H locs) (hl : lv_has ls 6 [(0, .ref (a_o 0)), (3, .int x3), (4, .int x4), (5, .int x5)]) : W p l e (R_m 0 0) s m args below meth c H locs 0 0 (MQ below (Q_W (none) D A (wd_X9 aC a_o out)) args s 0 0 A) (F0 m 26 ls []) := by
  obtain ⟨hx, hb, hml, hown, hts, hK, hA, hlk⟩ := id hX
  unfold f_X9_becomeAlike_L26 at h
  refine lv_iload hx hb dX9_becomeAlike_26 (lv_at hl 3 rfl) ?_
  refine lv_bipush (v := 14) hx hb dX9_becomeAlike_28 (by decide) ?_
  refine lv_icmp_ge (tgt := 69) hx hb dX9_becomeAlike_30 (by decide) (fun cd => ?_) (fun cd => ?_)
  · replace h := k_t cd h
    clear cd
    cases h
    exact k_vretW hX hr hZ dX9_becomeAlike_69
  · replace h := k_f cd h
    clear cd
    refine lv_aload_n hx hb dX9_becomeAlike_33 rfl (lv_at hl 0 rfl) ?_
    refine k_get hX hZ.1 0 9 rfl rfl iw_X9 31 rfl (wm_123) (v := .ref (a_o 22)) rfl dX9_becomeAlike_34 ?_
    refine lv_iload hx hb dX9_becomeAlike_37 (lv_at hl 3 rfl) ?_
    refine lv_aload_n hx hb dX9_becomeAlike_39 rfl (lv_at hl 0 rfl) ?_
    refine k_get hX hZ.1 0 9 rfl rfl iw_X9 31 rfl (wm_123) (v := .ref (a_o 22)) rfl dX9_becomeAlike_40 ?_
    refine lv_iload hx hb dX9_becomeAlike_43 (lv_at hl 3 rfl) ?_
    refine k_iald hX hZ.1 22 rfl h dX9_becomeAlike_45 (fun v1 h => ?_)
    refine lv_iload hx hb dX9_becomeAlike_46 (lv_at hl 2 rfl) ?_
    refine lv_icmp_ne (tgt := 55) hx hb dX9_becomeAlike_48 (by decide) (fun cd => ?_) (fun cd => ?_)
    · replace h := k_f cd h
      clear cd
      refine lv_aload_n hx hb dX9_becomeAlike_55 rfl (lv_at hl 0 rfl) ?_
      refine k_get hX hZ.1 0 9 rfl rfl iw_X9 31 rfl (wm_123) (v := .ref (a_o 22)) rfl dX9_becomeAlike_56 ?_
      refine lv_iload hx hb dX9_becomeAlike_59 (lv_at hl 3 rfl) ?_
      refine k_iald hX hZ.1 22 rfl h dX9_becomeAlike_61 (fun v2 h => ?_)
      exact t_X9_becomeAlike_J62 hX hr hrec26 x3 x4 x5 x5 v2 s_o h H locs ls hZ (lv_sub hl [0, 1, 2, 3] rfl)
    · replace h := k_t cd h
      clear cd
      refine lv_iload_n hx hb dX9_becomeAlike_51 rfl (lv_at hl 1 rfl) ?_
      refine lv_goto (tgt := 62) hx hb dX9_becomeAlike_52 (by decide) ?_
      exact t_X9_becomeAlike_J62 hX hr hrec26 x3 x4 x5 x5 x3 s_o h H locs ls hZ (lv_sub hl [0, 1, 2, 3] rfl)
set_option maxHeartbeats 4000000 in
set_option maxRecDepth 100000 in
theorem t_X9_becomeAlike_J21 {p : Program} {l : Launch} {e : Env} {s : State} {m : MethodId} {args : Array Value} {below : List Frame} {meth : Method} {c : Code} {D : va_G} {aC : Nat → ClassId} {A : Nat → Prop} {a_o : Nat → Nat} {out : Ob_T} (hX : K_X p s m args meth c cX9_becomeAlike 6 WL_ RX9 D aC A) (hr : meth.sig.returnType = none) (x3 : Int32) (k0 : Int32) (s_o : Ob_T) (h : f_X9_becomeAlike_J21 x3 k0 s_o = some out) (H : Heap) (locs : List Loc) (ls : Array Slot) (hZ : K_S D A s (wd_X9 aC a_o s_o) H locs) (hl : lv_has ls 6 [(0, .ref (a_o 0)), (3, .int x3)]) : W p l e (R_m 0 0) s m args below meth c H locs 0 0 (MQ below (Q_W (none) D A (wd_X9 aC a_o out)) args s 0 0 A) (F0 m 21 ls [.int k0]) := by
  obtain ⟨hx, hb, hml, hown, hts, hK, hA, hlk⟩ := id hX
  unfold f_X9_becomeAlike_J21 at h
  refine lv_istore (lv' := [(4, .int k0), (0, .ref (a_o 0)), (3, .int x3)]) hx hb dX9_becomeAlike_21 hl (by decide) rfl (fun ls hl => ?_)
  refine lv_iconst (v := 0) hx hb dX9_becomeAlike_23 (by decide) ?_
  refine lv_istore (lv' := [(5, .int (0 : Int32)), (4, .int k0), (0, .ref (a_o 0)), (3, .int x3)]) hx hb dX9_becomeAlike_24 hl (by decide) rfl (fun ls hl => ?_)
  exact Lp_ok (body := (fun (rec : (Int32 × Int32 × Int32 × Ob_T) → Option Ob_T) x => f_X9_becomeAlike_L26 rec x.1 x.2.1 x.2.2.1 x.2.2.2)) (out := out) (fun x => ∀ (H : Heap) (locs : List Loc) (ls : Array Slot), K_S D A s (wd_X9 aC a_o x.2.2.2) H locs → lv_has ls 6 [(0, .ref (a_o 0)), (3, .int x.1), (4, .int x.2.1), (5, .int x.2.2.1)] → W p l e (R_m 0 0) s m args below meth c H locs 0 0 (MQ below (Q_W (none) D A (wd_X9 aC a_o out)) args s 0 0 A) (F0 m 26 ls [])) (fun rec hrec x h H locs ls hZ hl => t_X9_becomeAlike_L26 hX hr hrec x.1 x.2.1 x.2.2.1 x.2.2.2 h H locs ls hZ hl) FU_ (x3, k0, (0 : Int32), s_o) h H locs ls hZ (lv_sub hl [2, 3, 1, 0] rfl)
set_option maxHeartbeats 4000000 in
set_option maxRecDepth 100000 in
theorem t_X9_becomeAlike_J10 {p : Program} {l : Launch} {e : Env} {s : State} {m : MethodId} {args : Array Value} {below : List Frame} {meth : Method} {c : Code} {D : va_G} {aC : Nat → ClassId} {A : Nat → Prop} {a_o : Nat → Nat} {out : Ob_T} (hX : K_X p s m args meth c cX9_becomeAlike 6 WL_ RX9 D aC A) (hr : meth.sig.returnType = none) (x1 : Int32) (x2 : Int32) (k0 : Int32) (s_o : Ob_T) (h : f_X9_becomeAlike_J10 x1 x2 k0 s_o = some out) (H : Heap) (locs : List Loc) (ls : Array Slot) (hZ : K_S D A s (wd_X9 aC a_o s_o) H locs) (hl : lv_has ls 6 [(0, .ref (a_o 0)), (1, .int x1), (2, .int x2)]) : W p l e (R_m 0 0) s m args below meth c H locs 0 0 (MQ below (Q_W (none) D A (wd_X9 aC a_o out)) args s 0 0 A) (F0 m 10 ls [.int k0]) := by
  obtain ⟨hx, hb, hml, hown, hts, hK, hA, hlk⟩ := id hX
  unfold f_X9_becomeAlike_J10 at h
  refine lv_istore_n (lv' := [(3, .int k0), (0, .ref (a_o 0)), (1, .int x1), (2, .int x2)]) hx hb dX9_becomeAlike_10 rfl hl (by decide) rfl (fun ls hl => ?_)
  refine lv_iload_n hx hb dX9_becomeAlike_11 rfl (lv_at hl 2 rfl) ?_
  refine lv_iload_n hx hb dX9_becomeAlike_12 rfl (lv_at hl 3 rfl) ?_
  refine lv_icmp_ge (tgt := 20) hx hb dX9_becomeAlike_13 (by decide) (fun cd => ?_) (fun cd => ?_)
  · replace h := k_t cd h
    clear cd
    refine lv_iload_n hx hb dX9_becomeAlike_20 rfl (lv_at hl 2 rfl) ?_
    exact t_X9_becomeAlike_J21 hX hr k0 x1 s_o h H locs ls hZ (lv_sub hl [1, 0] rfl)
  · replace h := k_f cd h
    clear cd
    refine lv_iload_n hx hb dX9_becomeAlike_16 rfl (lv_at hl 3 rfl) ?_
    refine lv_goto (tgt := 21) hx hb dX9_becomeAlike_17 (by decide) ?_
    exact t_X9_becomeAlike_J21 hX hr k0 x2 s_o h H locs ls hZ (lv_sub hl [1, 0] rfl)
set_option maxHeartbeats 4000000 in
set_option maxRecDepth 100000 in
theorem c_X9_becomeAlike {l : Launch} {D : va_G} {aC : Nat → ClassId} {a_o : Nat → Nat} (s_o : Ob_T) (x1 : Int32) (x2 : Int32) {out : Ob_T} (h : f_X9_becomeAlike s_o x1 x2 = some out) : M_W l yX9_becomeAlike wlX9_becomeAlike 0 0 D aC [.ref (a_o 0), .int x1, .int x2] (wd_X9 aC a_o s_o) (none) (wd_X9 aC a_o out) := by
  refine k_entW (cc := cX9_becomeAlike) (ret := none) (maxL := 6) (own := RX9) (by decide) rfl rfl rfl ?_
  intro p e s m below meth c A ls hX hr hZ hl
  have hl : lv_has ls 6 [(0, .ref (a_o 0)), (1, .int x1), (2, .int x2)] := hl
  generalize ([.ref (a_o 0), .int x1, .int x2] : List Value).toArray = args at hX ⊢
  obtain ⟨hx, hb, hml, hown, hts, hK, hA, hlk⟩ := id hX
  unfold f_X9_becomeAlike at h
  generalize s.heap = H at hZ ⊢
  generalize ([] : List Loc) = locs at hZ ⊢
  refine lv_iload_n hx hb dX9_becomeAlike_0 rfl (lv_at hl 1 rfl) ?_
  refine lv_iload_n hx hb dX9_becomeAlike_1 rfl (lv_at hl 2 rfl) ?_
  refine lv_icmp_ge (tgt := 9) hx hb dX9_becomeAlike_2 (by decide) (fun cd => ?_) (fun cd => ?_)
  · replace h := k_t cd h
    clear cd
    refine lv_iload_n hx hb dX9_becomeAlike_9 rfl (lv_at hl 2 rfl) ?_
    exact t_X9_becomeAlike_J10 hX hr x1 x2 x2 s_o h H locs ls hZ (lv_sub hl [0, 1, 2] rfl)
  · replace h := k_f cd h
    clear cd
    refine lv_iload_n hx hb dX9_becomeAlike_5 rfl (lv_at hl 1 rfl) ?_
    refine lv_goto (tgt := 10) hx hb dX9_becomeAlike_6 (by decide) ?_
    exact t_X9_becomeAlike_J10 hX hr x1 x2 x1 s_o h H locs ls hZ (lv_sub hl [0, 1, 2] rfl)
