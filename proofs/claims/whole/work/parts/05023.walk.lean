def wlX9_isAlmostKnown : List Cond := .code yX9_isAlmostKnown cX9_isAlmostKnown 2 (some .boolean) :: WL_
theorem hd_X9_isAlmostKnown : yX9_isAlmostKnown.cls = RX9 ∧ yX9_isAlmostKnown.cls ≠ "java/lang/invoke/MethodHandle" ∧ yX9_isAlmostKnown.cls ≠ "java/lang/invoke/VarHandle" ∧ (parseMethodDescriptor yX9_isAlmostKnown.desc).map (fun d => d.parameters.length) = some 0 := by decide +kernel
theorem dX9_isAlmostKnown_0 : decode cX9_isAlmostKnown 0 = .ok (.aload_n 0, 1) := by decide +kernel
theorem dX9_isAlmostKnown_1 : decode cX9_isAlmostKnown 1 = .ok (.iconst 0, 1) := by decide +kernel
theorem dX9_isAlmostKnown_2 : decode cX9_isAlmostKnown 2 = .ok (.putfield 240, 3) := by decide +kernel
theorem dX9_isAlmostKnown_5 : decode cX9_isAlmostKnown 5 = .ok (.iconst 0, 1) := by decide +kernel
theorem dX9_isAlmostKnown_6 : decode cX9_isAlmostKnown 6 = .ok (.istore_n 1, 1) := by decide +kernel
theorem dX9_isAlmostKnown_7 : decode cX9_isAlmostKnown 7 = .ok (.iload_n 1, 1) := by decide +kernel
theorem dX9_isAlmostKnown_8 : decode cX9_isAlmostKnown 8 = .ok (.aload_n 0, 1) := by decide +kernel
theorem dX9_isAlmostKnown_9 : decode cX9_isAlmostKnown 9 = .ok (.getfield 234, 3) := by decide +kernel
theorem dX9_isAlmostKnown_12 : decode cX9_isAlmostKnown 12 = .ok (.if_icmp .ge 19, 3) := by decide +kernel
theorem dX9_isAlmostKnown_15 : decode cX9_isAlmostKnown 15 = .ok (.aload_n 0, 1) := by decide +kernel
theorem dX9_isAlmostKnown_16 : decode cX9_isAlmostKnown 16 = .ok (.aload_n 0, 1) := by decide +kernel
theorem dX9_isAlmostKnown_17 : decode cX9_isAlmostKnown 17 = .ok (.getfield 86, 3) := by decide +kernel
theorem dX9_isAlmostKnown_20 : decode cX9_isAlmostKnown 20 = .ok (.iload_n 1, 1) := by decide +kernel
theorem dX9_isAlmostKnown_21 : decode cX9_isAlmostKnown 21 = .ok (.iaload, 1) := by decide +kernel
theorem dX9_isAlmostKnown_22 : decode cX9_isAlmostKnown 22 = .ok (.invokevirtual 246, 3) := by decide +kernel
theorem dX9_isAlmostKnown_25 : decode cX9_isAlmostKnown 25 = .ok (.iinc 1 1, 3) := by decide +kernel
theorem dX9_isAlmostKnown_28 : decode cX9_isAlmostKnown 28 = .ok (.goto (-21), 3) := by decide +kernel
theorem dX9_isAlmostKnown_31 : decode cX9_isAlmostKnown 31 = .ok (.iconst 0, 1) := by decide +kernel
theorem dX9_isAlmostKnown_32 : decode cX9_isAlmostKnown 32 = .ok (.istore_n 1, 1) := by decide +kernel
theorem dX9_isAlmostKnown_33 : decode cX9_isAlmostKnown 33 = .ok (.iload_n 1, 1) := by decide +kernel
theorem dX9_isAlmostKnown_34 : decode cX9_isAlmostKnown 34 = .ok (.aload_n 0, 1) := by decide +kernel
theorem dX9_isAlmostKnown_35 : decode cX9_isAlmostKnown 35 = .ok (.getfield 237, 3) := by decide +kernel
theorem dX9_isAlmostKnown_38 : decode cX9_isAlmostKnown 38 = .ok (.if_icmp .ge 19, 3) := by decide +kernel
theorem dX9_isAlmostKnown_41 : decode cX9_isAlmostKnown 41 = .ok (.aload_n 0, 1) := by decide +kernel
theorem dX9_isAlmostKnown_42 : decode cX9_isAlmostKnown 42 = .ok (.aload_n 0, 1) := by decide +kernel
theorem dX9_isAlmostKnown_43 : decode cX9_isAlmostKnown 43 = .ok (.getfield 89, 3) := by decide +kernel
theorem dX9_isAlmostKnown_46 : decode cX9_isAlmostKnown 46 = .ok (.iload_n 1, 1) := by decide +kernel
theorem dX9_isAlmostKnown_47 : decode cX9_isAlmostKnown 47 = .ok (.iaload, 1) := by decide +kernel
theorem dX9_isAlmostKnown_48 : decode cX9_isAlmostKnown 48 = .ok (.invokevirtual 246, 3) := by decide +kernel
theorem dX9_isAlmostKnown_51 : decode cX9_isAlmostKnown 51 = .ok (.iinc 1 1, 3) := by decide +kernel
theorem dX9_isAlmostKnown_54 : decode cX9_isAlmostKnown 54 = .ok (.goto (-21), 3) := by decide +kernel
theorem dX9_isAlmostKnown_57 : decode cX9_isAlmostKnown 57 = .ok (.aload_n 0, 1) := by decide +kernel
theorem dX9_isAlmostKnown_58 : decode cX9_isAlmostKnown 58 = .ok (.getfield 240, 3) := by decide +kernel
theorem dX9_isAlmostKnown_61 : decode cX9_isAlmostKnown 61 = .ok (.iconst 2, 1) := by decide +kernel
theorem dX9_isAlmostKnown_62 : decode cX9_isAlmostKnown 62 = .ok (.if_icmp .ge 7, 3) := by decide +kernel
theorem dX9_isAlmostKnown_65 : decode cX9_isAlmostKnown 65 = .ok (.iconst 1, 1) := by decide +kernel
theorem dX9_isAlmostKnown_66 : decode cX9_isAlmostKnown 66 = .ok (.goto 4, 3) := by decide +kernel
theorem dX9_isAlmostKnown_69 : decode cX9_isAlmostKnown 69 = .ok (.iconst 0, 1) := by decide +kernel
theorem dX9_isAlmostKnown_70 : decode cX9_isAlmostKnown 70 = .ok (.ireturn, 1) := by decide +kernel
set_option maxHeartbeats 4000000 in
set_option maxRecDepth 100000 in
theorem t_X9_isAlmostKnown_L7 {p : Program} {l : Launch} {e : Env} {s : State} {m : MethodId} {args : Array Value} {below : List Frame} {meth : Method} {c : Code} {D : va_G} {aC : Nat → ClassId} {A : Nat → Prop} {a_o : Nat → Nat} {out : Int32 × Ob_T} {k31 : Ob_T → Option (Int32 × Ob_T)} {rec7 : (Int32 × Ob_T) → Option (Int32 × Ob_T)} (hX : K_X p s m args meth c cX9_isAlmostKnown 2 WL_ RX9 D aC A) (hr : meth.sig.returnType = (some .boolean)) (hk31 : ∀ (t_o : Ob_T), k31 t_o = some out → ∀ (H : Heap) (locs : List Loc) (ls : Array Slot), K_S D A s (wd_X9 aC a_o t_o) H locs → lv_has ls 2 [(0, .ref (a_o 0))] → W p l e (R_m 2 44) s m args below meth c H locs 0 0 (MQ below (Q_W (some (.int out.1)) D A (wd_X9 aC a_o out.2)) args s 0 0 A) (F0 m 31 ls [])) (hrec7 : ∀ x : Int32 × Ob_T, rec7 x = some out → ∀ (H : Heap) (locs : List Loc) (ls : Array Slot), K_S D A s (wd_X9 aC a_o x.2) H locs → lv_has ls 2 [(0, .ref (a_o 0)), (1, .int x.1)] → W p l e (R_m 2 44) s m args below meth c H locs 0 0 (MQ below (Q_W (some (.int out.1)) D A (wd_X9 aC a_o out.2)) args s 0 0 A) (F0 m 7 ls [])) (x1 : Int32) (s_o : Ob_T) (h : f_X9_isAlmostKnown_L7 k31 rec7 x1 s_o = some out) (H : Heap) (locs : List Loc) (ls : Array Slot) (hZ : K_S D A s (wd_X9 aC a_o s_o) H locs) (hl : lv_has ls 2 [(0, .ref (a_o 0)), (1, .int x1)]) : W p l e (R_m 2 44) s m args below meth c H locs 0 0 (MQ below (Q_W (some (.int out.1)) D A (wd_X9 aC a_o out.2)) args s 0 0 A) (F0 m 7 ls []) := by
  obtain ⟨hx, hb, hml, hown, hts, hK, hA, hlk⟩ := id hX
  unfold f_X9_isAlmostKnown_L7 at h
  refine lv_iload_n hx hb dX9_isAlmostKnown_7 rfl (lv_at hl 1 rfl) ?_
  refine lv_aload_n hx hb dX9_isAlmostKnown_8 rfl (lv_at hl 0 rfl) ?_
  refine k_get hX hZ.1 0 9 rfl rfl iw_X9 39 rfl (wm_144) (v := .int (o_F s_o 39)) rfl dX9_isAlmostKnown_9 ?_
  refine lv_icmp_ge (tgt := 31) hx hb dX9_isAlmostKnown_12 (by decide) (fun cd => ?_) (fun cd => ?_)
  · replace h := k_t cd h
    clear cd
    exact hk31 s_o h H locs ls hZ (lv_sub hl [0] rfl)
  · replace h := k_f cd h
    clear cd
    refine lv_aload_n hx hb dX9_isAlmostKnown_15 rfl (lv_at hl 0 rfl) ?_
    refine lv_aload_n hx hb dX9_isAlmostKnown_16 rfl (lv_at hl 0 rfl) ?_
    refine k_get hX hZ.1 0 9 rfl rfl iw_X9 37 rfl (wm_143) (v := .ref (a_o 26)) rfl dX9_isAlmostKnown_17 ?_
    refine lv_iload_n hx hb dX9_isAlmostKnown_20 rfl (lv_at hl 1 rfl) ?_
    refine k_iald hX hZ.1 26 rfl h dX9_isAlmostKnown_21 (fun v2 h => ?_)
    obtain ⟨u3, hu, h⟩ := k_bd h
    refine k_vWs (As := [.int v2]) (rest := []) (v := none) (st1 := []) hX hl.1 hZ (c_X9_lookFor (a_o := a_o) s_o v2 hu) (gv_ wm_149 wm_151 wm_152 wm_11 wm_150) rfl hd_X9_lookFor ⟨rfl, rfl⟩ 9 0 rfl rfl rfl rfl rfl dX9_isAlmostKnown_22 rfl ⟨rfl, rfl⟩ rfl (fun H locs hZ => ?_)
    clear hu
    refine lv_iinc (v := (x1 + (1 : Int32))) (lv' := [(1, .int (x1 + (1 : Int32))), (0, .ref (a_o 0))]) hx hb dX9_isAlmostKnown_25 hl (k := 1) rfl rfl (by decide) rfl (fun ls hl => ?_)
    refine lv_goto (tgt := 7) hx hb dX9_isAlmostKnown_28 (by decide) ?_
    exact hrec7 ((x1 + (1 : Int32)), u3) h H locs ls hZ (lv_sub hl [1, 0] rfl)
set_option maxHeartbeats 4000000 in
set_option maxRecDepth 100000 in
theorem t_X9_isAlmostKnown_L33 {p : Program} {l : Launch} {e : Env} {s : State} {m : MethodId} {args : Array Value} {below : List Frame} {meth : Method} {c : Code} {D : va_G} {aC : Nat → ClassId} {A : Nat → Prop} {a_o : Nat → Nat} {out : Int32 × Ob_T} {k57 : Ob_T → Option (Int32 × Ob_T)} {rec33 : (Int32 × Ob_T) → Option (Int32 × Ob_T)} (hX : K_X p s m args meth c cX9_isAlmostKnown 2 WL_ RX9 D aC A) (hr : meth.sig.returnType = (some .boolean)) (hk57 : ∀ (t_o : Ob_T), k57 t_o = some out → ∀ (H : Heap) (locs : List Loc) (ls : Array Slot), K_S D A s (wd_X9 aC a_o t_o) H locs → lv_has ls 2 [(0, .ref (a_o 0))] → W p l e (R_m 2 44) s m args below meth c H locs 0 0 (MQ below (Q_W (some (.int out.1)) D A (wd_X9 aC a_o out.2)) args s 0 0 A) (F0 m 57 ls [])) (hrec33 : ∀ x : Int32 × Ob_T, rec33 x = some out → ∀ (H : Heap) (locs : List Loc) (ls : Array Slot), K_S D A s (wd_X9 aC a_o x.2) H locs → lv_has ls 2 [(0, .ref (a_o 0)), (1, .int x.1)] → W p l e (R_m 2 44) s m args below meth c H locs 0 0 (MQ below (Q_W (some (.int out.1)) D A (wd_X9 aC a_o out.2)) args s 0 0 A) (F0 m 33 ls [])) (x1 : Int32) (s_o : Ob_T) (h : f_X9_isAlmostKnown_L33 k57 rec33 x1 s_o = some out) (H : Heap) (locs : List Loc) (ls : Array Slot) (hZ : K_S D A s (wd_X9 aC a_o s_o) H locs) (hl : lv_has ls 2 [(0, .ref (a_o 0)), (1, .int x1)]) : W p l e (R_m 2 44) s m args below meth c H locs 0 0 (MQ below (Q_W (some (.int out.1)) D A (wd_X9 aC a_o out.2)) args s 0 0 A) (F0 m 33 ls []) := by
  obtain ⟨hx, hb, hml, hown, hts, hK, hA, hlk⟩ := id hX
  unfold f_X9_isAlmostKnown_L33 at h
  refine lv_iload_n hx hb dX9_isAlmostKnown_33 rfl (lv_at hl 1 rfl) ?_
  refine lv_aload_n hx hb dX9_isAlmostKnown_34 rfl (lv_at hl 0 rfl) ?_
  refine k_get hX hZ.1 0 9 rfl rfl iw_X9 40 rfl (wm_146) (v := .int (o_F s_o 40)) rfl dX9_isAlmostKnown_35 ?_
  refine lv_icmp_ge (tgt := 57) hx hb dX9_isAlmostKnown_38 (by decide) (fun cd => ?_) (fun cd => ?_)
  · replace h := k_t cd h
    clear cd
    exact hk57 s_o h H locs ls hZ (lv_sub hl [0] rfl)
  · replace h := k_f cd h
    clear cd
    refine lv_aload_n hx hb dX9_isAlmostKnown_41 rfl (lv_at hl 0 rfl) ?_
    refine lv_aload_n hx hb dX9_isAlmostKnown_42 rfl (lv_at hl 0 rfl) ?_
    refine k_get hX hZ.1 0 9 rfl rfl iw_X9 38 rfl (wm_145) (v := .ref (a_o 27)) rfl dX9_isAlmostKnown_43 ?_
    refine lv_iload_n hx hb dX9_isAlmostKnown_46 rfl (lv_at hl 1 rfl) ?_
    refine k_iald hX hZ.1 27 rfl h dX9_isAlmostKnown_47 (fun v4 h => ?_)
    obtain ⟨u5, hu, h⟩ := k_bd h
    refine k_vWs (As := [.int v4]) (rest := []) (v := none) (st1 := []) hX hl.1 hZ (c_X9_lookFor (a_o := a_o) s_o v4 hu) (gv_ wm_149 wm_151 wm_152 wm_11 wm_150) rfl hd_X9_lookFor ⟨rfl, rfl⟩ 9 0 rfl rfl rfl rfl rfl dX9_isAlmostKnown_48 rfl ⟨rfl, rfl⟩ rfl (fun H locs hZ => ?_)
    clear hu
    refine lv_iinc (v := (x1 + (1 : Int32))) (lv' := [(1, .int (x1 + (1 : Int32))), (0, .ref (a_o 0))]) hx hb dX9_isAlmostKnown_51 hl (k := 1) rfl rfl (by decide) rfl (fun ls hl => ?_)
    refine lv_goto (tgt := 33) hx hb dX9_isAlmostKnown_54 (by decide) ?_
    exact hrec33 ((x1 + (1 : Int32)), u5) h H locs ls hZ (lv_sub hl [1, 0] rfl)
set_option maxHeartbeats 4000000 in
set_option maxRecDepth 100000 in
theorem t_X9_isAlmostKnown_J57 {p : Program} {l : Launch} {e : Env} {s : State} {m : MethodId} {args : Array Value} {below : List Frame} {meth : Method} {c : Code} {D : va_G} {aC : Nat → ClassId} {A : Nat → Prop} {a_o : Nat → Nat} {out : Int32 × Ob_T} (hX : K_X p s m args meth c cX9_isAlmostKnown 2 WL_ RX9 D aC A) (hr : meth.sig.returnType = (some .boolean)) (s_o : Ob_T) (h : f_X9_isAlmostKnown_J57 s_o = some out) (H : Heap) (locs : List Loc) (ls : Array Slot) (hZ : K_S D A s (wd_X9 aC a_o s_o) H locs) (hl : lv_has ls 2 [(0, .ref (a_o 0))]) : W p l e (R_m 2 44) s m args below meth c H locs 0 0 (MQ below (Q_W (some (.int out.1)) D A (wd_X9 aC a_o out.2)) args s 0 0 A) (F0 m 57 ls []) := by
  obtain ⟨hx, hb, hml, hown, hts, hK, hA, hlk⟩ := id hX
  unfold f_X9_isAlmostKnown_J57 at h
  refine lv_aload_n hx hb dX9_isAlmostKnown_57 rfl (lv_at hl 0 rfl) ?_
  refine k_get hX hZ.1 0 9 rfl rfl iw_X9 41 rfl (wm_147) (v := .int (o_F s_o 41)) rfl dX9_isAlmostKnown_58 ?_
  refine lv_iconst (v := 2) hx hb dX9_isAlmostKnown_61 (by decide) ?_
  refine lv_icmp_ge (tgt := 69) hx hb dX9_isAlmostKnown_62 (by decide) (fun cd => ?_) (fun cd => ?_)
  · replace h := k_t cd h
    clear cd
    refine lv_iconst (v := 0) hx hb dX9_isAlmostKnown_69 (by decide) ?_
    cases h
    exact k_zretW (v := (0 : Int32)) hX hr rfl hZ dX9_isAlmostKnown_70
  · replace h := k_f cd h
    clear cd
    refine lv_iconst (v := 1) hx hb dX9_isAlmostKnown_65 (by decide) ?_
    refine lv_goto (tgt := 70) hx hb dX9_isAlmostKnown_66 (by decide) ?_
    cases h
    exact k_zretW (v := (1 : Int32)) hX hr rfl hZ dX9_isAlmostKnown_70
set_option maxHeartbeats 4000000 in
set_option maxRecDepth 100000 in
theorem t_X9_isAlmostKnown_J31 {p : Program} {l : Launch} {e : Env} {s : State} {m : MethodId} {args : Array Value} {below : List Frame} {meth : Method} {c : Code} {D : va_G} {aC : Nat → ClassId} {A : Nat → Prop} {a_o : Nat → Nat} {out : Int32 × Ob_T} (hX : K_X p s m args meth c cX9_isAlmostKnown 2 WL_ RX9 D aC A) (hr : meth.sig.returnType = (some .boolean)) (s_o : Ob_T) (h : f_X9_isAlmostKnown_J31 s_o = some out) (H : Heap) (locs : List Loc) (ls : Array Slot) (hZ : K_S D A s (wd_X9 aC a_o s_o) H locs) (hl : lv_has ls 2 [(0, .ref (a_o 0))]) : W p l e (R_m 2 44) s m args below meth c H locs 0 0 (MQ below (Q_W (some (.int out.1)) D A (wd_X9 aC a_o out.2)) args s 0 0 A) (F0 m 31 ls []) := by
  obtain ⟨hx, hb, hml, hown, hts, hK, hA, hlk⟩ := id hX
  unfold f_X9_isAlmostKnown_J31 at h
  refine lv_iconst (v := 0) hx hb dX9_isAlmostKnown_31 (by decide) ?_
  refine lv_istore_n (lv' := [(1, .int (0 : Int32)), (0, .ref (a_o 0))]) hx hb dX9_isAlmostKnown_32 rfl hl (by decide) rfl (fun ls hl => ?_)
  exact Lp_ok (body := (fun (rec : (Int32 × Ob_T) → Option (Int32 × Ob_T)) x => f_X9_isAlmostKnown_L33 (fun t_o => f_X9_isAlmostKnown_J57 t_o) rec x.1 x.2)) (out := out) (fun x => ∀ (H : Heap) (locs : List Loc) (ls : Array Slot), K_S D A s (wd_X9 aC a_o x.2) H locs → lv_has ls 2 [(0, .ref (a_o 0)), (1, .int x.1)] → W p l e (R_m 2 44) s m args below meth c H locs 0 0 (MQ below (Q_W (some (.int out.1)) D A (wd_X9 aC a_o out.2)) args s 0 0 A) (F0 m 33 ls [])) (fun rec hrec x h H locs ls hZ hl => t_X9_isAlmostKnown_L33 hX hr (fun t_o h H locs ls hZ hl => t_X9_isAlmostKnown_J57 hX hr t_o h H locs ls hZ (lv_sub hl [0] rfl)) hrec x.1 x.2 h H locs ls hZ hl) FU_ ((0 : Int32), s_o) h H locs ls hZ (lv_sub hl [1, 0] rfl)
set_option maxHeartbeats 4000000 in
set_option maxRecDepth 100000 in
theorem c_X9_isAlmostKnown {l : Launch} {D : va_G} {aC : Nat → ClassId} {a_o : Nat → Nat} (s_o : Ob_T) {out : Int32 × Ob_T} (h : f_X9_isAlmostKnown s_o = some out) : M_W l yX9_isAlmostKnown wlX9_isAlmostKnown 2 44 D aC [.ref (a_o 0)] (wd_X9 aC a_o s_o) (some (.int out.1)) (wd_X9 aC a_o out.2) := by
  refine k_entW (cc := cX9_isAlmostKnown) (ret := (some .boolean)) (maxL := 2) (own := RX9) (by decide) rfl rfl rfl ?_
  intro p e s m below meth c A ls hX hr hZ hl
  have hl : lv_has ls 2 [(0, .ref (a_o 0))] := hl
  generalize ([.ref (a_o 0)] : List Value).toArray = args at hX ⊢
  obtain ⟨hx, hb, hml, hown, hts, hK, hA, hlk⟩ := id hX
  unfold f_X9_isAlmostKnown at h
  generalize s.heap = H at hZ ⊢
  generalize ([] : List Loc) = locs at hZ ⊢
  refine lv_aload_n hx hb dX9_isAlmostKnown_0 rfl (lv_at hl 0 rfl) ?_
  refine lv_iconst (v := 0) hx hb dX9_isAlmostKnown_1 (by decide) ?_
  refine k_put (wf := (fun o => wd_X9 aC a_o o)) (o := s_o) hX hZ 0 9 rfl rfl iw_X9 tyX9 tyX9_ok nmX9 41 rfl (wm_147) rfl rfl rfl rfl rfl h dX9_isAlmostKnown_2 (fun o1 H locs hZ h => ?_)
  refine lv_iconst (v := 0) hx hb dX9_isAlmostKnown_5 (by decide) ?_
  refine lv_istore_n (lv' := [(1, .int (0 : Int32)), (0, .ref (a_o 0))]) hx hb dX9_isAlmostKnown_6 rfl hl (by decide) rfl (fun ls hl => ?_)
  exact Lp_ok (body := (fun (rec : (Int32 × Ob_T) → Option (Int32 × Ob_T)) x => f_X9_isAlmostKnown_L7 (fun t_o => f_X9_isAlmostKnown_J31 t_o) rec x.1 x.2)) (out := out) (fun x => ∀ (H : Heap) (locs : List Loc) (ls : Array Slot), K_S D A s (wd_X9 aC a_o x.2) H locs → lv_has ls 2 [(0, .ref (a_o 0)), (1, .int x.1)] → W p l e (R_m 2 44) s m args below meth c H locs 0 0 (MQ below (Q_W (some (.int out.1)) D A (wd_X9 aC a_o out.2)) args s 0 0 A) (F0 m 7 ls [])) (fun rec hrec x h H locs ls hZ hl => t_X9_isAlmostKnown_L7 hX hr (fun t_o h H locs ls hZ hl => t_X9_isAlmostKnown_J31 hX hr t_o h H locs ls hZ (lv_sub hl [0] rfl)) hrec x.1 x.2 h H locs ls hZ hl) FU_ ((0 : Int32), o1) h H locs ls hZ (lv_sub hl [1, 0] rfl)
def wlX9_becomes : List Cond := .code yX9_becomes cX9_becomes 2 none :: WL_
theorem hd_X9_becomes : yX9_becomes.cls = RX9 ∧ yX9_becomes.cls ≠ "java/lang/invoke/MethodHandle" ∧ yX9_becomes.cls ≠ "java/lang/invoke/VarHandle" ∧ (parseMethodDescriptor yX9_becomes.desc).map (fun d => d.parameters.length) = some 1 := by decide +kernel
theorem dX9_becomes_0 : decode cX9_becomes 0 = .ok (.aload_n 0, 1) := by decide +kernel
theorem dX9_becomes_1 : decode cX9_becomes 1 = .ok (.getfield 77, 3) := by decide +kernel
theorem dX9_becomes_4 : decode cX9_becomes 4 = .ok (.aload_n 0, 1) := by decide +kernel
theorem dX9_becomes_5 : decode cX9_becomes 5 = .ok (.getfield 243, 3) := by decide +kernel
theorem dX9_becomes_8 : decode cX9_becomes 8 = .ok (.iload_n 1, 1) := by decide +kernel
theorem dX9_becomes_9 : decode cX9_becomes 9 = .ok (.iastore, 1) := by decide +kernel
theorem dX9_becomes_10 : decode cX9_becomes 10 = .ok (.aload_n 0, 1) := by decide +kernel
theorem dX9_becomes_11 : decode cX9_becomes 11 = .ok (.iconst 1, 1) := by decide +kernel
theorem dX9_becomes_12 : decode cX9_becomes 12 = .ok (.putfield 250, 3) := by decide +kernel
theorem dX9_becomes_15 : decode cX9_becomes 15 = .ok (.return_, 1) := by decide +kernel
set_option maxHeartbeats 4000000 in
set_option maxRecDepth 100000 in
theorem c_X9_becomes {l : Launch} {D : va_G} {aC : Nat → ClassId} {a_o : Nat → Nat} (s_o : Ob_T) (x1 : Int32) {out : Ob_T} (h : f_X9_becomes s_o x1 = some out) : M_W l yX9_becomes wlX9_becomes 0 0 D aC [.ref (a_o 0), .int x1] (wd_X9 aC a_o s_o) (none) (wd_X9 aC a_o out) := by
  refine k_entW (cc := cX9_becomes) (ret := none) (maxL := 2) (own := RX9) (by decide) rfl rfl rfl ?_
  intro p e s m below meth c A ls hX hr hZ hl
  have hl : lv_has ls 2 [(0, .ref (a_o 0)), (1, .int x1)] := hl
  generalize ([.ref (a_o 0), .int x1] : List Value).toArray = args at hX ⊢
  obtain ⟨hx, hb, hml, hown, hts, hK, hA, hlk⟩ := id hX
  unfold f_X9_becomes at h
  generalize s.heap = H at hZ ⊢
  generalize ([] : List Loc) = locs at hZ ⊢
  refine lv_aload_n hx hb dX9_becomes_0 rfl (lv_at hl 0 rfl) ?_
  refine k_get hX hZ.1 0 9 rfl rfl iw_X9 32 rfl (wm_124) (v := .ref (a_o 23)) rfl dX9_becomes_1 ?_
  refine lv_aload_n hx hb dX9_becomes_4 rfl (lv_at hl 0 rfl) ?_
  refine k_get hX hZ.1 0 9 rfl rfl iw_X9 42 rfl (wm_148) (v := .int (o_F s_o 42)) rfl dX9_becomes_5 ?_
  refine lv_iload_n hx hb dX9_becomes_8 rfl (lv_at hl 1 rfl) ?_
  refine k_iast (wf := (fun o => wd_X9 aC a_o o)) (o := s_o) hX hZ 23 32 rfl (fun _ => rfl) h dX9_becomes_9 (fun o1 H locs hZ h => ?_)
  refine lv_aload_n hx hb dX9_becomes_10 rfl (lv_at hl 0 rfl) ?_
  refine lv_iconst (v := 1) hx hb dX9_becomes_11 (by decide) ?_
  refine k_put (wf := (fun o => wd_X9 aC a_o o)) (o := o1) hX hZ 0 9 rfl rfl iw_X9 tyX9 tyX9_ok nmX9 36 rfl (wm_153) rfl rfl rfl rfl rfl h dX9_becomes_12 (fun o2 H locs hZ h => ?_)
  cases h
  exact k_vretW hX hr hZ dX9_becomes_15
