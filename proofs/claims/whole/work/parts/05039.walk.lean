def wlX9_open : List Cond := .code yX9_open cX9_open 4 (some .int) :: WL_
theorem hd_X9_open : yX9_open.cls = RX9 ∧ yX9_open.cls ≠ "java/lang/invoke/MethodHandle" ∧ yX9_open.cls ≠ "java/lang/invoke/VarHandle" ∧ (parseMethodDescriptor yX9_open.desc).map (fun d => d.parameters.length) = some 0 := by decide +kernel
theorem dX9_open_0 : decode cX9_open 0 = .ok (.aload_n 0, 1) := by decide +kernel
theorem dX9_open_1 : decode cX9_open 1 = .ok (.invokevirtual 301, 3) := by decide +kernel
theorem dX9_open_4 : decode cX9_open 4 = .ok (.aload_n 0, 1) := by decide +kernel
theorem dX9_open_5 : decode cX9_open 5 = .ok (.invokevirtual 319, 3) := by decide +kernel
theorem dX9_open_8 : decode cX9_open 8 = .ok (.istore_n 1, 1) := by decide +kernel
theorem dX9_open_9 : decode cX9_open 9 = .ok (.iconst 0, 1) := by decide +kernel
theorem dX9_open_10 : decode cX9_open 10 = .ok (.istore_n 2, 1) := by decide +kernel
theorem dX9_open_11 : decode cX9_open 11 = .ok (.iconst 0, 1) := by decide +kernel
theorem dX9_open_12 : decode cX9_open 12 = .ok (.istore_n 3, 1) := by decide +kernel
theorem dX9_open_13 : decode cX9_open 13 = .ok (.iload_n 3, 1) := by decide +kernel
theorem dX9_open_14 : decode cX9_open 14 = .ok (.iconst 4, 1) := by decide +kernel
theorem dX9_open_15 : decode cX9_open 15 = .ok (.if_icmp .ge 44, 3) := by decide +kernel
theorem dX9_open_18 : decode cX9_open 18 = .ok (.iload_n 2, 1) := by decide +kernel
theorem dX9_open_19 : decode cX9_open 19 = .ok (.iload_n 1, 1) := by decide +kernel
theorem dX9_open_20 : decode cX9_open 20 = .ok (.iload_n 3, 1) := by decide +kernel
theorem dX9_open_21 : decode cX9_open 21 = .ok (.invokestatic 322, 3) := by decide +kernel
theorem dX9_open_24 : decode cX9_open 24 = .ok (.ifCond .eq 26, 3) := by decide +kernel
theorem dX9_open_27 : decode cX9_open 27 = .ok (.aload_n 0, 1) := by decide +kernel
theorem dX9_open_28 : decode cX9_open 28 = .ok (.sipush 20000, 3) := by decide +kernel
theorem dX9_open_31 : decode cX9_open 31 = .ok (.iload_n 3, 1) := by decide +kernel
theorem dX9_open_32 : decode cX9_open 32 = .ok (.iadd, 1) := by decide +kernel
theorem dX9_open_33 : decode cX9_open 33 = .ok (.invokevirtual 221, 3) := by decide +kernel
theorem dX9_open_36 : decode cX9_open 36 = .ok (.sipush 20000, 3) := by decide +kernel
theorem dX9_open_39 : decode cX9_open 39 = .ok (.iload_n 3, 1) := by decide +kernel
theorem dX9_open_40 : decode cX9_open 40 = .ok (.iadd, 1) := by decide +kernel
theorem dX9_open_41 : decode cX9_open 41 = .ok (.if_icmp .ne 9, 3) := by decide +kernel
theorem dX9_open_44 : decode cX9_open 44 = .ok (.iconst 1, 1) := by decide +kernel
theorem dX9_open_45 : decode cX9_open 45 = .ok (.iload_n 3, 1) := by decide +kernel
theorem dX9_open_46 : decode cX9_open 46 = .ok (.ishl, 1) := by decide +kernel
theorem dX9_open_47 : decode cX9_open 47 = .ok (.goto 4, 3) := by decide +kernel
theorem dX9_open_50 : decode cX9_open 50 = .ok (.iconst 0, 1) := by decide +kernel
theorem dX9_open_51 : decode cX9_open 51 = .ok (.ior, 1) := by decide +kernel
theorem dX9_open_52 : decode cX9_open 52 = .ok (.istore_n 2, 1) := by decide +kernel
theorem dX9_open_53 : decode cX9_open 53 = .ok (.iinc 3 1, 3) := by decide +kernel
theorem dX9_open_56 : decode cX9_open 56 = .ok (.goto (-43), 3) := by decide +kernel
theorem dX9_open_59 : decode cX9_open 59 = .ok (.iload_n 2, 1) := by decide +kernel
theorem dX9_open_60 : decode cX9_open 60 = .ok (.ireturn, 1) := by decide +kernel
set_option maxHeartbeats 4000000 in
set_option maxRecDepth 100000 in
theorem t_X9_open_L13 {p : Program} {l : Launch} {e : Env} {s : State} {m : MethodId} {args : Array Value} {below : List Frame} {meth : Method} {c : Code} {D : va_G} {aC : Nat → ClassId} {A : Nat → Prop} {a_o : Nat → Nat} {out : Int32 × Ob_T} {rec13 : (Int32 × Int32 × Int32 × Ob_T) → Option (Int32 × Ob_T)} (hX : K_X p s m args meth c cX9_open 4 WL_ RX9 D aC A) (hr : meth.sig.returnType = (some .int)) (hrec13 : ∀ x : Int32 × Int32 × Int32 × Ob_T, rec13 x = some out → ∀ (H : Heap) (locs : List Loc) (ls : Array Slot), K_S D A s (wd_X9 aC a_o x.2.2.2) H locs → lv_has ls 4 [(0, .ref (a_o 0)), (1, .int x.1), (2, .int x.2.1), (3, .int x.2.2.1)] → W p l e (R_m 6 146) s m args below meth c H locs 0 0 (MQ below (Q_W (some (.int out.1)) D A (wd_X9 aC a_o out.2)) args s 0 0 A) (F0 m 13 ls [])) (x1 : Int32) (x2 : Int32) (x3 : Int32) (s_o : Ob_T) (h : f_X9_open_L13 rec13 x1 x2 x3 s_o = some out) (H : Heap) (locs : List Loc) (ls : Array Slot) (hZ : K_S D A s (wd_X9 aC a_o s_o) H locs) (hl : lv_has ls 4 [(0, .ref (a_o 0)), (1, .int x1), (2, .int x2), (3, .int x3)]) : W p l e (R_m 6 146) s m args below meth c H locs 0 0 (MQ below (Q_W (some (.int out.1)) D A (wd_X9 aC a_o out.2)) args s 0 0 A) (F0 m 13 ls []) := by
  obtain ⟨hx, hb, hml, hown, hts, hK, hA, hlk⟩ := id hX
  unfold f_X9_open_L13 at h
  refine lv_iload_n hx hb dX9_open_13 rfl (lv_at hl 3 rfl) ?_
  refine lv_iconst (v := 4) hx hb dX9_open_14 (by decide) ?_
  refine lv_icmp_ge (tgt := 59) hx hb dX9_open_15 (by decide) (fun cd => ?_) (fun cd => ?_)
  · replace h := k_t cd h
    clear cd
    refine lv_iload_n hx hb dX9_open_59 rfl (lv_at hl 2 rfl) ?_
    cases h
    exact k_iretW hX hr hZ dX9_open_60
  · replace h := k_f cd h
    clear cd
    refine lv_iload_n hx hb dX9_open_18 rfl (lv_at hl 2 rfl) ?_
    refine lv_iload_n hx hb dX9_open_19 rfl (lv_at hl 1 rfl) ?_
    refine lv_iload_n hx hb dX9_open_20 rfl (lv_at hl 3 rfl) ?_
    obtain ⟨u3, hu, h⟩ := k_bd h
    refine k_sR (As := [.int x1, .int x3]) (rest := [.int x2]) (wc := []) (v := some (.int u3)) (st1 := [.int u3, .int x2]) hX hl.1 hZ (c_X9_has  x1 x3 hu) (gs_ wm_231 wm_233 wm_11 wm_232) rfl hd_X9_has ⟨rfl, rfl⟩ [] rfl rfl rfl rfl rfl dX9_open_21 rfl ⟨rfl, rfl⟩ (fun locs hZ => ?_)
    clear hu
    refine lv_if_eq (tgt := 50) hx hb dX9_open_24 (by decide) (fun cd => ?_) (fun cd => ?_)
    · replace h := k_t cd h
      clear cd
      refine lv_iconst (v := 0) hx hb dX9_open_50 (by decide) ?_
      refine lv_ior hx hb dX9_open_51 ?_
      refine lv_istore_n (lv' := [(2, .int (x2 ||| (0 : Int32))), (0, .ref (a_o 0)), (1, .int x1), (3, .int x3)]) hx hb dX9_open_52 rfl hl (by decide) rfl (fun ls hl => ?_)
      refine lv_iinc (v := (x3 + (1 : Int32))) (lv' := [(3, .int (x3 + (1 : Int32))), (2, .int (x2 ||| (0 : Int32))), (0, .ref (a_o 0)), (1, .int x1)]) hx hb dX9_open_53 hl (k := 3) rfl rfl (by decide) rfl (fun ls hl => ?_)
      refine lv_goto (tgt := 13) hx hb dX9_open_56 (by decide) ?_
      exact hrec13 (x1, (x2 ||| (0 : Int32)), (x3 + (1 : Int32)), s_o) h H locs ls hZ (lv_sub hl [2, 3, 1, 0] rfl)
    · replace h := k_f cd h
      clear cd
      refine lv_aload_n hx hb dX9_open_27 rfl (lv_at hl 0 rfl) ?_
      refine lv_sipush (v := 20000) hx hb dX9_open_28 (by decide) ?_
      refine lv_iload_n hx hb dX9_open_31 rfl (lv_at hl 3 rfl) ?_
      refine lv_iadd hx hb dX9_open_32 ?_
      obtain ⟨u4, hu, h⟩ := k_bd h
      refine k_vRs (As := [.int ((20000 : Int32) + x3)]) (rest := [.int x2]) (v := some (.int u4)) (st1 := [.int u4, .int x2]) hX hl.1 hZ (c_X9_solved (a_o := a_o) s_o ((20000 : Int32) + x3) hu) (gv_ wm_135 wm_137 wm_138 wm_11 wm_136) rfl hd_X9_solved ⟨rfl, rfl⟩ 9 0 rfl rfl rfl rfl rfl dX9_open_33 rfl ⟨rfl, rfl⟩ (fun locs hZ => ?_)
      clear hu
      refine lv_sipush (v := 20000) hx hb dX9_open_36 (by decide) ?_
      refine lv_iload_n hx hb dX9_open_39 rfl (lv_at hl 3 rfl) ?_
      refine lv_iadd hx hb dX9_open_40 ?_
      refine lv_icmp_ne (tgt := 50) hx hb dX9_open_41 (by decide) (fun cd => ?_) (fun cd => ?_)
      · replace h := k_f cd h
        clear cd
        refine lv_iconst (v := 0) hx hb dX9_open_50 (by decide) ?_
        refine lv_ior hx hb dX9_open_51 ?_
        refine lv_istore_n (lv' := [(2, .int (x2 ||| (0 : Int32))), (0, .ref (a_o 0)), (1, .int x1), (3, .int x3)]) hx hb dX9_open_52 rfl hl (by decide) rfl (fun ls hl => ?_)
        refine lv_iinc (v := (x3 + (1 : Int32))) (lv' := [(3, .int (x3 + (1 : Int32))), (2, .int (x2 ||| (0 : Int32))), (0, .ref (a_o 0)), (1, .int x1)]) hx hb dX9_open_53 hl (k := 3) rfl rfl (by decide) rfl (fun ls hl => ?_)
        refine lv_goto (tgt := 13) hx hb dX9_open_56 (by decide) ?_
        exact hrec13 (x1, (x2 ||| (0 : Int32)), (x3 + (1 : Int32)), s_o) h H locs ls hZ (lv_sub hl [2, 3, 1, 0] rfl)
      · replace h := k_t cd h
        clear cd
        refine lv_iconst (v := 1) hx hb dX9_open_44 (by decide) ?_
        refine lv_iload_n hx hb dX9_open_45 rfl (lv_at hl 3 rfl) ?_
        refine lv_ishl hx hb dX9_open_46 ?_
        refine lv_goto (tgt := 51) hx hb dX9_open_47 (by decide) ?_
        refine lv_ior hx hb dX9_open_51 ?_
        refine lv_topi (fun e5 he => ?_)
        replace h := k_lt he h
        clear he
        refine lv_istore_n (lv' := [(2, .int e5), (0, .ref (a_o 0)), (1, .int x1), (3, .int x3)]) hx hb dX9_open_52 rfl hl (by decide) rfl (fun ls hl => ?_)
        refine lv_iinc (v := (x3 + (1 : Int32))) (lv' := [(3, .int (x3 + (1 : Int32))), (2, .int e5), (0, .ref (a_o 0)), (1, .int x1)]) hx hb dX9_open_53 hl (k := 3) rfl rfl (by decide) rfl (fun ls hl => ?_)
        refine lv_goto (tgt := 13) hx hb dX9_open_56 (by decide) ?_
        exact hrec13 (x1, e5, (x3 + (1 : Int32)), s_o) h H locs ls hZ (lv_sub hl [2, 3, 1, 0] rfl)
set_option maxHeartbeats 4000000 in
set_option maxRecDepth 100000 in
theorem c_X9_open {l : Launch} {D : va_G} {aC : Nat → ClassId} {a_o : Nat → Nat} (s_o : Ob_T) {out : Int32 × Ob_T} (h : f_X9_open s_o = some out) : M_W l yX9_open wlX9_open 6 146 D aC [.ref (a_o 0)] (wd_X9 aC a_o s_o) (some (.int out.1)) (wd_X9 aC a_o out.2) := by
  refine k_entW (cc := cX9_open) (ret := (some .int)) (maxL := 4) (own := RX9) (by decide) rfl rfl rfl ?_
  intro p e s m below meth c A ls hX hr hZ hl
  have hl : lv_has ls 4 [(0, .ref (a_o 0))] := hl
  generalize ([.ref (a_o 0)] : List Value).toArray = args at hX ⊢
  obtain ⟨hx, hb, hml, hown, hts, hK, hA, hlk⟩ := id hX
  unfold f_X9_open at h
  generalize s.heap = H at hZ ⊢
  generalize ([] : List Loc) = locs at hZ ⊢
  refine lv_aload_n hx hb dX9_open_0 rfl (lv_at hl 0 rfl) ?_
  obtain ⟨u1, hu, h⟩ := k_bd h
  refine k_vWs (As := []) (rest := []) (v := none) (st1 := []) hX hl.1 hZ (c_X9_solveNow (a_o := a_o) s_o hu) (gv_ wm_211 wm_213 wm_214 wm_11 wm_212) rfl hd_X9_solveNow ⟨rfl, rfl⟩ 9 0 rfl rfl rfl rfl rfl dX9_open_1 rfl ⟨rfl, rfl⟩ rfl (fun H locs hZ => ?_)
  clear hu
  refine lv_aload_n hx hb dX9_open_4 rfl (lv_at hl 0 rfl) ?_
  obtain ⟨u2, hu, h⟩ := k_bd h
  refine k_vRs (As := []) (rest := []) (v := some (.int u2)) (st1 := [.int u2]) hX hl.1 hZ (c_X9_toldLetters (a_o := a_o) u1 hu) (gv_ wm_234 wm_236 wm_237 wm_11 wm_235) rfl hd_X9_toldLetters ⟨rfl, rfl⟩ 9 0 rfl rfl rfl rfl rfl dX9_open_5 rfl ⟨rfl, rfl⟩ (fun locs hZ => ?_)
  clear hu
  refine lv_istore_n (lv' := [(1, .int u2), (0, .ref (a_o 0))]) hx hb dX9_open_8 rfl hl (by decide) rfl (fun ls hl => ?_)
  refine lv_iconst (v := 0) hx hb dX9_open_9 (by decide) ?_
  refine lv_istore_n (lv' := [(2, .int (0 : Int32)), (1, .int u2), (0, .ref (a_o 0))]) hx hb dX9_open_10 rfl hl (by decide) rfl (fun ls hl => ?_)
  refine lv_iconst (v := 0) hx hb dX9_open_11 (by decide) ?_
  refine lv_istore_n (lv' := [(3, .int (0 : Int32)), (2, .int (0 : Int32)), (1, .int u2), (0, .ref (a_o 0))]) hx hb dX9_open_12 rfl hl (by decide) rfl (fun ls hl => ?_)
  exact Lp_ok (body := (fun (rec : (Int32 × Int32 × Int32 × Ob_T) → Option (Int32 × Ob_T)) x => f_X9_open_L13 rec x.1 x.2.1 x.2.2.1 x.2.2.2)) (out := out) (fun x => ∀ (H : Heap) (locs : List Loc) (ls : Array Slot), K_S D A s (wd_X9 aC a_o x.2.2.2) H locs → lv_has ls 4 [(0, .ref (a_o 0)), (1, .int x.1), (2, .int x.2.1), (3, .int x.2.2.1)] → W p l e (R_m 6 146) s m args below meth c H locs 0 0 (MQ below (Q_W (some (.int out.1)) D A (wd_X9 aC a_o out.2)) args s 0 0 A) (F0 m 13 ls [])) (fun rec hrec x h H locs ls hZ hl => t_X9_open_L13 hX hr hrec x.1 x.2.1 x.2.2.1 x.2.2.2 h H locs ls hZ hl) FU_ (u2, (0 : Int32), (0 : Int32), u1) h H locs ls hZ (lv_sub hl [3, 2, 1, 0] rfl)
