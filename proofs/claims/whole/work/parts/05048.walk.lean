def wlX9_isRow : List Cond := .code yX9_isRow cX9_isRow 1 (some .boolean) :: WL_
theorem hd_X9_isRow : yX9_isRow.cls ≠ "java/lang/invoke/MethodHandle" ∧ yX9_isRow.cls ≠ "java/lang/invoke/VarHandle" ∧ (parseMethodDescriptor yX9_isRow.desc).map (fun d => d.parameters.length) = some 1 := by decide +kernel
theorem dX9_isRow_0 : decode cX9_isRow 0 = .ok (.iload_n 0, 1) := by decide +kernel
theorem dX9_isRow_1 : decode cX9_isRow 1 = .ok (.i2l, 1) := by decide +kernel
theorem dX9_isRow_2 : decode cX9_isRow 2 = .ok (.lconst 0, 1) := by decide +kernel
theorem dX9_isRow_3 : decode cX9_isRow 3 = .ok (.ldc2_w 346, 3) := by decide +kernel
theorem dX9_isRow_6 : decode cX9_isRow 6 = .ok (.invokestatic 97, 3) := by decide +kernel
theorem dX9_isRow_9 : decode cX9_isRow 9 = .ok (.ireturn, 1) := by decide +kernel
set_option maxHeartbeats 4000000 in
set_option maxRecDepth 100000 in
theorem c_X9_isRow {l : Launch} {D : va_G} {aC : Nat → ClassId} (x0 : Int32) {out : Int32} (h : f_X9_isRow x0 = some out) : M_R l yX9_isRow wlX9_isRow 1 25 D aC [.int x0] (([] : va_W)) (some (.int out)) := by
  refine k_entR (cc := cX9_isRow) (ret := (some .boolean)) (maxL := 1) (own := RX9) (by decide) rfl rfl rfl ?_
  intro p e s m below meth c A ls hX hr hZ hl
  have hl : lv_has ls 1 [(0, .int x0)] := hl
  generalize ([.int x0] : List Value).toArray = args at hX ⊢
  obtain ⟨hx, hb, hml, hown, hts, hK, hA, hlk⟩ := id hX
  unfold f_X9_isRow at h
  have hF : ∀ q ∈ ([] : List Loc), False := fun _ h => nomatch h
  generalize ([] : List Loc) = locs at hF ⊢
  refine lv_iload_n hx hb dX9_isRow_0 rfl (lv_at hl 0 rfl) ?_
  refine lv_i2l (v := x0.toInt64) hx hb dX9_isRow_1 rfl ?_
  refine lv_lconst (v := 0) hx hb dX9_isRow_2 (by decide) ?_
  refine lv_ldc2 (v := 2) hx hb hown (hts _ wm_265) dX9_isRow_3 ?_
  obtain ⟨u1, hu, h⟩ := k_bd h
  refine k_sRR (As := [.long x0.toInt64, .long (0 : Int64), .long (2 : Int64)]) (rest := []) (wc := []) (v := some (.int u1)) (st1 := [.int u1]) hX hl.1 hZ hF (c_X9_in  x0.toInt64 (0 : Int64) (2 : Int64) hu) (gs_ wm_10 wm_13 wm_11 wm_12) rfl hd_X9_in ⟨rfl, rfl⟩ [] rfl rfl rfl rfl rfl dX9_isRow_6 rfl ⟨rfl, rfl⟩ (fun locs hF => ?_)
  clear hu
  obtain ⟨b2, hb0, h⟩ := k_bd h
  obtain ⟨hb1, hb2, hb3⟩ := k_zb hb0
  clear hb0
  cases h
  exact k_zretR hX hr hb2 hF dX9_isRow_9
def wlX9_row : List Cond := .code yX9_row cX9_row 5 (some .int) :: WL_
theorem hd_X9_row : yX9_row.cls = RX9 ∧ yX9_row.cls ≠ "java/lang/invoke/MethodHandle" ∧ yX9_row.cls ≠ "java/lang/invoke/VarHandle" ∧ (parseMethodDescriptor yX9_row.desc).map (fun d => d.parameters.length) = some 3 := by decide +kernel
theorem dX9_row_0 : decode cX9_row 0 = .ok (.iload_n 1, 1) := by decide +kernel
theorem dX9_row_1 : decode cX9_row 1 = .ok (.invokestatic 348, 3) := by decide +kernel
theorem dX9_row_4 : decode cX9_row 4 = .ok (.ifCond .ne 6, 3) := by decide +kernel
theorem dX9_row_7 : decode cX9_row 7 = .ok (.bipush (-2), 2) := by decide +kernel
theorem dX9_row_9 : decode cX9_row 9 = .ok (.ireturn, 1) := by decide +kernel
theorem dX9_row_10 : decode cX9_row 10 = .ok (.iload_n 2, 1) := by decide +kernel
theorem dX9_row_11 : decode cX9_row 11 = .ok (.i2l, 1) := by decide +kernel
theorem dX9_row_12 : decode cX9_row 12 = .ok (.lconst 0, 1) := by decide +kernel
theorem dX9_row_13 : decode cX9_row 13 = .ok (.lconst 1, 1) := by decide +kernel
theorem dX9_row_14 : decode cX9_row 14 = .ok (.invokestatic 97, 3) := by decide +kernel
theorem dX9_row_17 : decode cX9_row 17 = .ok (.ifCond .eq 9, 3) := by decide +kernel
theorem dX9_row_20 : decode cX9_row 20 = .ok (.iload_n 3, 1) := by decide +kernel
theorem dX9_row_21 : decode cX9_row 21 = .ok (.bipush 10, 2) := by decide +kernel
theorem dX9_row_23 : decode cX9_row 23 = .ok (.if_icmp .le 6, 3) := by decide +kernel
theorem dX9_row_26 : decode cX9_row 26 = .ok (.bipush (-3), 2) := by decide +kernel
theorem dX9_row_28 : decode cX9_row 28 = .ok (.ireturn, 1) := by decide +kernel
theorem dX9_row_29 : decode cX9_row 29 = .ok (.iload_n 3, 1) := by decide +kernel
theorem dX9_row_30 : decode cX9_row 30 = .ok (.ifCond .ge 6, 3) := by decide +kernel
theorem dX9_row_33 : decode cX9_row 33 = .ok (.bipush (-12), 2) := by decide +kernel
theorem dX9_row_35 : decode cX9_row 35 = .ok (.ireturn, 1) := by decide +kernel
theorem dX9_row_36 : decode cX9_row 36 = .ok (.aload_n 0, 1) := by decide +kernel
theorem dX9_row_37 : decode cX9_row 37 = .ok (.getfield 41, 3) := by decide +kernel
theorem dX9_row_40 : decode cX9_row 40 = .ok (.iload_n 1, 1) := by decide +kernel
theorem dX9_row_41 : decode cX9_row 41 = .ok (.iload_n 2, 1) := by decide +kernel
theorem dX9_row_42 : decode cX9_row 42 = .ok (.iastore, 1) := by decide +kernel
theorem dX9_row_43 : decode cX9_row 43 = .ok (.aload_n 0, 1) := by decide +kernel
theorem dX9_row_44 : decode cX9_row 44 = .ok (.getfield 44, 3) := by decide +kernel
theorem dX9_row_47 : decode cX9_row 47 = .ok (.iload_n 1, 1) := by decide +kernel
theorem dX9_row_48 : decode cX9_row 48 = .ok (.iload_n 3, 1) := by decide +kernel
theorem dX9_row_49 : decode cX9_row 49 = .ok (.iastore, 1) := by decide +kernel
theorem dX9_row_50 : decode cX9_row 50 = .ok (.iconst 0, 1) := by decide +kernel
theorem dX9_row_51 : decode cX9_row 51 = .ok (.istore 4, 2) := by decide +kernel
theorem dX9_row_53 : decode cX9_row 53 = .ok (.iload 4, 2) := by decide +kernel
theorem dX9_row_55 : decode cX9_row 55 = .ok (.bipush 10, 2) := by decide +kernel
theorem dX9_row_57 : decode cX9_row 57 = .ok (.if_icmp .ge 22, 3) := by decide +kernel
theorem dX9_row_60 : decode cX9_row 60 = .ok (.aload_n 0, 1) := by decide +kernel
theorem dX9_row_61 : decode cX9_row 61 = .ok (.getfield 47, 3) := by decide +kernel
theorem dX9_row_64 : decode cX9_row 64 = .ok (.bipush 10, 2) := by decide +kernel
theorem dX9_row_66 : decode cX9_row 66 = .ok (.iload_n 1, 1) := by decide +kernel
theorem dX9_row_67 : decode cX9_row 67 = .ok (.imul, 1) := by decide +kernel
theorem dX9_row_68 : decode cX9_row 68 = .ok (.iload 4, 2) := by decide +kernel
theorem dX9_row_70 : decode cX9_row 70 = .ok (.iadd, 1) := by decide +kernel
theorem dX9_row_71 : decode cX9_row 71 = .ok (.iconst 0, 1) := by decide +kernel
theorem dX9_row_72 : decode cX9_row 72 = .ok (.iastore, 1) := by decide +kernel
theorem dX9_row_73 : decode cX9_row 73 = .ok (.iinc 4 1, 3) := by decide +kernel
theorem dX9_row_76 : decode cX9_row 76 = .ok (.goto (-23), 3) := by decide +kernel
theorem dX9_row_79 : decode cX9_row 79 = .ok (.iload_n 3, 1) := by decide +kernel
theorem dX9_row_80 : decode cX9_row 80 = .ok (.ireturn, 1) := by decide +kernel
set_option maxHeartbeats 4000000 in
set_option maxRecDepth 100000 in
theorem t_X9_row_L53 {p : Program} {l : Launch} {e : Env} {s : State} {m : MethodId} {args : Array Value} {below : List Frame} {meth : Method} {c : Code} {D : va_G} {aC : Nat → ClassId} {A : Nat → Prop} {a_o : Nat → Nat} {out : Int32 × Ob_T} {rec53 : (Int32 × Int32 × Int32 × Ob_T) → Option (Int32 × Ob_T)} (hX : K_X p s m args meth c cX9_row 5 WL_ RX9 D aC A) (hr : meth.sig.returnType = (some .int)) (hrec53 : ∀ x : Int32 × Int32 × Int32 × Ob_T, rec53 x = some out → ∀ (H : Heap) (locs : List Loc) (ls : Array Slot), K_S D A s (wd_X9 aC a_o x.2.2.2) H locs → lv_has ls 5 [(0, .ref (a_o 0)), (1, .int x.1), (3, .int x.2.1), (4, .int x.2.2.1)] → W p l e (R_m 2 45) s m args below meth c H locs 0 0 (MQ below (Q_W (some (.int out.1)) D A (wd_X9 aC a_o out.2)) args s 0 0 A) (F0 m 53 ls [])) (x1 : Int32) (x3 : Int32) (x4 : Int32) (s_o : Ob_T) (h : f_X9_row_L53 rec53 x1 x3 x4 s_o = some out) (H : Heap) (locs : List Loc) (ls : Array Slot) (hZ : K_S D A s (wd_X9 aC a_o s_o) H locs) (hl : lv_has ls 5 [(0, .ref (a_o 0)), (1, .int x1), (3, .int x3), (4, .int x4)]) : W p l e (R_m 2 45) s m args below meth c H locs 0 0 (MQ below (Q_W (some (.int out.1)) D A (wd_X9 aC a_o out.2)) args s 0 0 A) (F0 m 53 ls []) := by
  obtain ⟨hx, hb, hml, hown, hts, hK, hA, hlk⟩ := id hX
  unfold f_X9_row_L53 at h
  refine lv_iload hx hb dX9_row_53 (lv_at hl 3 rfl) ?_
  refine lv_bipush (v := 10) hx hb dX9_row_55 (by decide) ?_
  refine lv_icmp_ge (tgt := 79) hx hb dX9_row_57 (by decide) (fun cd => ?_) (fun cd => ?_)
  · replace h := k_t cd h
    clear cd
    refine lv_iload_n hx hb dX9_row_79 rfl (lv_at hl 2 rfl) ?_
    cases h
    exact k_iretW hX hr hZ dX9_row_80
  · replace h := k_f cd h
    clear cd
    refine lv_aload_n hx hb dX9_row_60 rfl (lv_at hl 0 rfl) ?_
    refine k_get hX hZ.1 0 9 rfl rfl iw_X9 17 rfl (wm_267) (v := .ref (a_o 13)) rfl dX9_row_61 ?_
    refine lv_bipush (v := 10) hx hb dX9_row_64 (by decide) ?_
    refine lv_iload_n hx hb dX9_row_66 rfl (lv_at hl 1 rfl) ?_
    refine lv_imul hx hb dX9_row_67 ?_
    refine lv_iload hx hb dX9_row_68 (lv_at hl 3 rfl) ?_
    refine lv_iadd hx hb dX9_row_70 ?_
    refine lv_iconst (v := 0) hx hb dX9_row_71 (by decide) ?_
    refine k_iast (wf := (fun o => wd_X9 aC a_o o)) (o := s_o) hX hZ 13 17 rfl (fun _ => rfl) h dX9_row_72 (fun o5 H locs hZ h => ?_)
    refine lv_iinc (v := (x4 + (1 : Int32))) (lv' := [(4, .int (x4 + (1 : Int32))), (0, .ref (a_o 0)), (1, .int x1), (3, .int x3)]) hx hb dX9_row_73 hl (k := 3) rfl rfl (by decide) rfl (fun ls hl => ?_)
    refine lv_goto (tgt := 53) hx hb dX9_row_76 (by decide) ?_
    exact hrec53 (x1, x3, (x4 + (1 : Int32)), o5) h H locs ls hZ (lv_sub hl [1, 2, 3, 0] rfl)
set_option maxHeartbeats 4000000 in
set_option maxRecDepth 100000 in
theorem c_X9_row {l : Launch} {D : va_G} {aC : Nat → ClassId} {a_o : Nat → Nat} (s_o : Ob_T) (x1 : Int32) (x2 : Int32) (x3 : Int32) {out : Int32 × Ob_T} (h : f_X9_row s_o x1 x2 x3 = some out) : M_W l yX9_row wlX9_row 2 45 D aC [.ref (a_o 0), .int x1, .int x2, .int x3] (wd_X9 aC a_o s_o) (some (.int out.1)) (wd_X9 aC a_o out.2) := by
  refine k_entW (cc := cX9_row) (ret := (some .int)) (maxL := 5) (own := RX9) (by decide) rfl rfl rfl ?_
  intro p e s m below meth c A ls hX hr hZ hl
  have hl : lv_has ls 5 [(0, .ref (a_o 0)), (1, .int x1), (2, .int x2), (3, .int x3)] := hl
  generalize ([.ref (a_o 0), .int x1, .int x2, .int x3] : List Value).toArray = args at hX ⊢
  obtain ⟨hx, hb, hml, hown, hts, hK, hA, hlk⟩ := id hX
  unfold f_X9_row at h
  generalize s.heap = H at hZ ⊢
  generalize ([] : List Loc) = locs at hZ ⊢
  refine lv_iload_n hx hb dX9_row_0 rfl (lv_at hl 1 rfl) ?_
  obtain ⟨u1, hu, h⟩ := k_bd h
  refine k_sR (As := [.int x1]) (rest := []) (wc := []) (v := some (.int u1)) (st1 := [.int u1]) hX hl.1 hZ (c_X9_isRow  x1 hu) (gs_ wm_268 wm_270 wm_11 wm_269) rfl hd_X9_isRow ⟨rfl, rfl⟩ [] rfl rfl rfl rfl rfl dX9_row_1 rfl ⟨rfl, rfl⟩ (fun locs hZ => ?_)
  clear hu
  refine lv_if_ne (tgt := 10) hx hb dX9_row_4 (by decide) (fun cd => ?_) (fun cd => ?_)
  · replace h := k_f cd h
    clear cd
    refine lv_iload_n hx hb dX9_row_10 rfl (lv_at hl 2 rfl) ?_
    refine lv_i2l (v := x2.toInt64) hx hb dX9_row_11 rfl ?_
    refine lv_lconst (v := 0) hx hb dX9_row_12 (by decide) ?_
    refine lv_lconst (v := 1) hx hb dX9_row_13 (by decide) ?_
    obtain ⟨u2, hu, h⟩ := k_bd h
    refine k_sR (As := [.long x2.toInt64, .long (0 : Int64), .long (1 : Int64)]) (rest := []) (wc := []) (v := some (.int u2)) (st1 := [.int u2]) hX hl.1 hZ (c_X9_in  x2.toInt64 (0 : Int64) (1 : Int64) hu) (gs_ wm_10 wm_13 wm_11 wm_12) rfl hd_X9_in ⟨rfl, rfl⟩ [] rfl rfl rfl rfl rfl dX9_row_14 rfl ⟨rfl, rfl⟩ (fun locs hZ => ?_)
    clear hu
    refine lv_if_eq (tgt := 26) hx hb dX9_row_17 (by decide) (fun cd => ?_) (fun cd => ?_)
    · replace h := k_t cd h
      clear cd
      refine lv_bipush (v := -3) hx hb dX9_row_26 (by decide) ?_
      cases h
      exact k_iretW hX hr hZ dX9_row_28
    · replace h := k_f cd h
      clear cd
      refine lv_iload_n hx hb dX9_row_20 rfl (lv_at hl 3 rfl) ?_
      refine lv_bipush (v := 10) hx hb dX9_row_21 (by decide) ?_
      refine lv_icmp_le (tgt := 29) hx hb dX9_row_23 (by decide) (fun cd => ?_) (fun cd => ?_)
      · replace h := k_t cd h
        clear cd
        refine lv_iload_n hx hb dX9_row_29 rfl (lv_at hl 3 rfl) ?_
        refine lv_if_ge (tgt := 36) hx hb dX9_row_30 (by decide) (fun cd => ?_) (fun cd => ?_)
        · replace h := k_t cd h
          clear cd
          refine lv_aload_n hx hb dX9_row_36 rfl (lv_at hl 0 rfl) ?_
          refine k_get hX hZ.1 0 9 rfl rfl iw_X9 15 rfl (wm_266) (v := .ref (a_o 11)) rfl dX9_row_37 ?_
          refine lv_iload_n hx hb dX9_row_40 rfl (lv_at hl 1 rfl) ?_
          refine lv_iload_n hx hb dX9_row_41 rfl (lv_at hl 2 rfl) ?_
          refine k_iast (wf := (fun o => wd_X9 aC a_o o)) (o := s_o) hX hZ 11 15 rfl (fun _ => rfl) h dX9_row_42 (fun o3 H locs hZ h => ?_)
          refine lv_aload_n hx hb dX9_row_43 rfl (lv_at hl 0 rfl) ?_
          refine k_get hX hZ.1 0 9 rfl rfl iw_X9 16 rfl (wm_120) (v := .ref (a_o 12)) rfl dX9_row_44 ?_
          refine lv_iload_n hx hb dX9_row_47 rfl (lv_at hl 1 rfl) ?_
          refine lv_iload_n hx hb dX9_row_48 rfl (lv_at hl 3 rfl) ?_
          refine k_iast (wf := (fun o => wd_X9 aC a_o o)) (o := o3) hX hZ 12 16 rfl (fun _ => rfl) h dX9_row_49 (fun o4 H locs hZ h => ?_)
          refine lv_iconst (v := 0) hx hb dX9_row_50 (by decide) ?_
          refine lv_istore (lv' := [(4, .int (0 : Int32)), (0, .ref (a_o 0)), (1, .int x1), (2, .int x2), (3, .int x3)]) hx hb dX9_row_51 hl (by decide) rfl (fun ls hl => ?_)
          exact Lp_ok (body := (fun (rec : (Int32 × Int32 × Int32 × Ob_T) → Option (Int32 × Ob_T)) x => f_X9_row_L53 rec x.1 x.2.1 x.2.2.1 x.2.2.2)) (out := out) (fun x => ∀ (H : Heap) (locs : List Loc) (ls : Array Slot), K_S D A s (wd_X9 aC a_o x.2.2.2) H locs → lv_has ls 5 [(0, .ref (a_o 0)), (1, .int x.1), (3, .int x.2.1), (4, .int x.2.2.1)] → W p l e (R_m 2 45) s m args below meth c H locs 0 0 (MQ below (Q_W (some (.int out.1)) D A (wd_X9 aC a_o out.2)) args s 0 0 A) (F0 m 53 ls [])) (fun rec hrec x h H locs ls hZ hl => t_X9_row_L53 hX hr hrec x.1 x.2.1 x.2.2.1 x.2.2.2 h H locs ls hZ hl) FU_ (x1, x3, (0 : Int32), o4) h H locs ls hZ (lv_sub hl [1, 2, 4, 0] rfl)
        · replace h := k_f cd h
          clear cd
          refine lv_bipush (v := -12) hx hb dX9_row_33 (by decide) ?_
          cases h
          exact k_iretW hX hr hZ dX9_row_35
      · replace h := k_f cd h
        clear cd
        refine lv_bipush (v := -3) hx hb dX9_row_26 (by decide) ?_
        cases h
        exact k_iretW hX hr hZ dX9_row_28
  · replace h := k_t cd h
    clear cd
    refine lv_bipush (v := -2) hx hb dX9_row_7 (by decide) ?_
    cases h
    exact k_iretW hX hr hZ dX9_row_9
def wlX9_noPlace : List Cond := .code yX9_noPlace cX9_noPlace 4 (some .int) :: WL_
theorem hd_X9_noPlace : yX9_noPlace.cls = RX9 ∧ yX9_noPlace.cls ≠ "java/lang/invoke/MethodHandle" ∧ yX9_noPlace.cls ≠ "java/lang/invoke/VarHandle" ∧ (parseMethodDescriptor yX9_noPlace.desc).map (fun d => d.parameters.length) = some 3 := by decide +kernel
theorem dX9_noPlace_0 : decode cX9_noPlace 0 = .ok (.aload_n 0, 1) := by decide +kernel
theorem dX9_noPlace_1 : decode cX9_noPlace 1 = .ok (.getfield 44, 3) := by decide +kernel
theorem dX9_noPlace_4 : decode cX9_noPlace 4 = .ok (.iload_n 1, 1) := by decide +kernel
theorem dX9_noPlace_5 : decode cX9_noPlace 5 = .ok (.iaload, 1) := by decide +kernel
theorem dX9_noPlace_6 : decode cX9_noPlace 6 = .ok (.ifCond .ge 8, 3) := by decide +kernel
theorem dX9_noPlace_9 : decode cX9_noPlace 9 = .ok (.bipush (-11), 2) := by decide +kernel
theorem dX9_noPlace_11 : decode cX9_noPlace 11 = .ok (.goto 42, 3) := by decide +kernel
theorem dX9_noPlace_14 : decode cX9_noPlace 14 = .ok (.aload_n 0, 1) := by decide +kernel
theorem dX9_noPlace_15 : decode cX9_noPlace 15 = .ok (.getfield 41, 3) := by decide +kernel
theorem dX9_noPlace_18 : decode cX9_noPlace 18 = .ok (.iload_n 1, 1) := by decide +kernel
theorem dX9_noPlace_19 : decode cX9_noPlace 19 = .ok (.iaload, 1) := by decide +kernel
theorem dX9_noPlace_20 : decode cX9_noPlace 20 = .ok (.iload_n 2, 1) := by decide +kernel
theorem dX9_noPlace_21 : decode cX9_noPlace 21 = .ok (.if_icmp .eq 8, 3) := by decide +kernel
theorem dX9_noPlace_24 : decode cX9_noPlace 24 = .ok (.bipush (-13), 2) := by decide +kernel
theorem dX9_noPlace_26 : decode cX9_noPlace 26 = .ok (.goto 27, 3) := by decide +kernel
theorem dX9_noPlace_29 : decode cX9_noPlace 29 = .ok (.iload_n 3, 1) := by decide +kernel
theorem dX9_noPlace_30 : decode cX9_noPlace 30 = .ok (.i2l, 1) := by decide +kernel
theorem dX9_noPlace_31 : decode cX9_noPlace 31 = .ok (.lconst 0, 1) := by decide +kernel
theorem dX9_noPlace_32 : decode cX9_noPlace 32 = .ok (.aload_n 0, 1) := by decide +kernel
theorem dX9_noPlace_33 : decode cX9_noPlace 33 = .ok (.getfield 44, 3) := by decide +kernel
theorem dX9_noPlace_36 : decode cX9_noPlace 36 = .ok (.iload_n 1, 1) := by decide +kernel
theorem dX9_noPlace_37 : decode cX9_noPlace 37 = .ok (.iaload, 1) := by decide +kernel
theorem dX9_noPlace_38 : decode cX9_noPlace 38 = .ok (.iconst 1, 1) := by decide +kernel
theorem dX9_noPlace_39 : decode cX9_noPlace 39 = .ok (.isub, 1) := by decide +kernel
theorem dX9_noPlace_40 : decode cX9_noPlace 40 = .ok (.i2l, 1) := by decide +kernel
theorem dX9_noPlace_41 : decode cX9_noPlace 41 = .ok (.invokestatic 97, 3) := by decide +kernel
theorem dX9_noPlace_44 : decode cX9_noPlace 44 = .ok (.ifCond .eq 7, 3) := by decide +kernel
theorem dX9_noPlace_47 : decode cX9_noPlace 47 = .ok (.iconst 0, 1) := by decide +kernel
theorem dX9_noPlace_48 : decode cX9_noPlace 48 = .ok (.goto 5, 3) := by decide +kernel
theorem dX9_noPlace_51 : decode cX9_noPlace 51 = .ok (.bipush (-14), 2) := by decide +kernel
theorem dX9_noPlace_53 : decode cX9_noPlace 53 = .ok (.ireturn, 1) := by decide +kernel
set_option maxHeartbeats 4000000 in
set_option maxRecDepth 100000 in
theorem c_X9_noPlace {l : Launch} {D : va_G} {aC : Nat → ClassId} {a_o : Nat → Nat} (s_o : Ob_T) (x1 : Int32) (x2 : Int32) (x3 : Int32) {out : Int32} (h : f_X9_noPlace s_o x1 x2 x3 = some out) : M_R l yX9_noPlace wlX9_noPlace 1 25 D aC [.ref (a_o 0), .int x1, .int x2, .int x3] (wd_X9 aC a_o s_o) (some (.int out)) := by
  refine k_entR (cc := cX9_noPlace) (ret := (some .int)) (maxL := 4) (own := RX9) (by decide) rfl rfl rfl ?_
  intro p e s m below meth c A ls hX hr hZ hl
  have hl : lv_has ls 4 [(0, .ref (a_o 0)), (1, .int x1), (2, .int x2), (3, .int x3)] := hl
  generalize ([.ref (a_o 0), .int x1, .int x2, .int x3] : List Value).toArray = args at hX ⊢
  obtain ⟨hx, hb, hml, hown, hts, hK, hA, hlk⟩ := id hX
  unfold f_X9_noPlace at h
  have hF : ∀ q ∈ ([] : List Loc), False := fun _ h => nomatch h
  generalize ([] : List Loc) = locs at hF ⊢
  refine lv_aload_n hx hb dX9_noPlace_0 rfl (lv_at hl 0 rfl) ?_
  refine k_get hX hZ.1 0 9 rfl rfl iw_X9 16 rfl (wm_120) (v := .ref (a_o 12)) rfl dX9_noPlace_1 ?_
  refine lv_iload_n hx hb dX9_noPlace_4 rfl (lv_at hl 1 rfl) ?_
  refine k_iald hX hZ.1 12 rfl h dX9_noPlace_5 (fun v1 h => ?_)
  refine lv_if_ge (tgt := 14) hx hb dX9_noPlace_6 (by decide) (fun cd => ?_) (fun cd => ?_)
  · replace h := k_t cd h
    clear cd
    refine lv_aload_n hx hb dX9_noPlace_14 rfl (lv_at hl 0 rfl) ?_
    refine k_get hX hZ.1 0 9 rfl rfl iw_X9 15 rfl (wm_266) (v := .ref (a_o 11)) rfl dX9_noPlace_15 ?_
    refine lv_iload_n hx hb dX9_noPlace_18 rfl (lv_at hl 1 rfl) ?_
    refine k_iald hX hZ.1 11 rfl h dX9_noPlace_19 (fun v2 h => ?_)
    refine lv_iload_n hx hb dX9_noPlace_20 rfl (lv_at hl 2 rfl) ?_
    refine lv_icmp_eq (tgt := 29) hx hb dX9_noPlace_21 (by decide) (fun cd => ?_) (fun cd => ?_)
    · replace h := k_t cd h
      clear cd
      refine lv_iload_n hx hb dX9_noPlace_29 rfl (lv_at hl 3 rfl) ?_
      refine lv_i2l (v := x3.toInt64) hx hb dX9_noPlace_30 rfl ?_
      refine lv_lconst (v := 0) hx hb dX9_noPlace_31 (by decide) ?_
      refine lv_aload_n hx hb dX9_noPlace_32 rfl (lv_at hl 0 rfl) ?_
      refine k_get hX hZ.1 0 9 rfl rfl iw_X9 16 rfl (wm_120) (v := .ref (a_o 12)) rfl dX9_noPlace_33 ?_
      refine lv_iload_n hx hb dX9_noPlace_36 rfl (lv_at hl 1 rfl) ?_
      refine k_iald hX hZ.1 12 rfl h dX9_noPlace_37 (fun v3 h => ?_)
      refine lv_iconst (v := 1) hx hb dX9_noPlace_38 (by decide) ?_
      refine lv_isub hx hb dX9_noPlace_39 ?_
      refine lv_i2l (v := (v3 - (1 : Int32)).toInt64) hx hb dX9_noPlace_40 rfl ?_
      obtain ⟨u4, hu, h⟩ := k_bd h
      refine k_sRR (As := [.long x3.toInt64, .long (0 : Int64), .long (v3 - (1 : Int32)).toInt64]) (rest := []) (wc := []) (v := some (.int u4)) (st1 := [.int u4]) hX hl.1 hZ hF (c_X9_in  x3.toInt64 (0 : Int64) ((v3 - (1 : Int32)).toInt64) hu) (gs_ wm_10 wm_13 wm_11 wm_12) rfl hd_X9_in ⟨rfl, rfl⟩ [] rfl rfl rfl rfl rfl dX9_noPlace_41 rfl ⟨rfl, rfl⟩ (fun locs hF => ?_)
      clear hu
      refine lv_if_eq (tgt := 51) hx hb dX9_noPlace_44 (by decide) (fun cd => ?_) (fun cd => ?_)
      · replace h := k_t cd h
        clear cd
        refine lv_bipush (v := -14) hx hb dX9_noPlace_51 (by decide) ?_
        cases h
        exact k_iretR hX hr hF dX9_noPlace_53
      · replace h := k_f cd h
        clear cd
        refine lv_iconst (v := 0) hx hb dX9_noPlace_47 (by decide) ?_
        refine lv_goto (tgt := 53) hx hb dX9_noPlace_48 (by decide) ?_
        cases h
        exact k_iretR hX hr hF dX9_noPlace_53
    · replace h := k_f cd h
      clear cd
      refine lv_bipush (v := -13) hx hb dX9_noPlace_24 (by decide) ?_
      refine lv_goto (tgt := 53) hx hb dX9_noPlace_26 (by decide) ?_
      cases h
      exact k_iretR hX hr hF dX9_noPlace_53
  · replace h := k_f cd h
    clear cd
    refine lv_bipush (v := -11) hx hb dX9_noPlace_9 (by decide) ?_
    refine lv_goto (tgt := 53) hx hb dX9_noPlace_11 (by decide) ?_
    cases h
    exact k_iretR hX hr hF dX9_noPlace_53
