def wlX9_isOnLeft : List Cond := .code yX9_isOnLeft cX9_isOnLeft 3 (some .boolean) :: WL_
theorem hd_X9_isOnLeft : yX9_isOnLeft.cls = RX9 ∧ yX9_isOnLeft.cls ≠ "java/lang/invoke/MethodHandle" ∧ yX9_isOnLeft.cls ≠ "java/lang/invoke/VarHandle" ∧ (parseMethodDescriptor yX9_isOnLeft.desc).map (fun d => d.parameters.length) = some 0 := by decide +kernel
theorem dX9_isOnLeft_0 : decode cX9_isOnLeft 0 = .ok (.iconst 0, 1) := by decide +kernel
theorem dX9_isOnLeft_1 : decode cX9_isOnLeft 1 = .ok (.istore_n 1, 1) := by decide +kernel
theorem dX9_isOnLeft_2 : decode cX9_isOnLeft 2 = .ok (.iconst 0, 1) := by decide +kernel
theorem dX9_isOnLeft_3 : decode cX9_isOnLeft 3 = .ok (.istore_n 2, 1) := by decide +kernel
theorem dX9_isOnLeft_4 : decode cX9_isOnLeft 4 = .ok (.iload_n 2, 1) := by decide +kernel
theorem dX9_isOnLeft_5 : decode cX9_isOnLeft 5 = .ok (.aload_n 0, 1) := by decide +kernel
theorem dX9_isOnLeft_6 : decode cX9_isOnLeft 6 = .ok (.getfield 234, 3) := by decide +kernel
theorem dX9_isOnLeft_9 : decode cX9_isOnLeft 9 = .ok (.if_icmp .ge 35, 3) := by decide +kernel
theorem dX9_isOnLeft_12 : decode cX9_isOnLeft 12 = .ok (.iload_n 1, 1) := by decide +kernel
theorem dX9_isOnLeft_13 : decode cX9_isOnLeft 13 = .ok (.ifCond .ne 19, 3) := by decide +kernel
theorem dX9_isOnLeft_16 : decode cX9_isOnLeft 16 = .ok (.aload_n 0, 1) := by decide +kernel
theorem dX9_isOnLeft_17 : decode cX9_isOnLeft 17 = .ok (.aload_n 0, 1) := by decide +kernel
theorem dX9_isOnLeft_18 : decode cX9_isOnLeft 18 = .ok (.getfield 86, 3) := by decide +kernel
theorem dX9_isOnLeft_21 : decode cX9_isOnLeft 21 = .ok (.iload_n 2, 1) := by decide +kernel
theorem dX9_isOnLeft_22 : decode cX9_isOnLeft 22 = .ok (.iaload, 1) := by decide +kernel
theorem dX9_isOnLeft_23 : decode cX9_isOnLeft 23 = .ok (.invokevirtual 221, 3) := by decide +kernel
theorem dX9_isOnLeft_26 : decode cX9_isOnLeft 26 = .ok (.sipush 20000, 3) := by decide +kernel
theorem dX9_isOnLeft_29 : decode cX9_isOnLeft 29 = .ok (.if_icmp .lt 7, 3) := by decide +kernel
theorem dX9_isOnLeft_32 : decode cX9_isOnLeft 32 = .ok (.iconst 1, 1) := by decide +kernel
theorem dX9_isOnLeft_33 : decode cX9_isOnLeft 33 = .ok (.goto 4, 3) := by decide +kernel
theorem dX9_isOnLeft_36 : decode cX9_isOnLeft 36 = .ok (.iconst 0, 1) := by decide +kernel
theorem dX9_isOnLeft_37 : decode cX9_isOnLeft 37 = .ok (.istore_n 1, 1) := by decide +kernel
theorem dX9_isOnLeft_38 : decode cX9_isOnLeft 38 = .ok (.iinc 2 1, 3) := by decide +kernel
theorem dX9_isOnLeft_41 : decode cX9_isOnLeft 41 = .ok (.goto (-37), 3) := by decide +kernel
theorem dX9_isOnLeft_44 : decode cX9_isOnLeft 44 = .ok (.iload_n 1, 1) := by decide +kernel
theorem dX9_isOnLeft_45 : decode cX9_isOnLeft 45 = .ok (.ireturn, 1) := by decide +kernel
set_option maxHeartbeats 4000000 in
set_option maxRecDepth 100000 in
theorem t_X9_isOnLeft_L4 {p : Program} {l : Launch} {e : Env} {s : State} {m : MethodId} {args : Array Value} {below : List Frame} {meth : Method} {c : Code} {D : va_G} {aC : Nat → ClassId} {A : Nat → Prop} {a_o : Nat → Nat} {out : Int32} {s_o : Ob_T} {rec4 : (Int32 × Int32) → Option Int32} (hX : K_X p s m args meth c cX9_isOnLeft 3 WL_ RX9 D aC A) (hr : meth.sig.returnType = (some .boolean)) (hZ : va_P D vwCl (wd_X9 aC a_o s_o) s.heap ∧ va_D (fun _ => True) (wd_X9 aC a_o s_o)) (hrec4 : ∀ x : Int32 × Int32, rec4 x = some out → ∀ (locs : List Loc) (ls : Array Slot), (∀ q ∈ locs, False) → lv_has ls 3 [(0, .ref (a_o 0)), (1, .int x.1), (2, .int x.2)] → W p l e (R_m 1 22) s m args below meth c s.heap locs 0 0 (MQ below (Q_R (some (.int out))) args s 0 0 (fun _ => False)) (F0 m 4 ls [])) (x1 : Int32) (x2 : Int32) (h : f_X9_isOnLeft_L4 rec4 x1 x2 s_o = some out) (locs : List Loc) (ls : Array Slot) (hF : ∀ q ∈ locs, False) (hl : lv_has ls 3 [(0, .ref (a_o 0)), (1, .int x1), (2, .int x2)]) : W p l e (R_m 1 22) s m args below meth c s.heap locs 0 0 (MQ below (Q_R (some (.int out))) args s 0 0 (fun _ => False)) (F0 m 4 ls []) := by
  obtain ⟨hx, hb, hml, hown, hts, hK, hA, hlk⟩ := id hX
  unfold f_X9_isOnLeft_L4 at h
  refine lv_iload_n hx hb dX9_isOnLeft_4 rfl (lv_at hl 2 rfl) ?_
  refine lv_aload_n hx hb dX9_isOnLeft_5 rfl (lv_at hl 0 rfl) ?_
  refine k_get hX hZ.1 0 9 rfl rfl iw_X9 39 rfl (wm_144) (v := .int (o_F s_o 39)) rfl dX9_isOnLeft_6 ?_
  refine lv_icmp_ge (tgt := 44) hx hb dX9_isOnLeft_9 (by decide) (fun cd => ?_) (fun cd => ?_)
  · replace h := k_t cd h
    clear cd
    refine lv_iload_n hx hb dX9_isOnLeft_44 rfl (lv_at hl 1 rfl) ?_
    obtain ⟨b1, hb0, h⟩ := k_bd h
    obtain ⟨hb1, hb2, hb3⟩ := k_zb hb0
    clear hb0
    cases h
    exact k_zretR hX hr hb2 hF dX9_isOnLeft_45
  · replace h := k_f cd h
    clear cd
    refine lv_iload_n hx hb dX9_isOnLeft_12 rfl (lv_at hl 1 rfl) ?_
    refine lv_if_ne (tgt := 32) hx hb dX9_isOnLeft_13 (by decide) (fun cd => ?_) (fun cd => ?_)
    · replace h := k_f cd h
      clear cd
      refine lv_iconst (v := 1) hx hb dX9_isOnLeft_32 (by decide) ?_
      refine lv_goto (tgt := 37) hx hb dX9_isOnLeft_33 (by decide) ?_
      refine lv_istore_n (lv' := [(1, .int (1 : Int32)), (0, .ref (a_o 0)), (2, .int x2)]) hx hb dX9_isOnLeft_37 rfl hl (by decide) rfl (fun ls hl => ?_)
      refine lv_iinc (v := (x2 + (1 : Int32))) (lv' := [(2, .int (x2 + (1 : Int32))), (1, .int (1 : Int32)), (0, .ref (a_o 0))]) hx hb dX9_isOnLeft_38 hl (k := 2) rfl rfl (by decide) rfl (fun ls hl => ?_)
      refine lv_goto (tgt := 4) hx hb dX9_isOnLeft_41 (by decide) ?_
      exact hrec4 ((1 : Int32), (x2 + (1 : Int32))) h locs ls hF (lv_sub hl [2, 1, 0] rfl)
    · replace h := k_t cd h
      clear cd
      refine lv_aload_n hx hb dX9_isOnLeft_16 rfl (lv_at hl 0 rfl) ?_
      refine lv_aload_n hx hb dX9_isOnLeft_17 rfl (lv_at hl 0 rfl) ?_
      refine k_get hX hZ.1 0 9 rfl rfl iw_X9 37 rfl (wm_143) (v := .ref (a_o 26)) rfl dX9_isOnLeft_18 ?_
      refine lv_iload_n hx hb dX9_isOnLeft_21 rfl (lv_at hl 2 rfl) ?_
      refine k_iald hX hZ.1 26 rfl h dX9_isOnLeft_22 (fun v2 h => ?_)
      obtain ⟨u3, hu, h⟩ := k_bd h
      refine k_vRRs (As := [.int v2]) (rest := []) (v := some (.int u3)) (st1 := [.int u3]) hX hl.1 hZ hF (c_X9_solved (a_o := a_o) s_o v2 hu) (gv_ wm_135 wm_137 wm_138 wm_11 wm_136) rfl hd_X9_solved ⟨rfl, rfl⟩ 9 0 rfl rfl rfl rfl rfl dX9_isOnLeft_23 rfl ⟨rfl, rfl⟩ (fun locs hF => ?_)
      clear hu
      refine lv_sipush (v := 20000) hx hb dX9_isOnLeft_26 (by decide) ?_
      refine lv_icmp_lt (tgt := 36) hx hb dX9_isOnLeft_29 (by decide) (fun cd => ?_) (fun cd => ?_)
      · replace h := k_t cd h
        clear cd
        refine lv_iconst (v := 0) hx hb dX9_isOnLeft_36 (by decide) ?_
        refine lv_istore_n (lv' := [(1, .int (0 : Int32)), (0, .ref (a_o 0)), (2, .int x2)]) hx hb dX9_isOnLeft_37 rfl hl (by decide) rfl (fun ls hl => ?_)
        refine lv_iinc (v := (x2 + (1 : Int32))) (lv' := [(2, .int (x2 + (1 : Int32))), (1, .int (0 : Int32)), (0, .ref (a_o 0))]) hx hb dX9_isOnLeft_38 hl (k := 2) rfl rfl (by decide) rfl (fun ls hl => ?_)
        refine lv_goto (tgt := 4) hx hb dX9_isOnLeft_41 (by decide) ?_
        exact hrec4 ((0 : Int32), (x2 + (1 : Int32))) h locs ls hF (lv_sub hl [2, 1, 0] rfl)
      · replace h := k_f cd h
        clear cd
        refine lv_iconst (v := 1) hx hb dX9_isOnLeft_32 (by decide) ?_
        refine lv_goto (tgt := 37) hx hb dX9_isOnLeft_33 (by decide) ?_
        refine lv_istore_n (lv' := [(1, .int (1 : Int32)), (0, .ref (a_o 0)), (2, .int x2)]) hx hb dX9_isOnLeft_37 rfl hl (by decide) rfl (fun ls hl => ?_)
        refine lv_iinc (v := (x2 + (1 : Int32))) (lv' := [(2, .int (x2 + (1 : Int32))), (1, .int (1 : Int32)), (0, .ref (a_o 0))]) hx hb dX9_isOnLeft_38 hl (k := 2) rfl rfl (by decide) rfl (fun ls hl => ?_)
        refine lv_goto (tgt := 4) hx hb dX9_isOnLeft_41 (by decide) ?_
        exact hrec4 ((1 : Int32), (x2 + (1 : Int32))) h locs ls hF (lv_sub hl [2, 1, 0] rfl)
set_option maxHeartbeats 4000000 in
set_option maxRecDepth 100000 in
theorem c_X9_isOnLeft {l : Launch} {D : va_G} {aC : Nat → ClassId} {a_o : Nat → Nat} (s_o : Ob_T) {out : Int32} (h : f_X9_isOnLeft s_o = some out) : M_R l yX9_isOnLeft wlX9_isOnLeft 1 22 D aC [.ref (a_o 0)] (wd_X9 aC a_o s_o) (some (.int out)) := by
  refine k_entR (cc := cX9_isOnLeft) (ret := (some .boolean)) (maxL := 3) (own := RX9) (by decide) rfl rfl rfl ?_
  intro p e s m below meth c A ls hX hr hZ hl
  have hl : lv_has ls 3 [(0, .ref (a_o 0))] := hl
  generalize ([.ref (a_o 0)] : List Value).toArray = args at hX ⊢
  obtain ⟨hx, hb, hml, hown, hts, hK, hA, hlk⟩ := id hX
  unfold f_X9_isOnLeft at h
  have hF : ∀ q ∈ ([] : List Loc), False := fun _ h => nomatch h
  generalize ([] : List Loc) = locs at hF ⊢
  refine lv_iconst (v := 0) hx hb dX9_isOnLeft_0 (by decide) ?_
  refine lv_istore_n (lv' := [(1, .int (0 : Int32)), (0, .ref (a_o 0))]) hx hb dX9_isOnLeft_1 rfl hl (by decide) rfl (fun ls hl => ?_)
  refine lv_iconst (v := 0) hx hb dX9_isOnLeft_2 (by decide) ?_
  refine lv_istore_n (lv' := [(2, .int (0 : Int32)), (1, .int (0 : Int32)), (0, .ref (a_o 0))]) hx hb dX9_isOnLeft_3 rfl hl (by decide) rfl (fun ls hl => ?_)
  exact Lp_ok (body := (fun (rec : (Int32 × Int32) → Option Int32) x => f_X9_isOnLeft_L4 rec x.1 x.2 s_o)) (out := out) (fun x => ∀ (locs : List Loc) (ls : Array Slot), (∀ q ∈ locs, False) → lv_has ls 3 [(0, .ref (a_o 0)), (1, .int x.1), (2, .int x.2)] → W p l e (R_m 1 22) s m args below meth c s.heap locs 0 0 (MQ below (Q_R (some (.int out))) args s 0 0 (fun _ => False)) (F0 m 4 ls [])) (fun rec hrec x h locs ls hF hl => t_X9_isOnLeft_L4 hX hr hZ hrec x.1 x.2 h locs ls hF hl) FU_ ((0 : Int32), (0 : Int32)) h locs ls hF (lv_sub hl [2, 1, 0] rfl)
