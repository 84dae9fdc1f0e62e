def wlX9_meet : List Cond := .code yX9_meet cX9_meet 8 none :: WL_
theorem hd_X9_meet : yX9_meet.cls = RX9 ∧ yX9_meet.cls ≠ "java/lang/invoke/MethodHandle" ∧ yX9_meet.cls ≠ "java/lang/invoke/VarHandle" ∧ (parseMethodDescriptor yX9_meet.desc).map (fun d => d.parameters.length) = some 5 := by decide +kernel
theorem dX9_meet_0 : decode cX9_meet 0 = .ok (.aload_n 0, 1) := by decide +kernel
theorem dX9_meet_1 : decode cX9_meet 1 = .ok (.iload 4, 2) := by decide +kernel
theorem dX9_meet_3 : decode cX9_meet 3 = .ok (.invokevirtual 221, 3) := by decide +kernel
theorem dX9_meet_6 : decode cX9_meet 6 = .ok (.istore 6, 2) := by decide +kernel
theorem dX9_meet_8 : decode cX9_meet 8 = .ok (.aload_n 0, 1) := by decide +kernel
theorem dX9_meet_9 : decode cX9_meet 9 = .ok (.iload 5, 2) := by decide +kernel
theorem dX9_meet_11 : decode cX9_meet 11 = .ok (.invokevirtual 221, 3) := by decide +kernel
theorem dX9_meet_14 : decode cX9_meet 14 = .ok (.istore 7, 2) := by decide +kernel
theorem dX9_meet_16 : decode cX9_meet 16 = .ok (.iload 6, 2) := by decide +kernel
theorem dX9_meet_18 : decode cX9_meet 18 = .ok (.sipush 20000, 3) := by decide +kernel
theorem dX9_meet_21 : decode cX9_meet 21 = .ok (.if_icmp .ge 32, 3) := by decide +kernel
theorem dX9_meet_24 : decode cX9_meet 24 = .ok (.iload 7, 2) := by decide +kernel
theorem dX9_meet_26 : decode cX9_meet 26 = .ok (.sipush 20000, 3) := by decide +kernel
theorem dX9_meet_29 : decode cX9_meet 29 = .ok (.if_icmp .ge 24, 3) := by decide +kernel
theorem dX9_meet_32 : decode cX9_meet 32 = .ok (.iload 6, 2) := by decide +kernel
theorem dX9_meet_34 : decode cX9_meet 34 = .ok (.iload 7, 2) := by decide +kernel
theorem dX9_meet_36 : decode cX9_meet 36 = .ok (.if_icmp .eq 81, 3) := by decide +kernel
theorem dX9_meet_39 : decode cX9_meet 39 = .ok (.aload_n 0, 1) := by decide +kernel
theorem dX9_meet_40 : decode cX9_meet 40 = .ok (.iload_n 1, 1) := by decide +kernel
theorem dX9_meet_41 : decode cX9_meet 41 = .ok (.iload_n 2, 1) := by decide +kernel
theorem dX9_meet_42 : decode cX9_meet 42 = .ok (.iload_n 3, 1) := by decide +kernel
theorem dX9_meet_43 : decode cX9_meet 43 = .ok (.iload 6, 2) := by decide +kernel
theorem dX9_meet_45 : decode cX9_meet 45 = .ok (.iload 7, 2) := by decide +kernel
theorem dX9_meet_47 : decode cX9_meet 47 = .ok (.invokevirtual 224, 3) := by decide +kernel
theorem dX9_meet_50 : decode cX9_meet 50 = .ok (.goto 67, 3) := by decide +kernel
theorem dX9_meet_53 : decode cX9_meet 53 = .ok (.iload 6, 2) := by decide +kernel
theorem dX9_meet_55 : decode cX9_meet 55 = .ok (.sipush 20000, 3) := by decide +kernel
theorem dX9_meet_58 : decode cX9_meet 58 = .ok (.if_icmp .ge 19, 3) := by decide +kernel
theorem dX9_meet_61 : decode cX9_meet 61 = .ok (.aload_n 0, 1) := by decide +kernel
theorem dX9_meet_62 : decode cX9_meet 62 = .ok (.getfield 77, 3) := by decide +kernel
theorem dX9_meet_65 : decode cX9_meet 65 = .ok (.iload 7, 2) := by decide +kernel
theorem dX9_meet_67 : decode cX9_meet 67 = .ok (.sipush 20000, 3) := by decide +kernel
theorem dX9_meet_70 : decode cX9_meet 70 = .ok (.isub, 1) := by decide +kernel
theorem dX9_meet_71 : decode cX9_meet 71 = .ok (.iload 6, 2) := by decide +kernel
theorem dX9_meet_73 : decode cX9_meet 73 = .ok (.iastore, 1) := by decide +kernel
theorem dX9_meet_74 : decode cX9_meet 74 = .ok (.goto 43, 3) := by decide +kernel
theorem dX9_meet_77 : decode cX9_meet 77 = .ok (.iload 7, 2) := by decide +kernel
theorem dX9_meet_79 : decode cX9_meet 79 = .ok (.sipush 20000, 3) := by decide +kernel
theorem dX9_meet_82 : decode cX9_meet 82 = .ok (.if_icmp .ge 19, 3) := by decide +kernel
theorem dX9_meet_85 : decode cX9_meet 85 = .ok (.aload_n 0, 1) := by decide +kernel
theorem dX9_meet_86 : decode cX9_meet 86 = .ok (.getfield 77, 3) := by decide +kernel
theorem dX9_meet_89 : decode cX9_meet 89 = .ok (.iload 6, 2) := by decide +kernel
theorem dX9_meet_91 : decode cX9_meet 91 = .ok (.sipush 20000, 3) := by decide +kernel
theorem dX9_meet_94 : decode cX9_meet 94 = .ok (.isub, 1) := by decide +kernel
theorem dX9_meet_95 : decode cX9_meet 95 = .ok (.iload 7, 2) := by decide +kernel
theorem dX9_meet_97 : decode cX9_meet 97 = .ok (.iastore, 1) := by decide +kernel
theorem dX9_meet_98 : decode cX9_meet 98 = .ok (.goto 19, 3) := by decide +kernel
theorem dX9_meet_101 : decode cX9_meet 101 = .ok (.aload_n 0, 1) := by decide +kernel
theorem dX9_meet_102 : decode cX9_meet 102 = .ok (.iload 6, 2) := by decide +kernel
theorem dX9_meet_104 : decode cX9_meet 104 = .ok (.sipush 20000, 3) := by decide +kernel
theorem dX9_meet_107 : decode cX9_meet 107 = .ok (.isub, 1) := by decide +kernel
theorem dX9_meet_108 : decode cX9_meet 108 = .ok (.iload 7, 2) := by decide +kernel
theorem dX9_meet_110 : decode cX9_meet 110 = .ok (.sipush 20000, 3) := by decide +kernel
theorem dX9_meet_113 : decode cX9_meet 113 = .ok (.isub, 1) := by decide +kernel
theorem dX9_meet_114 : decode cX9_meet 114 = .ok (.invokevirtual 228, 3) := by decide +kernel
theorem dX9_meet_117 : decode cX9_meet 117 = .ok (.return_, 1) := by decide +kernel
set_option maxHeartbeats 4000000 in
set_option maxRecDepth 100000 in
theorem t_X9_meet_J53 {p : Program} {l : Launch} {e : Env} {s : State} {m : MethodId} {args : Array Value} {below : List Frame} {meth : Method} {c : Code} {D : va_G} {aC : Nat → ClassId} {A : Nat → Prop} {a_o : Nat → Nat} {out : Ob_T} (hX : K_X p s m args meth c cX9_meet 8 WL_ RX9 D aC A) (hr : meth.sig.returnType = none) (x6 : Int32) (x7 : Int32) (s_o : Ob_T) (h : f_X9_meet_J53 x6 x7 s_o = some out) (H : Heap) (locs : List Loc) (ls : Array Slot) (hZ : K_S D A s (wd_X9 aC a_o s_o) H locs) (hl : lv_has ls 8 [(0, .ref (a_o 0)), (6, .int x6), (7, .int x7)]) : W p l e (R_m 1 25) s m args below meth c H locs 0 0 (MQ below (Q_W (none) D A (wd_X9 aC a_o out)) args s 0 0 A) (F0 m 53 ls []) := by
  obtain ⟨hx, hb, hml, hown, hts, hK, hA, hlk⟩ := id hX
  unfold f_X9_meet_J53 at h
  refine lv_iload hx hb dX9_meet_53 (lv_at hl 1 rfl) ?_
  refine lv_sipush (v := 20000) hx hb dX9_meet_55 (by decide) ?_
  refine lv_icmp_ge (tgt := 77) hx hb dX9_meet_58 (by decide) (fun cd => ?_) (fun cd => ?_)
  · replace h := k_t cd h
    clear cd
    refine lv_iload hx hb dX9_meet_77 (lv_at hl 2 rfl) ?_
    refine lv_sipush (v := 20000) hx hb dX9_meet_79 (by decide) ?_
    refine lv_icmp_ge (tgt := 101) hx hb dX9_meet_82 (by decide) (fun cd => ?_) (fun cd => ?_)
    · replace h := k_t cd h
      clear cd
      refine lv_aload_n hx hb dX9_meet_101 rfl (lv_at hl 0 rfl) ?_
      refine lv_iload hx hb dX9_meet_102 (lv_at hl 1 rfl) ?_
      refine lv_sipush (v := 20000) hx hb dX9_meet_104 (by decide) ?_
      refine lv_isub hx hb dX9_meet_107 ?_
      refine lv_iload hx hb dX9_meet_108 (lv_at hl 2 rfl) ?_
      refine lv_sipush (v := 20000) hx hb dX9_meet_110 (by decide) ?_
      refine lv_isub hx hb dX9_meet_113 ?_
      obtain ⟨u3, hu, h⟩ := k_bd h
      refine k_vWs (As := [.int (x6 - (20000 : Int32)), .int (x7 - (20000 : Int32))]) (rest := []) (v := none) (st1 := []) hX hl.1 hZ (c_X9_becomeAlike (a_o := a_o) s_o (x6 - (20000 : Int32)) (x7 - (20000 : Int32)) hu) (gv_ wm_127 wm_129 wm_130 wm_11 wm_128) rfl hd_X9_becomeAlike ⟨rfl, rfl⟩ 9 0 rfl rfl rfl rfl rfl dX9_meet_114 rfl ⟨rfl, rfl⟩ rfl (fun H locs hZ => ?_)
      clear hu
      cases h
      exact k_vretW hX hr hZ dX9_meet_117
    · replace h := k_f cd h
      clear cd
      refine lv_aload_n hx hb dX9_meet_85 rfl (lv_at hl 0 rfl) ?_
      refine k_get hX hZ.1 0 9 rfl rfl iw_X9 32 rfl (wm_124) (v := .ref (a_o 23)) rfl dX9_meet_86 ?_
      refine lv_iload hx hb dX9_meet_89 (lv_at hl 1 rfl) ?_
      refine lv_sipush (v := 20000) hx hb dX9_meet_91 (by decide) ?_
      refine lv_isub hx hb dX9_meet_94 ?_
      refine lv_iload hx hb dX9_meet_95 (lv_at hl 2 rfl) ?_
      refine k_iast (wf := (fun o => wd_X9 aC a_o o)) (o := s_o) hX hZ 23 32 rfl (fun _ => rfl) h dX9_meet_97 (fun o4 H locs hZ h => ?_)
      refine lv_goto (tgt := 117) hx hb dX9_meet_98 (by decide) ?_
      cases h
      exact k_vretW hX hr hZ dX9_meet_117
  · replace h := k_f cd h
    clear cd
    refine lv_aload_n hx hb dX9_meet_61 rfl (lv_at hl 0 rfl) ?_
    refine k_get hX hZ.1 0 9 rfl rfl iw_X9 32 rfl (wm_124) (v := .ref (a_o 23)) rfl dX9_meet_62 ?_
    refine lv_iload hx hb dX9_meet_65 (lv_at hl 2 rfl) ?_
    refine lv_sipush (v := 20000) hx hb dX9_meet_67 (by decide) ?_
    refine lv_isub hx hb dX9_meet_70 ?_
    refine lv_iload hx hb dX9_meet_71 (lv_at hl 1 rfl) ?_
    refine k_iast (wf := (fun o => wd_X9 aC a_o o)) (o := s_o) hX hZ 23 32 rfl (fun _ => rfl) h dX9_meet_73 (fun o5 H locs hZ h => ?_)
    refine lv_goto (tgt := 117) hx hb dX9_meet_74 (by decide) ?_
    cases h
    exact k_vretW hX hr hZ dX9_meet_117
set_option maxHeartbeats 4000000 in
set_option maxRecDepth 100000 in
theorem c_X9_meet {l : Launch} {D : va_G} {aC : Nat → ClassId} {a_o : Nat → Nat} (s_o : Ob_T) (x1 : Int32) (x2 : Int32) (x3 : Int32) (x4 : Int32) (x5 : Int32) {out : Ob_T} (h : f_X9_meet s_o x1 x2 x3 x4 x5 = some out) : M_W l yX9_meet wlX9_meet 1 25 D aC [.ref (a_o 0), .int x1, .int x2, .int x3, .int x4, .int x5] (wd_X9 aC a_o s_o) (none) (wd_X9 aC a_o out) := by
  refine k_entW (cc := cX9_meet) (ret := none) (maxL := 8) (own := RX9) (by decide) rfl rfl rfl ?_
  intro p e s m below meth c A ls hX hr hZ hl
  have hl : lv_has ls 8 [(0, .ref (a_o 0)), (1, .int x1), (2, .int x2), (3, .int x3), (4, .int x4), (5, .int x5)] := hl
  generalize ([.ref (a_o 0), .int x1, .int x2, .int x3, .int x4, .int x5] : List Value).toArray = args at hX ⊢
  obtain ⟨hx, hb, hml, hown, hts, hK, hA, hlk⟩ := id hX
  unfold f_X9_meet at h
  generalize s.heap = H at hZ ⊢
  generalize ([] : List Loc) = locs at hZ ⊢
  refine lv_aload_n hx hb dX9_meet_0 rfl (lv_at hl 0 rfl) ?_
  refine lv_iload hx hb dX9_meet_1 (lv_at hl 4 rfl) ?_
  obtain ⟨u1, hu, h⟩ := k_bd h
  refine k_vRs (As := [.int x4]) (rest := []) (v := some (.int u1)) (st1 := [.int u1]) hX hl.1 hZ (c_X9_solved (a_o := a_o) s_o x4 hu) (gv_ wm_135 wm_137 wm_138 wm_11 wm_136) rfl hd_X9_solved ⟨rfl, rfl⟩ 9 0 rfl rfl rfl rfl rfl dX9_meet_3 rfl ⟨rfl, rfl⟩ (fun locs hZ => ?_)
  clear hu
  refine lv_istore (lv' := [(6, .int u1), (0, .ref (a_o 0)), (1, .int x1), (2, .int x2), (3, .int x3), (4, .int x4), (5, .int x5)]) hx hb dX9_meet_6 hl (by decide) rfl (fun ls hl => ?_)
  refine lv_aload_n hx hb dX9_meet_8 rfl (lv_at hl 1 rfl) ?_
  refine lv_iload hx hb dX9_meet_9 (lv_at hl 6 rfl) ?_
  obtain ⟨u2, hu, h⟩ := k_bd h
  refine k_vRs (As := [.int x5]) (rest := []) (v := some (.int u2)) (st1 := [.int u2]) hX hl.1 hZ (c_X9_solved (a_o := a_o) s_o x5 hu) (gv_ wm_135 wm_137 wm_138 wm_11 wm_136) rfl hd_X9_solved ⟨rfl, rfl⟩ 9 0 rfl rfl rfl rfl rfl dX9_meet_11 rfl ⟨rfl, rfl⟩ (fun locs hZ => ?_)
  clear hu
  refine lv_istore (lv' := [(7, .int u2), (6, .int u1), (0, .ref (a_o 0)), (1, .int x1), (2, .int x2), (3, .int x3), (4, .int x4), (5, .int x5)]) hx hb dX9_meet_14 hl (by decide) rfl (fun ls hl => ?_)
  refine lv_iload hx hb dX9_meet_16 (lv_at hl 1 rfl) ?_
  refine lv_sipush (v := 20000) hx hb dX9_meet_18 (by decide) ?_
  refine lv_icmp_ge (tgt := 53) hx hb dX9_meet_21 (by decide) (fun cd => ?_) (fun cd => ?_)
  · replace h := k_t cd h
    clear cd
    exact t_X9_meet_J53 hX hr u1 u2 s_o h H locs ls hZ (lv_sub hl [2, 1, 0] rfl)
  · replace h := k_f cd h
    clear cd
    refine lv_iload hx hb dX9_meet_24 (lv_at hl 0 rfl) ?_
    refine lv_sipush (v := 20000) hx hb dX9_meet_26 (by decide) ?_
    refine lv_icmp_ge (tgt := 53) hx hb dX9_meet_29 (by decide) (fun cd => ?_) (fun cd => ?_)
    · replace h := k_t cd h
      clear cd
      exact t_X9_meet_J53 hX hr u1 u2 s_o h H locs ls hZ (lv_sub hl [2, 1, 0] rfl)
    · replace h := k_f cd h
      clear cd
      refine lv_iload hx hb dX9_meet_32 (lv_at hl 1 rfl) ?_
      refine lv_iload hx hb dX9_meet_34 (lv_at hl 0 rfl) ?_
      refine lv_icmp_eq (tgt := 117) hx hb dX9_meet_36 (by decide) (fun cd => ?_) (fun cd => ?_)
      · replace h := k_t cd h
        clear cd
        cases h
        exact k_vretW hX hr hZ dX9_meet_117
      · replace h := k_f cd h
        clear cd
        refine lv_aload_n hx hb dX9_meet_39 rfl (lv_at hl 2 rfl) ?_
        refine lv_iload_n hx hb dX9_meet_40 rfl (lv_at hl 3 rfl) ?_
        refine lv_iload_n hx hb dX9_meet_41 rfl (lv_at hl 4 rfl) ?_
        refine lv_iload_n hx hb dX9_meet_42 rfl (lv_at hl 5 rfl) ?_
        refine lv_iload hx hb dX9_meet_43 (lv_at hl 1 rfl) ?_
        refine lv_iload hx hb dX9_meet_45 (lv_at hl 0 rfl) ?_
        obtain ⟨u6, hu, h⟩ := k_bd h
        refine k_vWs (As := [.int x1, .int x2, .int x3, .int u1, .int u2]) (rest := []) (v := none) (st1 := []) hX hl.1 hZ (c_X9_fail (a_o := a_o) s_o x1 x2 x3 u1 u2 hu) (gv_ wm_131 wm_133 wm_134 wm_11 wm_132) rfl hd_X9_fail ⟨rfl, rfl⟩ 9 0 rfl rfl rfl rfl rfl dX9_meet_47 rfl ⟨rfl, rfl⟩ rfl (fun H locs hZ => ?_)
        clear hu
        refine lv_goto (tgt := 117) hx hb dX9_meet_50 (by decide) ?_
        cases h
        exact k_vretW hX hr hZ dX9_meet_117
