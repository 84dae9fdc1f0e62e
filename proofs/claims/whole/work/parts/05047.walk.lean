def wlX9_ask : List Cond := .code yX9_ask cX9_ask 9 (some .int) :: WL_
theorem hd_X9_ask : yX9_ask.cls = RX9 ∧ yX9_ask.cls ≠ "java/lang/invoke/MethodHandle" ∧ yX9_ask.cls ≠ "java/lang/invoke/VarHandle" ∧ (parseMethodDescriptor yX9_ask.desc).map (fun d => d.parameters.length) = some 0 := by decide +kernel
theorem dX9_ask_0 : decode cX9_ask 0 = .ok (.aload_n 0, 1) := by decide +kernel
theorem dX9_ask_1 : decode cX9_ask 1 = .ok (.invokevirtual 343, 3) := by decide +kernel
theorem dX9_ask_4 : decode cX9_ask 4 = .ok (.istore_n 1, 1) := by decide +kernel
theorem dX9_ask_5 : decode cX9_ask 5 = .ok (.iconst (-1), 1) := by decide +kernel
theorem dX9_ask_6 : decode cX9_ask 6 = .ok (.istore_n 2, 1) := by decide +kernel
theorem dX9_ask_7 : decode cX9_ask 7 = .ok (.iload_n 1, 1) := by decide +kernel
theorem dX9_ask_8 : decode cX9_ask 8 = .ok (.invokestatic 331, 3) := by decide +kernel
theorem dX9_ask_11 : decode cX9_ask 11 = .ok (.istore_n 3, 1) := by decide +kernel
theorem dX9_ask_12 : decode cX9_ask 12 = .ok (.iconst 1, 1) := by decide +kernel
theorem dX9_ask_13 : decode cX9_ask 13 = .ok (.istore 4, 2) := by decide +kernel
theorem dX9_ask_15 : decode cX9_ask 15 = .ok (.iload 4, 2) := by decide +kernel
theorem dX9_ask_17 : decode cX9_ask 17 = .ok (.bipush 10, 2) := by decide +kernel
theorem dX9_ask_19 : decode cX9_ask 19 = .ok (.if_icmp .ge 132, 3) := by decide +kernel
theorem dX9_ask_22 : decode cX9_ask 22 = .ok (.iconst 0, 1) := by decide +kernel
theorem dX9_ask_23 : decode cX9_ask 23 = .ok (.istore 5, 2) := by decide +kernel
theorem dX9_ask_25 : decode cX9_ask 25 = .ok (.iconst 1, 1) := by decide +kernel
theorem dX9_ask_26 : decode cX9_ask 26 = .ok (.istore 6, 2) := by decide +kernel
theorem dX9_ask_28 : decode cX9_ask 28 = .ok (.iload 6, 2) := by decide +kernel
theorem dX9_ask_30 : decode cX9_ask 30 = .ok (.iconst 5, 1) := by decide +kernel
theorem dX9_ask_31 : decode cX9_ask 31 = .ok (.if_icmp .gt 88, 3) := by decide +kernel
theorem dX9_ask_34 : decode cX9_ask 34 = .ok (.iconst 0, 1) := by decide +kernel
theorem dX9_ask_35 : decode cX9_ask 35 = .ok (.istore 7, 2) := by decide +kernel
theorem dX9_ask_37 : decode cX9_ask 37 = .ok (.iconst 1, 1) := by decide +kernel
theorem dX9_ask_38 : decode cX9_ask 38 = .ok (.istore 8, 2) := by decide +kernel
theorem dX9_ask_40 : decode cX9_ask 40 = .ok (.iload 8, 2) := by decide +kernel
theorem dX9_ask_42 : decode cX9_ask 42 = .ok (.iconst 5, 1) := by decide +kernel
theorem dX9_ask_43 : decode cX9_ask 43 = .ok (.if_icmp .gt 54, 3) := by decide +kernel
theorem dX9_ask_46 : decode cX9_ask 46 = .ok (.iload 7, 2) := by decide +kernel
theorem dX9_ask_48 : decode cX9_ask 48 = .ok (.iload_n 1, 1) := by decide +kernel
theorem dX9_ask_49 : decode cX9_ask 49 = .ok (.iload 6, 2) := by decide +kernel
theorem dX9_ask_51 : decode cX9_ask 51 = .ok (.invokestatic 322, 3) := by decide +kernel
theorem dX9_ask_54 : decode cX9_ask 54 = .ok (.ifCond .eq 33, 3) := by decide +kernel
theorem dX9_ask_57 : decode cX9_ask 57 = .ok (.iload_n 1, 1) := by decide +kernel
theorem dX9_ask_58 : decode cX9_ask 58 = .ok (.iload 8, 2) := by decide +kernel
theorem dX9_ask_60 : decode cX9_ask 60 = .ok (.invokestatic 322, 3) := by decide +kernel
theorem dX9_ask_63 : decode cX9_ask 63 = .ok (.ifCond .eq 24, 3) := by decide +kernel
theorem dX9_ask_66 : decode cX9_ask 66 = .ok (.iload 6, 2) := by decide +kernel
theorem dX9_ask_68 : decode cX9_ask 68 = .ok (.iload 4, 2) := by decide +kernel
theorem dX9_ask_70 : decode cX9_ask 70 = .ok (.invokestatic 340, 3) := by decide +kernel
theorem dX9_ask_73 : decode cX9_ask 73 = .ok (.iload 8, 2) := by decide +kernel
theorem dX9_ask_75 : decode cX9_ask 75 = .ok (.iload 4, 2) := by decide +kernel
theorem dX9_ask_77 : decode cX9_ask 77 = .ok (.invokestatic 340, 3) := by decide +kernel
theorem dX9_ask_80 : decode cX9_ask 80 = .ok (.if_icmp .ne 7, 3) := by decide +kernel
theorem dX9_ask_83 : decode cX9_ask 83 = .ok (.iconst 1, 1) := by decide +kernel
theorem dX9_ask_84 : decode cX9_ask 84 = .ok (.goto 4, 3) := by decide +kernel
theorem dX9_ask_87 : decode cX9_ask 87 = .ok (.iconst 0, 1) := by decide +kernel
theorem dX9_ask_88 : decode cX9_ask 88 = .ok (.iadd, 1) := by decide +kernel
theorem dX9_ask_89 : decode cX9_ask 89 = .ok (.istore 7, 2) := by decide +kernel
theorem dX9_ask_91 : decode cX9_ask 91 = .ok (.iinc 8 1, 3) := by decide +kernel
theorem dX9_ask_94 : decode cX9_ask 94 = .ok (.goto (-54), 3) := by decide +kernel
theorem dX9_ask_97 : decode cX9_ask 97 = .ok (.iload 7, 2) := by decide +kernel
theorem dX9_ask_99 : decode cX9_ask 99 = .ok (.iload 5, 2) := by decide +kernel
theorem dX9_ask_101 : decode cX9_ask 101 = .ok (.if_icmp .le 8, 3) := by decide +kernel
theorem dX9_ask_104 : decode cX9_ask 104 = .ok (.iload 7, 2) := by decide +kernel
theorem dX9_ask_106 : decode cX9_ask 106 = .ok (.goto 5, 3) := by decide +kernel
theorem dX9_ask_109 : decode cX9_ask 109 = .ok (.iload 5, 2) := by decide +kernel
theorem dX9_ask_111 : decode cX9_ask 111 = .ok (.istore 5, 2) := by decide +kernel
theorem dX9_ask_113 : decode cX9_ask 113 = .ok (.iinc 6 1, 3) := by decide +kernel
theorem dX9_ask_116 : decode cX9_ask 116 = .ok (.goto (-88), 3) := by decide +kernel
theorem dX9_ask_119 : decode cX9_ask 119 = .ok (.iload 5, 2) := by decide +kernel
theorem dX9_ask_121 : decode cX9_ask 121 = .ok (.iload_n 3, 1) := by decide +kernel
theorem dX9_ask_122 : decode cX9_ask 122 = .ok (.if_icmp .ge 8, 3) := by decide +kernel
theorem dX9_ask_125 : decode cX9_ask 125 = .ok (.iload 4, 2) := by decide +kernel
theorem dX9_ask_127 : decode cX9_ask 127 = .ok (.goto 4, 3) := by decide +kernel
theorem dX9_ask_130 : decode cX9_ask 130 = .ok (.iload_n 2, 1) := by decide +kernel
theorem dX9_ask_131 : decode cX9_ask 131 = .ok (.istore_n 2, 1) := by decide +kernel
theorem dX9_ask_132 : decode cX9_ask 132 = .ok (.iload 5, 2) := by decide +kernel
theorem dX9_ask_134 : decode cX9_ask 134 = .ok (.iload_n 3, 1) := by decide +kernel
theorem dX9_ask_135 : decode cX9_ask 135 = .ok (.if_icmp .ge 8, 3) := by decide +kernel
theorem dX9_ask_138 : decode cX9_ask 138 = .ok (.iload 5, 2) := by decide +kernel
theorem dX9_ask_140 : decode cX9_ask 140 = .ok (.goto 4, 3) := by decide +kernel
theorem dX9_ask_143 : decode cX9_ask 143 = .ok (.iload_n 3, 1) := by decide +kernel
theorem dX9_ask_144 : decode cX9_ask 144 = .ok (.istore_n 3, 1) := by decide +kernel
theorem dX9_ask_145 : decode cX9_ask 145 = .ok (.iinc 4 1, 3) := by decide +kernel
theorem dX9_ask_148 : decode cX9_ask 148 = .ok (.goto (-133), 3) := by decide +kernel
theorem dX9_ask_151 : decode cX9_ask 151 = .ok (.iload_n 2, 1) := by decide +kernel
theorem dX9_ask_152 : decode cX9_ask 152 = .ok (.ireturn, 1) := by decide +kernel
set_option maxHeartbeats 4000000 in
set_option maxRecDepth 100000 in
theorem t_X9_ask_L40 {p : Program} {l : Launch} {e : Env} {s : State} {m : MethodId} {args : Array Value} {below : List Frame} {meth : Method} {c : Code} {D : va_G} {aC : Nat → ClassId} {A : Nat → Prop} {a_o : Nat → Nat} {out : Int32} {s_o : Ob_T} {k97 : Int32 → Int32 → Int32 → Int32 → Int32 → Int32 → Int32 → Option Int32} {rec40 : (Int32 × Int32 × Int32 × Int32 × Int32 × Int32 × Int32 × Int32) → Option Int32} (hX : K_X p s m args meth c cX9_ask 9 WL_ RX9 D aC A) (hr : meth.sig.returnType = (some .int)) (hZ : va_P D vwCl (wd_X9 aC a_o s_o) s.heap ∧ va_D (fun _ => True) (wd_X9 aC a_o s_o)) (hk97 : ∀ (y1 : Int32) (y2 : Int32) (y3 : Int32) (y4 : Int32) (y5 : Int32) (y6 : Int32) (y7 : Int32), k97 y1 y2 y3 y4 y5 y6 y7 = some out → ∀ (locs : List Loc) (ls : Array Slot), (∀ q ∈ locs, False) → lv_has ls 9 [(1, .int y1), (2, .int y2), (3, .int y3), (4, .int y4), (5, .int y5), (6, .int y6), (7, .int y7)] → W p l e (R_m 2 45) s m args below meth c s.heap locs 0 0 (MQ below (Q_R (some (.int out))) args s 0 0 (fun _ => False)) (F0 m 97 ls [])) (hrec40 : ∀ x : Int32 × Int32 × Int32 × Int32 × Int32 × Int32 × Int32 × Int32, rec40 x = some out → ∀ (locs : List Loc) (ls : Array Slot), (∀ q ∈ locs, False) → lv_has ls 9 [(1, .int x.1), (2, .int x.2.1), (3, .int x.2.2.1), (4, .int x.2.2.2.1), (5, .int x.2.2.2.2.1), (6, .int x.2.2.2.2.2.1), (7, .int x.2.2.2.2.2.2.1), (8, .int x.2.2.2.2.2.2.2)] → W p l e (R_m 2 45) s m args below meth c s.heap locs 0 0 (MQ below (Q_R (some (.int out))) args s 0 0 (fun _ => False)) (F0 m 40 ls [])) (x1 : Int32) (x2 : Int32) (x3 : Int32) (x4 : Int32) (x5 : Int32) (x6 : Int32) (x7 : Int32) (x8 : Int32) (h : f_X9_ask_L40 k97 rec40 x1 x2 x3 x4 x5 x6 x7 x8 s_o = some out) (locs : List Loc) (ls : Array Slot) (hF : ∀ q ∈ locs, False) (hl : lv_has ls 9 [(1, .int x1), (2, .int x2), (3, .int x3), (4, .int x4), (5, .int x5), (6, .int x6), (7, .int x7), (8, .int x8)]) : W p l e (R_m 2 45) s m args below meth c s.heap locs 0 0 (MQ below (Q_R (some (.int out))) args s 0 0 (fun _ => False)) (F0 m 40 ls []) := by
  obtain ⟨hx, hb, hml, hown, hts, hK, hA, hlk⟩ := id hX
  unfold f_X9_ask_L40 at h
  refine lv_iload hx hb dX9_ask_40 (lv_at hl 7 rfl) ?_
  refine lv_iconst (v := 5) hx hb dX9_ask_42 (by decide) ?_
  refine lv_icmp_gt (tgt := 97) hx hb dX9_ask_43 (by decide) (fun cd => ?_) (fun cd => ?_)
  · replace h := k_t cd h
    clear cd
    exact hk97 x1 x2 x3 x4 x5 x6 x7 h locs ls hF (lv_sub hl [0, 1, 2, 3, 4, 5, 6] rfl)
  · replace h := k_f cd h
    clear cd
    refine lv_iload hx hb dX9_ask_46 (lv_at hl 6 rfl) ?_
    refine lv_iload_n hx hb dX9_ask_48 rfl (lv_at hl 0 rfl) ?_
    refine lv_iload hx hb dX9_ask_49 (lv_at hl 5 rfl) ?_
    obtain ⟨u3, hu, h⟩ := k_bd h
    refine k_sRR (As := [.int x1, .int x6]) (rest := [.int x7]) (wc := []) (v := some (.int u3)) (st1 := [.int u3, .int x7]) hX hl.1 hZ hF (c_X9_has  x1 x6 hu) (gs_ wm_231 wm_233 wm_11 wm_232) rfl hd_X9_has ⟨rfl, rfl⟩ [] rfl rfl rfl rfl rfl dX9_ask_51 rfl ⟨rfl, rfl⟩ (fun locs hF => ?_)
    clear hu
    refine lv_if_eq (tgt := 87) hx hb dX9_ask_54 (by decide) (fun cd => ?_) (fun cd => ?_)
    · replace h := k_t cd h
      clear cd
      refine lv_iconst (v := 0) hx hb dX9_ask_87 (by decide) ?_
      refine lv_iadd hx hb dX9_ask_88 ?_
      refine lv_istore (lv' := [(7, .int (x7 + (0 : Int32))), (1, .int x1), (2, .int x2), (3, .int x3), (4, .int x4), (5, .int x5), (6, .int x6), (8, .int x8)]) hx hb dX9_ask_89 hl (by decide) rfl (fun ls hl => ?_)
      refine lv_iinc (v := (x8 + (1 : Int32))) (lv' := [(8, .int (x8 + (1 : Int32))), (7, .int (x7 + (0 : Int32))), (1, .int x1), (2, .int x2), (3, .int x3), (4, .int x4), (5, .int x5), (6, .int x6)]) hx hb dX9_ask_91 hl (k := 7) rfl rfl (by decide) rfl (fun ls hl => ?_)
      refine lv_goto (tgt := 40) hx hb dX9_ask_94 (by decide) ?_
      exact hrec40 (x1, x2, x3, x4, x5, x6, (x7 + (0 : Int32)), (x8 + (1 : Int32))) h locs ls hF (lv_sub hl [2, 3, 4, 5, 6, 7, 1, 0] rfl)
    · replace h := k_f cd h
      clear cd
      refine lv_iload_n hx hb dX9_ask_57 rfl (lv_at hl 0 rfl) ?_
      refine lv_iload hx hb dX9_ask_58 (lv_at hl 7 rfl) ?_
      obtain ⟨u4, hu, h⟩ := k_bd h
      refine k_sRR (As := [.int x1, .int x8]) (rest := [.int x7]) (wc := []) (v := some (.int u4)) (st1 := [.int u4, .int x7]) hX hl.1 hZ hF (c_X9_has  x1 x8 hu) (gs_ wm_231 wm_233 wm_11 wm_232) rfl hd_X9_has ⟨rfl, rfl⟩ [] rfl rfl rfl rfl rfl dX9_ask_60 rfl ⟨rfl, rfl⟩ (fun locs hF => ?_)
      clear hu
      refine lv_if_eq (tgt := 87) hx hb dX9_ask_63 (by decide) (fun cd => ?_) (fun cd => ?_)
      · replace h := k_t cd h
        clear cd
        refine lv_iconst (v := 0) hx hb dX9_ask_87 (by decide) ?_
        refine lv_iadd hx hb dX9_ask_88 ?_
        refine lv_istore (lv' := [(7, .int (x7 + (0 : Int32))), (1, .int x1), (2, .int x2), (3, .int x3), (4, .int x4), (5, .int x5), (6, .int x6), (8, .int x8)]) hx hb dX9_ask_89 hl (by decide) rfl (fun ls hl => ?_)
        refine lv_iinc (v := (x8 + (1 : Int32))) (lv' := [(8, .int (x8 + (1 : Int32))), (7, .int (x7 + (0 : Int32))), (1, .int x1), (2, .int x2), (3, .int x3), (4, .int x4), (5, .int x5), (6, .int x6)]) hx hb dX9_ask_91 hl (k := 7) rfl rfl (by decide) rfl (fun ls hl => ?_)
        refine lv_goto (tgt := 40) hx hb dX9_ask_94 (by decide) ?_
        exact hrec40 (x1, x2, x3, x4, x5, x6, (x7 + (0 : Int32)), (x8 + (1 : Int32))) h locs ls hF (lv_sub hl [2, 3, 4, 5, 6, 7, 1, 0] rfl)
      · replace h := k_f cd h
        clear cd
        refine lv_iload hx hb dX9_ask_66 (lv_at hl 5 rfl) ?_
        refine lv_iload hx hb dX9_ask_68 (lv_at hl 3 rfl) ?_
        obtain ⟨u5, hu, h⟩ := k_bd h
        refine k_sRR (As := [.int x6, .int x4]) (rest := [.int x7]) (wc := []) (v := some (.int u5)) (st1 := [.int u5, .int x7]) hX hl.1 hZ hF (c_X9_comesOf  x6 x4 hu) (gs_ wm_258 wm_260 wm_11 wm_259) rfl hd_X9_comesOf ⟨rfl, rfl⟩ [] rfl rfl rfl rfl rfl dX9_ask_70 rfl ⟨rfl, rfl⟩ (fun locs hF => ?_)
        clear hu
        refine lv_iload hx hb dX9_ask_73 (lv_at hl 7 rfl) ?_
        refine lv_iload hx hb dX9_ask_75 (lv_at hl 3 rfl) ?_
        obtain ⟨u6, hu, h⟩ := k_bd h
        refine k_sRR (As := [.int x8, .int x4]) (rest := [.int u5, .int x7]) (wc := []) (v := some (.int u6)) (st1 := [.int u6, .int u5, .int x7]) hX hl.1 hZ hF (c_X9_comesOf  x8 x4 hu) (gs_ wm_258 wm_260 wm_11 wm_259) rfl hd_X9_comesOf ⟨rfl, rfl⟩ [] rfl rfl rfl rfl rfl dX9_ask_77 rfl ⟨rfl, rfl⟩ (fun locs hF => ?_)
        clear hu
        refine lv_icmp_ne (tgt := 87) hx hb dX9_ask_80 (by decide) (fun cd => ?_) (fun cd => ?_)
        · replace h := k_f cd h
          clear cd
          refine lv_iconst (v := 0) hx hb dX9_ask_87 (by decide) ?_
          refine lv_iadd hx hb dX9_ask_88 ?_
          refine lv_istore (lv' := [(7, .int (x7 + (0 : Int32))), (1, .int x1), (2, .int x2), (3, .int x3), (4, .int x4), (5, .int x5), (6, .int x6), (8, .int x8)]) hx hb dX9_ask_89 hl (by decide) rfl (fun ls hl => ?_)
          refine lv_iinc (v := (x8 + (1 : Int32))) (lv' := [(8, .int (x8 + (1 : Int32))), (7, .int (x7 + (0 : Int32))), (1, .int x1), (2, .int x2), (3, .int x3), (4, .int x4), (5, .int x5), (6, .int x6)]) hx hb dX9_ask_91 hl (k := 7) rfl rfl (by decide) rfl (fun ls hl => ?_)
          refine lv_goto (tgt := 40) hx hb dX9_ask_94 (by decide) ?_
          exact hrec40 (x1, x2, x3, x4, x5, x6, (x7 + (0 : Int32)), (x8 + (1 : Int32))) h locs ls hF (lv_sub hl [2, 3, 4, 5, 6, 7, 1, 0] rfl)
        · replace h := k_t cd h
          clear cd
          refine lv_iconst (v := 1) hx hb dX9_ask_83 (by decide) ?_
          refine lv_goto (tgt := 88) hx hb dX9_ask_84 (by decide) ?_
          refine lv_iadd hx hb dX9_ask_88 ?_
          refine lv_istore (lv' := [(7, .int (x7 + (1 : Int32))), (1, .int x1), (2, .int x2), (3, .int x3), (4, .int x4), (5, .int x5), (6, .int x6), (8, .int x8)]) hx hb dX9_ask_89 hl (by decide) rfl (fun ls hl => ?_)
          refine lv_iinc (v := (x8 + (1 : Int32))) (lv' := [(8, .int (x8 + (1 : Int32))), (7, .int (x7 + (1 : Int32))), (1, .int x1), (2, .int x2), (3, .int x3), (4, .int x4), (5, .int x5), (6, .int x6)]) hx hb dX9_ask_91 hl (k := 7) rfl rfl (by decide) rfl (fun ls hl => ?_)
          refine lv_goto (tgt := 40) hx hb dX9_ask_94 (by decide) ?_
          exact hrec40 (x1, x2, x3, x4, x5, x6, (x7 + (1 : Int32)), (x8 + (1 : Int32))) h locs ls hF (lv_sub hl [2, 3, 4, 5, 6, 7, 1, 0] rfl)
set_option maxHeartbeats 4000000 in
set_option maxRecDepth 100000 in
theorem t_X9_ask_J97 {p : Program} {l : Launch} {e : Env} {s : State} {m : MethodId} {args : Array Value} {below : List Frame} {meth : Method} {c : Code} {D : va_G} {aC : Nat → ClassId} {A : Nat → Prop} {a_o : Nat → Nat} {out : Int32} {s_o : Ob_T} {rec28 : (Int32 × Int32 × Int32 × Int32 × Int32 × Int32) → Option Int32} (hX : K_X p s m args meth c cX9_ask 9 WL_ RX9 D aC A) (hr : meth.sig.returnType = (some .int)) (hZ : va_P D vwCl (wd_X9 aC a_o s_o) s.heap ∧ va_D (fun _ => True) (wd_X9 aC a_o s_o)) (hrec28 : ∀ x : Int32 × Int32 × Int32 × Int32 × Int32 × Int32, rec28 x = some out → ∀ (locs : List Loc) (ls : Array Slot), (∀ q ∈ locs, False) → lv_has ls 9 [(1, .int x.1), (2, .int x.2.1), (3, .int x.2.2.1), (4, .int x.2.2.2.1), (5, .int x.2.2.2.2.1), (6, .int x.2.2.2.2.2)] → W p l e (R_m 2 45) s m args below meth c s.heap locs 0 0 (MQ below (Q_R (some (.int out))) args s 0 0 (fun _ => False)) (F0 m 28 ls [])) (x1 : Int32) (x2 : Int32) (x3 : Int32) (x4 : Int32) (x5 : Int32) (x6 : Int32) (x7 : Int32) (h : f_X9_ask_J97 rec28 x1 x2 x3 x4 x5 x6 x7 s_o = some out) (locs : List Loc) (ls : Array Slot) (hF : ∀ q ∈ locs, False) (hl : lv_has ls 9 [(1, .int x1), (2, .int x2), (3, .int x3), (4, .int x4), (5, .int x5), (6, .int x6), (7, .int x7)]) : W p l e (R_m 2 45) s m args below meth c s.heap locs 0 0 (MQ below (Q_R (some (.int out))) args s 0 0 (fun _ => False)) (F0 m 97 ls []) := by
  obtain ⟨hx, hb, hml, hown, hts, hK, hA, hlk⟩ := id hX
  unfold f_X9_ask_J97 at h
  refine lv_iload hx hb dX9_ask_97 (lv_at hl 6 rfl) ?_
  refine lv_iload hx hb dX9_ask_99 (lv_at hl 4 rfl) ?_
  refine lv_icmp_le (tgt := 109) hx hb dX9_ask_101 (by decide) (fun cd => ?_) (fun cd => ?_)
  · replace h := k_t cd h
    clear cd
    refine lv_iload hx hb dX9_ask_109 (lv_at hl 4 rfl) ?_
    refine lv_istore (lv' := [(5, .int x5), (1, .int x1), (2, .int x2), (3, .int x3), (4, .int x4), (6, .int x6), (7, .int x7)]) hx hb dX9_ask_111 hl (by decide) rfl (fun ls hl => ?_)
    refine lv_iinc (v := (x6 + (1 : Int32))) (lv' := [(6, .int (x6 + (1 : Int32))), (5, .int x5), (1, .int x1), (2, .int x2), (3, .int x3), (4, .int x4), (7, .int x7)]) hx hb dX9_ask_113 hl (k := 5) rfl rfl (by decide) rfl (fun ls hl => ?_)
    refine lv_goto (tgt := 28) hx hb dX9_ask_116 (by decide) ?_
    exact hrec28 (x1, x2, x3, x4, x5, (x6 + (1 : Int32))) h locs ls hF (lv_sub hl [2, 3, 4, 5, 1, 0] rfl)
  · replace h := k_f cd h
    clear cd
    refine lv_iload hx hb dX9_ask_104 (lv_at hl 6 rfl) ?_
    refine lv_goto (tgt := 111) hx hb dX9_ask_106 (by decide) ?_
    refine lv_istore (lv' := [(5, .int x7), (1, .int x1), (2, .int x2), (3, .int x3), (4, .int x4), (6, .int x6), (7, .int x7)]) hx hb dX9_ask_111 hl (by decide) rfl (fun ls hl => ?_)
    refine lv_iinc (v := (x6 + (1 : Int32))) (lv' := [(6, .int (x6 + (1 : Int32))), (5, .int x7), (1, .int x1), (2, .int x2), (3, .int x3), (4, .int x4), (7, .int x7)]) hx hb dX9_ask_113 hl (k := 5) rfl rfl (by decide) rfl (fun ls hl => ?_)
    refine lv_goto (tgt := 28) hx hb dX9_ask_116 (by decide) ?_
    exact hrec28 (x1, x2, x3, x4, x7, (x6 + (1 : Int32))) h locs ls hF (lv_sub hl [2, 3, 4, 5, 1, 0] rfl)
set_option maxHeartbeats 4000000 in
set_option maxRecDepth 100000 in
theorem t_X9_ask_L28 {p : Program} {l : Launch} {e : Env} {s : State} {m : MethodId} {args : Array Value} {below : List Frame} {meth : Method} {c : Code} {D : va_G} {aC : Nat → ClassId} {A : Nat → Prop} {a_o : Nat → Nat} {out : Int32} {s_o : Ob_T} {k119 : Int32 → Int32 → Int32 → Int32 → Int32 → Option Int32} {rec28 : (Int32 × Int32 × Int32 × Int32 × Int32 × Int32) → Option Int32} (hX : K_X p s m args meth c cX9_ask 9 WL_ RX9 D aC A) (hr : meth.sig.returnType = (some .int)) (hZ : va_P D vwCl (wd_X9 aC a_o s_o) s.heap ∧ va_D (fun _ => True) (wd_X9 aC a_o s_o)) (hk119 : ∀ (y1 : Int32) (y2 : Int32) (y3 : Int32) (y4 : Int32) (y5 : Int32), k119 y1 y2 y3 y4 y5 = some out → ∀ (locs : List Loc) (ls : Array Slot), (∀ q ∈ locs, False) → lv_has ls 9 [(1, .int y1), (2, .int y2), (3, .int y3), (4, .int y4), (5, .int y5)] → W p l e (R_m 2 45) s m args below meth c s.heap locs 0 0 (MQ below (Q_R (some (.int out))) args s 0 0 (fun _ => False)) (F0 m 119 ls [])) (hrec28 : ∀ x : Int32 × Int32 × Int32 × Int32 × Int32 × Int32, rec28 x = some out → ∀ (locs : List Loc) (ls : Array Slot), (∀ q ∈ locs, False) → lv_has ls 9 [(1, .int x.1), (2, .int x.2.1), (3, .int x.2.2.1), (4, .int x.2.2.2.1), (5, .int x.2.2.2.2.1), (6, .int x.2.2.2.2.2)] → W p l e (R_m 2 45) s m args below meth c s.heap locs 0 0 (MQ below (Q_R (some (.int out))) args s 0 0 (fun _ => False)) (F0 m 28 ls [])) (x1 : Int32) (x2 : Int32) (x3 : Int32) (x4 : Int32) (x5 : Int32) (x6 : Int32) (h : f_X9_ask_L28 k119 rec28 x1 x2 x3 x4 x5 x6 s_o = some out) (locs : List Loc) (ls : Array Slot) (hF : ∀ q ∈ locs, False) (hl : lv_has ls 9 [(1, .int x1), (2, .int x2), (3, .int x3), (4, .int x4), (5, .int x5), (6, .int x6)]) : W p l e (R_m 2 45) s m args below meth c s.heap locs 0 0 (MQ below (Q_R (some (.int out))) args s 0 0 (fun _ => False)) (F0 m 28 ls []) := by
  obtain ⟨hx, hb, hml, hown, hts, hK, hA, hlk⟩ := id hX
  unfold f_X9_ask_L28 at h
  refine lv_iload hx hb dX9_ask_28 (lv_at hl 5 rfl) ?_
  refine lv_iconst (v := 5) hx hb dX9_ask_30 (by decide) ?_
  refine lv_icmp_gt (tgt := 119) hx hb dX9_ask_31 (by decide) (fun cd => ?_) (fun cd => ?_)
  · replace h := k_t cd h
    clear cd
    exact hk119 x1 x2 x3 x4 x5 h locs ls hF (lv_sub hl [0, 1, 2, 3, 4] rfl)
  · replace h := k_f cd h
    clear cd
    refine lv_iconst (v := 0) hx hb dX9_ask_34 (by decide) ?_
    refine lv_istore (lv' := [(7, .int (0 : Int32)), (1, .int x1), (2, .int x2), (3, .int x3), (4, .int x4), (5, .int x5), (6, .int x6)]) hx hb dX9_ask_35 hl (by decide) rfl (fun ls hl => ?_)
    refine lv_iconst (v := 1) hx hb dX9_ask_37 (by decide) ?_
    refine lv_istore (lv' := [(8, .int (1 : Int32)), (7, .int (0 : Int32)), (1, .int x1), (2, .int x2), (3, .int x3), (4, .int x4), (5, .int x5), (6, .int x6)]) hx hb dX9_ask_38 hl (by decide) rfl (fun ls hl => ?_)
    exact Lp_ok (body := (fun (rec : (Int32 × Int32 × Int32 × Int32 × Int32 × Int32 × Int32 × Int32) → Option Int32) x => f_X9_ask_L40 (fun y1 y2 y3 y4 y5 y6 y7 => f_X9_ask_J97 rec28 y1 y2 y3 y4 y5 y6 y7 s_o) rec x.1 x.2.1 x.2.2.1 x.2.2.2.1 x.2.2.2.2.1 x.2.2.2.2.2.1 x.2.2.2.2.2.2.1 x.2.2.2.2.2.2.2 s_o)) (out := out) (fun x => ∀ (locs : List Loc) (ls : Array Slot), (∀ q ∈ locs, False) → lv_has ls 9 [(1, .int x.1), (2, .int x.2.1), (3, .int x.2.2.1), (4, .int x.2.2.2.1), (5, .int x.2.2.2.2.1), (6, .int x.2.2.2.2.2.1), (7, .int x.2.2.2.2.2.2.1), (8, .int x.2.2.2.2.2.2.2)] → W p l e (R_m 2 45) s m args below meth c s.heap locs 0 0 (MQ below (Q_R (some (.int out))) args s 0 0 (fun _ => False)) (F0 m 40 ls [])) (fun rec hrec x h locs ls hF hl => t_X9_ask_L40 hX hr hZ (fun y1 y2 y3 y4 y5 y6 y7 h locs ls hF hl => t_X9_ask_J97 hX hr hZ hrec28 y1 y2 y3 y4 y5 y6 y7 h locs ls hF (lv_sub hl [0, 1, 2, 3, 4, 5, 6] rfl)) hrec x.1 x.2.1 x.2.2.1 x.2.2.2.1 x.2.2.2.2.1 x.2.2.2.2.2.1 x.2.2.2.2.2.2.1 x.2.2.2.2.2.2.2 h locs ls hF hl) FU_ (x1, x2, x3, x4, x5, x6, (0 : Int32), (1 : Int32)) h locs ls hF (lv_sub hl [2, 3, 4, 5, 6, 7, 1, 0] rfl)
set_option maxHeartbeats 4000000 in
set_option maxRecDepth 100000 in
theorem t_X9_ask_J131 {p : Program} {l : Launch} {e : Env} {s : State} {m : MethodId} {args : Array Value} {below : List Frame} {meth : Method} {c : Code} {D : va_G} {aC : Nat → ClassId} {A : Nat → Prop} {a_o : Nat → Nat} {out : Int32} {s_o : Ob_T} {rec15 : (Int32 × Int32 × Int32 × Int32) → Option Int32} (hX : K_X p s m args meth c cX9_ask 9 WL_ RX9 D aC A) (hr : meth.sig.returnType = (some .int)) (hZ : va_P D vwCl (wd_X9 aC a_o s_o) s.heap ∧ va_D (fun _ => True) (wd_X9 aC a_o s_o)) (hrec15 : ∀ x : Int32 × Int32 × Int32 × Int32, rec15 x = some out → ∀ (locs : List Loc) (ls : Array Slot), (∀ q ∈ locs, False) → lv_has ls 9 [(1, .int x.1), (2, .int x.2.1), (3, .int x.2.2.1), (4, .int x.2.2.2)] → W p l e (R_m 2 45) s m args below meth c s.heap locs 0 0 (MQ below (Q_R (some (.int out))) args s 0 0 (fun _ => False)) (F0 m 15 ls [])) (x1 : Int32) (x3 : Int32) (x4 : Int32) (x5 : Int32) (k0 : Int32) (h : f_X9_ask_J131 rec15 x1 x3 x4 x5 k0 s_o = some out) (locs : List Loc) (ls : Array Slot) (hF : ∀ q ∈ locs, False) (hl : lv_has ls 9 [(1, .int x1), (3, .int x3), (4, .int x4), (5, .int x5)]) : W p l e (R_m 2 45) s m args below meth c s.heap locs 0 0 (MQ below (Q_R (some (.int out))) args s 0 0 (fun _ => False)) (F0 m 131 ls [.int k0]) := by
  obtain ⟨hx, hb, hml, hown, hts, hK, hA, hlk⟩ := id hX
  unfold f_X9_ask_J131 at h
  refine lv_istore_n (lv' := [(2, .int k0), (1, .int x1), (3, .int x3), (4, .int x4), (5, .int x5)]) hx hb dX9_ask_131 rfl hl (by decide) rfl (fun ls hl => ?_)
  refine lv_iload hx hb dX9_ask_132 (lv_at hl 4 rfl) ?_
  refine lv_iload_n hx hb dX9_ask_134 rfl (lv_at hl 2 rfl) ?_
  refine lv_icmp_ge (tgt := 143) hx hb dX9_ask_135 (by decide) (fun cd => ?_) (fun cd => ?_)
  · replace h := k_t cd h
    clear cd
    refine lv_iload_n hx hb dX9_ask_143 rfl (lv_at hl 2 rfl) ?_
    refine lv_istore_n (lv' := [(3, .int x3), (2, .int k0), (1, .int x1), (4, .int x4), (5, .int x5)]) hx hb dX9_ask_144 rfl hl (by decide) rfl (fun ls hl => ?_)
    refine lv_iinc (v := (x4 + (1 : Int32))) (lv' := [(4, .int (x4 + (1 : Int32))), (3, .int x3), (2, .int k0), (1, .int x1), (5, .int x5)]) hx hb dX9_ask_145 hl (k := 3) rfl rfl (by decide) rfl (fun ls hl => ?_)
    refine lv_goto (tgt := 15) hx hb dX9_ask_148 (by decide) ?_
    exact hrec15 (x1, k0, x3, (x4 + (1 : Int32))) h locs ls hF (lv_sub hl [3, 2, 1, 0] rfl)
  · replace h := k_f cd h
    clear cd
    refine lv_iload hx hb dX9_ask_138 (lv_at hl 4 rfl) ?_
    refine lv_goto (tgt := 144) hx hb dX9_ask_140 (by decide) ?_
    refine lv_istore_n (lv' := [(3, .int x5), (2, .int k0), (1, .int x1), (4, .int x4), (5, .int x5)]) hx hb dX9_ask_144 rfl hl (by decide) rfl (fun ls hl => ?_)
    refine lv_iinc (v := (x4 + (1 : Int32))) (lv' := [(4, .int (x4 + (1 : Int32))), (3, .int x5), (2, .int k0), (1, .int x1), (5, .int x5)]) hx hb dX9_ask_145 hl (k := 3) rfl rfl (by decide) rfl (fun ls hl => ?_)
    refine lv_goto (tgt := 15) hx hb dX9_ask_148 (by decide) ?_
    exact hrec15 (x1, k0, x5, (x4 + (1 : Int32))) h locs ls hF (lv_sub hl [3, 2, 1, 0] rfl)
set_option maxHeartbeats 4000000 in
set_option maxRecDepth 100000 in
theorem t_X9_ask_J119 {p : Program} {l : Launch} {e : Env} {s : State} {m : MethodId} {args : Array Value} {below : List Frame} {meth : Method} {c : Code} {D : va_G} {aC : Nat → ClassId} {A : Nat → Prop} {a_o : Nat → Nat} {out : Int32} {s_o : Ob_T} {rec15 : (Int32 × Int32 × Int32 × Int32) → Option Int32} (hX : K_X p s m args meth c cX9_ask 9 WL_ RX9 D aC A) (hr : meth.sig.returnType = (some .int)) (hZ : va_P D vwCl (wd_X9 aC a_o s_o) s.heap ∧ va_D (fun _ => True) (wd_X9 aC a_o s_o)) (hrec15 : ∀ x : Int32 × Int32 × Int32 × Int32, rec15 x = some out → ∀ (locs : List Loc) (ls : Array Slot), (∀ q ∈ locs, False) → lv_has ls 9 [(1, .int x.1), (2, .int x.2.1), (3, .int x.2.2.1), (4, .int x.2.2.2)] → W p l e (R_m 2 45) s m args below meth c s.heap locs 0 0 (MQ below (Q_R (some (.int out))) args s 0 0 (fun _ => False)) (F0 m 15 ls [])) (x1 : Int32) (x2 : Int32) (x3 : Int32) (x4 : Int32) (x5 : Int32) (h : f_X9_ask_J119 rec15 x1 x2 x3 x4 x5 s_o = some out) (locs : List Loc) (ls : Array Slot) (hF : ∀ q ∈ locs, False) (hl : lv_has ls 9 [(1, .int x1), (2, .int x2), (3, .int x3), (4, .int x4), (5, .int x5)]) : W p l e (R_m 2 45) s m args below meth c s.heap locs 0 0 (MQ below (Q_R (some (.int out))) args s 0 0 (fun _ => False)) (F0 m 119 ls []) := by
  obtain ⟨hx, hb, hml, hown, hts, hK, hA, hlk⟩ := id hX
  unfold f_X9_ask_J119 at h
  refine lv_iload hx hb dX9_ask_119 (lv_at hl 4 rfl) ?_
  refine lv_iload_n hx hb dX9_ask_121 rfl (lv_at hl 2 rfl) ?_
  refine lv_icmp_ge (tgt := 130) hx hb dX9_ask_122 (by decide) (fun cd => ?_) (fun cd => ?_)
  · replace h := k_t cd h
    clear cd
    refine lv_iload_n hx hb dX9_ask_130 rfl (lv_at hl 1 rfl) ?_
    exact t_X9_ask_J131 hX hr hZ hrec15 x1 x3 x4 x5 x2 h locs ls hF (lv_sub hl [0, 2, 3, 4] rfl)
  · replace h := k_f cd h
    clear cd
    refine lv_iload hx hb dX9_ask_125 (lv_at hl 3 rfl) ?_
    refine lv_goto (tgt := 131) hx hb dX9_ask_127 (by decide) ?_
    exact t_X9_ask_J131 hX hr hZ hrec15 x1 x3 x4 x5 x4 h locs ls hF (lv_sub hl [0, 2, 3, 4] rfl)
set_option maxHeartbeats 4000000 in
set_option maxRecDepth 100000 in
theorem t_X9_ask_L15 {p : Program} {l : Launch} {e : Env} {s : State} {m : MethodId} {args : Array Value} {below : List Frame} {meth : Method} {c : Code} {D : va_G} {aC : Nat → ClassId} {A : Nat → Prop} {a_o : Nat → Nat} {out : Int32} {s_o : Ob_T} {rec15 : (Int32 × Int32 × Int32 × Int32) → Option Int32} (hX : K_X p s m args meth c cX9_ask 9 WL_ RX9 D aC A) (hr : meth.sig.returnType = (some .int)) (hZ : va_P D vwCl (wd_X9 aC a_o s_o) s.heap ∧ va_D (fun _ => True) (wd_X9 aC a_o s_o)) (hrec15 : ∀ x : Int32 × Int32 × Int32 × Int32, rec15 x = some out → ∀ (locs : List Loc) (ls : Array Slot), (∀ q ∈ locs, False) → lv_has ls 9 [(1, .int x.1), (2, .int x.2.1), (3, .int x.2.2.1), (4, .int x.2.2.2)] → W p l e (R_m 2 45) s m args below meth c s.heap locs 0 0 (MQ below (Q_R (some (.int out))) args s 0 0 (fun _ => False)) (F0 m 15 ls [])) (x1 : Int32) (x2 : Int32) (x3 : Int32) (x4 : Int32) (h : f_X9_ask_L15 rec15 x1 x2 x3 x4 s_o = some out) (locs : List Loc) (ls : Array Slot) (hF : ∀ q ∈ locs, False) (hl : lv_has ls 9 [(1, .int x1), (2, .int x2), (3, .int x3), (4, .int x4)]) : W p l e (R_m 2 45) s m args below meth c s.heap locs 0 0 (MQ below (Q_R (some (.int out))) args s 0 0 (fun _ => False)) (F0 m 15 ls []) := by
  obtain ⟨hx, hb, hml, hown, hts, hK, hA, hlk⟩ := id hX
  unfold f_X9_ask_L15 at h
  refine lv_iload hx hb dX9_ask_15 (lv_at hl 3 rfl) ?_
  refine lv_bipush (v := 10) hx hb dX9_ask_17 (by decide) ?_
  refine lv_icmp_ge (tgt := 151) hx hb dX9_ask_19 (by decide) (fun cd => ?_) (fun cd => ?_)
  · replace h := k_t cd h
    clear cd
    refine lv_iload_n hx hb dX9_ask_151 rfl (lv_at hl 1 rfl) ?_
    cases h
    exact k_iretR hX hr hF dX9_ask_152
  · replace h := k_f cd h
    clear cd
    refine lv_iconst (v := 0) hx hb dX9_ask_22 (by decide) ?_
    refine lv_istore (lv' := [(5, .int (0 : Int32)), (1, .int x1), (2, .int x2), (3, .int x3), (4, .int x4)]) hx hb dX9_ask_23 hl (by decide) rfl (fun ls hl => ?_)
    refine lv_iconst (v := 1) hx hb dX9_ask_25 (by decide) ?_
    refine lv_istore (lv' := [(6, .int (1 : Int32)), (5, .int (0 : Int32)), (1, .int x1), (2, .int x2), (3, .int x3), (4, .int x4)]) hx hb dX9_ask_26 hl (by decide) rfl (fun ls hl => ?_)
    exact Lp_ok (body := (fun (rec : (Int32 × Int32 × Int32 × Int32 × Int32 × Int32) → Option Int32) x => f_X9_ask_L28 (fun y1 y2 y3 y4 y5 => f_X9_ask_J119 rec15 y1 y2 y3 y4 y5 s_o) rec x.1 x.2.1 x.2.2.1 x.2.2.2.1 x.2.2.2.2.1 x.2.2.2.2.2 s_o)) (out := out) (fun x => ∀ (locs : List Loc) (ls : Array Slot), (∀ q ∈ locs, False) → lv_has ls 9 [(1, .int x.1), (2, .int x.2.1), (3, .int x.2.2.1), (4, .int x.2.2.2.1), (5, .int x.2.2.2.2.1), (6, .int x.2.2.2.2.2)] → W p l e (R_m 2 45) s m args below meth c s.heap locs 0 0 (MQ below (Q_R (some (.int out))) args s 0 0 (fun _ => False)) (F0 m 28 ls [])) (fun rec hrec x h locs ls hF hl => t_X9_ask_L28 hX hr hZ (fun y1 y2 y3 y4 y5 h locs ls hF hl => t_X9_ask_J119 hX hr hZ hrec15 y1 y2 y3 y4 y5 h locs ls hF (lv_sub hl [0, 1, 2, 3, 4] rfl)) hrec x.1 x.2.1 x.2.2.1 x.2.2.2.1 x.2.2.2.2.1 x.2.2.2.2.2 h locs ls hF hl) FU_ (x1, x2, x3, x4, (0 : Int32), (1 : Int32)) h locs ls hF (lv_sub hl [2, 3, 4, 5, 1, 0] rfl)
set_option maxHeartbeats 4000000 in
set_option maxRecDepth 100000 in
theorem c_X9_ask {l : Launch} {D : va_G} {aC : Nat → ClassId} {a_o : Nat → Nat} (s_o : Ob_T) {out : Int32} (h : f_X9_ask s_o = some out) : M_R l yX9_ask wlX9_ask 2 45 D aC [.ref (a_o 0)] (wd_X9 aC a_o s_o) (some (.int out)) := by
  refine k_entR (cc := cX9_ask) (ret := (some .int)) (maxL := 9) (own := RX9) (by decide) rfl rfl rfl ?_
  intro p e s m below meth c A ls hX hr hZ hl
  have hl : lv_has ls 9 [(0, .ref (a_o 0))] := hl
  generalize ([.ref (a_o 0)] : List Value).toArray = args at hX ⊢
  obtain ⟨hx, hb, hml, hown, hts, hK, hA, hlk⟩ := id hX
  unfold f_X9_ask at h
  have hF : ∀ q ∈ ([] : List Loc), False := fun _ h => nomatch h
  generalize ([] : List Loc) = locs at hF ⊢
  refine lv_aload_n hx hb dX9_ask_0 rfl (lv_at hl 0 rfl) ?_
  obtain ⟨u1, hu, h⟩ := k_bd h
  refine k_vRRs (As := []) (rest := []) (v := some (.int u1)) (st1 := [.int u1]) hX hl.1 hZ hF (c_X9_kinds (a_o := a_o) s_o hu) (gv_ wm_261 wm_263 wm_264 wm_11 wm_262) rfl hd_X9_kinds ⟨rfl, rfl⟩ 9 0 rfl rfl rfl rfl rfl dX9_ask_1 rfl ⟨rfl, rfl⟩ (fun locs hF => ?_)
  clear hu
  refine lv_istore_n (lv' := [(1, .int u1), (0, .ref (a_o 0))]) hx hb dX9_ask_4 rfl hl (by decide) rfl (fun ls hl => ?_)
  refine lv_iconst (v := -1) hx hb dX9_ask_5 (by decide) ?_
  refine lv_istore_n (lv' := [(2, .int (-1 : Int32)), (1, .int u1), (0, .ref (a_o 0))]) hx hb dX9_ask_6 rfl hl (by decide) rfl (fun ls hl => ?_)
  refine lv_iload_n hx hb dX9_ask_7 rfl (lv_at hl 1 rfl) ?_
  obtain ⟨u2, hu, h⟩ := k_bd h
  refine k_sRR (As := [.int u1]) (rest := []) (wc := []) (v := some (.int u2)) (st1 := [.int u2]) hX hl.1 hZ hF (c_X9_bits  u1 hu) (gs_ wm_247 wm_249 wm_11 wm_248) rfl hd_X9_bits ⟨rfl, rfl⟩ [] rfl rfl rfl rfl rfl dX9_ask_8 rfl ⟨rfl, rfl⟩ (fun locs hF => ?_)
  clear hu
  refine lv_istore_n (lv' := [(3, .int u2), (2, .int (-1 : Int32)), (1, .int u1), (0, .ref (a_o 0))]) hx hb dX9_ask_11 rfl hl (by decide) rfl (fun ls hl => ?_)
  refine lv_iconst (v := 1) hx hb dX9_ask_12 (by decide) ?_
  refine lv_istore (lv' := [(4, .int (1 : Int32)), (3, .int u2), (2, .int (-1 : Int32)), (1, .int u1), (0, .ref (a_o 0))]) hx hb dX9_ask_13 hl (by decide) rfl (fun ls hl => ?_)
  exact Lp_ok (body := (fun (rec : (Int32 × Int32 × Int32 × Int32) → Option Int32) x => f_X9_ask_L15 rec x.1 x.2.1 x.2.2.1 x.2.2.2 s_o)) (out := out) (fun x => ∀ (locs : List Loc) (ls : Array Slot), (∀ q ∈ locs, False) → lv_has ls 9 [(1, .int x.1), (2, .int x.2.1), (3, .int x.2.2.1), (4, .int x.2.2.2)] → W p l e (R_m 2 45) s m args below meth c s.heap locs 0 0 (MQ below (Q_R (some (.int out))) args s 0 0 (fun _ => False)) (F0 m 15 ls [])) (fun rec hrec x h locs ls hF hl => t_X9_ask_L15 hX hr hZ hrec x.1 x.2.1 x.2.2.1 x.2.2.2 h locs ls hF hl) FU_ (u1, (-1 : Int32), u2, (1 : Int32)) h locs ls hF (lv_sub hl [3, 2, 1, 0] rfl)
