def wlX9_multiply : List Cond := .code yX9_multiply cX9_multiply 10 none :: WL_
theorem hd_X9_multiply : yX9_multiply.cls = RX9 ∧ yX9_multiply.cls ≠ "java/lang/invoke/MethodHandle" ∧ yX9_multiply.cls ≠ "java/lang/invoke/VarHandle" ∧ (parseMethodDescriptor yX9_multiply.desc).map (fun d => d.parameters.length) = some 1 := by decide +kernel
theorem dX9_multiply_0 : decode cX9_multiply 0 = .ok (.aload_n 0, 1) := by decide +kernel
theorem dX9_multiply_1 : decode cX9_multiply 1 = .ok (.aload_n 0, 1) := by decide +kernel
theorem dX9_multiply_2 : decode cX9_multiply 2 = .ok (.getfield 86, 3) := by decide +kernel
theorem dX9_multiply_5 : decode cX9_multiply 5 = .ok (.aload_n 0, 1) := by decide +kernel
theorem dX9_multiply_6 : decode cX9_multiply 6 = .ok (.getfield 234, 3) := by decide +kernel
theorem dX9_multiply_9 : decode cX9_multiply 9 = .ok (.invokevirtual 262, 3) := by decide +kernel
theorem dX9_multiply_12 : decode cX9_multiply 12 = .ok (.lstore_n 2, 1) := by decide +kernel
theorem dX9_multiply_13 : decode cX9_multiply 13 = .ok (.aload_n 0, 1) := by decide +kernel
theorem dX9_multiply_14 : decode cX9_multiply 14 = .ok (.aload_n 0, 1) := by decide +kernel
theorem dX9_multiply_15 : decode cX9_multiply 15 = .ok (.getfield 89, 3) := by decide +kernel
theorem dX9_multiply_18 : decode cX9_multiply 18 = .ok (.aload_n 0, 1) := by decide +kernel
theorem dX9_multiply_19 : decode cX9_multiply 19 = .ok (.getfield 237, 3) := by decide +kernel
theorem dX9_multiply_22 : decode cX9_multiply 22 = .ok (.invokevirtual 262, 3) := by decide +kernel
theorem dX9_multiply_25 : decode cX9_multiply 25 = .ok (.lstore 4, 2) := by decide +kernel
theorem dX9_multiply_27 : decode cX9_multiply 27 = .ok (.aload_n 0, 1) := by decide +kernel
theorem dX9_multiply_28 : decode cX9_multiply 28 = .ok (.invokevirtual 266, 3) := by decide +kernel
theorem dX9_multiply_31 : decode cX9_multiply 31 = .ok (.ifCond .eq 7, 3) := by decide +kernel
theorem dX9_multiply_34 : decode cX9_multiply 34 = .ok (.lload_n 2, 1) := by decide +kernel
theorem dX9_multiply_35 : decode cX9_multiply 35 = .ok (.goto 5, 3) := by decide +kernel
theorem dX9_multiply_38 : decode cX9_multiply 38 = .ok (.lload 4, 2) := by decide +kernel
theorem dX9_multiply_40 : decode cX9_multiply 40 = .ok (.lstore 6, 2) := by decide +kernel
theorem dX9_multiply_42 : decode cX9_multiply 42 = .ok (.aload_n 0, 1) := by decide +kernel
theorem dX9_multiply_43 : decode cX9_multiply 43 = .ok (.invokevirtual 266, 3) := by decide +kernel
theorem dX9_multiply_46 : decode cX9_multiply 46 = .ok (.ifCond .eq 8, 3) := by decide +kernel
theorem dX9_multiply_49 : decode cX9_multiply 49 = .ok (.lload 4, 2) := by decide +kernel
theorem dX9_multiply_51 : decode cX9_multiply 51 = .ok (.goto 4, 3) := by decide +kernel
theorem dX9_multiply_54 : decode cX9_multiply 54 = .ok (.lload_n 2, 1) := by decide +kernel
theorem dX9_multiply_55 : decode cX9_multiply 55 = .ok (.lstore 8, 2) := by decide +kernel
theorem dX9_multiply_57 : decode cX9_multiply 57 = .ok (.lload_n 2, 1) := by decide +kernel
theorem dX9_multiply_58 : decode cX9_multiply 58 = .ok (.ldc2_w 260, 3) := by decide +kernel
theorem dX9_multiply_61 : decode cX9_multiply 61 = .ok (.lcmp, 1) := by decide +kernel
theorem dX9_multiply_62 : decode cX9_multiply 62 = .ok (.ifCond .eq 26, 3) := by decide +kernel
theorem dX9_multiply_65 : decode cX9_multiply 65 = .ok (.lload 4, 2) := by decide +kernel
theorem dX9_multiply_67 : decode cX9_multiply 67 = .ok (.ldc2_w 260, 3) := by decide +kernel
theorem dX9_multiply_70 : decode cX9_multiply 70 = .ok (.lcmp, 1) := by decide +kernel
theorem dX9_multiply_71 : decode cX9_multiply 71 = .ok (.ifCond .eq 17, 3) := by decide +kernel
theorem dX9_multiply_74 : decode cX9_multiply 74 = .ok (.aload_n 0, 1) := by decide +kernel
theorem dX9_multiply_75 : decode cX9_multiply 75 = .ok (.getfield 240, 3) := by decide +kernel
theorem dX9_multiply_78 : decode cX9_multiply 78 = .ok (.ifCond .ne 22, 3) := by decide +kernel
theorem dX9_multiply_81 : decode cX9_multiply 81 = .ok (.lload_n 2, 1) := by decide +kernel
theorem dX9_multiply_82 : decode cX9_multiply 82 = .ok (.lload 4, 2) := by decide +kernel
theorem dX9_multiply_84 : decode cX9_multiply 84 = .ok (.lcmp, 1) := by decide +kernel
theorem dX9_multiply_85 : decode cX9_multiply 85 = .ok (.ifCond .eq 15, 3) := by decide +kernel
theorem dX9_multiply_88 : decode cX9_multiply 88 = .ok (.aload_n 0, 1) := by decide +kernel
theorem dX9_multiply_89 : decode cX9_multiply 89 = .ok (.iload_n 1, 1) := by decide +kernel
theorem dX9_multiply_90 : decode cX9_multiply 90 = .ok (.iconst 4, 1) := by decide +kernel
theorem dX9_multiply_91 : decode cX9_multiply 91 = .ok (.iconst 0, 1) := by decide +kernel
theorem dX9_multiply_92 : decode cX9_multiply 92 = .ok (.iconst 0, 1) := by decide +kernel
theorem dX9_multiply_93 : decode cX9_multiply 93 = .ok (.iconst 0, 1) := by decide +kernel
theorem dX9_multiply_94 : decode cX9_multiply 94 = .ok (.invokevirtual 224, 3) := by decide +kernel
theorem dX9_multiply_97 : decode cX9_multiply 97 = .ok (.goto 89, 3) := by decide +kernel
theorem dX9_multiply_100 : decode cX9_multiply 100 = .ok (.aload_n 0, 1) := by decide +kernel
theorem dX9_multiply_101 : decode cX9_multiply 101 = .ok (.getfield 240, 3) := by decide +kernel
theorem dX9_multiply_104 : decode cX9_multiply 104 = .ok (.iconst 1, 1) := by decide +kernel
theorem dX9_multiply_105 : decode cX9_multiply 105 = .ok (.if_icmp .ne 29, 3) := by decide +kernel
theorem dX9_multiply_108 : decode cX9_multiply 108 = .ok (.lload 6, 2) := by decide +kernel
theorem dX9_multiply_110 : decode cX9_multiply 110 = .ok (.lconst 0, 1) := by decide +kernel
theorem dX9_multiply_111 : decode cX9_multiply 111 = .ok (.lcmp, 1) := by decide +kernel
theorem dX9_multiply_112 : decode cX9_multiply 112 = .ok (.ifCond .ne 22, 3) := by decide +kernel
theorem dX9_multiply_115 : decode cX9_multiply 115 = .ok (.lload 8, 2) := by decide +kernel
theorem dX9_multiply_117 : decode cX9_multiply 117 = .ok (.lconst 0, 1) := by decide +kernel
theorem dX9_multiply_118 : decode cX9_multiply 118 = .ok (.lcmp, 1) := by decide +kernel
theorem dX9_multiply_119 : decode cX9_multiply 119 = .ok (.ifCond .le 67, 3) := by decide +kernel
theorem dX9_multiply_122 : decode cX9_multiply 122 = .ok (.aload_n 0, 1) := by decide +kernel
theorem dX9_multiply_123 : decode cX9_multiply 123 = .ok (.iload_n 1, 1) := by decide +kernel
theorem dX9_multiply_124 : decode cX9_multiply 124 = .ok (.iconst 4, 1) := by decide +kernel
theorem dX9_multiply_125 : decode cX9_multiply 125 = .ok (.iconst 0, 1) := by decide +kernel
theorem dX9_multiply_126 : decode cX9_multiply 126 = .ok (.iconst 0, 1) := by decide +kernel
theorem dX9_multiply_127 : decode cX9_multiply 127 = .ok (.iconst 0, 1) := by decide +kernel
theorem dX9_multiply_128 : decode cX9_multiply 128 = .ok (.invokevirtual 224, 3) := by decide +kernel
theorem dX9_multiply_131 : decode cX9_multiply 131 = .ok (.goto 55, 3) := by decide +kernel
theorem dX9_multiply_134 : decode cX9_multiply 134 = .ok (.aload_n 0, 1) := by decide +kernel
theorem dX9_multiply_135 : decode cX9_multiply 135 = .ok (.getfield 240, 3) := by decide +kernel
theorem dX9_multiply_138 : decode cX9_multiply 138 = .ok (.iconst 1, 1) := by decide +kernel
theorem dX9_multiply_139 : decode cX9_multiply 139 = .ok (.if_icmp .ne 47, 3) := by decide +kernel
theorem dX9_multiply_142 : decode cX9_multiply 142 = .ok (.lload 8, 2) := by decide +kernel
theorem dX9_multiply_144 : decode cX9_multiply 144 = .ok (.lload 6, 2) := by decide +kernel
theorem dX9_multiply_146 : decode cX9_multiply 146 = .ok (.lrem, 1) := by decide +kernel
theorem dX9_multiply_147 : decode cX9_multiply 147 = .ok (.lconst 0, 1) := by decide +kernel
theorem dX9_multiply_148 : decode cX9_multiply 148 = .ok (.lcmp, 1) := by decide +kernel
theorem dX9_multiply_149 : decode cX9_multiply 149 = .ok (.ifCond .ne 15, 3) := by decide +kernel
theorem dX9_multiply_152 : decode cX9_multiply 152 = .ok (.lload 8, 2) := by decide +kernel
theorem dX9_multiply_154 : decode cX9_multiply 154 = .ok (.lload 6, 2) := by decide +kernel
theorem dX9_multiply_156 : decode cX9_multiply 156 = .ok (.ldiv, 1) := by decide +kernel
theorem dX9_multiply_157 : decode cX9_multiply 157 = .ok (.ldc2_w 253, 3) := by decide +kernel
theorem dX9_multiply_160 : decode cX9_multiply 160 = .ok (.lcmp, 1) := by decide +kernel
theorem dX9_multiply_161 : decode cX9_multiply 161 = .ok (.ifCond .le 15, 3) := by decide +kernel
theorem dX9_multiply_164 : decode cX9_multiply 164 = .ok (.aload_n 0, 1) := by decide +kernel
theorem dX9_multiply_165 : decode cX9_multiply 165 = .ok (.iload_n 1, 1) := by decide +kernel
theorem dX9_multiply_166 : decode cX9_multiply 166 = .ok (.iconst 4, 1) := by decide +kernel
theorem dX9_multiply_167 : decode cX9_multiply 167 = .ok (.iconst 0, 1) := by decide +kernel
theorem dX9_multiply_168 : decode cX9_multiply 168 = .ok (.iconst 0, 1) := by decide +kernel
theorem dX9_multiply_169 : decode cX9_multiply 169 = .ok (.iconst 0, 1) := by decide +kernel
theorem dX9_multiply_170 : decode cX9_multiply 170 = .ok (.invokevirtual 224, 3) := by decide +kernel
theorem dX9_multiply_173 : decode cX9_multiply 173 = .ok (.goto 13, 3) := by decide +kernel
theorem dX9_multiply_176 : decode cX9_multiply 176 = .ok (.aload_n 0, 1) := by decide +kernel
theorem dX9_multiply_177 : decode cX9_multiply 177 = .ok (.lload 8, 2) := by decide +kernel
theorem dX9_multiply_179 : decode cX9_multiply 179 = .ok (.lload 6, 2) := by decide +kernel
theorem dX9_multiply_181 : decode cX9_multiply 181 = .ok (.ldiv, 1) := by decide +kernel
theorem dX9_multiply_182 : decode cX9_multiply 182 = .ok (.l2i, 1) := by decide +kernel
theorem dX9_multiply_183 : decode cX9_multiply 183 = .ok (.invokevirtual 255, 3) := by decide +kernel
theorem dX9_multiply_186 : decode cX9_multiply 186 = .ok (.return_, 1) := by decide +kernel
set_option maxHeartbeats 4000000 in
set_option maxRecDepth 100000 in
theorem t_X9_multiply_J88 {p : Program} {l : Launch} {e : Env} {s : State} {m : MethodId} {args : Array Value} {below : List Frame} {meth : Method} {c : Code} {D : va_G} {aC : Nat → ClassId} {A : Nat → Prop} {a_o : Nat → Nat} {out : Ob_T} (hX : K_X p s m args meth c cX9_multiply 10 WL_ RX9 D aC A) (hr : meth.sig.returnType = none) (x1 : Int32) (s_o : Ob_T) (h : f_X9_multiply_J88 x1 s_o = some out) (H : Heap) (locs : List Loc) (ls : Array Slot) (hZ : K_S D A s (wd_X9 aC a_o s_o) H locs) (hl : lv_has ls 10 [(0, .ref (a_o 0)), (1, .int x1)]) : W p l e (R_m 2 48) s m args below meth c H locs 0 0 (MQ below (Q_W (none) D A (wd_X9 aC a_o out)) args s 0 0 A) (F0 m 88 ls []) := by
  obtain ⟨hx, hb, hml, hown, hts, hK, hA, hlk⟩ := id hX
  unfold f_X9_multiply_J88 at h
  refine lv_aload_n hx hb dX9_multiply_88 rfl (lv_at hl 0 rfl) ?_
  refine lv_iload_n hx hb dX9_multiply_89 rfl (lv_at hl 1 rfl) ?_
  refine lv_iconst (v := 4) hx hb dX9_multiply_90 (by decide) ?_
  refine lv_iconst (v := 0) hx hb dX9_multiply_91 (by decide) ?_
  refine lv_iconst (v := 0) hx hb dX9_multiply_92 (by decide) ?_
  refine lv_iconst (v := 0) hx hb dX9_multiply_93 (by decide) ?_
  obtain ⟨u5, hu, h⟩ := k_bd h
  refine k_vWs (As := [.int x1, .int (4 : Int32), .int (0 : Int32), .int (0 : Int32), .int (0 : Int32)]) (rest := []) (v := none) (st1 := []) hX hl.1 hZ (c_X9_fail (a_o := a_o) s_o x1 (4 : Int32) (0 : Int32) (0 : Int32) (0 : Int32) hu) (gv_ wm_131 wm_133 wm_134 wm_11 wm_132) rfl hd_X9_fail ⟨rfl, rfl⟩ 9 0 rfl rfl rfl rfl rfl dX9_multiply_94 rfl ⟨rfl, rfl⟩ rfl (fun H locs hZ => ?_)
  clear hu
  refine lv_goto (tgt := 186) hx hb dX9_multiply_97 (by decide) ?_
  cases h
  exact k_vretW hX hr hZ dX9_multiply_186
set_option maxHeartbeats 4000000 in
set_option maxRecDepth 100000 in
theorem t_X9_multiply_J164 {p : Program} {l : Launch} {e : Env} {s : State} {m : MethodId} {args : Array Value} {below : List Frame} {meth : Method} {c : Code} {D : va_G} {aC : Nat → ClassId} {A : Nat → Prop} {a_o : Nat → Nat} {out : Ob_T} (hX : K_X p s m args meth c cX9_multiply 10 WL_ RX9 D aC A) (hr : meth.sig.returnType = none) (x1 : Int32) (s_o : Ob_T) (h : f_X9_multiply_J164 x1 s_o = some out) (H : Heap) (locs : List Loc) (ls : Array Slot) (hZ : K_S D A s (wd_X9 aC a_o s_o) H locs) (hl : lv_has ls 10 [(0, .ref (a_o 0)), (1, .int x1)]) : W p l e (R_m 2 48) s m args below meth c H locs 0 0 (MQ below (Q_W (none) D A (wd_X9 aC a_o out)) args s 0 0 A) (F0 m 164 ls []) := by
  obtain ⟨hx, hb, hml, hown, hts, hK, hA, hlk⟩ := id hX
  unfold f_X9_multiply_J164 at h
  refine lv_aload_n hx hb dX9_multiply_164 rfl (lv_at hl 0 rfl) ?_
  refine lv_iload_n hx hb dX9_multiply_165 rfl (lv_at hl 1 rfl) ?_
  refine lv_iconst (v := 4) hx hb dX9_multiply_166 (by decide) ?_
  refine lv_iconst (v := 0) hx hb dX9_multiply_167 (by decide) ?_
  refine lv_iconst (v := 0) hx hb dX9_multiply_168 (by decide) ?_
  refine lv_iconst (v := 0) hx hb dX9_multiply_169 (by decide) ?_
  obtain ⟨u6, hu, h⟩ := k_bd h
  refine k_vWs (As := [.int x1, .int (4 : Int32), .int (0 : Int32), .int (0 : Int32), .int (0 : Int32)]) (rest := []) (v := none) (st1 := []) hX hl.1 hZ (c_X9_fail (a_o := a_o) s_o x1 (4 : Int32) (0 : Int32) (0 : Int32) (0 : Int32) hu) (gv_ wm_131 wm_133 wm_134 wm_11 wm_132) rfl hd_X9_fail ⟨rfl, rfl⟩ 9 0 rfl rfl rfl rfl rfl dX9_multiply_170 rfl ⟨rfl, rfl⟩ rfl (fun H locs hZ => ?_)
  clear hu
  refine lv_goto (tgt := 186) hx hb dX9_multiply_173 (by decide) ?_
  cases h
  exact k_vretW hX hr hZ dX9_multiply_186
set_option maxHeartbeats 4000000 in
set_option maxRecDepth 100000 in
theorem t_X9_multiply_J134 {p : Program} {l : Launch} {e : Env} {s : State} {m : MethodId} {args : Array Value} {below : List Frame} {meth : Method} {c : Code} {D : va_G} {aC : Nat → ClassId} {A : Nat → Prop} {a_o : Nat → Nat} {out : Ob_T} (hX : K_X p s m args meth c cX9_multiply 10 WL_ RX9 D aC A) (hr : meth.sig.returnType = none) (x1 : Int32) (x6 : Int64) (x8 : Int64) (s_o : Ob_T) (h : f_X9_multiply_J134 x1 x6 x8 s_o = some out) (H : Heap) (locs : List Loc) (ls : Array Slot) (hZ : K_S D A s (wd_X9 aC a_o s_o) H locs) (hl : lv_has ls 10 [(0, .ref (a_o 0)), (1, .int x1), (6, .long x6), (8, .long x8)]) : W p l e (R_m 2 48) s m args below meth c H locs 0 0 (MQ below (Q_W (none) D A (wd_X9 aC a_o out)) args s 0 0 A) (F0 m 134 ls []) := by
  obtain ⟨hx, hb, hml, hown, hts, hK, hA, hlk⟩ := id hX
  unfold f_X9_multiply_J134 at h
  refine lv_aload_n hx hb dX9_multiply_134 rfl (lv_at hl 0 rfl) ?_
  refine k_get hX hZ.1 0 9 rfl rfl iw_X9 41 rfl (wm_147) (v := .int (o_F s_o 41)) rfl dX9_multiply_135 ?_
  refine lv_iconst (v := 1) hx hb dX9_multiply_138 (by decide) ?_
  refine lv_icmp_ne (tgt := 186) hx hb dX9_multiply_139 (by decide) (fun cd => ?_) (fun cd => ?_)
  · replace h := k_f cd h
    clear cd
    cases h
    exact k_vretW hX hr hZ dX9_multiply_186
  · replace h := k_t cd h
    clear cd
    refine lv_lload hx hb dX9_multiply_142 (lv_at hl 3 rfl) ?_
    refine lv_lload hx hb dX9_multiply_144 (lv_at hl 2 rfl) ?_
    by_cases hd0 : x6 = 0
    · replace h := k_t hd0 h
      cases h
    · replace h := k_f hd0 h
      refine lv_lrem hx hb dX9_multiply_146 hd0 ?_
      refine lv_lconst (v := 0) hx hb dX9_multiply_147 (by decide) ?_
      refine W.lcmp hx hb dX9_multiply_148 ?_
      refine lv_if_ne (tgt := 164) hx hb dX9_multiply_149 (by decide) (fun cd => ?_) (fun cd => ?_)
      · replace h := k_f cd h
        clear cd
        exact t_X9_multiply_J164 hX hr x1 s_o h H locs ls hZ (lv_sub hl [0, 1] rfl)
      · replace h := k_t cd h
        clear cd
        refine lv_lload hx hb dX9_multiply_152 (lv_at hl 3 rfl) ?_
        refine lv_lload hx hb dX9_multiply_154 (lv_at hl 2 rfl) ?_
        by_cases hd0 : x6 = 0
        · replace h := k_t hd0 h
          cases h
        · replace h := k_f hd0 h
          refine lv_ldiv hx hb dX9_multiply_156 hd0 ?_
          refine lv_ldc2 (v := 9999) hx hb hown (hts _ wm_154) dX9_multiply_157 ?_
          refine W.lcmp hx hb dX9_multiply_160 ?_
          refine lv_if_le (tgt := 176) hx hb dX9_multiply_161 (by decide) (fun cd => ?_) (fun cd => ?_)
          · replace h := k_t cd h
            clear cd
            refine lv_aload_n hx hb dX9_multiply_176 rfl (lv_at hl 0 rfl) ?_
            refine lv_lload hx hb dX9_multiply_177 (lv_at hl 3 rfl) ?_
            refine lv_lload hx hb dX9_multiply_179 (lv_at hl 2 rfl) ?_
            by_cases hd0 : x6 = 0
            · replace h := k_t hd0 h
              cases h
            · replace h := k_f hd0 h
              refine lv_ldiv hx hb dX9_multiply_181 hd0 ?_
              refine lv_l2i (v := (x8 / x6).toInt32) hx hb dX9_multiply_182 rfl ?_
              obtain ⟨u7, hu, h⟩ := k_bd h
              refine k_vWs (As := [.int (x8 / x6).toInt32]) (rest := []) (v := none) (st1 := []) hX hl.1 hZ (c_X9_becomes (a_o := a_o) s_o ((x8 / x6).toInt32) hu) (gv_ wm_155 wm_157 wm_158 wm_11 wm_156) rfl hd_X9_becomes ⟨rfl, rfl⟩ 9 0 rfl rfl rfl rfl rfl dX9_multiply_183 rfl ⟨rfl, rfl⟩ rfl (fun H locs hZ => ?_)
              clear hu
              cases h
              exact k_vretW hX hr hZ dX9_multiply_186
          · replace h := k_f cd h
            clear cd
            exact t_X9_multiply_J164 hX hr x1 s_o h H locs ls hZ (lv_sub hl [0, 1] rfl)
set_option maxHeartbeats 4000000 in
set_option maxRecDepth 100000 in
theorem t_X9_multiply_J100 {p : Program} {l : Launch} {e : Env} {s : State} {m : MethodId} {args : Array Value} {below : List Frame} {meth : Method} {c : Code} {D : va_G} {aC : Nat → ClassId} {A : Nat → Prop} {a_o : Nat → Nat} {out : Ob_T} (hX : K_X p s m args meth c cX9_multiply 10 WL_ RX9 D aC A) (hr : meth.sig.returnType = none) (x1 : Int32) (x6 : Int64) (x8 : Int64) (s_o : Ob_T) (h : f_X9_multiply_J100 x1 x6 x8 s_o = some out) (H : Heap) (locs : List Loc) (ls : Array Slot) (hZ : K_S D A s (wd_X9 aC a_o s_o) H locs) (hl : lv_has ls 10 [(0, .ref (a_o 0)), (1, .int x1), (6, .long x6), (8, .long x8)]) : W p l e (R_m 2 48) s m args below meth c H locs 0 0 (MQ below (Q_W (none) D A (wd_X9 aC a_o out)) args s 0 0 A) (F0 m 100 ls []) := by
  obtain ⟨hx, hb, hml, hown, hts, hK, hA, hlk⟩ := id hX
  unfold f_X9_multiply_J100 at h
  refine lv_aload_n hx hb dX9_multiply_100 rfl (lv_at hl 0 rfl) ?_
  refine k_get hX hZ.1 0 9 rfl rfl iw_X9 41 rfl (wm_147) (v := .int (o_F s_o 41)) rfl dX9_multiply_101 ?_
  refine lv_iconst (v := 1) hx hb dX9_multiply_104 (by decide) ?_
  refine lv_icmp_ne (tgt := 134) hx hb dX9_multiply_105 (by decide) (fun cd => ?_) (fun cd => ?_)
  · replace h := k_f cd h
    clear cd
    exact t_X9_multiply_J134 hX hr x1 x6 x8 s_o h H locs ls hZ (lv_sub hl [0, 1, 2, 3] rfl)
  · replace h := k_t cd h
    clear cd
    refine lv_lload hx hb dX9_multiply_108 (lv_at hl 2 rfl) ?_
    refine lv_lconst (v := 0) hx hb dX9_multiply_110 (by decide) ?_
    refine W.lcmp hx hb dX9_multiply_111 ?_
    refine lv_if_ne (tgt := 134) hx hb dX9_multiply_112 (by decide) (fun cd => ?_) (fun cd => ?_)
    · replace h := k_f cd h
      clear cd
      exact t_X9_multiply_J134 hX hr x1 x6 x8 s_o h H locs ls hZ (lv_sub hl [0, 1, 2, 3] rfl)
    · replace h := k_t cd h
      clear cd
      refine lv_lload hx hb dX9_multiply_115 (lv_at hl 3 rfl) ?_
      refine lv_lconst (v := 0) hx hb dX9_multiply_117 (by decide) ?_
      refine W.lcmp hx hb dX9_multiply_118 ?_
      refine lv_if_le (tgt := 186) hx hb dX9_multiply_119 (by decide) (fun cd => ?_) (fun cd => ?_)
      · replace h := k_t cd h
        clear cd
        cases h
        exact k_vretW hX hr hZ dX9_multiply_186
      · replace h := k_f cd h
        clear cd
        refine lv_aload_n hx hb dX9_multiply_122 rfl (lv_at hl 0 rfl) ?_
        refine lv_iload_n hx hb dX9_multiply_123 rfl (lv_at hl 1 rfl) ?_
        refine lv_iconst (v := 4) hx hb dX9_multiply_124 (by decide) ?_
        refine lv_iconst (v := 0) hx hb dX9_multiply_125 (by decide) ?_
        refine lv_iconst (v := 0) hx hb dX9_multiply_126 (by decide) ?_
        refine lv_iconst (v := 0) hx hb dX9_multiply_127 (by decide) ?_
        obtain ⟨u8, hu, h⟩ := k_bd h
        refine k_vWs (As := [.int x1, .int (4 : Int32), .int (0 : Int32), .int (0 : Int32), .int (0 : Int32)]) (rest := []) (v := none) (st1 := []) hX hl.1 hZ (c_X9_fail (a_o := a_o) s_o x1 (4 : Int32) (0 : Int32) (0 : Int32) (0 : Int32) hu) (gv_ wm_131 wm_133 wm_134 wm_11 wm_132) rfl hd_X9_fail ⟨rfl, rfl⟩ 9 0 rfl rfl rfl rfl rfl dX9_multiply_128 rfl ⟨rfl, rfl⟩ rfl (fun H locs hZ => ?_)
        clear hu
        refine lv_goto (tgt := 186) hx hb dX9_multiply_131 (by decide) ?_
        cases h
        exact k_vretW hX hr hZ dX9_multiply_186
set_option maxHeartbeats 4000000 in
set_option maxRecDepth 100000 in
theorem t_X9_multiply_J55 {p : Program} {l : Launch} {e : Env} {s : State} {m : MethodId} {args : Array Value} {below : List Frame} {meth : Method} {c : Code} {D : va_G} {aC : Nat → ClassId} {A : Nat → Prop} {a_o : Nat → Nat} {out : Ob_T} (hX : K_X p s m args meth c cX9_multiply 10 WL_ RX9 D aC A) (hr : meth.sig.returnType = none) (x1 : Int32) (x2 : Int64) (x4 : Int64) (x6 : Int64) (k0 : Int64) (s_o : Ob_T) (h : f_X9_multiply_J55 x1 x2 x4 x6 k0 s_o = some out) (H : Heap) (locs : List Loc) (ls : Array Slot) (hZ : K_S D A s (wd_X9 aC a_o s_o) H locs) (hl : lv_has ls 10 [(0, .ref (a_o 0)), (1, .int x1), (2, .long x2), (4, .long x4), (6, .long x6)]) : W p l e (R_m 2 48) s m args below meth c H locs 0 0 (MQ below (Q_W (none) D A (wd_X9 aC a_o out)) args s 0 0 A) (F0 m 55 ls [.long k0]) := by
  obtain ⟨hx, hb, hml, hown, hts, hK, hA, hlk⟩ := id hX
  unfold f_X9_multiply_J55 at h
  refine lv_lstore (lv' := [(8, .long k0), (0, .ref (a_o 0)), (1, .int x1), (2, .long x2), (4, .long x4), (6, .long x6)]) hx hb dX9_multiply_55 hl (by decide) rfl (fun ls hl => ?_)
  refine lv_lload_n hx hb dX9_multiply_57 rfl (lv_at hl 3 rfl) ?_
  refine lv_ldc2 (v := -1) hx hb hown (hts _ wm_160) dX9_multiply_58 ?_
  refine W.lcmp hx hb dX9_multiply_61 ?_
  refine lv_if_eq (tgt := 88) hx hb dX9_multiply_62 (by decide) (fun cd => ?_) (fun cd => ?_)
  · replace h := k_t cd h
    clear cd
    exact t_X9_multiply_J88 hX hr x1 s_o h H locs ls hZ (lv_sub hl [1, 2] rfl)
  · replace h := k_f cd h
    clear cd
    refine lv_lload hx hb dX9_multiply_65 (lv_at hl 4 rfl) ?_
    refine lv_ldc2 (v := -1) hx hb hown (hts _ wm_160) dX9_multiply_67 ?_
    refine W.lcmp hx hb dX9_multiply_70 ?_
    refine lv_if_eq (tgt := 88) hx hb dX9_multiply_71 (by decide) (fun cd => ?_) (fun cd => ?_)
    · replace h := k_t cd h
      clear cd
      exact t_X9_multiply_J88 hX hr x1 s_o h H locs ls hZ (lv_sub hl [1, 2] rfl)
    · replace h := k_f cd h
      clear cd
      refine lv_aload_n hx hb dX9_multiply_74 rfl (lv_at hl 1 rfl) ?_
      refine k_get hX hZ.1 0 9 rfl rfl iw_X9 41 rfl (wm_147) (v := .int (o_F s_o 41)) rfl dX9_multiply_75 ?_
      refine lv_if_ne (tgt := 100) hx hb dX9_multiply_78 (by decide) (fun cd => ?_) (fun cd => ?_)
      · replace h := k_f cd h
        clear cd
        exact t_X9_multiply_J100 hX hr x1 x6 k0 s_o h H locs ls hZ (lv_sub hl [1, 2, 5, 0] rfl)
      · replace h := k_t cd h
        clear cd
        refine lv_lload_n hx hb dX9_multiply_81 rfl (lv_at hl 3 rfl) ?_
        refine lv_lload hx hb dX9_multiply_82 (lv_at hl 4 rfl) ?_
        refine W.lcmp hx hb dX9_multiply_84 ?_
        refine lv_if_eq (tgt := 100) hx hb dX9_multiply_85 (by decide) (fun cd => ?_) (fun cd => ?_)
        · replace h := k_t cd h
          clear cd
          exact t_X9_multiply_J100 hX hr x1 x6 k0 s_o h H locs ls hZ (lv_sub hl [1, 2, 5, 0] rfl)
        · replace h := k_f cd h
          clear cd
          exact t_X9_multiply_J88 hX hr x1 s_o h H locs ls hZ (lv_sub hl [1, 2] rfl)
set_option maxHeartbeats 4000000 in
set_option maxRecDepth 100000 in
theorem t_X9_multiply_J40 {p : Program} {l : Launch} {e : Env} {s : State} {m : MethodId} {args : Array Value} {below : List Frame} {meth : Method} {c : Code} {D : va_G} {aC : Nat → ClassId} {A : Nat → Prop} {a_o : Nat → Nat} {out : Ob_T} (hX : K_X p s m args meth c cX9_multiply 10 WL_ RX9 D aC A) (hr : meth.sig.returnType = none) (x1 : Int32) (x2 : Int64) (x4 : Int64) (k0 : Int64) (s_o : Ob_T) (h : f_X9_multiply_J40 x1 x2 x4 k0 s_o = some out) (H : Heap) (locs : List Loc) (ls : Array Slot) (hZ : K_S D A s (wd_X9 aC a_o s_o) H locs) (hl : lv_has ls 10 [(0, .ref (a_o 0)), (1, .int x1), (2, .long x2), (4, .long x4)]) : W p l e (R_m 2 48) s m args below meth c H locs 0 0 (MQ below (Q_W (none) D A (wd_X9 aC a_o out)) args s 0 0 A) (F0 m 40 ls [.long k0]) := by
  obtain ⟨hx, hb, hml, hown, hts, hK, hA, hlk⟩ := id hX
  unfold f_X9_multiply_J40 at h
  refine lv_lstore (lv' := [(6, .long k0), (0, .ref (a_o 0)), (1, .int x1), (2, .long x2), (4, .long x4)]) hx hb dX9_multiply_40 hl (by decide) rfl (fun ls hl => ?_)
  refine lv_aload_n hx hb dX9_multiply_42 rfl (lv_at hl 1 rfl) ?_
  obtain ⟨u4, hu, h⟩ := k_bd h
  refine k_vRs (As := []) (rest := []) (v := some (.int u4)) (st1 := [.int u4]) hX hl.1 hZ (c_X9_isOnLeft (a_o := a_o) s_o hu) (gv_ wm_161 wm_163 wm_164 wm_11 wm_162) rfl hd_X9_isOnLeft ⟨rfl, rfl⟩ 9 0 rfl rfl rfl rfl rfl dX9_multiply_43 rfl ⟨rfl, rfl⟩ (fun locs hZ => ?_)
  clear hu
  refine lv_if_eq (tgt := 54) hx hb dX9_multiply_46 (by decide) (fun cd => ?_) (fun cd => ?_)
  · replace h := k_t cd h
    clear cd
    refine lv_lload_n hx hb dX9_multiply_54 rfl (lv_at hl 3 rfl) ?_
    exact t_X9_multiply_J55 hX hr x1 x2 x4 k0 x2 s_o h H locs ls hZ (lv_sub hl [1, 2, 3, 4, 0] rfl)
  · replace h := k_f cd h
    clear cd
    refine lv_lload hx hb dX9_multiply_49 (lv_at hl 4 rfl) ?_
    refine lv_goto (tgt := 55) hx hb dX9_multiply_51 (by decide) ?_
    exact t_X9_multiply_J55 hX hr x1 x2 x4 k0 x4 s_o h H locs ls hZ (lv_sub hl [1, 2, 3, 4, 0] rfl)
set_option maxHeartbeats 4000000 in
set_option maxRecDepth 100000 in
theorem c_X9_multiply {l : Launch} {D : va_G} {aC : Nat → ClassId} {a_o : Nat → Nat} (s_o : Ob_T) (x1 : Int32) {out : Ob_T} (h : f_X9_multiply s_o x1 = some out) : M_W l yX9_multiply wlX9_multiply 2 48 D aC [.ref (a_o 0), .int x1] (wd_X9 aC a_o s_o) (none) (wd_X9 aC a_o out) := by
  refine k_entW (cc := cX9_multiply) (ret := none) (maxL := 10) (own := RX9) (by decide) rfl rfl rfl ?_
  intro p e s m below meth c A ls hX hr hZ hl
  have hl : lv_has ls 10 [(0, .ref (a_o 0)), (1, .int x1)] := hl
  generalize ([.ref (a_o 0), .int x1] : List Value).toArray = args at hX ⊢
  obtain ⟨hx, hb, hml, hown, hts, hK, hA, hlk⟩ := id hX
  unfold f_X9_multiply at h
  generalize s.heap = H at hZ ⊢
  generalize ([] : List Loc) = locs at hZ ⊢
  refine lv_aload_n hx hb dX9_multiply_0 rfl (lv_at hl 0 rfl) ?_
  refine lv_aload_n hx hb dX9_multiply_1 rfl (lv_at hl 0 rfl) ?_
  refine k_get hX hZ.1 0 9 rfl rfl iw_X9 37 rfl (wm_143) (v := .ref (a_o 26)) rfl dX9_multiply_2 ?_
  refine lv_aload_n hx hb dX9_multiply_5 rfl (lv_at hl 0 rfl) ?_
  refine k_get hX hZ.1 0 9 rfl rfl iw_X9 39 rfl (wm_144) (v := .int (o_F s_o 39)) rfl dX9_multiply_6 ?_
  obtain ⟨u1, hu, h⟩ := k_bd h
  refine k_vRs (As := [.ref (a_o 26), .int (o_F s_o 39)]) (rest := []) (v := some (.long u1)) (st1 := [.long u1]) hX hl.1 hZ (c_X9_productOf (a_o := a_o) (q1 := (a_o 26)) (f1 := o_A s_o 37) (z1 := 6) (pl1 := 26) (hq1 := rfl) s_o (o_F s_o 39) hu) (gv_ wm_165 wm_167 wm_168 wm_11 wm_166) rfl hd_X9_productOf ⟨rfl, rfl⟩ 9 0 rfl rfl rfl rfl rfl dX9_multiply_9 rfl ⟨rfl, rfl⟩ (fun locs hZ => ?_)
  clear hu
  refine lv_lstore_n (lv' := [(2, .long u1), (0, .ref (a_o 0)), (1, .int x1)]) hx hb dX9_multiply_12 rfl hl (by decide) rfl (fun ls hl => ?_)
  refine lv_aload_n hx hb dX9_multiply_13 rfl (lv_at hl 1 rfl) ?_
  refine lv_aload_n hx hb dX9_multiply_14 rfl (lv_at hl 1 rfl) ?_
  refine k_get hX hZ.1 0 9 rfl rfl iw_X9 38 rfl (wm_145) (v := .ref (a_o 27)) rfl dX9_multiply_15 ?_
  refine lv_aload_n hx hb dX9_multiply_18 rfl (lv_at hl 1 rfl) ?_
  refine k_get hX hZ.1 0 9 rfl rfl iw_X9 40 rfl (wm_146) (v := .int (o_F s_o 40)) rfl dX9_multiply_19 ?_
  obtain ⟨u2, hu, h⟩ := k_bd h
  refine k_vRs (As := [.ref (a_o 27), .int (o_F s_o 40)]) (rest := []) (v := some (.long u2)) (st1 := [.long u2]) hX hl.1 hZ (c_X9_productOf (a_o := a_o) (q1 := (a_o 27)) (f1 := o_A s_o 38) (z1 := 6) (pl1 := 27) (hq1 := rfl) s_o (o_F s_o 40) hu) (gv_ wm_165 wm_167 wm_168 wm_11 wm_166) rfl hd_X9_productOf ⟨rfl, rfl⟩ 9 0 rfl rfl rfl rfl rfl dX9_multiply_22 rfl ⟨rfl, rfl⟩ (fun locs hZ => ?_)
  clear hu
  refine lv_lstore (lv' := [(4, .long u2), (2, .long u1), (0, .ref (a_o 0)), (1, .int x1)]) hx hb dX9_multiply_25 hl (by decide) rfl (fun ls hl => ?_)
  refine lv_aload_n hx hb dX9_multiply_27 rfl (lv_at hl 2 rfl) ?_
  obtain ⟨u3, hu, h⟩ := k_bd h
  refine k_vRs (As := []) (rest := []) (v := some (.int u3)) (st1 := [.int u3]) hX hl.1 hZ (c_X9_isOnLeft (a_o := a_o) s_o hu) (gv_ wm_161 wm_163 wm_164 wm_11 wm_162) rfl hd_X9_isOnLeft ⟨rfl, rfl⟩ 9 0 rfl rfl rfl rfl rfl dX9_multiply_28 rfl ⟨rfl, rfl⟩ (fun locs hZ => ?_)
  clear hu
  refine lv_if_eq (tgt := 38) hx hb dX9_multiply_31 (by decide) (fun cd => ?_) (fun cd => ?_)
  · replace h := k_t cd h
    clear cd
    refine lv_lload hx hb dX9_multiply_38 (lv_at hl 0 rfl) ?_
    exact t_X9_multiply_J40 hX hr x1 u1 u2 u2 s_o h H locs ls hZ (lv_sub hl [2, 3, 1, 0] rfl)
  · replace h := k_f cd h
    clear cd
    refine lv_lload_n hx hb dX9_multiply_34 rfl (lv_at hl 1 rfl) ?_
    refine lv_goto (tgt := 40) hx hb dX9_multiply_35 (by decide) ?_
    exact t_X9_multiply_J40 hX hr x1 u1 u2 u1 s_o h H locs ls hZ (lv_sub hl [2, 3, 1, 0] rfl)
