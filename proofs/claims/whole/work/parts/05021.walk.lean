def wlX9_meetBoth : List Cond := .code yX9_meetBoth cX9_meetBoth 8 none :: WL_
theorem hd_X9_meetBoth : yX9_meetBoth.cls = RX9 ∧ yX9_meetBoth.cls ≠ "java/lang/invoke/MethodHandle" ∧ yX9_meetBoth.cls ≠ "java/lang/invoke/VarHandle" ∧ (parseMethodDescriptor yX9_meetBoth.desc).map (fun d => d.parameters.length) = some 1 := by decide +kernel
theorem dX9_meetBoth_0 : decode cX9_meetBoth 0 = .ok (.bipush 15, 2) := by decide +kernel
theorem dX9_meetBoth_2 : decode cX9_meetBoth 2 = .ok (.iload_n 1, 1) := by decide +kernel
theorem dX9_meetBoth_3 : decode cX9_meetBoth 3 = .ok (.imul, 1) := by decide +kernel
theorem dX9_meetBoth_4 : decode cX9_meetBoth 4 = .ok (.istore_n 2, 1) := by decide +kernel
theorem dX9_meetBoth_5 : decode cX9_meetBoth 5 = .ok (.aload_n 0, 1) := by decide +kernel
theorem dX9_meetBoth_6 : decode cX9_meetBoth 6 = .ok (.getfield 13, 3) := by decide +kernel
theorem dX9_meetBoth_9 : decode cX9_meetBoth 9 = .ok (.iload_n 2, 1) := by decide +kernel
theorem dX9_meetBoth_10 : decode cX9_meetBoth 10 = .ok (.iconst 1, 1) := by decide +kernel
theorem dX9_meetBoth_11 : decode cX9_meetBoth 11 = .ok (.iadd, 1) := by decide +kernel
theorem dX9_meetBoth_12 : decode cX9_meetBoth 12 = .ok (.iaload, 1) := by decide +kernel
theorem dX9_meetBoth_13 : decode cX9_meetBoth 13 = .ok (.istore_n 3, 1) := by decide +kernel
theorem dX9_meetBoth_14 : decode cX9_meetBoth 14 = .ok (.aload_n 0, 1) := by decide +kernel
theorem dX9_meetBoth_15 : decode cX9_meetBoth 15 = .ok (.getfield 13, 3) := by decide +kernel
theorem dX9_meetBoth_18 : decode cX9_meetBoth 18 = .ok (.iload_n 2, 1) := by decide +kernel
theorem dX9_meetBoth_19 : decode cX9_meetBoth 19 = .ok (.iconst 2, 1) := by decide +kernel
theorem dX9_meetBoth_20 : decode cX9_meetBoth 20 = .ok (.iadd, 1) := by decide +kernel
theorem dX9_meetBoth_21 : decode cX9_meetBoth 21 = .ok (.iaload, 1) := by decide +kernel
theorem dX9_meetBoth_22 : decode cX9_meetBoth 22 = .ok (.istore 4, 2) := by decide +kernel
theorem dX9_meetBoth_24 : decode cX9_meetBoth 24 = .ok (.aload_n 0, 1) := by decide +kernel
theorem dX9_meetBoth_25 : decode cX9_meetBoth 25 = .ok (.iload_n 3, 1) := by decide +kernel
theorem dX9_meetBoth_26 : decode cX9_meetBoth 26 = .ok (.invokevirtual 199, 3) := by decide +kernel
theorem dX9_meetBoth_29 : decode cX9_meetBoth 29 = .ok (.aload_n 0, 1) := by decide +kernel
theorem dX9_meetBoth_30 : decode cX9_meetBoth 30 = .ok (.getfield 13, 3) := by decide +kernel
theorem dX9_meetBoth_33 : decode cX9_meetBoth 33 = .ok (.iload_n 2, 1) := by decide +kernel
theorem dX9_meetBoth_34 : decode cX9_meetBoth 34 = .ok (.iconst 3, 1) := by decide +kernel
theorem dX9_meetBoth_35 : decode cX9_meetBoth 35 = .ok (.iadd, 1) := by decide +kernel
theorem dX9_meetBoth_36 : decode cX9_meetBoth 36 = .ok (.iaload, 1) := by decide +kernel
theorem dX9_meetBoth_37 : decode cX9_meetBoth 37 = .ok (.invokestatic 203, 3) := by decide +kernel
theorem dX9_meetBoth_40 : decode cX9_meetBoth 40 = .ok (.istore 5, 2) := by decide +kernel
theorem dX9_meetBoth_42 : decode cX9_meetBoth 42 = .ok (.aload_n 0, 1) := by decide +kernel
theorem dX9_meetBoth_43 : decode cX9_meetBoth 43 = .ok (.iload 4, 2) := by decide +kernel
theorem dX9_meetBoth_45 : decode cX9_meetBoth 45 = .ok (.invokevirtual 199, 3) := by decide +kernel
theorem dX9_meetBoth_48 : decode cX9_meetBoth 48 = .ok (.aload_n 0, 1) := by decide +kernel
theorem dX9_meetBoth_49 : decode cX9_meetBoth 49 = .ok (.getfield 13, 3) := by decide +kernel
theorem dX9_meetBoth_52 : decode cX9_meetBoth 52 = .ok (.iload_n 2, 1) := by decide +kernel
theorem dX9_meetBoth_53 : decode cX9_meetBoth 53 = .ok (.iconst 3, 1) := by decide +kernel
theorem dX9_meetBoth_54 : decode cX9_meetBoth 54 = .ok (.iadd, 1) := by decide +kernel
theorem dX9_meetBoth_55 : decode cX9_meetBoth 55 = .ok (.iaload, 1) := by decide +kernel
theorem dX9_meetBoth_56 : decode cX9_meetBoth 56 = .ok (.invokestatic 203, 3) := by decide +kernel
theorem dX9_meetBoth_59 : decode cX9_meetBoth 59 = .ok (.istore 6, 2) := by decide +kernel
theorem dX9_meetBoth_61 : decode cX9_meetBoth 61 = .ok (.iconst 0, 1) := by decide +kernel
theorem dX9_meetBoth_62 : decode cX9_meetBoth 62 = .ok (.istore 7, 2) := by decide +kernel
theorem dX9_meetBoth_64 : decode cX9_meetBoth 64 = .ok (.iload 7, 2) := by decide +kernel
theorem dX9_meetBoth_66 : decode cX9_meetBoth 66 = .ok (.iload 5, 2) := by decide +kernel
theorem dX9_meetBoth_68 : decode cX9_meetBoth 68 = .ok (.if_icmp .ge 46, 3) := by decide +kernel
theorem dX9_meetBoth_71 : decode cX9_meetBoth 71 = .ok (.iload 7, 2) := by decide +kernel
theorem dX9_meetBoth_73 : decode cX9_meetBoth 73 = .ok (.iload 6, 2) := by decide +kernel
theorem dX9_meetBoth_75 : decode cX9_meetBoth 75 = .ok (.if_icmp .ge 39, 3) := by decide +kernel
theorem dX9_meetBoth_78 : decode cX9_meetBoth 78 = .ok (.aload_n 0, 1) := by decide +kernel
theorem dX9_meetBoth_79 : decode cX9_meetBoth 79 = .ok (.getfield 217, 3) := by decide +kernel
theorem dX9_meetBoth_82 : decode cX9_meetBoth 82 = .ok (.ifCond .ne 32, 3) := by decide +kernel
theorem dX9_meetBoth_85 : decode cX9_meetBoth 85 = .ok (.aload_n 0, 1) := by decide +kernel
theorem dX9_meetBoth_86 : decode cX9_meetBoth 86 = .ok (.iload_n 1, 1) := by decide +kernel
theorem dX9_meetBoth_87 : decode cX9_meetBoth 87 = .ok (.iconst 1, 1) := by decide +kernel
theorem dX9_meetBoth_88 : decode cX9_meetBoth 88 = .ok (.iload 7, 2) := by decide +kernel
theorem dX9_meetBoth_90 : decode cX9_meetBoth 90 = .ok (.aload_n 0, 1) := by decide +kernel
theorem dX9_meetBoth_91 : decode cX9_meetBoth 91 = .ok (.iload_n 3, 1) := by decide +kernel
theorem dX9_meetBoth_92 : decode cX9_meetBoth 92 = .ok (.iload 7, 2) := by decide +kernel
theorem dX9_meetBoth_94 : decode cX9_meetBoth 94 = .ok (.invokevirtual 191, 3) := by decide +kernel
theorem dX9_meetBoth_97 : decode cX9_meetBoth 97 = .ok (.aload_n 0, 1) := by decide +kernel
theorem dX9_meetBoth_98 : decode cX9_meetBoth 98 = .ok (.iload 4, 2) := by decide +kernel
theorem dX9_meetBoth_100 : decode cX9_meetBoth 100 = .ok (.iload 7, 2) := by decide +kernel
theorem dX9_meetBoth_102 : decode cX9_meetBoth 102 = .ok (.invokevirtual 191, 3) := by decide +kernel
theorem dX9_meetBoth_105 : decode cX9_meetBoth 105 = .ok (.invokevirtual 231, 3) := by decide +kernel
theorem dX9_meetBoth_108 : decode cX9_meetBoth 108 = .ok (.iinc 7 1, 3) := by decide +kernel
theorem dX9_meetBoth_111 : decode cX9_meetBoth 111 = .ok (.goto (-47), 3) := by decide +kernel
theorem dX9_meetBoth_114 : decode cX9_meetBoth 114 = .ok (.aload_n 0, 1) := by decide +kernel
theorem dX9_meetBoth_115 : decode cX9_meetBoth 115 = .ok (.getfield 13, 3) := by decide +kernel
theorem dX9_meetBoth_118 : decode cX9_meetBoth 118 = .ok (.iload_n 2, 1) := by decide +kernel
theorem dX9_meetBoth_119 : decode cX9_meetBoth 119 = .ok (.iconst 0, 1) := by decide +kernel
theorem dX9_meetBoth_120 : decode cX9_meetBoth 120 = .ok (.iadd, 1) := by decide +kernel
theorem dX9_meetBoth_121 : decode cX9_meetBoth 121 = .ok (.iaload, 1) := by decide +kernel
theorem dX9_meetBoth_122 : decode cX9_meetBoth 122 = .ok (.iconst 2, 1) := by decide +kernel
theorem dX9_meetBoth_123 : decode cX9_meetBoth 123 = .ok (.if_icmp .ne 7, 3) := by decide +kernel
theorem dX9_meetBoth_126 : decode cX9_meetBoth 126 = .ok (.iconst 1, 1) := by decide +kernel
theorem dX9_meetBoth_127 : decode cX9_meetBoth 127 = .ok (.goto 4, 3) := by decide +kernel
theorem dX9_meetBoth_130 : decode cX9_meetBoth 130 = .ok (.iconst 0, 1) := by decide +kernel
theorem dX9_meetBoth_131 : decode cX9_meetBoth 131 = .ok (.istore 7, 2) := by decide +kernel
theorem dX9_meetBoth_133 : decode cX9_meetBoth 133 = .ok (.iload 5, 2) := by decide +kernel
theorem dX9_meetBoth_135 : decode cX9_meetBoth 135 = .ok (.iload 7, 2) := by decide +kernel
theorem dX9_meetBoth_137 : decode cX9_meetBoth 137 = .ok (.iadd, 1) := by decide +kernel
theorem dX9_meetBoth_138 : decode cX9_meetBoth 138 = .ok (.aload_n 0, 1) := by decide +kernel
theorem dX9_meetBoth_139 : decode cX9_meetBoth 139 = .ok (.iload_n 3, 1) := by decide +kernel
theorem dX9_meetBoth_140 : decode cX9_meetBoth 140 = .ok (.invokevirtual 199, 3) := by decide +kernel
theorem dX9_meetBoth_143 : decode cX9_meetBoth 143 = .ok (.if_icmp .ge 59, 3) := by decide +kernel
theorem dX9_meetBoth_146 : decode cX9_meetBoth 146 = .ok (.iload 6, 2) := by decide +kernel
theorem dX9_meetBoth_148 : decode cX9_meetBoth 148 = .ok (.iload 7, 2) := by decide +kernel
theorem dX9_meetBoth_150 : decode cX9_meetBoth 150 = .ok (.iadd, 1) := by decide +kernel
theorem dX9_meetBoth_151 : decode cX9_meetBoth 151 = .ok (.aload_n 0, 1) := by decide +kernel
theorem dX9_meetBoth_152 : decode cX9_meetBoth 152 = .ok (.iload 4, 2) := by decide +kernel
theorem dX9_meetBoth_154 : decode cX9_meetBoth 154 = .ok (.invokevirtual 199, 3) := by decide +kernel
theorem dX9_meetBoth_157 : decode cX9_meetBoth 157 = .ok (.if_icmp .ge 45, 3) := by decide +kernel
theorem dX9_meetBoth_160 : decode cX9_meetBoth 160 = .ok (.aload_n 0, 1) := by decide +kernel
theorem dX9_meetBoth_161 : decode cX9_meetBoth 161 = .ok (.getfield 217, 3) := by decide +kernel
theorem dX9_meetBoth_164 : decode cX9_meetBoth 164 = .ok (.ifCond .ne 38, 3) := by decide +kernel
theorem dX9_meetBoth_167 : decode cX9_meetBoth 167 = .ok (.aload_n 0, 1) := by decide +kernel
theorem dX9_meetBoth_168 : decode cX9_meetBoth 168 = .ok (.iload_n 1, 1) := by decide +kernel
theorem dX9_meetBoth_169 : decode cX9_meetBoth 169 = .ok (.iconst 2, 1) := by decide +kernel
theorem dX9_meetBoth_170 : decode cX9_meetBoth 170 = .ok (.iload 7, 2) := by decide +kernel
theorem dX9_meetBoth_172 : decode cX9_meetBoth 172 = .ok (.aload_n 0, 1) := by decide +kernel
theorem dX9_meetBoth_173 : decode cX9_meetBoth 173 = .ok (.iload_n 3, 1) := by decide +kernel
theorem dX9_meetBoth_174 : decode cX9_meetBoth 174 = .ok (.iload 5, 2) := by decide +kernel
theorem dX9_meetBoth_176 : decode cX9_meetBoth 176 = .ok (.iload 7, 2) := by decide +kernel
theorem dX9_meetBoth_178 : decode cX9_meetBoth 178 = .ok (.iadd, 1) := by decide +kernel
theorem dX9_meetBoth_179 : decode cX9_meetBoth 179 = .ok (.invokevirtual 191, 3) := by decide +kernel
theorem dX9_meetBoth_182 : decode cX9_meetBoth 182 = .ok (.aload_n 0, 1) := by decide +kernel
theorem dX9_meetBoth_183 : decode cX9_meetBoth 183 = .ok (.iload 4, 2) := by decide +kernel
theorem dX9_meetBoth_185 : decode cX9_meetBoth 185 = .ok (.iload 6, 2) := by decide +kernel
theorem dX9_meetBoth_187 : decode cX9_meetBoth 187 = .ok (.iload 7, 2) := by decide +kernel
theorem dX9_meetBoth_189 : decode cX9_meetBoth 189 = .ok (.iadd, 1) := by decide +kernel
theorem dX9_meetBoth_190 : decode cX9_meetBoth 190 = .ok (.invokevirtual 191, 3) := by decide +kernel
theorem dX9_meetBoth_193 : decode cX9_meetBoth 193 = .ok (.invokevirtual 231, 3) := by decide +kernel
theorem dX9_meetBoth_196 : decode cX9_meetBoth 196 = .ok (.iinc 7 1, 3) := by decide +kernel
theorem dX9_meetBoth_199 : decode cX9_meetBoth 199 = .ok (.goto (-66), 3) := by decide +kernel
theorem dX9_meetBoth_202 : decode cX9_meetBoth 202 = .ok (.return_, 1) := by decide +kernel
set_option maxHeartbeats 4000000 in
set_option maxRecDepth 100000 in
theorem t_X9_meetBoth_L64 {p : Program} {l : Launch} {e : Env} {s : State} {m : MethodId} {args : Array Value} {below : List Frame} {meth : Method} {c : Code} {D : va_G} {aC : Nat → ClassId} {A : Nat → Prop} {a_o : Nat → Nat} {out : Ob_T} {k114 : Int32 → Int32 → Int32 → Int32 → Int32 → Int32 → Ob_T → Option Ob_T} {rec64 : (Int32 × Int32 × Int32 × Int32 × Int32 × Int32 × Int32 × Ob_T) → Option Ob_T} (hX : K_X p s m args meth c cX9_meetBoth 8 WL_ RX9 D aC A) (hr : meth.sig.returnType = none) (hk114 : ∀ (y1 : Int32) (y2 : Int32) (y3 : Int32) (y4 : Int32) (y5 : Int32) (y6 : Int32) (t_o : Ob_T), k114 y1 y2 y3 y4 y5 y6 t_o = some out → ∀ (H : Heap) (locs : List Loc) (ls : Array Slot), K_S D A s (wd_X9 aC a_o t_o) H locs → lv_has ls 8 [(0, .ref (a_o 0)), (1, .int y1), (2, .int y2), (3, .int y3), (4, .int y4), (5, .int y5), (6, .int y6)] → W p l e (R_m 2 52) s m args below meth c H locs 0 0 (MQ below (Q_W (none) D A (wd_X9 aC a_o out)) args s 0 0 A) (F0 m 114 ls [])) (hrec64 : ∀ x : Int32 × Int32 × Int32 × Int32 × Int32 × Int32 × Int32 × Ob_T, rec64 x = some out → ∀ (H : Heap) (locs : List Loc) (ls : Array Slot), K_S D A s (wd_X9 aC a_o x.2.2.2.2.2.2.2) H locs → lv_has ls 8 [(0, .ref (a_o 0)), (1, .int x.1), (2, .int x.2.1), (3, .int x.2.2.1), (4, .int x.2.2.2.1), (5, .int x.2.2.2.2.1), (6, .int x.2.2.2.2.2.1), (7, .int x.2.2.2.2.2.2.1)] → W p l e (R_m 2 52) s m args below meth c H locs 0 0 (MQ below (Q_W (none) D A (wd_X9 aC a_o out)) args s 0 0 A) (F0 m 64 ls [])) (x1 : Int32) (x2 : Int32) (x3 : Int32) (x4 : Int32) (x5 : Int32) (x6 : Int32) (x7 : Int32) (s_o : Ob_T) (h : f_X9_meetBoth_L64 k114 rec64 x1 x2 x3 x4 x5 x6 x7 s_o = some out) (H : Heap) (locs : List Loc) (ls : Array Slot) (hZ : K_S D A s (wd_X9 aC a_o s_o) H locs) (hl : lv_has ls 8 [(0, .ref (a_o 0)), (1, .int x1), (2, .int x2), (3, .int x3), (4, .int x4), (5, .int x5), (6, .int x6), (7, .int x7)]) : W p l e (R_m 2 52) s m args below meth c H locs 0 0 (MQ below (Q_W (none) D A (wd_X9 aC a_o out)) args s 0 0 A) (F0 m 64 ls []) := by
  obtain ⟨hx, hb, hml, hown, hts, hK, hA, hlk⟩ := id hX
  unfold f_X9_meetBoth_L64 at h
  refine lv_iload hx hb dX9_meetBoth_64 (lv_at hl 7 rfl) ?_
  refine lv_iload hx hb dX9_meetBoth_66 (lv_at hl 5 rfl) ?_
  refine lv_icmp_ge (tgt := 114) hx hb dX9_meetBoth_68 (by decide) (fun cd => ?_) (fun cd => ?_)
  · replace h := k_t cd h
    clear cd
    exact hk114 x1 x2 x3 x4 x5 x6 s_o h H locs ls hZ (lv_sub hl [0, 1, 2, 3, 4, 5, 6] rfl)
  · replace h := k_f cd h
    clear cd
    refine lv_iload hx hb dX9_meetBoth_71 (lv_at hl 7 rfl) ?_
    refine lv_iload hx hb dX9_meetBoth_73 (lv_at hl 6 rfl) ?_
    refine lv_icmp_ge (tgt := 114) hx hb dX9_meetBoth_75 (by decide) (fun cd => ?_) (fun cd => ?_)
    · replace h := k_t cd h
      clear cd
      exact hk114 x1 x2 x3 x4 x5 x6 s_o h H locs ls hZ (lv_sub hl [0, 1, 2, 3, 4, 5, 6] rfl)
    · replace h := k_f cd h
      clear cd
      refine lv_aload_n hx hb dX9_meetBoth_78 rfl (lv_at hl 0 rfl) ?_
      refine k_get hX hZ.1 0 9 rfl rfl iw_X9 35 rfl (wm_126) (v := .int (o_F s_o 35)) rfl dX9_meetBoth_79 ?_
      refine lv_if_ne (tgt := 114) hx hb dX9_meetBoth_82 (by decide) (fun cd => ?_) (fun cd => ?_)
      · replace h := k_f cd h
        clear cd
        exact hk114 x1 x2 x3 x4 x5 x6 s_o h H locs ls hZ (lv_sub hl [0, 1, 2, 3, 4, 5, 6] rfl)
      · replace h := k_t cd h
        clear cd
        refine lv_aload_n hx hb dX9_meetBoth_85 rfl (lv_at hl 0 rfl) ?_
        refine lv_iload_n hx hb dX9_meetBoth_86 rfl (lv_at hl 1 rfl) ?_
        refine lv_iconst (v := 1) hx hb dX9_meetBoth_87 (by decide) ?_
        refine lv_iload hx hb dX9_meetBoth_88 (lv_at hl 7 rfl) ?_
        refine lv_aload_n hx hb dX9_meetBoth_90 rfl (lv_at hl 0 rfl) ?_
        refine lv_iload_n hx hb dX9_meetBoth_91 rfl (lv_at hl 3 rfl) ?_
        refine lv_iload hx hb dX9_meetBoth_92 (lv_at hl 7 rfl) ?_
        obtain ⟨u9, hu, h⟩ := k_bd h
        refine k_vRs (As := [.int x3, .int x7]) (rest := [.int x7, .int (1 : Int32), .int x1, .ref (a_o 0)]) (v := some (.int u9)) (st1 := [.int u9, .int x7, .int (1 : Int32), .int x1, .ref (a_o 0)]) hX hl.1 hZ (c_X9_extentOf (a_o := a_o) s_o x3 x7 hu) (gv_ wm_71 wm_73 wm_74 wm_11 wm_72) rfl hd_X9_extentOf ⟨rfl, rfl⟩ 9 0 rfl rfl rfl rfl rfl dX9_meetBoth_94 rfl ⟨rfl, rfl⟩ (fun locs hZ => ?_)
        clear hu
        refine lv_aload_n hx hb dX9_meetBoth_97 rfl (lv_at hl 0 rfl) ?_
        refine lv_iload hx hb dX9_meetBoth_98 (lv_at hl 4 rfl) ?_
        refine lv_iload hx hb dX9_meetBoth_100 (lv_at hl 7 rfl) ?_
        obtain ⟨u10, hu, h⟩ := k_bd h
        refine k_vRs (As := [.int x4, .int x7]) (rest := [.int u9, .int x7, .int (1 : Int32), .int x1, .ref (a_o 0)]) (v := some (.int u10)) (st1 := [.int u10, .int u9, .int x7, .int (1 : Int32), .int x1, .ref (a_o 0)]) hX hl.1 hZ (c_X9_extentOf (a_o := a_o) s_o x4 x7 hu) (gv_ wm_71 wm_73 wm_74 wm_11 wm_72) rfl hd_X9_extentOf ⟨rfl, rfl⟩ 9 0 rfl rfl rfl rfl rfl dX9_meetBoth_102 rfl ⟨rfl, rfl⟩ (fun locs hZ => ?_)
        clear hu
        obtain ⟨u11, hu, h⟩ := k_bd h
        refine k_vWs (As := [.int x1, .int (1 : Int32), .int x7, .int u9, .int u10]) (rest := []) (v := none) (st1 := []) hX hl.1 hZ (c_X9_meet (a_o := a_o) s_o x1 (1 : Int32) x7 u9 u10 hu) (gv_ wm_139 wm_141 wm_142 wm_11 wm_140) rfl hd_X9_meet ⟨rfl, rfl⟩ 9 0 rfl rfl rfl rfl rfl dX9_meetBoth_105 rfl ⟨rfl, rfl⟩ rfl (fun H locs hZ => ?_)
        clear hu
        refine lv_iinc (v := (x7 + (1 : Int32))) (lv' := [(7, .int (x7 + (1 : Int32))), (0, .ref (a_o 0)), (1, .int x1), (2, .int x2), (3, .int x3), (4, .int x4), (5, .int x5), (6, .int x6)]) hx hb dX9_meetBoth_108 hl (k := 7) rfl rfl (by decide) rfl (fun ls hl => ?_)
        refine lv_goto (tgt := 64) hx hb dX9_meetBoth_111 (by decide) ?_
        exact hrec64 (x1, x2, x3, x4, x5, x6, (x7 + (1 : Int32)), u11) h H locs ls hZ (lv_sub hl [1, 2, 3, 4, 5, 6, 7, 0] rfl)
set_option maxHeartbeats 4000000 in
set_option maxRecDepth 100000 in
theorem t_X9_meetBoth_L133 {p : Program} {l : Launch} {e : Env} {s : State} {m : MethodId} {args : Array Value} {below : List Frame} {meth : Method} {c : Code} {D : va_G} {aC : Nat → ClassId} {A : Nat → Prop} {a_o : Nat → Nat} {out : Ob_T} {rec133 : (Int32 × Int32 × Int32 × Int32 × Int32 × Int32 × Ob_T) → Option Ob_T} (hX : K_X p s m args meth c cX9_meetBoth 8 WL_ RX9 D aC A) (hr : meth.sig.returnType = none) (hrec133 : ∀ x : Int32 × Int32 × Int32 × Int32 × Int32 × Int32 × Ob_T, rec133 x = some out → ∀ (H : Heap) (locs : List Loc) (ls : Array Slot), K_S D A s (wd_X9 aC a_o x.2.2.2.2.2.2) H locs → lv_has ls 8 [(0, .ref (a_o 0)), (1, .int x.1), (3, .int x.2.1), (4, .int x.2.2.1), (5, .int x.2.2.2.1), (6, .int x.2.2.2.2.1), (7, .int x.2.2.2.2.2.1)] → W p l e (R_m 2 52) s m args below meth c H locs 0 0 (MQ below (Q_W (none) D A (wd_X9 aC a_o out)) args s 0 0 A) (F0 m 133 ls [])) (x1 : Int32) (x3 : Int32) (x4 : Int32) (x5 : Int32) (x6 : Int32) (x7 : Int32) (s_o : Ob_T) (h : f_X9_meetBoth_L133 rec133 x1 x3 x4 x5 x6 x7 s_o = some out) (H : Heap) (locs : List Loc) (ls : Array Slot) (hZ : K_S D A s (wd_X9 aC a_o s_o) H locs) (hl : lv_has ls 8 [(0, .ref (a_o 0)), (1, .int x1), (3, .int x3), (4, .int x4), (5, .int x5), (6, .int x6), (7, .int x7)]) : W p l e (R_m 2 52) s m args below meth c H locs 0 0 (MQ below (Q_W (none) D A (wd_X9 aC a_o out)) args s 0 0 A) (F0 m 133 ls []) := by
  obtain ⟨hx, hb, hml, hown, hts, hK, hA, hlk⟩ := id hX
  unfold f_X9_meetBoth_L133 at h
  refine lv_iload hx hb dX9_meetBoth_133 (lv_at hl 4 rfl) ?_
  refine lv_iload hx hb dX9_meetBoth_135 (lv_at hl 6 rfl) ?_
  refine lv_iadd hx hb dX9_meetBoth_137 ?_
  refine lv_aload_n hx hb dX9_meetBoth_138 rfl (lv_at hl 0 rfl) ?_
  refine lv_iload_n hx hb dX9_meetBoth_139 rfl (lv_at hl 2 rfl) ?_
  obtain ⟨u13, hu, h⟩ := k_bd h
  refine k_vRs (As := [.int x3]) (rest := [.int (x5 + x7)]) (v := some (.int u13)) (st1 := [.int u13, .int (x5 + x7)]) hX hl.1 hZ (c_X9_longOf (a_o := a_o) s_o x3 hu) (gv_ wm_79 wm_81 wm_82 wm_11 wm_80) rfl hd_X9_longOf ⟨rfl, rfl⟩ 9 0 rfl rfl rfl rfl rfl dX9_meetBoth_140 rfl ⟨rfl, rfl⟩ (fun locs hZ => ?_)
  clear hu
  refine lv_icmp_ge (tgt := 202) hx hb dX9_meetBoth_143 (by decide) (fun cd => ?_) (fun cd => ?_)
  · replace h := k_t cd h
    clear cd
    cases h
    exact k_vretW hX hr hZ dX9_meetBoth_202
  · replace h := k_f cd h
    clear cd
    refine lv_iload hx hb dX9_meetBoth_146 (lv_at hl 5 rfl) ?_
    refine lv_iload hx hb dX9_meetBoth_148 (lv_at hl 6 rfl) ?_
    refine lv_iadd hx hb dX9_meetBoth_150 ?_
    refine lv_aload_n hx hb dX9_meetBoth_151 rfl (lv_at hl 0 rfl) ?_
    refine lv_iload hx hb dX9_meetBoth_152 (lv_at hl 3 rfl) ?_
    obtain ⟨u14, hu, h⟩ := k_bd h
    refine k_vRs (As := [.int x4]) (rest := [.int (x6 + x7)]) (v := some (.int u14)) (st1 := [.int u14, .int (x6 + x7)]) hX hl.1 hZ (c_X9_longOf (a_o := a_o) s_o x4 hu) (gv_ wm_79 wm_81 wm_82 wm_11 wm_80) rfl hd_X9_longOf ⟨rfl, rfl⟩ 9 0 rfl rfl rfl rfl rfl dX9_meetBoth_154 rfl ⟨rfl, rfl⟩ (fun locs hZ => ?_)
    clear hu
    refine lv_icmp_ge (tgt := 202) hx hb dX9_meetBoth_157 (by decide) (fun cd => ?_) (fun cd => ?_)
    · replace h := k_t cd h
      clear cd
      cases h
      exact k_vretW hX hr hZ dX9_meetBoth_202
    · replace h := k_f cd h
      clear cd
      refine lv_aload_n hx hb dX9_meetBoth_160 rfl (lv_at hl 0 rfl) ?_
      refine k_get hX hZ.1 0 9 rfl rfl iw_X9 35 rfl (wm_126) (v := .int (o_F s_o 35)) rfl dX9_meetBoth_161 ?_
      refine lv_if_ne (tgt := 202) hx hb dX9_meetBoth_164 (by decide) (fun cd => ?_) (fun cd => ?_)
      · replace h := k_f cd h
        clear cd
        cases h
        exact k_vretW hX hr hZ dX9_meetBoth_202
      · replace h := k_t cd h
        clear cd
        refine lv_aload_n hx hb dX9_meetBoth_167 rfl (lv_at hl 0 rfl) ?_
        refine lv_iload_n hx hb dX9_meetBoth_168 rfl (lv_at hl 1 rfl) ?_
        refine lv_iconst (v := 2) hx hb dX9_meetBoth_169 (by decide) ?_
        refine lv_iload hx hb dX9_meetBoth_170 (lv_at hl 6 rfl) ?_
        refine lv_aload_n hx hb dX9_meetBoth_172 rfl (lv_at hl 0 rfl) ?_
        refine lv_iload_n hx hb dX9_meetBoth_173 rfl (lv_at hl 2 rfl) ?_
        refine lv_iload hx hb dX9_meetBoth_174 (lv_at hl 4 rfl) ?_
        refine lv_iload hx hb dX9_meetBoth_176 (lv_at hl 6 rfl) ?_
        refine lv_iadd hx hb dX9_meetBoth_178 ?_
        obtain ⟨u15, hu, h⟩ := k_bd h
        refine k_vRs (As := [.int x3, .int (x5 + x7)]) (rest := [.int x7, .int (2 : Int32), .int x1, .ref (a_o 0)]) (v := some (.int u15)) (st1 := [.int u15, .int x7, .int (2 : Int32), .int x1, .ref (a_o 0)]) hX hl.1 hZ (c_X9_extentOf (a_o := a_o) s_o x3 (x5 + x7) hu) (gv_ wm_71 wm_73 wm_74 wm_11 wm_72) rfl hd_X9_extentOf ⟨rfl, rfl⟩ 9 0 rfl rfl rfl rfl rfl dX9_meetBoth_179 rfl ⟨rfl, rfl⟩ (fun locs hZ => ?_)
        clear hu
        refine lv_aload_n hx hb dX9_meetBoth_182 rfl (lv_at hl 0 rfl) ?_
        refine lv_iload hx hb dX9_meetBoth_183 (lv_at hl 3 rfl) ?_
        refine lv_iload hx hb dX9_meetBoth_185 (lv_at hl 5 rfl) ?_
        refine lv_iload hx hb dX9_meetBoth_187 (lv_at hl 6 rfl) ?_
        refine lv_iadd hx hb dX9_meetBoth_189 ?_
        obtain ⟨u16, hu, h⟩ := k_bd h
        refine k_vRs (As := [.int x4, .int (x6 + x7)]) (rest := [.int u15, .int x7, .int (2 : Int32), .int x1, .ref (a_o 0)]) (v := some (.int u16)) (st1 := [.int u16, .int u15, .int x7, .int (2 : Int32), .int x1, .ref (a_o 0)]) hX hl.1 hZ (c_X9_extentOf (a_o := a_o) s_o x4 (x6 + x7) hu) (gv_ wm_71 wm_73 wm_74 wm_11 wm_72) rfl hd_X9_extentOf ⟨rfl, rfl⟩ 9 0 rfl rfl rfl rfl rfl dX9_meetBoth_190 rfl ⟨rfl, rfl⟩ (fun locs hZ => ?_)
        clear hu
        obtain ⟨u17, hu, h⟩ := k_bd h
        refine k_vWs (As := [.int x1, .int (2 : Int32), .int x7, .int u15, .int u16]) (rest := []) (v := none) (st1 := []) hX hl.1 hZ (c_X9_meet (a_o := a_o) s_o x1 (2 : Int32) x7 u15 u16 hu) (gv_ wm_139 wm_141 wm_142 wm_11 wm_140) rfl hd_X9_meet ⟨rfl, rfl⟩ 9 0 rfl rfl rfl rfl rfl dX9_meetBoth_193 rfl ⟨rfl, rfl⟩ rfl (fun H locs hZ => ?_)
        clear hu
        refine lv_iinc (v := (x7 + (1 : Int32))) (lv' := [(7, .int (x7 + (1 : Int32))), (0, .ref (a_o 0)), (1, .int x1), (3, .int x3), (4, .int x4), (5, .int x5), (6, .int x6)]) hx hb dX9_meetBoth_196 hl (k := 6) rfl rfl (by decide) rfl (fun ls hl => ?_)
        refine lv_goto (tgt := 133) hx hb dX9_meetBoth_199 (by decide) ?_
        exact hrec133 (x1, x3, x4, x5, x6, (x7 + (1 : Int32)), u17) h H locs ls hZ (lv_sub hl [1, 2, 3, 4, 5, 6, 0] rfl)
set_option maxHeartbeats 4000000 in
set_option maxRecDepth 100000 in
theorem t_X9_meetBoth_J131 {p : Program} {l : Launch} {e : Env} {s : State} {m : MethodId} {args : Array Value} {below : List Frame} {meth : Method} {c : Code} {D : va_G} {aC : Nat → ClassId} {A : Nat → Prop} {a_o : Nat → Nat} {out : Ob_T} (hX : K_X p s m args meth c cX9_meetBoth 8 WL_ RX9 D aC A) (hr : meth.sig.returnType = none) (x1 : Int32) (x3 : Int32) (x4 : Int32) (x5 : Int32) (x6 : Int32) (k0 : Int32) (s_o : Ob_T) (h : f_X9_meetBoth_J131 x1 x3 x4 x5 x6 k0 s_o = some out) (H : Heap) (locs : List Loc) (ls : Array Slot) (hZ : K_S D A s (wd_X9 aC a_o s_o) H locs) (hl : lv_has ls 8 [(0, .ref (a_o 0)), (1, .int x1), (3, .int x3), (4, .int x4), (5, .int x5), (6, .int x6)]) : W p l e (R_m 2 52) s m args below meth c H locs 0 0 (MQ below (Q_W (none) D A (wd_X9 aC a_o out)) args s 0 0 A) (F0 m 131 ls [.int k0]) := by
  obtain ⟨hx, hb, hml, hown, hts, hK, hA, hlk⟩ := id hX
  unfold f_X9_meetBoth_J131 at h
  refine lv_istore (lv' := [(7, .int k0), (0, .ref (a_o 0)), (1, .int x1), (3, .int x3), (4, .int x4), (5, .int x5), (6, .int x6)]) hx hb dX9_meetBoth_131 hl (by decide) rfl (fun ls hl => ?_)
  exact Lp_ok (body := (fun (rec : (Int32 × Int32 × Int32 × Int32 × Int32 × Int32 × Ob_T) → Option Ob_T) x => f_X9_meetBoth_L133 rec x.1 x.2.1 x.2.2.1 x.2.2.2.1 x.2.2.2.2.1 x.2.2.2.2.2.1 x.2.2.2.2.2.2)) (out := out) (fun x => ∀ (H : Heap) (locs : List Loc) (ls : Array Slot), K_S D A s (wd_X9 aC a_o x.2.2.2.2.2.2) H locs → lv_has ls 8 [(0, .ref (a_o 0)), (1, .int x.1), (3, .int x.2.1), (4, .int x.2.2.1), (5, .int x.2.2.2.1), (6, .int x.2.2.2.2.1), (7, .int x.2.2.2.2.2.1)] → W p l e (R_m 2 52) s m args below meth c H locs 0 0 (MQ below (Q_W (none) D A (wd_X9 aC a_o out)) args s 0 0 A) (F0 m 133 ls [])) (fun rec hrec x h H locs ls hZ hl => t_X9_meetBoth_L133 hX hr hrec x.1 x.2.1 x.2.2.1 x.2.2.2.1 x.2.2.2.2.1 x.2.2.2.2.2.1 x.2.2.2.2.2.2 h H locs ls hZ hl) FU_ (x1, x3, x4, x5, x6, k0, s_o) h H locs ls hZ (lv_sub hl [1, 2, 3, 4, 5, 6, 0] rfl)
set_option maxHeartbeats 4000000 in
set_option maxRecDepth 100000 in
theorem t_X9_meetBoth_J114 {p : Program} {l : Launch} {e : Env} {s : State} {m : MethodId} {args : Array Value} {below : List Frame} {meth : Method} {c : Code} {D : va_G} {aC : Nat → ClassId} {A : Nat → Prop} {a_o : Nat → Nat} {out : Ob_T} (hX : K_X p s m args meth c cX9_meetBoth 8 WL_ RX9 D aC A) (hr : meth.sig.returnType = none) (x1 : Int32) (x2 : Int32) (x3 : Int32) (x4 : Int32) (x5 : Int32) (x6 : Int32) (s_o : Ob_T) (h : f_X9_meetBoth_J114 x1 x2 x3 x4 x5 x6 s_o = some out) (H : Heap) (locs : List Loc) (ls : Array Slot) (hZ : K_S D A s (wd_X9 aC a_o s_o) H locs) (hl : lv_has ls 8 [(0, .ref (a_o 0)), (1, .int x1), (2, .int x2), (3, .int x3), (4, .int x4), (5, .int x5), (6, .int x6)]) : W p l e (R_m 2 52) s m args below meth c H locs 0 0 (MQ below (Q_W (none) D A (wd_X9 aC a_o out)) args s 0 0 A) (F0 m 114 ls []) := by
  obtain ⟨hx, hb, hml, hown, hts, hK, hA, hlk⟩ := id hX
  unfold f_X9_meetBoth_J114 at h
  refine lv_aload_n hx hb dX9_meetBoth_114 rfl (lv_at hl 0 rfl) ?_
  refine k_get hX hZ.1 0 9 rfl rfl iw_X9 1 rfl (wm_31) (v := .ref (a_o 2)) rfl dX9_meetBoth_115 ?_
  refine lv_iload_n hx hb dX9_meetBoth_118 rfl (lv_at hl 2 rfl) ?_
  refine lv_iconst (v := 0) hx hb dX9_meetBoth_119 (by decide) ?_
  refine lv_iadd hx hb dX9_meetBoth_120 ?_
  refine k_iald hX hZ.1 2 rfl h dX9_meetBoth_121 (fun v12 h => ?_)
  refine lv_iconst (v := 2) hx hb dX9_meetBoth_122 (by decide) ?_
  refine lv_icmp_ne (tgt := 130) hx hb dX9_meetBoth_123 (by decide) (fun cd => ?_) (fun cd => ?_)
  · replace h := k_f cd h
    clear cd
    refine lv_iconst (v := 0) hx hb dX9_meetBoth_130 (by decide) ?_
    exact t_X9_meetBoth_J131 hX hr x1 x3 x4 x5 x6 (0 : Int32) s_o h H locs ls hZ (lv_sub hl [0, 1, 3, 4, 5, 6] rfl)
  · replace h := k_t cd h
    clear cd
    refine lv_iconst (v := 1) hx hb dX9_meetBoth_126 (by decide) ?_
    refine lv_goto (tgt := 131) hx hb dX9_meetBoth_127 (by decide) ?_
    exact t_X9_meetBoth_J131 hX hr x1 x3 x4 x5 x6 (1 : Int32) s_o h H locs ls hZ (lv_sub hl [0, 1, 3, 4, 5, 6] rfl)
set_option maxHeartbeats 4000000 in
set_option maxRecDepth 100000 in
theorem c_X9_meetBoth {l : Launch} {D : va_G} {aC : Nat → ClassId} {a_o : Nat → Nat} (s_o : Ob_T) (x1 : Int32) {out : Ob_T} (h : f_X9_meetBoth s_o x1 = some out) : M_W l yX9_meetBoth wlX9_meetBoth 2 52 D aC [.ref (a_o 0), .int x1] (wd_X9 aC a_o s_o) (none) (wd_X9 aC a_o out) := by
  refine k_entW (cc := cX9_meetBoth) (ret := none) (maxL := 8) (own := RX9) (by decide) rfl rfl rfl ?_
  intro p e s m below meth c A ls hX hr hZ hl
  have hl : lv_has ls 8 [(0, .ref (a_o 0)), (1, .int x1)] := hl
  generalize ([.ref (a_o 0), .int x1] : List Value).toArray = args at hX ⊢
  obtain ⟨hx, hb, hml, hown, hts, hK, hA, hlk⟩ := id hX
  unfold f_X9_meetBoth at h
  generalize s.heap = H at hZ ⊢
  generalize ([] : List Loc) = locs at hZ ⊢
  refine lv_bipush (v := 15) hx hb dX9_meetBoth_0 (by decide) ?_
  refine lv_iload_n hx hb dX9_meetBoth_2 rfl (lv_at hl 1 rfl) ?_
  refine lv_imul hx hb dX9_meetBoth_3 ?_
  refine lv_istore_n (lv' := [(2, .int ((15 : Int32) * x1)), (0, .ref (a_o 0)), (1, .int x1)]) hx hb dX9_meetBoth_4 rfl hl (by decide) rfl (fun ls hl => ?_)
  refine lv_aload_n hx hb dX9_meetBoth_5 rfl (lv_at hl 1 rfl) ?_
  refine k_get hX hZ.1 0 9 rfl rfl iw_X9 1 rfl (wm_31) (v := .ref (a_o 2)) rfl dX9_meetBoth_6 ?_
  refine lv_iload_n hx hb dX9_meetBoth_9 rfl (lv_at hl 0 rfl) ?_
  refine lv_iconst (v := 1) hx hb dX9_meetBoth_10 (by decide) ?_
  refine lv_iadd hx hb dX9_meetBoth_11 ?_
  refine k_iald hX hZ.1 2 rfl h dX9_meetBoth_12 (fun v1 h => ?_)
  refine lv_istore_n (lv' := [(3, .int v1), (2, .int ((15 : Int32) * x1)), (0, .ref (a_o 0)), (1, .int x1)]) hx hb dX9_meetBoth_13 rfl hl (by decide) rfl (fun ls hl => ?_)
  refine lv_aload_n hx hb dX9_meetBoth_14 rfl (lv_at hl 2 rfl) ?_
  refine k_get hX hZ.1 0 9 rfl rfl iw_X9 1 rfl (wm_31) (v := .ref (a_o 2)) rfl dX9_meetBoth_15 ?_
  refine lv_iload_n hx hb dX9_meetBoth_18 rfl (lv_at hl 1 rfl) ?_
  refine lv_iconst (v := 2) hx hb dX9_meetBoth_19 (by decide) ?_
  refine lv_iadd hx hb dX9_meetBoth_20 ?_
  refine k_iald hX hZ.1 2 rfl h dX9_meetBoth_21 (fun v2 h => ?_)
  refine lv_istore (lv' := [(4, .int v2), (3, .int v1), (2, .int ((15 : Int32) * x1)), (0, .ref (a_o 0)), (1, .int x1)]) hx hb dX9_meetBoth_22 hl (by decide) rfl (fun ls hl => ?_)
  refine lv_aload_n hx hb dX9_meetBoth_24 rfl (lv_at hl 3 rfl) ?_
  refine lv_iload_n hx hb dX9_meetBoth_25 rfl (lv_at hl 1 rfl) ?_
  obtain ⟨u3, hu, h⟩ := k_bd h
  refine k_vRs (As := [.int v1]) (rest := []) (v := some (.int u3)) (st1 := [.int u3]) hX hl.1 hZ (c_X9_longOf (a_o := a_o) s_o v1 hu) (gv_ wm_79 wm_81 wm_82 wm_11 wm_80) rfl hd_X9_longOf ⟨rfl, rfl⟩ 9 0 rfl rfl rfl rfl rfl dX9_meetBoth_26 rfl ⟨rfl, rfl⟩ (fun locs hZ => ?_)
  clear hu
  refine lv_aload_n hx hb dX9_meetBoth_29 rfl (lv_at hl 3 rfl) ?_
  refine k_get hX hZ.1 0 9 rfl rfl iw_X9 1 rfl (wm_31) (v := .ref (a_o 2)) rfl dX9_meetBoth_30 ?_
  refine lv_iload_n hx hb dX9_meetBoth_33 rfl (lv_at hl 2 rfl) ?_
  refine lv_iconst (v := 3) hx hb dX9_meetBoth_34 (by decide) ?_
  refine lv_iadd hx hb dX9_meetBoth_35 ?_
  refine k_iald hX hZ.1 2 rfl h dX9_meetBoth_36 (fun v4 h => ?_)
  obtain ⟨u5, hu, h⟩ := k_bd h
  refine k_sR (As := [.int u3, .int v4]) (rest := []) (wc := []) (v := some (.int u5)) (st1 := [.int u5]) hX hl.1 hZ (c_X9_frameOf  u3 v4 hu) (gs_ wm_83 wm_85 wm_11 wm_84) rfl hd_X9_frameOf ⟨rfl, rfl⟩ [] rfl rfl rfl rfl rfl dX9_meetBoth_37 rfl ⟨rfl, rfl⟩ (fun locs hZ => ?_)
  clear hu
  refine lv_istore (lv' := [(5, .int u5), (4, .int v2), (3, .int v1), (2, .int ((15 : Int32) * x1)), (0, .ref (a_o 0)), (1, .int x1)]) hx hb dX9_meetBoth_40 hl (by decide) rfl (fun ls hl => ?_)
  refine lv_aload_n hx hb dX9_meetBoth_42 rfl (lv_at hl 4 rfl) ?_
  refine lv_iload hx hb dX9_meetBoth_43 (lv_at hl 1 rfl) ?_
  obtain ⟨u6, hu, h⟩ := k_bd h
  refine k_vRs (As := [.int v2]) (rest := []) (v := some (.int u6)) (st1 := [.int u6]) hX hl.1 hZ (c_X9_longOf (a_o := a_o) s_o v2 hu) (gv_ wm_79 wm_81 wm_82 wm_11 wm_80) rfl hd_X9_longOf ⟨rfl, rfl⟩ 9 0 rfl rfl rfl rfl rfl dX9_meetBoth_45 rfl ⟨rfl, rfl⟩ (fun locs hZ => ?_)
  clear hu
  refine lv_aload_n hx hb dX9_meetBoth_48 rfl (lv_at hl 4 rfl) ?_
  refine k_get hX hZ.1 0 9 rfl rfl iw_X9 1 rfl (wm_31) (v := .ref (a_o 2)) rfl dX9_meetBoth_49 ?_
  refine lv_iload_n hx hb dX9_meetBoth_52 rfl (lv_at hl 3 rfl) ?_
  refine lv_iconst (v := 3) hx hb dX9_meetBoth_53 (by decide) ?_
  refine lv_iadd hx hb dX9_meetBoth_54 ?_
  refine k_iald hX hZ.1 2 rfl h dX9_meetBoth_55 (fun v7 h => ?_)
  obtain ⟨u8, hu, h⟩ := k_bd h
  refine k_sR (As := [.int u6, .int v7]) (rest := []) (wc := []) (v := some (.int u8)) (st1 := [.int u8]) hX hl.1 hZ (c_X9_frameOf  u6 v7 hu) (gs_ wm_83 wm_85 wm_11 wm_84) rfl hd_X9_frameOf ⟨rfl, rfl⟩ [] rfl rfl rfl rfl rfl dX9_meetBoth_56 rfl ⟨rfl, rfl⟩ (fun locs hZ => ?_)
  clear hu
  refine lv_istore (lv' := [(6, .int u8), (5, .int u5), (4, .int v2), (3, .int v1), (2, .int ((15 : Int32) * x1)), (0, .ref (a_o 0)), (1, .int x1)]) hx hb dX9_meetBoth_59 hl (by decide) rfl (fun ls hl => ?_)
  refine lv_iconst (v := 0) hx hb dX9_meetBoth_61 (by decide) ?_
  refine lv_istore (lv' := [(7, .int (0 : Int32)), (6, .int u8), (5, .int u5), (4, .int v2), (3, .int v1), (2, .int ((15 : Int32) * x1)), (0, .ref (a_o 0)), (1, .int x1)]) hx hb dX9_meetBoth_62 hl (by decide) rfl (fun ls hl => ?_)
  exact Lp_ok (body := (fun (rec : (Int32 × Int32 × Int32 × Int32 × Int32 × Int32 × Int32 × Ob_T) → Option Ob_T) x => f_X9_meetBoth_L64 (fun y1 y2 y3 y4 y5 y6 t_o => f_X9_meetBoth_J114 y1 y2 y3 y4 y5 y6 t_o) rec x.1 x.2.1 x.2.2.1 x.2.2.2.1 x.2.2.2.2.1 x.2.2.2.2.2.1 x.2.2.2.2.2.2.1 x.2.2.2.2.2.2.2)) (out := out) (fun x => ∀ (H : Heap) (locs : List Loc) (ls : Array Slot), K_S D A s (wd_X9 aC a_o x.2.2.2.2.2.2.2) H locs → lv_has ls 8 [(0, .ref (a_o 0)), (1, .int x.1), (2, .int x.2.1), (3, .int x.2.2.1), (4, .int x.2.2.2.1), (5, .int x.2.2.2.2.1), (6, .int x.2.2.2.2.2.1), (7, .int x.2.2.2.2.2.2.1)] → W p l e (R_m 2 52) s m args below meth c H locs 0 0 (MQ below (Q_W (none) D A (wd_X9 aC a_o out)) args s 0 0 A) (F0 m 64 ls [])) (fun rec hrec x h H locs ls hZ hl => t_X9_meetBoth_L64 hX hr (fun y1 y2 y3 y4 y5 y6 t_o h H locs ls hZ hl => t_X9_meetBoth_J114 hX hr y1 y2 y3 y4 y5 y6 t_o h H locs ls hZ (lv_sub hl [0, 1, 2, 3, 4, 5, 6] rfl)) hrec x.1 x.2.1 x.2.2.1 x.2.2.2.1 x.2.2.2.2.1 x.2.2.2.2.2.1 x.2.2.2.2.2.2.1 x.2.2.2.2.2.2.2 h H locs ls hZ hl) FU_ (x1, ((15 : Int32) * x1), v1, v2, u5, u8, (0 : Int32), s_o) h H locs ls hZ (lv_sub hl [6, 7, 5, 4, 3, 2, 1, 0] rfl)
