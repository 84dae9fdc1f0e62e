def wlX9_nextToken : List Cond := .code yX9_nextToken cX9_nextToken 1 none :: WL_
theorem hd_X9_nextToken : yX9_nextToken.cls = RX9 ∧ yX9_nextToken.cls ≠ "java/lang/invoke/MethodHandle" ∧ yX9_nextToken.cls ≠ "java/lang/invoke/VarHandle" ∧ (parseMethodDescriptor yX9_nextToken.desc).map (fun d => d.parameters.length) = some 0 := by decide +kernel
theorem dX9_nextToken_0 : decode cX9_nextToken 0 = .ok (.aload_n 0, 1) := by decide +kernel
theorem dX9_nextToken_1 : decode cX9_nextToken 1 = .ok (.aload_n 0, 1) := by decide +kernel
theorem dX9_nextToken_2 : decode cX9_nextToken 2 = .ok (.getfield 113, 3) := by decide +kernel
theorem dX9_nextToken_5 : decode cX9_nextToken 5 = .ok (.putfield 116, 3) := by decide +kernel
theorem dX9_nextToken_8 : decode cX9_nextToken 8 = .ok (.aload_n 0, 1) := by decide +kernel
theorem dX9_nextToken_9 : decode cX9_nextToken 9 = .ok (.getfield 116, 3) := by decide +kernel
theorem dX9_nextToken_12 : decode cX9_nextToken 12 = .ok (.aload_n 0, 1) := by decide +kernel
theorem dX9_nextToken_13 : decode cX9_nextToken 13 = .ok (.getfield 101, 3) := by decide +kernel
theorem dX9_nextToken_16 : decode cX9_nextToken 16 = .ok (.if_icmp .ge 30, 3) := by decide +kernel
theorem dX9_nextToken_19 : decode cX9_nextToken 19 = .ok (.aload_n 0, 1) := by decide +kernel
theorem dX9_nextToken_20 : decode cX9_nextToken 20 = .ok (.getfield 29, 3) := by decide +kernel
theorem dX9_nextToken_23 : decode cX9_nextToken 23 = .ok (.aload_n 0, 1) := by decide +kernel
theorem dX9_nextToken_24 : decode cX9_nextToken 24 = .ok (.getfield 116, 3) := by decide +kernel
theorem dX9_nextToken_27 : decode cX9_nextToken 27 = .ok (.iaload, 1) := by decide +kernel
theorem dX9_nextToken_28 : decode cX9_nextToken 28 = .ok (.bipush 32, 2) := by decide +kernel
theorem dX9_nextToken_30 : decode cX9_nextToken 30 = .ok (.if_icmp .ne 16, 3) := by decide +kernel
theorem dX9_nextToken_33 : decode cX9_nextToken 33 = .ok (.aload_n 0, 1) := by decide +kernel
theorem dX9_nextToken_34 : decode cX9_nextToken 34 = .ok (.dup, 1) := by decide +kernel
theorem dX9_nextToken_35 : decode cX9_nextToken 35 = .ok (.getfield 116, 3) := by decide +kernel
theorem dX9_nextToken_38 : decode cX9_nextToken 38 = .ok (.iconst 1, 1) := by decide +kernel
theorem dX9_nextToken_39 : decode cX9_nextToken 39 = .ok (.iadd, 1) := by decide +kernel
theorem dX9_nextToken_40 : decode cX9_nextToken 40 = .ok (.putfield 116, 3) := by decide +kernel
theorem dX9_nextToken_43 : decode cX9_nextToken 43 = .ok (.goto (-35), 3) := by decide +kernel
theorem dX9_nextToken_46 : decode cX9_nextToken 46 = .ok (.aload_n 0, 1) := by decide +kernel
theorem dX9_nextToken_47 : decode cX9_nextToken 47 = .ok (.aload_n 0, 1) := by decide +kernel
theorem dX9_nextToken_48 : decode cX9_nextToken 48 = .ok (.getfield 116, 3) := by decide +kernel
theorem dX9_nextToken_51 : decode cX9_nextToken 51 = .ok (.aload_n 0, 1) := by decide +kernel
theorem dX9_nextToken_52 : decode cX9_nextToken 52 = .ok (.getfield 101, 3) := by decide +kernel
theorem dX9_nextToken_55 : decode cX9_nextToken 55 = .ok (.if_icmp .ge 12, 3) := by decide +kernel
theorem dX9_nextToken_58 : decode cX9_nextToken 58 = .ok (.aload_n 0, 1) := by decide +kernel
theorem dX9_nextToken_59 : decode cX9_nextToken 59 = .ok (.getfield 116, 3) := by decide +kernel
theorem dX9_nextToken_62 : decode cX9_nextToken 62 = .ok (.iconst 1, 1) := by decide +kernel
theorem dX9_nextToken_63 : decode cX9_nextToken 63 = .ok (.iadd, 1) := by decide +kernel
theorem dX9_nextToken_64 : decode cX9_nextToken 64 = .ok (.goto 7, 3) := by decide +kernel
theorem dX9_nextToken_67 : decode cX9_nextToken 67 = .ok (.aload_n 0, 1) := by decide +kernel
theorem dX9_nextToken_68 : decode cX9_nextToken 68 = .ok (.getfield 116, 3) := by decide +kernel
theorem dX9_nextToken_71 : decode cX9_nextToken 71 = .ok (.putfield 113, 3) := by decide +kernel
theorem dX9_nextToken_74 : decode cX9_nextToken 74 = .ok (.aload_n 0, 1) := by decide +kernel
theorem dX9_nextToken_75 : decode cX9_nextToken 75 = .ok (.getfield 116, 3) := by decide +kernel
theorem dX9_nextToken_78 : decode cX9_nextToken 78 = .ok (.aload_n 0, 1) := by decide +kernel
theorem dX9_nextToken_79 : decode cX9_nextToken 79 = .ok (.getfield 101, 3) := by decide +kernel
theorem dX9_nextToken_82 : decode cX9_nextToken 82 = .ok (.if_icmp .ge 57, 3) := by decide +kernel
theorem dX9_nextToken_85 : decode cX9_nextToken 85 = .ok (.aload_n 0, 1) := by decide +kernel
theorem dX9_nextToken_86 : decode cX9_nextToken 86 = .ok (.getfield 29, 3) := by decide +kernel
theorem dX9_nextToken_89 : decode cX9_nextToken 89 = .ok (.aload_n 0, 1) := by decide +kernel
theorem dX9_nextToken_90 : decode cX9_nextToken 90 = .ok (.getfield 116, 3) := by decide +kernel
theorem dX9_nextToken_93 : decode cX9_nextToken 93 = .ok (.iaload, 1) := by decide +kernel
theorem dX9_nextToken_94 : decode cX9_nextToken 94 = .ok (.invokestatic 119, 3) := by decide +kernel
theorem dX9_nextToken_97 : decode cX9_nextToken 97 = .ok (.ifCond .eq 42, 3) := by decide +kernel
theorem dX9_nextToken_100 : decode cX9_nextToken 100 = .ok (.aload_n 0, 1) := by decide +kernel
theorem dX9_nextToken_101 : decode cX9_nextToken 101 = .ok (.getfield 113, 3) := by decide +kernel
theorem dX9_nextToken_104 : decode cX9_nextToken 104 = .ok (.aload_n 0, 1) := by decide +kernel
theorem dX9_nextToken_105 : decode cX9_nextToken 105 = .ok (.getfield 101, 3) := by decide +kernel
theorem dX9_nextToken_108 : decode cX9_nextToken 108 = .ok (.if_icmp .ge 96, 3) := by decide +kernel
theorem dX9_nextToken_111 : decode cX9_nextToken 111 = .ok (.aload_n 0, 1) := by decide +kernel
theorem dX9_nextToken_112 : decode cX9_nextToken 112 = .ok (.getfield 29, 3) := by decide +kernel
theorem dX9_nextToken_115 : decode cX9_nextToken 115 = .ok (.aload_n 0, 1) := by decide +kernel
theorem dX9_nextToken_116 : decode cX9_nextToken 116 = .ok (.getfield 113, 3) := by decide +kernel
theorem dX9_nextToken_119 : decode cX9_nextToken 119 = .ok (.iaload, 1) := by decide +kernel
theorem dX9_nextToken_120 : decode cX9_nextToken 120 = .ok (.invokestatic 119, 3) := by decide +kernel
theorem dX9_nextToken_123 : decode cX9_nextToken 123 = .ok (.ifCond .eq 81, 3) := by decide +kernel
theorem dX9_nextToken_126 : decode cX9_nextToken 126 = .ok (.aload_n 0, 1) := by decide +kernel
theorem dX9_nextToken_127 : decode cX9_nextToken 127 = .ok (.dup, 1) := by decide +kernel
theorem dX9_nextToken_128 : decode cX9_nextToken 128 = .ok (.getfield 113, 3) := by decide +kernel
theorem dX9_nextToken_131 : decode cX9_nextToken 131 = .ok (.iconst 1, 1) := by decide +kernel
theorem dX9_nextToken_132 : decode cX9_nextToken 132 = .ok (.iadd, 1) := by decide +kernel
theorem dX9_nextToken_133 : decode cX9_nextToken 133 = .ok (.putfield 113, 3) := by decide +kernel
theorem dX9_nextToken_136 : decode cX9_nextToken 136 = .ok (.goto (-36), 3) := by decide +kernel
theorem dX9_nextToken_139 : decode cX9_nextToken 139 = .ok (.aload_n 0, 1) := by decide +kernel
theorem dX9_nextToken_140 : decode cX9_nextToken 140 = .ok (.getfield 116, 3) := by decide +kernel
theorem dX9_nextToken_143 : decode cX9_nextToken 143 = .ok (.aload_n 0, 1) := by decide +kernel
theorem dX9_nextToken_144 : decode cX9_nextToken 144 = .ok (.getfield 101, 3) := by decide +kernel
theorem dX9_nextToken_147 : decode cX9_nextToken 147 = .ok (.if_icmp .ge 57, 3) := by decide +kernel
theorem dX9_nextToken_150 : decode cX9_nextToken 150 = .ok (.aload_n 0, 1) := by decide +kernel
theorem dX9_nextToken_151 : decode cX9_nextToken 151 = .ok (.getfield 29, 3) := by decide +kernel
theorem dX9_nextToken_154 : decode cX9_nextToken 154 = .ok (.aload_n 0, 1) := by decide +kernel
theorem dX9_nextToken_155 : decode cX9_nextToken 155 = .ok (.getfield 116, 3) := by decide +kernel
theorem dX9_nextToken_158 : decode cX9_nextToken 158 = .ok (.iaload, 1) := by decide +kernel
theorem dX9_nextToken_159 : decode cX9_nextToken 159 = .ok (.invokestatic 123, 3) := by decide +kernel
theorem dX9_nextToken_162 : decode cX9_nextToken 162 = .ok (.ifCond .eq 42, 3) := by decide +kernel
theorem dX9_nextToken_165 : decode cX9_nextToken 165 = .ok (.aload_n 0, 1) := by decide +kernel
theorem dX9_nextToken_166 : decode cX9_nextToken 166 = .ok (.getfield 113, 3) := by decide +kernel
theorem dX9_nextToken_169 : decode cX9_nextToken 169 = .ok (.aload_n 0, 1) := by decide +kernel
theorem dX9_nextToken_170 : decode cX9_nextToken 170 = .ok (.getfield 101, 3) := by decide +kernel
theorem dX9_nextToken_173 : decode cX9_nextToken 173 = .ok (.if_icmp .ge 31, 3) := by decide +kernel
theorem dX9_nextToken_176 : decode cX9_nextToken 176 = .ok (.aload_n 0, 1) := by decide +kernel
theorem dX9_nextToken_177 : decode cX9_nextToken 177 = .ok (.getfield 29, 3) := by decide +kernel
theorem dX9_nextToken_180 : decode cX9_nextToken 180 = .ok (.aload_n 0, 1) := by decide +kernel
theorem dX9_nextToken_181 : decode cX9_nextToken 181 = .ok (.getfield 113, 3) := by decide +kernel
theorem dX9_nextToken_184 : decode cX9_nextToken 184 = .ok (.iaload, 1) := by decide +kernel
theorem dX9_nextToken_185 : decode cX9_nextToken 185 = .ok (.invokestatic 123, 3) := by decide +kernel
theorem dX9_nextToken_188 : decode cX9_nextToken 188 = .ok (.ifCond .eq 16, 3) := by decide +kernel
theorem dX9_nextToken_191 : decode cX9_nextToken 191 = .ok (.aload_n 0, 1) := by decide +kernel
theorem dX9_nextToken_192 : decode cX9_nextToken 192 = .ok (.dup, 1) := by decide +kernel
theorem dX9_nextToken_193 : decode cX9_nextToken 193 = .ok (.getfield 113, 3) := by decide +kernel
theorem dX9_nextToken_196 : decode cX9_nextToken 196 = .ok (.iconst 1, 1) := by decide +kernel
theorem dX9_nextToken_197 : decode cX9_nextToken 197 = .ok (.iadd, 1) := by decide +kernel
theorem dX9_nextToken_198 : decode cX9_nextToken 198 = .ok (.putfield 113, 3) := by decide +kernel
theorem dX9_nextToken_201 : decode cX9_nextToken 201 = .ok (.goto (-36), 3) := by decide +kernel
theorem dX9_nextToken_204 : decode cX9_nextToken 204 = .ok (.return_, 1) := by decide +kernel
set_option maxHeartbeats 4000000 in
set_option maxRecDepth 100000 in
theorem t_X9_nextToken_L8 {p : Program} {l : Launch} {e : Env} {s : State} {m : MethodId} {args : Array Value} {below : List Frame} {meth : Method} {c : Code} {D : va_G} {aC : Nat → ClassId} {A : Nat → Prop} {a_o : Nat → Nat} {out : Ob_T} {k46 : Ob_T → Option Ob_T} {rec8 : Ob_T → Option Ob_T} (hX : K_X p s m args meth c cX9_nextToken 1 WL_ RX9 D aC A) (hr : meth.sig.returnType = none) (hk46 : ∀ (t_o : Ob_T), k46 t_o = some out → ∀ (H : Heap) (locs : List Loc) (ls : Array Slot), K_S D A s (wd_X9 aC a_o t_o) H locs → lv_has ls 1 [(0, .ref (a_o 0))] → W p l e (R_m 2 45) s m args below meth c H locs 0 0 (MQ below (Q_W (none) D A (wd_X9 aC a_o out)) args s 0 0 A) (F0 m 46 ls [])) (hrec8 : ∀ x : Ob_T, rec8 x = some out → ∀ (H : Heap) (locs : List Loc) (ls : Array Slot), K_S D A s (wd_X9 aC a_o x) H locs → lv_has ls 1 [(0, .ref (a_o 0))] → W p l e (R_m 2 45) s m args below meth c H locs 0 0 (MQ below (Q_W (none) D A (wd_X9 aC a_o out)) args s 0 0 A) (F0 m 8 ls [])) (s_o : Ob_T) (h : f_X9_nextToken_L8 k46 rec8 s_o = some out) (H : Heap) (locs : List Loc) (ls : Array Slot) (hZ : K_S D A s (wd_X9 aC a_o s_o) H locs) (hl : lv_has ls 1 [(0, .ref (a_o 0))]) : W p l e (R_m 2 45) s m args below meth c H locs 0 0 (MQ below (Q_W (none) D A (wd_X9 aC a_o out)) args s 0 0 A) (F0 m 8 ls []) := by
  obtain ⟨hx, hb, hml, hown, hts, hK, hA, hlk⟩ := id hX
  unfold f_X9_nextToken_L8 at h
  refine lv_aload_n hx hb dX9_nextToken_8 rfl (lv_at hl 0 rfl) ?_
  refine k_get hX hZ.1 0 9 rfl rfl iw_X9 18 rfl (wm_19) (v := .int (o_F s_o 18)) rfl dX9_nextToken_9 ?_
  refine lv_aload_n hx hb dX9_nextToken_12 rfl (lv_at hl 0 rfl) ?_
  refine k_get hX hZ.1 0 9 rfl rfl iw_X9 10 rfl (wm_8) (v := .int (o_F s_o 10)) rfl dX9_nextToken_13 ?_
  refine lv_icmp_ge (tgt := 46) hx hb dX9_nextToken_16 (by decide) (fun cd => ?_) (fun cd => ?_)
  · replace h := k_t cd h
    clear cd
    exact hk46 s_o h H locs ls hZ (lv_sub hl [0] rfl)
  · replace h := k_f cd h
    clear cd
    refine lv_aload_n hx hb dX9_nextToken_19 rfl (lv_at hl 0 rfl) ?_
    refine k_get hX hZ.1 0 9 rfl rfl iw_X9 9 rfl (wm_9) (v := .ref (a_o 7)) rfl dX9_nextToken_20 ?_
    refine lv_aload_n hx hb dX9_nextToken_23 rfl (lv_at hl 0 rfl) ?_
    refine k_get hX hZ.1 0 9 rfl rfl iw_X9 18 rfl (wm_19) (v := .int (o_F s_o 18)) rfl dX9_nextToken_24 ?_
    refine k_iald hX hZ.1 7 rfl h dX9_nextToken_27 (fun v2 h => ?_)
    refine lv_bipush (v := 32) hx hb dX9_nextToken_28 (by decide) ?_
    refine lv_icmp_ne (tgt := 46) hx hb dX9_nextToken_30 (by decide) (fun cd => ?_) (fun cd => ?_)
    · replace h := k_f cd h
      clear cd
      exact hk46 s_o h H locs ls hZ (lv_sub hl [0] rfl)
    · replace h := k_t cd h
      clear cd
      refine lv_aload_n hx hb dX9_nextToken_33 rfl (lv_at hl 0 rfl) ?_
      refine lv_dup hx hb dX9_nextToken_34 rfl ?_
      refine k_get hX hZ.1 0 9 rfl rfl iw_X9 18 rfl (wm_19) (v := .int (o_F s_o 18)) rfl dX9_nextToken_35 ?_
      refine lv_iconst (v := 1) hx hb dX9_nextToken_38 (by decide) ?_
      refine lv_iadd hx hb dX9_nextToken_39 ?_
      refine k_put (wf := (fun o => wd_X9 aC a_o o)) (o := s_o) hX hZ 0 9 rfl rfl iw_X9 tyX9 tyX9_ok nmX9 18 rfl (wm_19) rfl rfl rfl rfl rfl h dX9_nextToken_40 (fun o3 H locs hZ h => ?_)
      refine lv_goto (tgt := 8) hx hb dX9_nextToken_43 (by decide) ?_
      exact hrec8 (o3) h H locs ls hZ (lv_sub hl [0] rfl)
set_option maxHeartbeats 4000000 in
set_option maxRecDepth 100000 in
theorem t_X9_nextToken_L165 {p : Program} {l : Launch} {e : Env} {s : State} {m : MethodId} {args : Array Value} {below : List Frame} {meth : Method} {c : Code} {D : va_G} {aC : Nat → ClassId} {A : Nat → Prop} {a_o : Nat → Nat} {out : Ob_T} {rec165 : Ob_T → Option Ob_T} (hX : K_X p s m args meth c cX9_nextToken 1 WL_ RX9 D aC A) (hr : meth.sig.returnType = none) (hrec165 : ∀ x : Ob_T, rec165 x = some out → ∀ (H : Heap) (locs : List Loc) (ls : Array Slot), K_S D A s (wd_X9 aC a_o x) H locs → lv_has ls 1 [(0, .ref (a_o 0))] → W p l e (R_m 2 45) s m args below meth c H locs 0 0 (MQ below (Q_W (none) D A (wd_X9 aC a_o out)) args s 0 0 A) (F0 m 165 ls [])) (s_o : Ob_T) (h : f_X9_nextToken_L165 rec165 s_o = some out) (H : Heap) (locs : List Loc) (ls : Array Slot) (hZ : K_S D A s (wd_X9 aC a_o s_o) H locs) (hl : lv_has ls 1 [(0, .ref (a_o 0))]) : W p l e (R_m 2 45) s m args below meth c H locs 0 0 (MQ below (Q_W (none) D A (wd_X9 aC a_o out)) args s 0 0 A) (F0 m 165 ls []) := by
  obtain ⟨hx, hb, hml, hown, hts, hK, hA, hlk⟩ := id hX
  unfold f_X9_nextToken_L165 at h
  refine lv_aload_n hx hb dX9_nextToken_165 rfl (lv_at hl 0 rfl) ?_
  refine k_get hX hZ.1 0 9 rfl rfl iw_X9 19 rfl (wm_18) (v := .int (o_F s_o 19)) rfl dX9_nextToken_166 ?_
  refine lv_aload_n hx hb dX9_nextToken_169 rfl (lv_at hl 0 rfl) ?_
  refine k_get hX hZ.1 0 9 rfl rfl iw_X9 10 rfl (wm_8) (v := .int (o_F s_o 10)) rfl dX9_nextToken_170 ?_
  refine lv_icmp_ge (tgt := 204) hx hb dX9_nextToken_173 (by decide) (fun cd => ?_) (fun cd => ?_)
  · replace h := k_t cd h
    clear cd
    cases h
    exact k_vretW hX hr hZ dX9_nextToken_204
  · replace h := k_f cd h
    clear cd
    refine lv_aload_n hx hb dX9_nextToken_176 rfl (lv_at hl 0 rfl) ?_
    refine k_get hX hZ.1 0 9 rfl rfl iw_X9 9 rfl (wm_9) (v := .ref (a_o 7)) rfl dX9_nextToken_177 ?_
    refine lv_aload_n hx hb dX9_nextToken_180 rfl (lv_at hl 0 rfl) ?_
    refine k_get hX hZ.1 0 9 rfl rfl iw_X9 19 rfl (wm_18) (v := .int (o_F s_o 19)) rfl dX9_nextToken_181 ?_
    refine k_iald hX hZ.1 7 rfl h dX9_nextToken_184 (fun v7 h => ?_)
    obtain ⟨u8, hu, h⟩ := k_bd h
    refine k_sR (As := [.int v7]) (rest := []) (wc := []) (v := some (.int u8)) (st1 := [.int u8]) hX hl.1 hZ (c_X9_isDigit  v7 hu) (gs_ wm_20 wm_22 wm_11 wm_21) rfl hd_X9_isDigit ⟨rfl, rfl⟩ [] rfl rfl rfl rfl rfl dX9_nextToken_185 rfl ⟨rfl, rfl⟩ (fun locs hZ => ?_)
    clear hu
    refine lv_if_eq (tgt := 204) hx hb dX9_nextToken_188 (by decide) (fun cd => ?_) (fun cd => ?_)
    · replace h := k_t cd h
      clear cd
      cases h
      exact k_vretW hX hr hZ dX9_nextToken_204
    · replace h := k_f cd h
      clear cd
      refine lv_aload_n hx hb dX9_nextToken_191 rfl (lv_at hl 0 rfl) ?_
      refine lv_dup hx hb dX9_nextToken_192 rfl ?_
      refine k_get hX hZ.1 0 9 rfl rfl iw_X9 19 rfl (wm_18) (v := .int (o_F s_o 19)) rfl dX9_nextToken_193 ?_
      refine lv_iconst (v := 1) hx hb dX9_nextToken_196 (by decide) ?_
      refine lv_iadd hx hb dX9_nextToken_197 ?_
      refine k_put (wf := (fun o => wd_X9 aC a_o o)) (o := s_o) hX hZ 0 9 rfl rfl iw_X9 tyX9 tyX9_ok nmX9 19 rfl (wm_18) rfl rfl rfl rfl rfl h dX9_nextToken_198 (fun o9 H locs hZ h => ?_)
      refine lv_goto (tgt := 165) hx hb dX9_nextToken_201 (by decide) ?_
      exact hrec165 (o9) h H locs ls hZ (lv_sub hl [0] rfl)
set_option maxHeartbeats 4000000 in
set_option maxRecDepth 100000 in
theorem t_X9_nextToken_J139 {p : Program} {l : Launch} {e : Env} {s : State} {m : MethodId} {args : Array Value} {below : List Frame} {meth : Method} {c : Code} {D : va_G} {aC : Nat → ClassId} {A : Nat → Prop} {a_o : Nat → Nat} {out : Ob_T} (hX : K_X p s m args meth c cX9_nextToken 1 WL_ RX9 D aC A) (hr : meth.sig.returnType = none) (s_o : Ob_T) (h : f_X9_nextToken_J139 s_o = some out) (H : Heap) (locs : List Loc) (ls : Array Slot) (hZ : K_S D A s (wd_X9 aC a_o s_o) H locs) (hl : lv_has ls 1 [(0, .ref (a_o 0))]) : W p l e (R_m 2 45) s m args below meth c H locs 0 0 (MQ below (Q_W (none) D A (wd_X9 aC a_o out)) args s 0 0 A) (F0 m 139 ls []) := by
  obtain ⟨hx, hb, hml, hown, hts, hK, hA, hlk⟩ := id hX
  unfold f_X9_nextToken_J139 at h
  refine lv_aload_n hx hb dX9_nextToken_139 rfl (lv_at hl 0 rfl) ?_
  refine k_get hX hZ.1 0 9 rfl rfl iw_X9 18 rfl (wm_19) (v := .int (o_F s_o 18)) rfl dX9_nextToken_140 ?_
  refine lv_aload_n hx hb dX9_nextToken_143 rfl (lv_at hl 0 rfl) ?_
  refine k_get hX hZ.1 0 9 rfl rfl iw_X9 10 rfl (wm_8) (v := .int (o_F s_o 10)) rfl dX9_nextToken_144 ?_
  refine lv_icmp_ge (tgt := 204) hx hb dX9_nextToken_147 (by decide) (fun cd => ?_) (fun cd => ?_)
  · replace h := k_t cd h
    clear cd
    cases h
    exact k_vretW hX hr hZ dX9_nextToken_204
  · replace h := k_f cd h
    clear cd
    refine lv_aload_n hx hb dX9_nextToken_150 rfl (lv_at hl 0 rfl) ?_
    refine k_get hX hZ.1 0 9 rfl rfl iw_X9 9 rfl (wm_9) (v := .ref (a_o 7)) rfl dX9_nextToken_151 ?_
    refine lv_aload_n hx hb dX9_nextToken_154 rfl (lv_at hl 0 rfl) ?_
    refine k_get hX hZ.1 0 9 rfl rfl iw_X9 18 rfl (wm_19) (v := .int (o_F s_o 18)) rfl dX9_nextToken_155 ?_
    refine k_iald hX hZ.1 7 rfl h dX9_nextToken_158 (fun v5 h => ?_)
    obtain ⟨u6, hu, h⟩ := k_bd h
    refine k_sR (As := [.int v5]) (rest := []) (wc := []) (v := some (.int u6)) (st1 := [.int u6]) hX hl.1 hZ (c_X9_isDigit  v5 hu) (gs_ wm_20 wm_22 wm_11 wm_21) rfl hd_X9_isDigit ⟨rfl, rfl⟩ [] rfl rfl rfl rfl rfl dX9_nextToken_159 rfl ⟨rfl, rfl⟩ (fun locs hZ => ?_)
    clear hu
    refine lv_if_eq (tgt := 204) hx hb dX9_nextToken_162 (by decide) (fun cd => ?_) (fun cd => ?_)
    · replace h := k_t cd h
      clear cd
      cases h
      exact k_vretW hX hr hZ dX9_nextToken_204
    · replace h := k_f cd h
      clear cd
      exact Lp_ok (body := (fun (rec : Ob_T → Option Ob_T) x => f_X9_nextToken_L165 rec x)) (out := out) (fun x => ∀ (H : Heap) (locs : List Loc) (ls : Array Slot), K_S D A s (wd_X9 aC a_o x) H locs → lv_has ls 1 [(0, .ref (a_o 0))] → W p l e (R_m 2 45) s m args below meth c H locs 0 0 (MQ below (Q_W (none) D A (wd_X9 aC a_o out)) args s 0 0 A) (F0 m 165 ls [])) (fun rec hrec x h H locs ls hZ hl => t_X9_nextToken_L165 hX hr hrec x h H locs ls hZ hl) FU_ (s_o) h H locs ls hZ (lv_sub hl [0] rfl)
set_option maxHeartbeats 4000000 in
set_option maxRecDepth 100000 in
theorem t_X9_nextToken_L100 {p : Program} {l : Launch} {e : Env} {s : State} {m : MethodId} {args : Array Value} {below : List Frame} {meth : Method} {c : Code} {D : va_G} {aC : Nat → ClassId} {A : Nat → Prop} {a_o : Nat → Nat} {out : Ob_T} {rec100 : Ob_T → Option Ob_T} (hX : K_X p s m args meth c cX9_nextToken 1 WL_ RX9 D aC A) (hr : meth.sig.returnType = none) (hrec100 : ∀ x : Ob_T, rec100 x = some out → ∀ (H : Heap) (locs : List Loc) (ls : Array Slot), K_S D A s (wd_X9 aC a_o x) H locs → lv_has ls 1 [(0, .ref (a_o 0))] → W p l e (R_m 2 45) s m args below meth c H locs 0 0 (MQ below (Q_W (none) D A (wd_X9 aC a_o out)) args s 0 0 A) (F0 m 100 ls [])) (s_o : Ob_T) (h : f_X9_nextToken_L100 rec100 s_o = some out) (H : Heap) (locs : List Loc) (ls : Array Slot) (hZ : K_S D A s (wd_X9 aC a_o s_o) H locs) (hl : lv_has ls 1 [(0, .ref (a_o 0))]) : W p l e (R_m 2 45) s m args below meth c H locs 0 0 (MQ below (Q_W (none) D A (wd_X9 aC a_o out)) args s 0 0 A) (F0 m 100 ls []) := by
  obtain ⟨hx, hb, hml, hown, hts, hK, hA, hlk⟩ := id hX
  unfold f_X9_nextToken_L100 at h
  refine lv_aload_n hx hb dX9_nextToken_100 rfl (lv_at hl 0 rfl) ?_
  refine k_get hX hZ.1 0 9 rfl rfl iw_X9 19 rfl (wm_18) (v := .int (o_F s_o 19)) rfl dX9_nextToken_101 ?_
  refine lv_aload_n hx hb dX9_nextToken_104 rfl (lv_at hl 0 rfl) ?_
  refine k_get hX hZ.1 0 9 rfl rfl iw_X9 10 rfl (wm_8) (v := .int (o_F s_o 10)) rfl dX9_nextToken_105 ?_
  refine lv_icmp_ge (tgt := 204) hx hb dX9_nextToken_108 (by decide) (fun cd => ?_) (fun cd => ?_)
  · replace h := k_t cd h
    clear cd
    cases h
    exact k_vretW hX hr hZ dX9_nextToken_204
  · replace h := k_f cd h
    clear cd
    refine lv_aload_n hx hb dX9_nextToken_111 rfl (lv_at hl 0 rfl) ?_
    refine k_get hX hZ.1 0 9 rfl rfl iw_X9 9 rfl (wm_9) (v := .ref (a_o 7)) rfl dX9_nextToken_112 ?_
    refine lv_aload_n hx hb dX9_nextToken_115 rfl (lv_at hl 0 rfl) ?_
    refine k_get hX hZ.1 0 9 rfl rfl iw_X9 19 rfl (wm_18) (v := .int (o_F s_o 19)) rfl dX9_nextToken_116 ?_
    refine k_iald hX hZ.1 7 rfl h dX9_nextToken_119 (fun v12 h => ?_)
    obtain ⟨u13, hu, h⟩ := k_bd h
    refine k_sR (As := [.int v12]) (rest := []) (wc := []) (v := some (.int u13)) (st1 := [.int u13]) hX hl.1 hZ (c_X9_isLetter  v12 hu) (gs_ wm_23 wm_25 wm_11 wm_24) rfl hd_X9_isLetter ⟨rfl, rfl⟩ [] rfl rfl rfl rfl rfl dX9_nextToken_120 rfl ⟨rfl, rfl⟩ (fun locs hZ => ?_)
    clear hu
    refine lv_if_eq (tgt := 204) hx hb dX9_nextToken_123 (by decide) (fun cd => ?_) (fun cd => ?_)
    · replace h := k_t cd h
      clear cd
      cases h
      exact k_vretW hX hr hZ dX9_nextToken_204
    · replace h := k_f cd h
      clear cd
      refine lv_aload_n hx hb dX9_nextToken_126 rfl (lv_at hl 0 rfl) ?_
      refine lv_dup hx hb dX9_nextToken_127 rfl ?_
      refine k_get hX hZ.1 0 9 rfl rfl iw_X9 19 rfl (wm_18) (v := .int (o_F s_o 19)) rfl dX9_nextToken_128 ?_
      refine lv_iconst (v := 1) hx hb dX9_nextToken_131 (by decide) ?_
      refine lv_iadd hx hb dX9_nextToken_132 ?_
      refine k_put (wf := (fun o => wd_X9 aC a_o o)) (o := s_o) hX hZ 0 9 rfl rfl iw_X9 tyX9 tyX9_ok nmX9 19 rfl (wm_18) rfl rfl rfl rfl rfl h dX9_nextToken_133 (fun o14 H locs hZ h => ?_)
      refine lv_goto (tgt := 100) hx hb dX9_nextToken_136 (by decide) ?_
      exact hrec100 (o14) h H locs ls hZ (lv_sub hl [0] rfl)
set_option maxHeartbeats 4000000 in
set_option maxRecDepth 100000 in
theorem t_X9_nextToken_J71 {p : Program} {l : Launch} {e : Env} {s : State} {m : MethodId} {args : Array Value} {below : List Frame} {meth : Method} {c : Code} {D : va_G} {aC : Nat → ClassId} {A : Nat → Prop} {a_o : Nat → Nat} {out : Ob_T} (hX : K_X p s m args meth c cX9_nextToken 1 WL_ RX9 D aC A) (hr : meth.sig.returnType = none) (k1 : Int32) (s_o : Ob_T) (h : f_X9_nextToken_J71 k1 s_o = some out) (H : Heap) (locs : List Loc) (ls : Array Slot) (hZ : K_S D A s (wd_X9 aC a_o s_o) H locs) (hl : lv_has ls 1 [(0, .ref (a_o 0))]) : W p l e (R_m 2 45) s m args below meth c H locs 0 0 (MQ below (Q_W (none) D A (wd_X9 aC a_o out)) args s 0 0 A) (F0 m 71 ls [.int k1, .ref (a_o 0)]) := by
  obtain ⟨hx, hb, hml, hown, hts, hK, hA, hlk⟩ := id hX
  unfold f_X9_nextToken_J71 at h
  refine k_put (wf := (fun o => wd_X9 aC a_o o)) (o := s_o) hX hZ 0 9 rfl rfl iw_X9 tyX9 tyX9_ok nmX9 19 rfl (wm_18) rfl rfl rfl rfl rfl h dX9_nextToken_71 (fun o4 H locs hZ h => ?_)
  refine lv_aload_n hx hb dX9_nextToken_74 rfl (lv_at hl 0 rfl) ?_
  refine k_get hX hZ.1 0 9 rfl rfl iw_X9 18 rfl (wm_19) (v := .int (o_F o4 18)) rfl dX9_nextToken_75 ?_
  refine lv_aload_n hx hb dX9_nextToken_78 rfl (lv_at hl 0 rfl) ?_
  refine k_get hX hZ.1 0 9 rfl rfl iw_X9 10 rfl (wm_8) (v := .int (o_F o4 10)) rfl dX9_nextToken_79 ?_
  refine lv_icmp_ge (tgt := 139) hx hb dX9_nextToken_82 (by decide) (fun cd => ?_) (fun cd => ?_)
  · replace h := k_t cd h
    clear cd
    exact t_X9_nextToken_J139 hX hr o4 h H locs ls hZ (lv_sub hl [0] rfl)
  · replace h := k_f cd h
    clear cd
    refine lv_aload_n hx hb dX9_nextToken_85 rfl (lv_at hl 0 rfl) ?_
    refine k_get hX hZ.1 0 9 rfl rfl iw_X9 9 rfl (wm_9) (v := .ref (a_o 7)) rfl dX9_nextToken_86 ?_
    refine lv_aload_n hx hb dX9_nextToken_89 rfl (lv_at hl 0 rfl) ?_
    refine k_get hX hZ.1 0 9 rfl rfl iw_X9 18 rfl (wm_19) (v := .int (o_F o4 18)) rfl dX9_nextToken_90 ?_
    refine k_iald hX hZ.1 7 rfl h dX9_nextToken_93 (fun v10 h => ?_)
    obtain ⟨u11, hu, h⟩ := k_bd h
    refine k_sR (As := [.int v10]) (rest := []) (wc := []) (v := some (.int u11)) (st1 := [.int u11]) hX hl.1 hZ (c_X9_isLetter  v10 hu) (gs_ wm_23 wm_25 wm_11 wm_24) rfl hd_X9_isLetter ⟨rfl, rfl⟩ [] rfl rfl rfl rfl rfl dX9_nextToken_94 rfl ⟨rfl, rfl⟩ (fun locs hZ => ?_)
    clear hu
    refine lv_if_eq (tgt := 139) hx hb dX9_nextToken_97 (by decide) (fun cd => ?_) (fun cd => ?_)
    · replace h := k_t cd h
      clear cd
      exact t_X9_nextToken_J139 hX hr o4 h H locs ls hZ (lv_sub hl [0] rfl)
    · replace h := k_f cd h
      clear cd
      exact Lp_ok (body := (fun (rec : Ob_T → Option Ob_T) x => f_X9_nextToken_L100 rec x)) (out := out) (fun x => ∀ (H : Heap) (locs : List Loc) (ls : Array Slot), K_S D A s (wd_X9 aC a_o x) H locs → lv_has ls 1 [(0, .ref (a_o 0))] → W p l e (R_m 2 45) s m args below meth c H locs 0 0 (MQ below (Q_W (none) D A (wd_X9 aC a_o out)) args s 0 0 A) (F0 m 100 ls [])) (fun rec hrec x h H locs ls hZ hl => t_X9_nextToken_L100 hX hr hrec x h H locs ls hZ hl) FU_ (o4) h H locs ls hZ (lv_sub hl [0] rfl)
set_option maxHeartbeats 4000000 in
set_option maxRecDepth 100000 in
theorem t_X9_nextToken_J46 {p : Program} {l : Launch} {e : Env} {s : State} {m : MethodId} {args : Array Value} {below : List Frame} {meth : Method} {c : Code} {D : va_G} {aC : Nat → ClassId} {A : Nat → Prop} {a_o : Nat → Nat} {out : Ob_T} (hX : K_X p s m args meth c cX9_nextToken 1 WL_ RX9 D aC A) (hr : meth.sig.returnType = none) (s_o : Ob_T) (h : f_X9_nextToken_J46 s_o = some out) (H : Heap) (locs : List Loc) (ls : Array Slot) (hZ : K_S D A s (wd_X9 aC a_o s_o) H locs) (hl : lv_has ls 1 [(0, .ref (a_o 0))]) : W p l e (R_m 2 45) s m args below meth c H locs 0 0 (MQ below (Q_W (none) D A (wd_X9 aC a_o out)) args s 0 0 A) (F0 m 46 ls []) := by
  obtain ⟨hx, hb, hml, hown, hts, hK, hA, hlk⟩ := id hX
  unfold f_X9_nextToken_J46 at h
  refine lv_aload_n hx hb dX9_nextToken_46 rfl (lv_at hl 0 rfl) ?_
  refine lv_aload_n hx hb dX9_nextToken_47 rfl (lv_at hl 0 rfl) ?_
  refine k_get hX hZ.1 0 9 rfl rfl iw_X9 18 rfl (wm_19) (v := .int (o_F s_o 18)) rfl dX9_nextToken_48 ?_
  refine lv_aload_n hx hb dX9_nextToken_51 rfl (lv_at hl 0 rfl) ?_
  refine k_get hX hZ.1 0 9 rfl rfl iw_X9 10 rfl (wm_8) (v := .int (o_F s_o 10)) rfl dX9_nextToken_52 ?_
  refine lv_icmp_ge (tgt := 67) hx hb dX9_nextToken_55 (by decide) (fun cd => ?_) (fun cd => ?_)
  · replace h := k_t cd h
    clear cd
    refine lv_aload_n hx hb dX9_nextToken_67 rfl (lv_at hl 0 rfl) ?_
    refine k_get hX hZ.1 0 9 rfl rfl iw_X9 18 rfl (wm_19) (v := .int (o_F s_o 18)) rfl dX9_nextToken_68 ?_
    exact t_X9_nextToken_J71 hX hr (o_F s_o 18) s_o h H locs ls hZ (lv_sub hl [0] rfl)
  · replace h := k_f cd h
    clear cd
    refine lv_aload_n hx hb dX9_nextToken_58 rfl (lv_at hl 0 rfl) ?_
    refine k_get hX hZ.1 0 9 rfl rfl iw_X9 18 rfl (wm_19) (v := .int (o_F s_o 18)) rfl dX9_nextToken_59 ?_
    refine lv_iconst (v := 1) hx hb dX9_nextToken_62 (by decide) ?_
    refine lv_iadd hx hb dX9_nextToken_63 ?_
    refine lv_goto (tgt := 71) hx hb dX9_nextToken_64 (by decide) ?_
    exact t_X9_nextToken_J71 hX hr ((o_F s_o 18) + (1 : Int32)) s_o h H locs ls hZ (lv_sub hl [0] rfl)
set_option maxHeartbeats 4000000 in
set_option maxRecDepth 100000 in
theorem c_X9_nextToken {l : Launch} {D : va_G} {aC : Nat → ClassId} {a_o : Nat → Nat} (s_o : Ob_T) {out : Ob_T} (h : f_X9_nextToken s_o = some out) : M_W l yX9_nextToken wlX9_nextToken 2 45 D aC [.ref (a_o 0)] (wd_X9 aC a_o s_o) (none) (wd_X9 aC a_o out) := by
  refine k_entW (cc := cX9_nextToken) (ret := none) (maxL := 1) (own := RX9) (by decide) rfl rfl rfl ?_
  intro p e s m below meth c A ls hX hr hZ hl
  have hl : lv_has ls 1 [(0, .ref (a_o 0))] := hl
  generalize ([.ref (a_o 0)] : List Value).toArray = args at hX ⊢
  obtain ⟨hx, hb, hml, hown, hts, hK, hA, hlk⟩ := id hX
  unfold f_X9_nextToken at h
  generalize s.heap = H at hZ ⊢
  generalize ([] : List Loc) = locs at hZ ⊢
  refine lv_aload_n hx hb dX9_nextToken_0 rfl (lv_at hl 0 rfl) ?_
  refine lv_aload_n hx hb dX9_nextToken_1 rfl (lv_at hl 0 rfl) ?_
  refine k_get hX hZ.1 0 9 rfl rfl iw_X9 19 rfl (wm_18) (v := .int (o_F s_o 19)) rfl dX9_nextToken_2 ?_
  refine k_put (wf := (fun o => wd_X9 aC a_o o)) (o := s_o) hX hZ 0 9 rfl rfl iw_X9 tyX9 tyX9_ok nmX9 18 rfl (wm_19) rfl rfl rfl rfl rfl h dX9_nextToken_5 (fun o1 H locs hZ h => ?_)
  exact Lp_ok (body := (fun (rec : Ob_T → Option Ob_T) x => f_X9_nextToken_L8 (fun t_o => f_X9_nextToken_J46 t_o) rec x)) (out := out) (fun x => ∀ (H : Heap) (locs : List Loc) (ls : Array Slot), K_S D A s (wd_X9 aC a_o x) H locs → lv_has ls 1 [(0, .ref (a_o 0))] → W p l e (R_m 2 45) s m args below meth c H locs 0 0 (MQ below (Q_W (none) D A (wd_X9 aC a_o out)) args s 0 0 A) (F0 m 8 ls [])) (fun rec hrec x h H locs ls hZ hl => t_X9_nextToken_L8 hX hr (fun t_o h H locs ls hZ hl => t_X9_nextToken_J46 hX hr t_o h H locs ls hZ (lv_sub hl [0] rfl)) hrec x h H locs ls hZ hl) FU_ (o1) h H locs ls hZ (lv_sub hl [0] rfl)
