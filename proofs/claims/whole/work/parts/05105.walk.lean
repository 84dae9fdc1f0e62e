def wlX8_load : List Cond := .code yX8_load cX8_load 6 (some .int) :: WL_
theorem hd_X8_load : yX8_load.cls = RX8 ∧ yX8_load.cls ≠ "java/lang/invoke/MethodHandle" ∧ yX8_load.cls ≠ "java/lang/invoke/VarHandle" ∧ (parseMethodDescriptor yX8_load.desc).map (fun d => d.parameters.length) = some 2 := by decide +kernel
theorem dX8_load_0 : decode cX8_load 0 = .ok (.iload_n 1, 1) := by decide +kernel
theorem dX8_load_1 : decode cX8_load 1 = .ok (.invokestatic 210, 3) := by decide +kernel
theorem dX8_load_4 : decode cX8_load 4 = .ok (.ifCond .eq 14, 3) := by decide +kernel
theorem dX8_load_7 : decode cX8_load 7 = .ok (.aload_n 0, 1) := by decide +kernel
theorem dX8_load_8 : decode cX8_load 8 = .ok (.getfield 19, 3) := by decide +kernel
theorem dX8_load_11 : decode cX8_load 11 = .ok (.iload_n 2, 1) := by decide +kernel
theorem dX8_load_12 : decode cX8_load 12 = .ok (.invokevirtual 102, 3) := by decide +kernel
theorem dX8_load_15 : decode cX8_load 15 = .ok (.ifCond .ne 6, 3) := by decide +kernel
theorem dX8_load_18 : decode cX8_load 18 = .ok (.bipush (-2), 2) := by decide +kernel
theorem dX8_load_20 : decode cX8_load 20 = .ok (.ireturn, 1) := by decide +kernel
theorem dX8_load_21 : decode cX8_load 21 = .ok (.aload_n 0, 1) := by decide +kernel
theorem dX8_load_22 : decode cX8_load 22 = .ok (.getfield 64, 3) := by decide +kernel
theorem dX8_load_25 : decode cX8_load 25 = .ok (.iload_n 1, 1) := by decide +kernel
theorem dX8_load_26 : decode cX8_load 26 = .ok (.invokevirtual 229, 3) := by decide +kernel
theorem dX8_load_29 : decode cX8_load 29 = .ok (.ifCond .eq 6, 3) := by decide +kernel
theorem dX8_load_32 : decode cX8_load 32 = .ok (.bipush (-11), 2) := by decide +kernel
theorem dX8_load_34 : decode cX8_load 34 = .ok (.ireturn, 1) := by decide +kernel
theorem dX8_load_35 : decode cX8_load 35 = .ok (.aload_n 0, 1) := by decide +kernel
theorem dX8_load_36 : decode cX8_load 36 = .ok (.getfield 64, 3) := by decide +kernel
theorem dX8_load_39 : decode cX8_load 39 = .ok (.iload_n 1, 1) := by decide +kernel
theorem dX8_load_40 : decode cX8_load 40 = .ok (.invokevirtual 232, 3) := by decide +kernel
theorem dX8_load_43 : decode cX8_load 43 = .ok (.ifCond .eq 6, 3) := by decide +kernel
theorem dX8_load_46 : decode cX8_load 46 = .ok (.bipush (-13), 2) := by decide +kernel
theorem dX8_load_48 : decode cX8_load 48 = .ok (.ireturn, 1) := by decide +kernel
theorem dX8_load_49 : decode cX8_load 49 = .ok (.aload_n 0, 1) := by decide +kernel
theorem dX8_load_50 : decode cX8_load 50 = .ok (.getfield 19, 3) := by decide +kernel
theorem dX8_load_53 : decode cX8_load 53 = .ok (.iload_n 2, 1) := by decide +kernel
theorem dX8_load_54 : decode cX8_load 54 = .ok (.invokevirtual 109, 3) := by decide +kernel
theorem dX8_load_57 : decode cX8_load 57 = .ok (.istore_n 3, 1) := by decide +kernel
theorem dX8_load_58 : decode cX8_load 58 = .ok (.iload_n 3, 1) := by decide +kernel
theorem dX8_load_59 : decode cX8_load 59 = .ok (.aload_n 0, 1) := by decide +kernel
theorem dX8_load_60 : decode cX8_load 60 = .ok (.getfield 64, 3) := by decide +kernel
theorem dX8_load_63 : decode cX8_load 63 = .ok (.iload_n 1, 1) := by decide +kernel
theorem dX8_load_64 : decode cX8_load 64 = .ok (.invokevirtual 242, 3) := by decide +kernel
theorem dX8_load_67 : decode cX8_load 67 = .ok (.if_icmp .le 6, 3) := by decide +kernel
theorem dX8_load_70 : decode cX8_load 70 = .ok (.bipush (-14), 2) := by decide +kernel
theorem dX8_load_72 : decode cX8_load 72 = .ok (.ireturn, 1) := by decide +kernel
theorem dX8_load_73 : decode cX8_load 73 = .ok (.aload_n 0, 1) := by decide +kernel
theorem dX8_load_74 : decode cX8_load 74 = .ok (.invokevirtual 121, 3) := by decide +kernel
theorem dX8_load_77 : decode cX8_load 77 = .ok (.iconst 0, 1) := by decide +kernel
theorem dX8_load_78 : decode cX8_load 78 = .ok (.istore 4, 2) := by decide +kernel
theorem dX8_load_80 : decode cX8_load 80 = .ok (.iload 4, 2) := by decide +kernel
theorem dX8_load_82 : decode cX8_load 82 = .ok (.iload_n 3, 1) := by decide +kernel
theorem dX8_load_83 : decode cX8_load 83 = .ok (.if_icmp .ge 52, 3) := by decide +kernel
theorem dX8_load_86 : decode cX8_load 86 = .ok (.aload_n 0, 1) := by decide +kernel
theorem dX8_load_87 : decode cX8_load 87 = .ok (.getfield 31, 3) := by decide +kernel
theorem dX8_load_90 : decode cX8_load 90 = .ok (.aload_n 0, 1) := by decide +kernel
theorem dX8_load_91 : decode cX8_load 91 = .ok (.getfield 19, 3) := by decide +kernel
theorem dX8_load_94 : decode cX8_load 94 = .ok (.iload_n 2, 1) := by decide +kernel
theorem dX8_load_95 : decode cX8_load 95 = .ok (.iload 4, 2) := by decide +kernel
theorem dX8_load_97 : decode cX8_load 97 = .ok (.invokevirtual 124, 3) := by decide +kernel
theorem dX8_load_100 : decode cX8_load 100 = .ok (.invokevirtual 128, 3) := by decide +kernel
theorem dX8_load_103 : decode cX8_load 103 = .ok (.istore 5, 2) := by decide +kernel
theorem dX8_load_105 : decode cX8_load 105 = .ok (.aload_n 0, 1) := by decide +kernel
theorem dX8_load_106 : decode cX8_load 106 = .ok (.getfield 64, 3) := by decide +kernel
theorem dX8_load_109 : decode cX8_load 109 = .ok (.iload_n 1, 1) := by decide +kernel
theorem dX8_load_110 : decode cX8_load 110 = .ok (.iload 4, 2) := by decide +kernel
theorem dX8_load_112 : decode cX8_load 112 = .ok (.iload 5, 2) := by decide +kernel
theorem dX8_load_114 : decode cX8_load 114 = .ok (.sipush 20000, 3) := by decide +kernel
theorem dX8_load_117 : decode cX8_load 117 = .ok (.if_icmp .ge 8, 3) := by decide +kernel
theorem dX8_load_120 : decode cX8_load 120 = .ok (.iload 5, 2) := by decide +kernel
theorem dX8_load_122 : decode cX8_load 122 = .ok (.goto 4, 3) := by decide +kernel
theorem dX8_load_125 : decode cX8_load 125 = .ok (.iconst (-1), 1) := by decide +kernel
theorem dX8_load_126 : decode cX8_load 126 = .ok (.invokevirtual 225, 3) := by decide +kernel
theorem dX8_load_129 : decode cX8_load 129 = .ok (.iinc 4 1, 3) := by decide +kernel
theorem dX8_load_132 : decode cX8_load 132 = .ok (.goto (-52), 3) := by decide +kernel
theorem dX8_load_135 : decode cX8_load 135 = .ok (.iload_n 3, 1) := by decide +kernel
theorem dX8_load_136 : decode cX8_load 136 = .ok (.ireturn, 1) := by decide +kernel
set_option maxHeartbeats 4000000 in
set_option maxRecDepth 100000 in
theorem t_X8_load_J126 {p : Program} {l : Launch} {e : Env} {s : State} {m : MethodId} {args : Array Value} {below : List Frame} {meth : Method} {c : Code} {D : va_G} {aC : Nat → ClassId} {A : Nat → Prop} {a_x a_n a_v a_d a_g a_r a_t a_n2 a_v2 a_w a_q : Nat → Nat} {out : Int32 × Ob_T × Ob_T × Ob_T × Ob_T} {s_n : Ob_T} {s_g : Ob_T} {rec80 : (Int32 × Int32 × Int32 × Int32 × Ob_T × Ob_T × Ob_T × Ob_T) → Option (Int32 × Ob_T × Ob_T × Ob_T × Ob_T)} (hX : K_X p s m args meth c cX8_load 6 WL_ RX8 D aC A) (hr : meth.sig.returnType = (some .int)) (hrec80 : ∀ x : Int32 × Int32 × Int32 × Int32 × Ob_T × Ob_T × Ob_T × Ob_T, rec80 x = some out → ∀ (H : Heap) (locs : List Loc) (ls : Array Slot), K_S D A s (wd_X8 aC a_x (a_t 0) (a_n 0) (a_n2 0) (a_v 0) (a_v2 0) (a_g 0) (a_w 0) (a_q 0) (a_r 0) x.2.2.2.2.1 ++ (wd_X1 aC a_n s_n ++ (wd_X5 aC a_v (a_n 0) (a_d 0) x.2.2.2.2.2.1 ++ (wd_X4 aC a_d x.2.2.2.2.2.2.1 ++ (wd_X0 aC a_g s_g ++ wd_X2 aC a_r x.2.2.2.2.2.2.2))))) H locs → lv_has ls 6 [(0, .ref (a_x 0)), (1, .int x.1), (2, .int x.2.1), (3, .int x.2.2.1), (4, .int x.2.2.2.1)] → W p l e (R_m 6 164) s m args below meth c H locs 0 0 (MQ below (Q_W (some (.int out.1)) D A (wd_X8 aC a_x (a_t 0) (a_n 0) (a_n2 0) (a_v 0) (a_v2 0) (a_g 0) (a_w 0) (a_q 0) (a_r 0) out.2.1 ++ (wd_X1 aC a_n s_n ++ (wd_X5 aC a_v (a_n 0) (a_d 0) out.2.2.1 ++ (wd_X4 aC a_d out.2.2.2.1 ++ (wd_X0 aC a_g s_g ++ wd_X2 aC a_r out.2.2.2.2)))))) args s 0 0 A) (F0 m 80 ls [])) (x1 : Int32) (x2 : Int32) (x3 : Int32) (x4 : Int32) (k1 : Int32) (k2 : Int32) (k3 : Int32) (s_x : Ob_T) (s_v : Ob_T) (s_d : Ob_T) (s_r : Ob_T) (h : f_X8_load_J126 rec80 x1 x2 x3 x4 k1 k2 k3 s_x s_v s_d s_r s_n s_g = some out) (H : Heap) (locs : List Loc) (ls : Array Slot) (hZ : K_S D A s (wd_X8 aC a_x (a_t 0) (a_n 0) (a_n2 0) (a_v 0) (a_v2 0) (a_g 0) (a_w 0) (a_q 0) (a_r 0) s_x ++ (wd_X1 aC a_n s_n ++ (wd_X5 aC a_v (a_n 0) (a_d 0) s_v ++ (wd_X4 aC a_d s_d ++ (wd_X0 aC a_g s_g ++ wd_X2 aC a_r s_r))))) H locs) (hl : lv_has ls 6 [(0, .ref (a_x 0)), (1, .int x1), (2, .int x2), (3, .int x3), (4, .int x4)]) : W p l e (R_m 6 164) s m args below meth c H locs 0 0 (MQ below (Q_W (some (.int out.1)) D A (wd_X8 aC a_x (a_t 0) (a_n 0) (a_n2 0) (a_v 0) (a_v2 0) (a_g 0) (a_w 0) (a_q 0) (a_r 0) out.2.1 ++ (wd_X1 aC a_n s_n ++ (wd_X5 aC a_v (a_n 0) (a_d 0) out.2.2.1 ++ (wd_X4 aC a_d out.2.2.2.1 ++ (wd_X0 aC a_g s_g ++ wd_X2 aC a_r out.2.2.2.2)))))) args s 0 0 A) (F0 m 126 ls [.int k3, .int k2, .int k1, .ref (a_r 0)]) := by
  obtain ⟨hx, hb, hml, hown, hts, hK, hA, hlk⟩ := id hX
  unfold f_X8_load_J126 at h
  obtain ⟨u10, hu, h⟩ := k_bd h
  refine k_vW3 (As := [.int k1, .int k2, .int k3]) (rest := []) (wc := wd_X2 aC a_r s_r) (v := none) (st1 := []) (w' := wd_X8 aC a_x (a_t 0) (a_n 0) (a_n2 0) (a_v 0) (a_v2 0) (a_g 0) (a_w 0) (a_q 0) (a_r 0) s_x ++ (wd_X1 aC a_n s_n ++ (wd_X5 aC a_v (a_n 0) (a_d 0) s_v ++ (wd_X4 aC a_d s_d ++ (wd_X0 aC a_g s_g ++ wd_X2 aC a_r u10))))) hX hl.1 hZ (c_X2_put (a_r := a_r) s_r k1 k2 k3 hu) (gv_ wm_801 wm_803 wm_804 wm_384 wm_802) rfl hd_X2_put ⟨rfl, rfl⟩ 2 0 rfl rfl [22, 23, 24, 25] rfl rfl rfl dX8_load_126 rfl ⟨rfl, rfl⟩ rfl [(a_r 0, .inr (2, [.ref (a_r 1), .ref (a_r 2), .ref (a_r 3)])), (a_r 1, .inl (aC 0, 30, .inl (o_A s_r 0))), (a_r 2, .inl (aC 0, 3, .inl (o_A s_r 1))), (a_r 3, .inl (aC 0, 3, .inl (o_A s_r 2)))] rfl (And.intro rfl (And.intro rfl (And.intro rfl (And.intro rfl True.intro)))) [(a_r 0, .inr (2, [.ref (a_r 1), .ref (a_r 2), .ref (a_r 3)])), (a_r 1, .inl (aC 0, 30, .inl (o_A u10 0))), (a_r 2, .inl (aC 0, 3, .inl (o_A u10 1))), (a_r 3, .inl (aC 0, 3, .inl (o_A u10 2)))] rfl (And.intro rfl (And.intro rfl (And.intro rfl (And.intro rfl True.intro)))) [0, 1, 2, 3, 4, 5, 6, 7, 8, 9, 10, 11, 12, 13, 14, 15, 16, 17, 18, 19, 20, 21] [(a_x 0, .inr (8, [.ref (a_t 0), .ref (a_n 0), .ref (a_n2 0), .ref (a_v 0), .ref (a_v2 0), .ref (a_g 0), .ref (a_w 0), .ref (a_q 0), .ref (a_r 0), .int (o_F s_x 9), .int (o_F s_x 10)])), (a_n 0, .inr (1, [.ref (a_n 1), .ref (a_n 2), .ref (a_n 3), .ref (a_n 4), .ref (a_n 5), .ref (a_n 6), .int (o_F s_n 6)])), (a_n 1, .inl (aC 0, 10, .inl (o_A s_n 0))), (a_n 2, .inl (aC 0, 10, .inl (o_A s_n 1))), (a_n 3, .inl (aC 0, 10, .inl (o_A s_n 2))), (a_n 4, .inl (aC 0, 10, .inl (o_A s_n 3))), (a_n 5, .inl (aC 0, 10, .inl (o_A s_n 4))), (a_n 6, .inl (aC 0, 60, .inl (o_A s_n 5))), (a_v 0, .inr (5, [.ref (a_n 0), .ref (a_d 0), .ref (a_v 1), .ref (a_v 2), .ref (a_v 3), .ref (a_v 4), .int (o_F s_v 6)])), (a_v 1, .inl (aC 0, 14, .inl (o_A s_v 2))), (a_v 2, .inl (aC 0, 14, .inl (o_A s_v 3))), (a_v 3, .inl (aC 0, 14, .inl (o_A s_v 4))), (a_v 4, .inl (aC 0, 5, .inl (o_A s_v 5))), (a_d 0, .inr (4, [.ref (a_d 1), .ref (a_d 2), .int (o_F s_d 2), .int (o_F s_d 3), .int (o_F s_d 4), .int (o_F s_d 5)])), (a_d 1, .inl (aC 2, 2, .inr (.inl (o_L s_d 0)))), (a_d 2, .inl (aC 2, 2, .inr (.inl (o_L s_d 1)))), (a_g 0, .inr (0, [.ref (a_g 1), .ref (a_g 2), .ref (a_g 3), .ref (a_g 4), .ref (a_g 5), .int (o_F s_g 5)])), (a_g 1, .inl (aC 0, 4, .inl (o_A s_g 0))), (a_g 2, .inl (aC 0, 8, .inl (o_A s_g 1))), (a_g 3, .inl (aC 0, 8, .inl (o_A s_g 2))), (a_g 4, .inl (aC 0, 8, .inl (o_A s_g 3))), (a_g 5, .inl (aC 1, 2, .inl (o_A s_g 4)))] (And.intro rfl (And.intro rfl (And.intro rfl (And.intro rfl (And.intro rfl (And.intro rfl (And.intro rfl (And.intro rfl (And.intro rfl (And.intro rfl (And.intro rfl (And.intro rfl (And.intro rfl (And.intro rfl (And.intro rfl (And.intro rfl (And.intro rfl (And.intro rfl (And.intro rfl (And.intro rfl (And.intro rfl (And.intro rfl True.intro)))))))))))))))))))))) (And.intro rfl (And.intro rfl (And.intro rfl (And.intro rfl (And.intro rfl (And.intro rfl (And.intro rfl (And.intro rfl (And.intro rfl (And.intro rfl (And.intro rfl (And.intro rfl (And.intro rfl (And.intro rfl (And.intro rfl (And.intro rfl (And.intro rfl (And.intro rfl (And.intro rfl (And.intro rfl (And.intro rfl (And.intro rfl True.intro)))))))))))))))))))))) 26 rfl rfl rfl [a_x 0, a_n 0, a_n 1, a_n 2, a_n 3, a_n 4, a_n 5, a_n 6, a_v 0, a_v 1, a_v 2, a_v 3, a_v 4, a_d 0, a_d 1, a_d 2, a_g 0, a_g 1, a_g 2, a_g 3, a_g 4, a_g 5, a_r 0, a_r 1, a_r 2, a_r 3] rfl rfl (fun H locs hZ => ?_)
  clear hu
  refine lv_iinc (v := (x4 + (1 : Int32))) (lv' := [(4, .int (x4 + (1 : Int32))), (0, .ref (a_x 0)), (1, .int x1), (2, .int x2), (3, .int x3)]) hx hb dX8_load_129 hl (k := 4) rfl rfl (by decide) rfl (fun ls hl => ?_)
  refine lv_goto (tgt := 80) hx hb dX8_load_132 (by decide) ?_
  exact hrec80 (x1, x2, x3, (x4 + (1 : Int32)), s_x, s_v, s_d, u10) h H locs ls hZ (lv_sub hl [1, 2, 3, 4, 0] rfl)
set_option maxHeartbeats 4000000 in
set_option maxRecDepth 100000 in
theorem t_X8_load_L80 {p : Program} {l : Launch} {e : Env} {s : State} {m : MethodId} {args : Array Value} {below : List Frame} {meth : Method} {c : Code} {D : va_G} {aC : Nat → ClassId} {A : Nat → Prop} {a_x a_n a_v a_d a_g a_r a_t a_n2 a_v2 a_w a_q : Nat → Nat} {out : Int32 × Ob_T × Ob_T × Ob_T × Ob_T} {s_n : Ob_T} {s_g : Ob_T} {rec80 : (Int32 × Int32 × Int32 × Int32 × Ob_T × Ob_T × Ob_T × Ob_T) → Option (Int32 × Ob_T × Ob_T × Ob_T × Ob_T)} (hX : K_X p s m args meth c cX8_load 6 WL_ RX8 D aC A) (hr : meth.sig.returnType = (some .int)) (hrec80 : ∀ x : Int32 × Int32 × Int32 × Int32 × Ob_T × Ob_T × Ob_T × Ob_T, rec80 x = some out → ∀ (H : Heap) (locs : List Loc) (ls : Array Slot), K_S D A s (wd_X8 aC a_x (a_t 0) (a_n 0) (a_n2 0) (a_v 0) (a_v2 0) (a_g 0) (a_w 0) (a_q 0) (a_r 0) x.2.2.2.2.1 ++ (wd_X1 aC a_n s_n ++ (wd_X5 aC a_v (a_n 0) (a_d 0) x.2.2.2.2.2.1 ++ (wd_X4 aC a_d x.2.2.2.2.2.2.1 ++ (wd_X0 aC a_g s_g ++ wd_X2 aC a_r x.2.2.2.2.2.2.2))))) H locs → lv_has ls 6 [(0, .ref (a_x 0)), (1, .int x.1), (2, .int x.2.1), (3, .int x.2.2.1), (4, .int x.2.2.2.1)] → W p l e (R_m 6 164) s m args below meth c H locs 0 0 (MQ below (Q_W (some (.int out.1)) D A (wd_X8 aC a_x (a_t 0) (a_n 0) (a_n2 0) (a_v 0) (a_v2 0) (a_g 0) (a_w 0) (a_q 0) (a_r 0) out.2.1 ++ (wd_X1 aC a_n s_n ++ (wd_X5 aC a_v (a_n 0) (a_d 0) out.2.2.1 ++ (wd_X4 aC a_d out.2.2.2.1 ++ (wd_X0 aC a_g s_g ++ wd_X2 aC a_r out.2.2.2.2)))))) args s 0 0 A) (F0 m 80 ls [])) (x1 : Int32) (x2 : Int32) (x3 : Int32) (x4 : Int32) (s_x : Ob_T) (s_v : Ob_T) (s_d : Ob_T) (s_r : Ob_T) (h : f_X8_load_L80 rec80 x1 x2 x3 x4 s_x s_v s_d s_r s_n s_g = some out) (H : Heap) (locs : List Loc) (ls : Array Slot) (hZ : K_S D A s (wd_X8 aC a_x (a_t 0) (a_n 0) (a_n2 0) (a_v 0) (a_v2 0) (a_g 0) (a_w 0) (a_q 0) (a_r 0) s_x ++ (wd_X1 aC a_n s_n ++ (wd_X5 aC a_v (a_n 0) (a_d 0) s_v ++ (wd_X4 aC a_d s_d ++ (wd_X0 aC a_g s_g ++ wd_X2 aC a_r s_r))))) H locs) (hl : lv_has ls 6 [(0, .ref (a_x 0)), (1, .int x1), (2, .int x2), (3, .int x3), (4, .int x4)]) : W p l e (R_m 6 164) s m args below meth c H locs 0 0 (MQ below (Q_W (some (.int out.1)) D A (wd_X8 aC a_x (a_t 0) (a_n 0) (a_n2 0) (a_v 0) (a_v2 0) (a_g 0) (a_w 0) (a_q 0) (a_r 0) out.2.1 ++ (wd_X1 aC a_n s_n ++ (wd_X5 aC a_v (a_n 0) (a_d 0) out.2.2.1 ++ (wd_X4 aC a_d out.2.2.2.1 ++ (wd_X0 aC a_g s_g ++ wd_X2 aC a_r out.2.2.2.2)))))) args s 0 0 A) (F0 m 80 ls []) := by
  obtain ⟨hx, hb, hml, hown, hts, hK, hA, hlk⟩ := id hX
  unfold f_X8_load_L80 at h
  refine lv_iload hx hb dX8_load_80 (lv_at hl 4 rfl) ?_
  refine lv_iload_n hx hb dX8_load_82 rfl (lv_at hl 3 rfl) ?_
  refine lv_icmp_ge (tgt := 135) hx hb dX8_load_83 (by decide) (fun cd => ?_) (fun cd => ?_)
  · replace h := k_t cd h
    clear cd
    refine lv_iload_n hx hb dX8_load_135 rfl (lv_at hl 3 rfl) ?_
    cases h
    exact k_iretW hX hr hZ dX8_load_136
  · replace h := k_f cd h
    clear cd
    refine lv_aload_n hx hb dX8_load_86 rfl (lv_at hl 0 rfl) ?_
    refine k_get hX hZ.1 0 8 rfl rfl iw_X8 3 rfl (wm_659) (v := .ref (a_v 0)) rfl dX8_load_87 ?_
    refine lv_aload_n hx hb dX8_load_90 rfl (lv_at hl 0 rfl) ?_
    refine k_get hX hZ.1 0 8 rfl rfl iw_X8 1 rfl (wm_651) (v := .ref (a_n 0)) rfl dX8_load_91 ?_
    refine lv_iload_n hx hb dX8_load_94 rfl (lv_at hl 2 rfl) ?_
    refine lv_iload hx hb dX8_load_95 (lv_at hl 4 rfl) ?_
    obtain ⟨u8, hu, h⟩ := k_bd h
    refine k_vR3 (As := [.int x2, .int x4]) (rest := [.ref (a_v 0)]) (wc := wd_X1 aC a_n s_n) (v := some (.int u8)) (st1 := [.int u8, .ref (a_v 0)]) hX hl.1 hZ (c_X1_at (a_n := a_n) s_n x2 x4 hu) (gv_ wm_670 wm_327 wm_328 wm_321 wm_326) rfl hd_X1_at ⟨rfl, rfl⟩ 1 0 rfl rfl [1, 2, 3, 4, 5, 6, 7] rfl rfl rfl dX8_load_97 rfl ⟨rfl, rfl⟩ rfl [(a_n 0, .inr (1, [.ref (a_n 1), .ref (a_n 2), .ref (a_n 3), .ref (a_n 4), .ref (a_n 5), .ref (a_n 6), .int (o_F s_n 6)])), (a_n 1, .inl (aC 0, 10, .inl (o_A s_n 0))), (a_n 2, .inl (aC 0, 10, .inl (o_A s_n 1))), (a_n 3, .inl (aC 0, 10, .inl (o_A s_n 2))), (a_n 4, .inl (aC 0, 10, .inl (o_A s_n 3))), (a_n 5, .inl (aC 0, 10, .inl (o_A s_n 4))), (a_n 6, .inl (aC 0, 60, .inl (o_A s_n 5)))] rfl (And.intro rfl (And.intro rfl (And.intro rfl (And.intro rfl (And.intro rfl (And.intro rfl (And.intro rfl True.intro))))))) (fun locs hZ => ?_)
    clear hu
    obtain ⟨u9, hu, h⟩ := k_bd h
    refine k_vR3 (As := [.int u8]) (rest := []) (wc := wd_X5 aC a_v (a_n 0) (a_d 0) s_v) (v := some (.int u9)) (st1 := [.int u9]) hX hl.1 hZ (c_X5_valueOf (a_v := a_v) (a_n := a_n) (a_d := a_d) s_v u8 hu) (gv_ wm_669 wm_446 wm_447 wm_432 wm_445) rfl hd_X5_valueOf ⟨rfl, rfl⟩ 5 0 rfl rfl [8, 9, 10, 11, 12] rfl rfl rfl dX8_load_100 rfl ⟨rfl, rfl⟩ rfl [(a_v 0, .inr (5, [.ref (a_n 0), .ref (a_d 0), .ref (a_v 1), .ref (a_v 2), .ref (a_v 3), .ref (a_v 4), .int (o_F s_v 6)])), (a_v 1, .inl (aC 0, 14, .inl (o_A s_v 2))), (a_v 2, .inl (aC 0, 14, .inl (o_A s_v 3))), (a_v 3, .inl (aC 0, 14, .inl (o_A s_v 4))), (a_v 4, .inl (aC 0, 5, .inl (o_A s_v 5)))] rfl (And.intro rfl (And.intro rfl (And.intro rfl (And.intro rfl (And.intro rfl True.intro))))) (fun locs hZ => ?_)
    clear hu
    refine lv_istore (lv' := [(5, .int u9), (0, .ref (a_x 0)), (1, .int x1), (2, .int x2), (3, .int x3), (4, .int x4)]) hx hb dX8_load_103 hl (by decide) rfl (fun ls hl => ?_)
    refine lv_aload_n hx hb dX8_load_105 rfl (lv_at hl 1 rfl) ?_
    refine k_get hX hZ.1 0 8 rfl rfl iw_X8 8 rfl (wm_789) (v := .ref (a_r 0)) rfl dX8_load_106 ?_
    refine lv_iload_n hx hb dX8_load_109 rfl (lv_at hl 2 rfl) ?_
    refine lv_iload hx hb dX8_load_110 (lv_at hl 5 rfl) ?_
    refine lv_iload hx hb dX8_load_112 (lv_at hl 0 rfl) ?_
    refine lv_sipush (v := 20000) hx hb dX8_load_114 (by decide) ?_
    refine lv_icmp_ge (tgt := 125) hx hb dX8_load_117 (by decide) (fun cd => ?_) (fun cd => ?_)
    · replace h := k_t cd h
      clear cd
      refine lv_iconst (v := -1) hx hb dX8_load_125 (by decide) ?_
      exact t_X8_load_J126 hX hr hrec80 x1 x2 x3 x4 x1 x4 (-1 : Int32) s_x s_v s_d s_r h H locs ls hZ (lv_sub hl [1, 2, 3, 4, 5] rfl)
    · replace h := k_f cd h
      clear cd
      refine lv_iload hx hb dX8_load_120 (lv_at hl 0 rfl) ?_
      refine lv_goto (tgt := 126) hx hb dX8_load_122 (by decide) ?_
      exact t_X8_load_J126 hX hr hrec80 x1 x2 x3 x4 x1 x4 u9 s_x s_v s_d s_r h H locs ls hZ (lv_sub hl [1, 2, 3, 4, 5] rfl)
set_option maxHeartbeats 4000000 in
set_option maxRecDepth 100000 in
theorem c_X8_load {l : Launch} {D : va_G} {aC : Nat → ClassId} {a_x : Nat → Nat} {a_n : Nat → Nat} {a_v : Nat → Nat} {a_d : Nat → Nat} {a_g : Nat → Nat} {a_r : Nat → Nat} {a_t : Nat → Nat} {a_n2 : Nat → Nat} {a_v2 : Nat → Nat} {a_w : Nat → Nat} {a_q : Nat → Nat} (s_x : Ob_T) (s_n : Ob_T) (s_v : Ob_T) (s_d : Ob_T) (s_g : Ob_T) (s_r : Ob_T) (x1 : Int32) (x2 : Int32) {out : Int32 × Ob_T × Ob_T × Ob_T × Ob_T} (h : f_X8_load s_x s_n s_v s_d s_g s_r x1 x2 = some out) : M_W l yX8_load wlX8_load 6 164 D aC [.ref (a_x 0), .int x1, .int x2] (wd_X8 aC a_x (a_t 0) (a_n 0) (a_n2 0) (a_v 0) (a_v2 0) (a_g 0) (a_w 0) (a_q 0) (a_r 0) s_x ++ (wd_X1 aC a_n s_n ++ (wd_X5 aC a_v (a_n 0) (a_d 0) s_v ++ (wd_X4 aC a_d s_d ++ (wd_X0 aC a_g s_g ++ wd_X2 aC a_r s_r))))) (some (.int out.1)) (wd_X8 aC a_x (a_t 0) (a_n 0) (a_n2 0) (a_v 0) (a_v2 0) (a_g 0) (a_w 0) (a_q 0) (a_r 0) out.2.1 ++ (wd_X1 aC a_n s_n ++ (wd_X5 aC a_v (a_n 0) (a_d 0) out.2.2.1 ++ (wd_X4 aC a_d out.2.2.2.1 ++ (wd_X0 aC a_g s_g ++ wd_X2 aC a_r out.2.2.2.2))))) := by
  refine k_entW (cc := cX8_load) (ret := (some .int)) (maxL := 6) (own := RX8) (by decide) rfl rfl rfl ?_
  intro p e s m below meth c A ls hX hr hZ hl
  have hl : lv_has ls 6 [(0, .ref (a_x 0)), (1, .int x1), (2, .int x2)] := hl
  generalize ([.ref (a_x 0), .int x1, .int x2] : List Value).toArray = args at hX ⊢
  obtain ⟨hx, hb, hml, hown, hts, hK, hA, hlk⟩ := id hX
  unfold f_X8_load at h
  generalize s.heap = H at hZ ⊢
  generalize ([] : List Loc) = locs at hZ ⊢
  refine lv_iload_n hx hb dX8_load_0 rfl (lv_at hl 1 rfl) ?_
  obtain ⟨u1, hu, h⟩ := k_bd h
  refine k_sR (As := [.int x1]) (rest := []) (wc := []) (v := some (.int u1)) (st1 := [.int u1]) hX hl.1 hZ (c_X8_isRow  x1 hu) (gs_ wm_797 wm_799 wm_672 wm_798) rfl hd_X8_isRow ⟨rfl, rfl⟩ [] rfl rfl rfl rfl rfl dX8_load_1 rfl ⟨rfl, rfl⟩ (fun locs hZ => ?_)
  clear hu
  refine lv_if_eq (tgt := 18) hx hb dX8_load_4 (by decide) (fun cd => ?_) (fun cd => ?_)
  · replace h := k_t cd h
    clear cd
    refine lv_bipush (v := -2) hx hb dX8_load_18 (by decide) ?_
    cases h
    exact k_iretW hX hr hZ dX8_load_20
  · replace h := k_f cd h
    clear cd
    refine lv_aload_n hx hb dX8_load_7 rfl (lv_at hl 0 rfl) ?_
    refine k_get hX hZ.1 0 8 rfl rfl iw_X8 1 rfl (wm_651) (v := .ref (a_n 0)) rfl dX8_load_8 ?_
    refine lv_iload_n hx hb dX8_load_11 rfl (lv_at hl 2 rfl) ?_
    obtain ⟨u2, hu, h⟩ := k_bd h
    refine k_vR3 (As := [.int x2]) (rest := []) (wc := wd_X1 aC a_n s_n) (v := some (.int u2)) (st1 := [.int u2]) hX hl.1 hZ (c_X1_has (a_n := a_n) s_n x2 hu) (gv_ wm_657 wm_323 wm_324 wm_321 wm_322) rfl hd_X1_has ⟨rfl, rfl⟩ 1 0 rfl rfl [1, 2, 3, 4, 5, 6, 7] rfl rfl rfl dX8_load_12 rfl ⟨rfl, rfl⟩ rfl [(a_n 0, .inr (1, [.ref (a_n 1), .ref (a_n 2), .ref (a_n 3), .ref (a_n 4), .ref (a_n 5), .ref (a_n 6), .int (o_F s_n 6)])), (a_n 1, .inl (aC 0, 10, .inl (o_A s_n 0))), (a_n 2, .inl (aC 0, 10, .inl (o_A s_n 1))), (a_n 3, .inl (aC 0, 10, .inl (o_A s_n 2))), (a_n 4, .inl (aC 0, 10, .inl (o_A s_n 3))), (a_n 5, .inl (aC 0, 10, .inl (o_A s_n 4))), (a_n 6, .inl (aC 0, 60, .inl (o_A s_n 5)))] rfl (And.intro rfl (And.intro rfl (And.intro rfl (And.intro rfl (And.intro rfl (And.intro rfl (And.intro rfl True.intro))))))) (fun locs hZ => ?_)
    clear hu
    refine lv_if_ne (tgt := 21) hx hb dX8_load_15 (by decide) (fun cd => ?_) (fun cd => ?_)
    · replace h := k_f cd h
      clear cd
      refine lv_aload_n hx hb dX8_load_21 rfl (lv_at hl 0 rfl) ?_
      refine k_get hX hZ.1 0 8 rfl rfl iw_X8 8 rfl (wm_789) (v := .ref (a_r 0)) rfl dX8_load_22 ?_
      refine lv_iload_n hx hb dX8_load_25 rfl (lv_at hl 1 rfl) ?_
      obtain ⟨u3, hu, h⟩ := k_bd h
      refine k_vR3 (As := [.int x1]) (rest := []) (wc := wd_X2 aC a_r s_r) (v := some (.int u3)) (st1 := [.int u3]) hX hl.1 hZ (c_X2_isMissing (a_r := a_r) s_r x1 hu) (gv_ wm_819 wm_386 wm_387 wm_384 wm_385) rfl hd_X2_isMissing ⟨rfl, rfl⟩ 2 0 rfl rfl [22, 23, 24, 25] rfl rfl rfl dX8_load_26 rfl ⟨rfl, rfl⟩ rfl [(a_r 0, .inr (2, [.ref (a_r 1), .ref (a_r 2), .ref (a_r 3)])), (a_r 1, .inl (aC 0, 30, .inl (o_A s_r 0))), (a_r 2, .inl (aC 0, 3, .inl (o_A s_r 1))), (a_r 3, .inl (aC 0, 3, .inl (o_A s_r 2)))] rfl (And.intro rfl (And.intro rfl (And.intro rfl (And.intro rfl True.intro)))) (fun locs hZ => ?_)
      clear hu
      refine lv_if_eq (tgt := 35) hx hb dX8_load_29 (by decide) (fun cd => ?_) (fun cd => ?_)
      · replace h := k_t cd h
        clear cd
        refine lv_aload_n hx hb dX8_load_35 rfl (lv_at hl 0 rfl) ?_
        refine k_get hX hZ.1 0 8 rfl rfl iw_X8 8 rfl (wm_789) (v := .ref (a_r 0)) rfl dX8_load_36 ?_
        refine lv_iload_n hx hb dX8_load_39 rfl (lv_at hl 1 rfl) ?_
        obtain ⟨u4, hu, h⟩ := k_bd h
        refine k_vR3 (As := [.int x1]) (rest := []) (wc := wd_X2 aC a_r s_r) (v := some (.int u4)) (st1 := [.int u4]) hX hl.1 hZ (c_X2_sortOf (a_r := a_r) s_r x1 hu) (gv_ wm_815 wm_817 wm_818 wm_384 wm_816) rfl hd_X2_sortOf ⟨rfl, rfl⟩ 2 0 rfl rfl [22, 23, 24, 25] rfl rfl rfl dX8_load_40 rfl ⟨rfl, rfl⟩ rfl [(a_r 0, .inr (2, [.ref (a_r 1), .ref (a_r 2), .ref (a_r 3)])), (a_r 1, .inl (aC 0, 30, .inl (o_A s_r 0))), (a_r 2, .inl (aC 0, 3, .inl (o_A s_r 1))), (a_r 3, .inl (aC 0, 3, .inl (o_A s_r 2)))] rfl (And.intro rfl (And.intro rfl (And.intro rfl (And.intro rfl True.intro)))) (fun locs hZ => ?_)
        clear hu
        refine lv_if_eq (tgt := 49) hx hb dX8_load_43 (by decide) (fun cd => ?_) (fun cd => ?_)
        · replace h := k_t cd h
          clear cd
          refine lv_aload_n hx hb dX8_load_49 rfl (lv_at hl 0 rfl) ?_
          refine k_get hX hZ.1 0 8 rfl rfl iw_X8 1 rfl (wm_651) (v := .ref (a_n 0)) rfl dX8_load_50 ?_
          refine lv_iload_n hx hb dX8_load_53 rfl (lv_at hl 2 rfl) ?_
          obtain ⟨u5, hu, h⟩ := k_bd h
          refine k_vR3 (As := [.int x2]) (rest := []) (wc := wd_X1 aC a_n s_n) (v := some (.int u5)) (st1 := [.int u5]) hX hl.1 hZ (c_X1_axesOf (a_n := a_n) s_n x2 hu) (gv_ wm_653 wm_502 wm_503 wm_321 wm_501) rfl hd_X1_axesOf ⟨rfl, rfl⟩ 1 0 rfl rfl [1, 2, 3, 4, 5, 6, 7] rfl rfl rfl dX8_load_54 rfl ⟨rfl, rfl⟩ rfl [(a_n 0, .inr (1, [.ref (a_n 1), .ref (a_n 2), .ref (a_n 3), .ref (a_n 4), .ref (a_n 5), .ref (a_n 6), .int (o_F s_n 6)])), (a_n 1, .inl (aC 0, 10, .inl (o_A s_n 0))), (a_n 2, .inl (aC 0, 10, .inl (o_A s_n 1))), (a_n 3, .inl (aC 0, 10, .inl (o_A s_n 2))), (a_n 4, .inl (aC 0, 10, .inl (o_A s_n 3))), (a_n 5, .inl (aC 0, 10, .inl (o_A s_n 4))), (a_n 6, .inl (aC 0, 60, .inl (o_A s_n 5)))] rfl (And.intro rfl (And.intro rfl (And.intro rfl (And.intro rfl (And.intro rfl (And.intro rfl (And.intro rfl True.intro))))))) (fun locs hZ => ?_)
          clear hu
          refine lv_istore_n (lv' := [(3, .int u5), (0, .ref (a_x 0)), (1, .int x1), (2, .int x2)]) hx hb dX8_load_57 rfl hl (by decide) rfl (fun ls hl => ?_)
          refine lv_iload_n hx hb dX8_load_58 rfl (lv_at hl 0 rfl) ?_
          refine lv_aload_n hx hb dX8_load_59 rfl (lv_at hl 1 rfl) ?_
          refine k_get hX hZ.1 0 8 rfl rfl iw_X8 8 rfl (wm_789) (v := .ref (a_r 0)) rfl dX8_load_60 ?_
          refine lv_iload_n hx hb dX8_load_63 rfl (lv_at hl 2 rfl) ?_
          obtain ⟨u6, hu, h⟩ := k_bd h
          refine k_vR3 (As := [.int x1]) (rest := [.int u5]) (wc := wd_X2 aC a_r s_r) (v := some (.int u6)) (st1 := [.int u6, .int u5]) hX hl.1 hZ (c_X2_sizeOf (a_r := a_r) s_r x1 hu) (gv_ wm_820 wm_822 wm_823 wm_384 wm_821) rfl hd_X2_sizeOf ⟨rfl, rfl⟩ 2 0 rfl rfl [22, 23, 24, 25] rfl rfl rfl dX8_load_64 rfl ⟨rfl, rfl⟩ rfl [(a_r 0, .inr (2, [.ref (a_r 1), .ref (a_r 2), .ref (a_r 3)])), (a_r 1, .inl (aC 0, 30, .inl (o_A s_r 0))), (a_r 2, .inl (aC 0, 3, .inl (o_A s_r 1))), (a_r 3, .inl (aC 0, 3, .inl (o_A s_r 2)))] rfl (And.intro rfl (And.intro rfl (And.intro rfl (And.intro rfl True.intro)))) (fun locs hZ => ?_)
          clear hu
          refine lv_icmp_le (tgt := 73) hx hb dX8_load_67 (by decide) (fun cd => ?_) (fun cd => ?_)
          · replace h := k_t cd h
            clear cd
            refine lv_aload_n hx hb dX8_load_73 rfl (lv_at hl 1 rfl) ?_
            obtain ⟨u7, hu, h⟩ := k_bd h
            refine k_vW3 (As := []) (rest := []) (wc := wd_X8 aC a_x (a_t 0) (a_n 0) (a_n2 0) (a_v 0) (a_v2 0) (a_g 0) (a_w 0) (a_q 0) (a_r 0) s_x ++ (wd_X1 aC a_n s_n ++ (wd_X5 aC a_v (a_n 0) (a_d 0) s_v ++ (wd_X4 aC a_d s_d ++ wd_X0 aC a_g s_g)))) (v := none) (st1 := []) (w' := wd_X8 aC a_x (a_t 0) (a_n 0) (a_n2 0) (a_v 0) (a_v2 0) (a_g 0) (a_w 0) (a_q 0) (a_r 0) u7.1 ++ (wd_X1 aC a_n s_n ++ (wd_X5 aC a_v (a_n 0) (a_d 0) u7.2.1 ++ (wd_X4 aC a_d u7.2.2 ++ (wd_X0 aC a_g s_g ++ wd_X2 aC a_r s_r))))) hX hl.1 hZ (c_X8_solveNow (a_x := a_x) (a_n := a_n) (a_v := a_v) (a_d := a_d) (a_g := a_g) (a_t := a_t) (a_n2 := a_n2) (a_v2 := a_v2) (a_w := a_w) (a_q := a_q) (a_r := a_r) s_x s_n s_v s_d s_g hu) (gv_ wm_671 wm_674 wm_675 wm_672 wm_673) rfl hd_X8_solveNow ⟨rfl, rfl⟩ 8 0 rfl rfl [0, 1, 2, 3, 4, 5, 6, 7, 8, 9, 10, 11, 12, 13, 14, 15, 16, 17, 18, 19, 20, 21] rfl rfl rfl dX8_load_74 rfl ⟨rfl, rfl⟩ rfl [(a_x 0, .inr (8, [.ref (a_t 0), .ref (a_n 0), .ref (a_n2 0), .ref (a_v 0), .ref (a_v2 0), .ref (a_g 0), .ref (a_w 0), .ref (a_q 0), .ref (a_r 0), .int (o_F s_x 9), .int (o_F s_x 10)])), (a_n 0, .inr (1, [.ref (a_n 1), .ref (a_n 2), .ref (a_n 3), .ref (a_n 4), .ref (a_n 5), .ref (a_n 6), .int (o_F s_n 6)])), (a_n 1, .inl (aC 0, 10, .inl (o_A s_n 0))), (a_n 2, .inl (aC 0, 10, .inl (o_A s_n 1))), (a_n 3, .inl (aC 0, 10, .inl (o_A s_n 2))), (a_n 4, .inl (aC 0, 10, .inl (o_A s_n 3))), (a_n 5, .inl (aC 0, 10, .inl (o_A s_n 4))), (a_n 6, .inl (aC 0, 60, .inl (o_A s_n 5))), (a_v 0, .inr (5, [.ref (a_n 0), .ref (a_d 0), .ref (a_v 1), .ref (a_v 2), .ref (a_v 3), .ref (a_v 4), .int (o_F s_v 6)])), (a_v 1, .inl (aC 0, 14, .inl (o_A s_v 2))), (a_v 2, .inl (aC 0, 14, .inl (o_A s_v 3))), (a_v 3, .inl (aC 0, 14, .inl (o_A s_v 4))), (a_v 4, .inl (aC 0, 5, .inl (o_A s_v 5))), (a_d 0, .inr (4, [.ref (a_d 1), .ref (a_d 2), .int (o_F s_d 2), .int (o_F s_d 3), .int (o_F s_d 4), .int (o_F s_d 5)])), (a_d 1, .inl (aC 2, 2, .inr (.inl (o_L s_d 0)))), (a_d 2, .inl (aC 2, 2, .inr (.inl (o_L s_d 1)))), (a_g 0, .inr (0, [.ref (a_g 1), .ref (a_g 2), .ref (a_g 3), .ref (a_g 4), .ref (a_g 5), .int (o_F s_g 5)])), (a_g 1, .inl (aC 0, 4, .inl (o_A s_g 0))), (a_g 2, .inl (aC 0, 8, .inl (o_A s_g 1))), (a_g 3, .inl (aC 0, 8, .inl (o_A s_g 2))), (a_g 4, .inl (aC 0, 8, .inl (o_A s_g 3))), (a_g 5, .inl (aC 1, 2, .inl (o_A s_g 4)))] rfl (And.intro rfl (And.intro rfl (And.intro rfl (And.intro rfl (And.intro rfl (And.intro rfl (And.intro rfl (And.intro rfl (And.intro rfl (And.intro rfl (And.intro rfl (And.intro rfl (And.intro rfl (And.intro rfl (And.intro rfl (And.intro rfl (And.intro rfl (And.intro rfl (And.intro rfl (And.intro rfl (And.intro rfl (And.intro rfl True.intro)))))))))))))))))))))) [(a_x 0, .inr (8, [.ref (a_t 0), .ref (a_n 0), .ref (a_n2 0), .ref (a_v 0), .ref (a_v2 0), .ref (a_g 0), .ref (a_w 0), .ref (a_q 0), .ref (a_r 0), .int (o_F u7.1 9), .int (o_F u7.1 10)])), (a_n 0, .inr (1, [.ref (a_n 1), .ref (a_n 2), .ref (a_n 3), .ref (a_n 4), .ref (a_n 5), .ref (a_n 6), .int (o_F s_n 6)])), (a_n 1, .inl (aC 0, 10, .inl (o_A s_n 0))), (a_n 2, .inl (aC 0, 10, .inl (o_A s_n 1))), (a_n 3, .inl (aC 0, 10, .inl (o_A s_n 2))), (a_n 4, .inl (aC 0, 10, .inl (o_A s_n 3))), (a_n 5, .inl (aC 0, 10, .inl (o_A s_n 4))), (a_n 6, .inl (aC 0, 60, .inl (o_A s_n 5))), (a_v 0, .inr (5, [.ref (a_n 0), .ref (a_d 0), .ref (a_v 1), .ref (a_v 2), .ref (a_v 3), .ref (a_v 4), .int (o_F u7.2.1 6)])), (a_v 1, .inl (aC 0, 14, .inl (o_A u7.2.1 2))), (a_v 2, .inl (aC 0, 14, .inl (o_A u7.2.1 3))), (a_v 3, .inl (aC 0, 14, .inl (o_A u7.2.1 4))), (a_v 4, .inl (aC 0, 5, .inl (o_A u7.2.1 5))), (a_d 0, .inr (4, [.ref (a_d 1), .ref (a_d 2), .int (o_F u7.2.2 2), .int (o_F u7.2.2 3), .int (o_F u7.2.2 4), .int (o_F u7.2.2 5)])), (a_d 1, .inl (aC 2, 2, .inr (.inl (o_L u7.2.2 0)))), (a_d 2, .inl (aC 2, 2, .inr (.inl (o_L u7.2.2 1)))), (a_g 0, .inr (0, [.ref (a_g 1), .ref (a_g 2), .ref (a_g 3), .ref (a_g 4), .ref (a_g 5), .int (o_F s_g 5)])), (a_g 1, .inl (aC 0, 4, .inl (o_A s_g 0))), (a_g 2, .inl (aC 0, 8, .inl (o_A s_g 1))), (a_g 3, .inl (aC 0, 8, .inl (o_A s_g 2))), (a_g 4, .inl (aC 0, 8, .inl (o_A s_g 3))), (a_g 5, .inl (aC 1, 2, .inl (o_A s_g 4)))] rfl (And.intro rfl (And.intro rfl (And.intro rfl (And.intro rfl (And.intro rfl (And.intro rfl (And.intro rfl (And.intro rfl (And.intro rfl (And.intro rfl (And.intro rfl (And.intro rfl (And.intro rfl (And.intro rfl (And.intro rfl (And.intro rfl (And.intro rfl (And.intro rfl (And.intro rfl (And.intro rfl (And.intro rfl (And.intro rfl True.intro)))))))))))))))))))))) [22, 23, 24, 25] [(a_r 0, .inr (2, [.ref (a_r 1), .ref (a_r 2), .ref (a_r 3)])), (a_r 1, .inl (aC 0, 30, .inl (o_A s_r 0))), (a_r 2, .inl (aC 0, 3, .inl (o_A s_r 1))), (a_r 3, .inl (aC 0, 3, .inl (o_A s_r 2)))] (And.intro rfl (And.intro rfl (And.intro rfl (And.intro rfl True.intro)))) (And.intro rfl (And.intro rfl (And.intro rfl (And.intro rfl True.intro)))) 26 rfl rfl rfl [a_x 0, a_n 0, a_n 1, a_n 2, a_n 3, a_n 4, a_n 5, a_n 6, a_v 0, a_v 1, a_v 2, a_v 3, a_v 4, a_d 0, a_d 1, a_d 2, a_g 0, a_g 1, a_g 2, a_g 3, a_g 4, a_g 5, a_r 0, a_r 1, a_r 2, a_r 3] rfl rfl (fun H locs hZ => ?_)
            clear hu
            refine lv_iconst (v := 0) hx hb dX8_load_77 (by decide) ?_
            refine lv_istore (lv' := [(4, .int (0 : Int32)), (3, .int u5), (0, .ref (a_x 0)), (1, .int x1), (2, .int x2)]) hx hb dX8_load_78 hl (by decide) rfl (fun ls hl => ?_)
            exact Lp_ok (body := (fun (rec : (Int32 × Int32 × Int32 × Int32 × Ob_T × Ob_T × Ob_T × Ob_T) → Option (Int32 × Ob_T × Ob_T × Ob_T × Ob_T)) x => f_X8_load_L80 rec x.1 x.2.1 x.2.2.1 x.2.2.2.1 x.2.2.2.2.1 x.2.2.2.2.2.1 x.2.2.2.2.2.2.1 x.2.2.2.2.2.2.2 s_n s_g)) (out := out) (fun x => ∀ (H : Heap) (locs : List Loc) (ls : Array Slot), K_S D A s (wd_X8 aC a_x (a_t 0) (a_n 0) (a_n2 0) (a_v 0) (a_v2 0) (a_g 0) (a_w 0) (a_q 0) (a_r 0) x.2.2.2.2.1 ++ (wd_X1 aC a_n s_n ++ (wd_X5 aC a_v (a_n 0) (a_d 0) x.2.2.2.2.2.1 ++ (wd_X4 aC a_d x.2.2.2.2.2.2.1 ++ (wd_X0 aC a_g s_g ++ wd_X2 aC a_r x.2.2.2.2.2.2.2))))) H locs → lv_has ls 6 [(0, .ref (a_x 0)), (1, .int x.1), (2, .int x.2.1), (3, .int x.2.2.1), (4, .int x.2.2.2.1)] → W p l e (R_m 6 164) s m args below meth c H locs 0 0 (MQ below (Q_W (some (.int out.1)) D A (wd_X8 aC a_x (a_t 0) (a_n 0) (a_n2 0) (a_v 0) (a_v2 0) (a_g 0) (a_w 0) (a_q 0) (a_r 0) out.2.1 ++ (wd_X1 aC a_n s_n ++ (wd_X5 aC a_v (a_n 0) (a_d 0) out.2.2.1 ++ (wd_X4 aC a_d out.2.2.2.1 ++ (wd_X0 aC a_g s_g ++ wd_X2 aC a_r out.2.2.2.2)))))) args s 0 0 A) (F0 m 80 ls [])) (fun rec hrec x h H locs ls hZ hl => t_X8_load_L80 hX hr hrec x.1 x.2.1 x.2.2.1 x.2.2.2.1 x.2.2.2.2.1 x.2.2.2.2.2.1 x.2.2.2.2.2.2.1 x.2.2.2.2.2.2.2 h H locs ls hZ hl) FU_ (x1, x2, u5, (0 : Int32), u7.1, u7.2.1, u7.2.2, s_r) h H locs ls hZ (lv_sub hl [2, 3, 4, 1, 0] rfl)
          · replace h := k_f cd h
            clear cd
            refine lv_bipush (v := -14) hx hb dX8_load_70 (by decide) ?_
            cases h
            exact k_iretW hX hr hZ dX8_load_72
        · replace h := k_f cd h
          clear cd
          refine lv_bipush (v := -13) hx hb dX8_load_46 (by decide) ?_
          cases h
          exact k_iretW hX hr hZ dX8_load_48
      · replace h := k_f cd h
        clear cd
        refine lv_bipush (v := -11) hx hb dX8_load_32 (by decide) ?_
        cases h
        exact k_iretW hX hr hZ dX8_load_34
    · replace h := k_t cd h
      clear cd
      refine lv_bipush (v := -2) hx hb dX8_load_18 (by decide) ?_
      cases h
      exact k_iretW hX hr hZ dX8_load_20
