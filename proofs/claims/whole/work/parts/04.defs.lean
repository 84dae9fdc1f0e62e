def wd_AR (aC : Nat → ClassId) (a : Nat → Nat) (z_ar : Nat) (s : Ob_T) : va_W := [(a 0, .inl (aC 0, z_ar, .inl (o_A s 0)))]
def wd_X0 (aC : Nat → ClassId) (a : Nat → Nat) (s : Ob_T) : va_W := [(a 0, .inr (0, [.ref (a 1), .ref (a 2), .ref (a 3), .ref (a 4), .ref (a 5), .int (o_F s 5)])), (a 1, .inl (aC 0, 4, .inl (o_A s 0))), (a 2, .inl (aC 0, 8, .inl (o_A s 1))), (a 3, .inl (aC 0, 8, .inl (o_A s 2))), (a 4, .inl (aC 0, 8, .inl (o_A s 3))), (a 5, .inl (aC 1, 2, .inl (o_A s 4)))]
def wd_X1 (aC : Nat → ClassId) (a : Nat → Nat) (s : Ob_T) : va_W := [(a 0, .inr (1, [.ref (a 1), .ref (a 2), .ref (a 3), .ref (a 4), .ref (a 5), .ref (a 6), .int (o_F s 6)])), (a 1, .inl (aC 0, 10, .inl (o_A s 0))), (a 2, .inl (aC 0, 10, .inl (o_A s 1))), (a 3, .inl (aC 0, 10, .inl (o_A s 2))), (a 4, .inl (aC 0, 10, .inl (o_A s 3))), (a 5, .inl (aC 0, 10, .inl (o_A s 4))), (a 6, .inl (aC 0, 60, .inl (o_A s 5)))]
def wd_X2 (aC : Nat → ClassId) (a : Nat → Nat) (s : Ob_T) : va_W := [(a 0, .inr (2, [.ref (a 1), .ref (a 2), .ref (a 3)])), (a 1, .inl (aC 0, 30, .inl (o_A s 0))), (a 2, .inl (aC 0, 3, .inl (o_A s 1))), (a 3, .inl (aC 0, 3, .inl (o_A s 2)))]
def wd_X3 (aC : Nat → ClassId) (a : Nat → Nat) (s : Ob_T) : va_W := [(a 0, .inr (3, [.ref (a 1), .ref (a 2), .int (o_F s 2)])), (a 1, .inl (aC 0, 6, .inl (o_A s 0))), (a 2, .inl (aC 0, 6, .inl (o_A s 1)))]
def wd_X4 (aC : Nat → ClassId) (a : Nat → Nat) (s : Ob_T) : va_W := [(a 0, .inr (4, [.ref (a 1), .ref (a 2), .int (o_F s 2), .int (o_F s 3), .int (o_F s 4), .int (o_F s 5)])), (a 1, .inl (aC 2, 2, .inr (.inl (o_L s 0)))), (a 2, .inl (aC 2, 2, .inr (.inl (o_L s 1))))]
def wd_X5 (aC : Nat → ClassId) (a : Nat → Nat) (r0 : Nat) (r1 : Nat) (s : Ob_T) : va_W := [(a 0, .inr (5, [.ref r0, .ref r1, .ref (a 1), .ref (a 2), .ref (a 3), .ref (a 4), .int (o_F s 6)])), (a 1, .inl (aC 0, 14, .inl (o_A s 2))), (a 2, .inl (aC 0, 14, .inl (o_A s 3))), (a 3, .inl (aC 0, 14, .inl (o_A s 4))), (a 4, .inl (aC 0, 5, .inl (o_A s 5)))]
def wd_X6 (aC : Nat → ClassId) (a : Nat → Nat) (s : Ob_T) : va_W := [(a 0, .inr (6, [.ref (a 1), .int (o_F s 1), .int (o_F s 2), .int (o_F s 3), .int (o_F s 4), .int (o_F s 5), .int (o_F s 6), .int (o_F s 7), .int (o_F s 8)])), (a 1, .inl (aC 3, 200, .inl (o_A s 0)))]
def wd_X7 (aC : Nat → ClassId) (a : Nat → Nat) (r0 : Nat) (s : Ob_T) : va_W := [(a 0, .inr (7, [.ref r0, .ref (a 1), .ref (a 2), .int (o_F s 3), .int (o_F s 4), .int (o_F s 5)])), (a 1, .inl (aC 0, 4, .inl (o_A s 1))), (a 2, .inl (aC 0, 4, .inl (o_A s 2)))]
def wd_X8 (aC : Nat → ClassId) (a : Nat → Nat) (r0 : Nat) (r1 : Nat) (r2 : Nat) (r3 : Nat) (r4 : Nat) (r5 : Nat) (r6 : Nat) (r7 : Nat) (r8 : Nat) (s : Ob_T) : va_W := [(a 0, .inr (8, [.ref r0, .ref r1, .ref r2, .ref r3, .ref r4, .ref r5, .ref r6, .ref r7, .ref r8, .int (o_F s 9), .int (o_F s 10)]))]
def wd_X9 (aC : Nat → ClassId) (a : Nat → Nat) (s : Ob_T) : va_W := [(a 0, .inr (9, [.ref (a 1), .ref (a 2), .int (o_F s 2), .int (o_F s 3), .ref (a 3), .ref (a 4), .int (o_F s 6), .ref (a 5), .ref (a 6), .ref (a 7), .int (o_F s 10), .int (o_F s 11), .ref (a 8), .ref (a 9), .ref (a 10), .ref (a 11), .ref (a 12), .ref (a 13), .int (o_F s 18), .int (o_F s 19), .int (o_F s 20), .int (o_F s 21), .ref (a 14), .ref (a 15), .ref (a 16), .ref (a 17), .ref (a 18), .ref (a 19), .ref (a 20), .ref (a 21), .int (o_F s 30), .ref (a 22), .ref (a 23), .ref (a 24), .ref (a 25), .int (o_F s 35), .int (o_F s 36), .ref (a 26), .ref (a 27), .int (o_F s 39), .int (o_F s 40), .int (o_F s 41), .int (o_F s 42), .ref (a 28)])), (a 1, .inl (aC 0, 150, .inl (o_A s 0))), (a 2, .inl (aC 0, 150, .inl (o_A s 1))), (a 3, .inl (aC 0, 4, .inl (o_A s 4))), (a 4, .inl (aC 0, 32, .inl (o_A s 5))), (a 5, .inl (aC 0, 8, .inl (o_A s 7))), (a 6, .inl (aC 1, 2, .inl (o_A s 8))), (a 7, .inl (aC 0, 200, .inl (o_A s 9))), (a 8, .inl (aC 0, 6, .inl (o_A s 12))), (a 9, .inl (aC 0, 6, .inl (o_A s 13))), (a 10, .inl (aC 0, 6, .inl (o_A s 14))), (a 11, .inl (aC 0, 3, .inl (o_A s 15))), (a 12, .inl (aC 0, 3, .inl (o_A s 16))), (a 13, .inl (aC 0, 30, .inl (o_A s 17))), (a 14, .inl (aC 0, 7, .inl (o_A s 22))), (a 15, .inl (aC 0, 5, .inl (o_A s 23))), (a 16, .inl (aC 0, 4, .inl (o_A s 24))), (a 17, .inl (aC 0, 4, .inl (o_A s 25))), (a 18, .inl (aC 0, 4, .inl (o_A s 26))), (a 19, .inl (aC 0, 4, .inl (o_A s 27))), (a 20, .inl (aC 0, 5, .inl (o_A s 28))), (a 21, .inl (aC 0, 4, .inl (o_A s 29))), (a 22, .inl (aC 0, 14, .inl (o_A s 31))), (a 23, .inl (aC 0, 14, .inl (o_A s 32))), (a 24, .inl (aC 0, 4, .inl (o_A s 33))), (a 25, .inl (aC 0, 5, .inl (o_A s 34))), (a 26, .inl (aC 0, 6, .inl (o_A s 37))), (a 27, .inl (aC 0, 6, .inl (o_A s 38))), (a 28, .inl (aC 0, 4, .inl (o_A s 43)))]
def f_J6_bitCount_0f7a4 (x0 : Int32) : Option Int32 :=
  Lt_ ((x0 - (((x0.toUInt32 >>> ((1 : Int32).toUInt32 &&& Int32.toUInt32 31)).toInt32) &&& (1431655765 : Int32)))) fun e1 =>
  Lt_ (((e1 &&& (858993459 : Int32)) + (((e1.toUInt32 >>> ((2 : Int32).toUInt32 &&& Int32.toUInt32 31)).toInt32) &&& (858993459 : Int32)))) fun e2 =>
  Lt_ (((e2 + ((e2.toUInt32 >>> ((4 : Int32).toUInt32 &&& Int32.toUInt32 31)).toInt32)) &&& (252645135 : Int32))) fun e3 =>
  Lt_ ((e3 + ((e3.toUInt32 >>> ((8 : Int32).toUInt32 &&& Int32.toUInt32 31)).toInt32))) fun e4 =>
  Lt_ ((e4 + ((e4.toUInt32 >>> ((16 : Int32).toUInt32 &&& Int32.toUInt32 31)).toInt32))) fun e5 =>
  some (e5 &&& (63 : Int32))
def f_J7_rangeCheck_23922 (x0 : Int32) (x1 : Int32) (x2 : Int32) : Option Unit :=
  if x1 ≤ x2 then
  (if (0 : Int32) ≤ x1 then
  (if x2 ≤ x0 then
  (some ())
  else
  (none))
  else
  (none))
  else
  (none)
def f_J7_fill_53178_L5 (rec5 : (Int32 × Int32 × Int32 × Ob_T) → Option Ob_T) (x1 : Int32) (x2 : Int32) (x3 : Int32) (s_ar : Ob_T) (z_ar : Nat) : Option Ob_T :=
  if x3 ≤ x2 then
  (some s_ar)
  else
  ((st_A s_ar 0 z_ar x2 x1).bind fun o1 =>
  rec5 (x1, (x2 + (1 : Int32)), x3, o1))
def f_J7_fill_53178 (s_ar : Ob_T) (x1 : Int32) (z_ar : Nat) : Option Ob_T :=
  Lp_ (fun (rec : (Int32 × Int32 × Int32 × Ob_T) → Option Ob_T) x => f_J7_fill_53178_L5 rec x.1 x.2.1 x.2.2.1 x.2.2.2 z_ar) FU_ (x1, (0 : Int32), (Int32.ofNat z_ar), s_ar)
def f_J7_fill_fda19_L10 (rec10 : (Int32 × Int32 × Int32 × Ob_T) → Option Ob_T) (x2 : Int32) (x3 : Int32) (x4 : Int32) (s_ar : Ob_T) (z_ar : Nat) : Option Ob_T :=
  if x2 ≤ x4 then
  (some s_ar)
  else
  ((st_A s_ar 0 z_ar x4 x3).bind fun o2 =>
  rec10 (x2, x3, (x4 + (1 : Int32)), o2))
def f_J7_fill_fda19 (s_ar : Ob_T) (x1 : Int32) (x2 : Int32) (x3 : Int32) (z_ar : Nat) : Option Ob_T :=
  (f_J7_rangeCheck_23922 (Int32.ofNat z_ar) x1 x2).bind fun u1 =>
  Lp_ (fun (rec : (Int32 × Int32 × Int32 × Ob_T) → Option Ob_T) x => f_J7_fill_fda19_L10 rec x.1 x.2.1 x.2.2.1 x.2.2.2 z_ar) FU_ (x2, x3, x1, s_ar)
def f_X9_in (x0 : Int64) (x2 : Int64) (x4 : Int64) : Option Int32 :=
  if (lg_cmp x0 x2) < (0 : Int32) then
  (some (0 : Int32))
  else
  (if (0 : Int32) < (lg_cmp x0 x4) then
  (some (0 : Int32))
  else
  (some (1 : Int32)))
def f_X9_has (x0 : Int32) (x1 : Int32) : Option Int32 :=
  if ((x0 >>> (x1 &&& (31 : Int32))) &&& (1 : Int32)) = (1 : Int32) then
  (some (1 : Int32))
  else
  (some (0 : Int32))
def f_X9_bits_L4 (rec4 : (Int32 × Int32 × Int32) → Option Int32) (x0 : Int32) (x1 : Int32) (x2 : Int32) : Option Int32 :=
  if (6 : Int32) ≤ x2 then
  (some x1)
  else
  (Lt_ ((x1 + ((x0 >>> (x2 &&& (31 : Int32))) &&& (1 : Int32)))) fun e1 =>
  rec4 (x0, e1, (x2 + (1 : Int32))))
def f_X9_bits (x0 : Int32) : Option Int32 :=
  Lp_ (fun (rec : (Int32 × Int32 × Int32) → Option Int32) x => f_X9_bits_L4 rec x.1 x.2.1 x.2.2) FU_ (x0, (0 : Int32), (0 : Int32))
def f_X9_write (s_o : Ob_T) (x1 : Int32) : Option (Int32 × Ob_T) :=
  (f_X9_in x1.toInt64 (0 : Int64) (255 : Int64)).bind fun u1 =>
  if u1 = (0 : Int32) then
  (some ((-3 : Int32), s_o))
  else
  (if (o_F s_o 10) = (200 : Int32) then
  (some ((-5 : Int32), s_o))
  else
  ((st_A s_o 9 200 (o_F s_o 10) x1).bind fun o2 =>
  Lt_ (p_F o2 10 ((o_F o2 10) + (1 : Int32))) fun o3 =>
  some ((o_F o3 10), o3)))
def f_X9_erase (s_o : Ob_T) : Option (Int32 × Ob_T) :=
  Lt_ (p_F s_o 10 (0 : Int32)) fun o1 =>
  some ((o_F s_o 10), o1)
def f_X9_isLetter (x0 : Int32) : Option Int32 :=
  (f_X9_in x0.toInt64 (97 : Int64) (122 : Int64)).bind fun u1 =>
  (zb_ u1).bind fun _ =>
  some u1
def f_X9_isDigit (x0 : Int32) : Option Int32 :=
  (f_X9_in x0.toInt64 (48 : Int64) (57 : Int64)).bind fun u1 =>
  (zb_ u1).bind fun _ =>
  some u1
def f_X9_nextToken_L8 (k46 : Ob_T → Option Ob_T) (rec8 : Ob_T → Option Ob_T) (s_o : Ob_T) : Option Ob_T :=
  if (o_F s_o 10) ≤ (o_F s_o 18) then
  (k46 s_o)
  else
  ((ld_I (o_A s_o 9) 200 (o_F s_o 18)).bind fun v2 =>
  if v2 = (32 : Int32) then
  (Lt_ (p_F s_o 18 ((o_F s_o 18) + (1 : Int32))) fun o3 =>
  rec8 (o3))
  else
  (k46 s_o))
def f_X9_nextToken_L165 (rec165 : Ob_T → Option Ob_T) (s_o : Ob_T) : Option Ob_T :=
  if (o_F s_o 10) ≤ (o_F s_o 19) then
  (some s_o)
  else
  ((ld_I (o_A s_o 9) 200 (o_F s_o 19)).bind fun v7 =>
  (f_X9_isDigit v7).bind fun u8 =>
  if u8 = (0 : Int32) then
  (some s_o)
  else
  (Lt_ (p_F s_o 19 ((o_F s_o 19) + (1 : Int32))) fun o9 =>
  rec165 (o9)))
def f_X9_nextToken_J139 (s_o : Ob_T) : Option Ob_T :=
  if (o_F s_o 10) ≤ (o_F s_o 18) then
  (some s_o)
  else
  ((ld_I (o_A s_o 9) 200 (o_F s_o 18)).bind fun v5 =>
  (f_X9_isDigit v5).bind fun u6 =>
  if u6 = (0 : Int32) then
  (some s_o)
  else
  (Lp_ (fun (rec : Ob_T → Option Ob_T) x => f_X9_nextToken_L165 rec x) FU_ (s_o)))
def f_X9_nextToken_L100 (rec100 : Ob_T → Option Ob_T) (s_o : Ob_T) : Option Ob_T :=
  if (o_F s_o 10) ≤ (o_F s_o 19) then
  (some s_o)
  else
  ((ld_I (o_A s_o 9) 200 (o_F s_o 19)).bind fun v12 =>
  (f_X9_isLetter v12).bind fun u13 =>
  if u13 = (0 : Int32) then
  (some s_o)
  else
  (Lt_ (p_F s_o 19 ((o_F s_o 19) + (1 : Int32))) fun o14 =>
  rec100 (o14)))
def f_X9_nextToken_J71 (k1 : Int32) (s_o : Ob_T) : Option Ob_T :=
  Lt_ (p_F s_o 19 k1) fun o4 =>
  if (o_F o4 10) ≤ (o_F o4 18) then
  (f_X9_nextToken_J139 o4)
  else
  ((ld_I (o_A o4 9) 200 (o_F o4 18)).bind fun v10 =>
  (f_X9_isLetter v10).bind fun u11 =>
  if u11 = (0 : Int32) then
  (f_X9_nextToken_J139 o4)
  else
  (Lp_ (fun (rec : Ob_T → Option Ob_T) x => f_X9_nextToken_L100 rec x) FU_ (o4)))
def f_X9_nextToken_J46 (s_o : Ob_T) : Option Ob_T :=
  if (o_F s_o 10) ≤ (o_F s_o 18) then
  (f_X9_nextToken_J71 (o_F s_o 18) s_o)
  else
  (f_X9_nextToken_J71 ((o_F s_o 18) + (1 : Int32)) s_o)
def f_X9_nextToken (s_o : Ob_T) : Option Ob_T :=
  Lt_ (p_F s_o 18 (o_F s_o 19)) fun o1 =>
  Lp_ (fun (rec : Ob_T → Option Ob_T) x => f_X9_nextToken_L8 (fun t_o => f_X9_nextToken_J46 t_o) rec x) FU_ (o1)
def f_X9_isWord_L22 (rec22 : (Int32 × Int32) → Option Int32) (x2 : Int32) (x3 : Int32) (s_o : Ob_T) (f1 : Nat → Int32) (z1 : Nat) : Option Int32 :=
  if (Int32.ofNat z1) ≤ x3 then
  ((zb_ x2).bind fun _ =>
  some x2)
  else
  (if x2 = (0 : Int32) then
  ((zb_ x2).bind fun _ =>
  some x2)
  else
  ((ld_I (o_A s_o 9) 200 ((o_F s_o 18) + x3)).bind fun v3 =>
  (ld_I f1 z1 x3).bind fun v4 =>
  if v3 = v4 then
  (rec22 ((1 : Int32), (x3 + (1 : Int32))))
  else
  (rec22 ((0 : Int32), (x3 + (1 : Int32))))))
def f_X9_isWord_J19 (k0 : Int32) (s_o : Ob_T) (f1 : Nat → Int32) (z1 : Nat) : Option Int32 :=
  Lp_ (fun (rec : (Int32 × Int32) → Option Int32) x => f_X9_isWord_L22 rec x.1 x.2 s_o f1 z1) FU_ (k0, (0 : Int32))
def f_X9_isWord (s_o : Ob_T) (f1 : Nat → Int32) (z1 : Nat) : Option Int32 :=
  if ((o_F s_o 19) - (o_F s_o 18)) = (Int32.ofNat z1) then
  (f_X9_isWord_J19 (1 : Int32) s_o f1 z1)
  else
  (f_X9_isWord_J19 (0 : Int32) s_o f1 z1)
def f_X9_readsNumber_J90 (x1 : Int32) (x2 : Int32) (k0 : Int32) (s_o : Ob_T) : Option (Int32 × Ob_T) :=
  (f_X9_in k0.toInt64 x1.toInt64 x2.toInt64).bind fun u4 =>
  if u4 = (0 : Int32) then
  ((zb_ u4).bind fun _ =>
  some (u4, s_o))
  else
  (Lt_ (p_F s_o 21 k0) fun o6 =>
  (f_X9_nextToken o6).bind fun u7 =>
  (zb_ u4).bind fun _ =>
  some (u4, u7))
def f_X9_readsNumber (s_o : Ob_T) (x1 : Int32) (x2 : Int32) : Option (Int32 × Ob_T) :=
  if (o_F s_o 18) = (o_F s_o 10) then
  (some ((0 : Int32), s_o))
  else
  ((ld_I (o_A s_o 9) 200 (o_F s_o 18)).bind fun v1 =>
  (f_X9_isDigit v1).bind fun u2 =>
  if u2 = (0 : Int32) then
  (some ((0 : Int32), s_o))
  else
  (if ((o_F s_o 19) - (o_F s_o 18)) ≤ (2 : Int32) then
  ((ld_I (o_A s_o 9) 200 (o_F s_o 18)).bind fun v3 =>
  if ((o_F s_o 19) - (o_F s_o 18)) = (2 : Int32) then
  ((ld_I (o_A s_o 9) 200 ((o_F s_o 18) + (1 : Int32))).bind fun v9 =>
  f_X9_readsNumber_J90 x1 x2 ((((10 : Int32) * (v3 - (48 : Int32))) + v9) - (48 : Int32)) s_o)
  else
  (f_X9_readsNumber_J90 x1 x2 (v3 - (48 : Int32)) s_o))
  else
  (some ((0 : Int32), s_o))))
def f_X9_isEnd (s_o : Ob_T) : Option Int32 :=
  if (o_F s_o 18) = (o_F s_o 10) then
  (some (1 : Int32))
  else
  ((ld_I (o_A s_o 9) 200 (o_F s_o 18)).bind fun v1 =>
  if v1 = (59 : Int32) then
  (some (1 : Int32))
  else
  (some (0 : Int32)))
def f_X9_readsExtents_J134 (rec0 : (Int32 × Ob_T) → Option (Int32 × Ob_T)) (x1 : Int32) (s_o : Ob_T) : Option (Int32 × Ob_T) :=
  (ld_I (o_A s_o 1) 150 (x1 + (4 : Int32))).bind fun v7 =>
  (st_A s_o 1 150 (x1 + (4 : Int32)) (v7 + (1 : Int32))).bind fun o8 =>
  rec0 (x1, o8)
def f_X9_readsExtents_L0 (rec0 : (Int32 × Ob_T) → Option (Int32 × Ob_T)) (x1 : Int32) (s_o : Ob_T) : Option (Int32 × Ob_T) :=
  (f_X9_isEnd s_o).bind fun u1 =>
  if u1 = (0 : Int32) then
  ((ld_I (o_A s_o 1) 150 (x1 + (4 : Int32))).bind fun v2 =>
  if v2 = (3 : Int32) then
  (some ((0 : Int32), s_o))
  else
  ((ld_I (o_A s_o 9) 200 (o_F s_o 18)).bind fun v3 =>
  (f_X9_isLetter v3).bind fun u4 =>
  if u4 = (0 : Int32) then
  ((f_X9_readsNumber s_o (0 : Int32) (9 : Int32)).bind fun u5 =>
  if u5.1 = (0 : Int32) then
  (some ((0 : Int32), u5.2))
  else
  ((st_A u5.2 1 150 ((x1 + (5 : Int32)) + v2) (o_F u5.2 21)).bind fun o6 =>
  f_X9_readsExtents_J134 rec0 x1 o6))
  else
  (if (1 : Int32) < ((o_F s_o 19) - (o_F s_o 18)) then
  (some ((0 : Int32), s_o))
  else
  ((ld_I (o_A s_o 9) 200 (o_F s_o 18)).bind fun v9 =>
  (f_X9_in v9.toInt64 (117 : Int64) (120 : Int64)).bind fun u10 =>
  if u10 = (0 : Int32) then
  (some ((0 : Int32), s_o))
  else
  ((ld_I (o_A s_o 9) 200 (o_F s_o 18)).bind fun v11 =>
  (st_A s_o 1 150 ((x1 + (5 : Int32)) + v2) (((20000 : Int32) + v11) - (117 : Int32))).bind fun o12 =>
  (f_X9_nextToken o12).bind fun u13 =>
  f_X9_readsExtents_J134 rec0 x1 u13)))))
  else
  (some ((1 : Int32), s_o))
def f_X9_readsExtents (s_o : Ob_T) (x1 : Int32) : Option (Int32 × Ob_T) :=
  Lp_ (fun (rec : (Int32 × Ob_T) → Option (Int32 × Ob_T)) x => f_X9_readsExtents_L0 rec x.1 x.2) FU_ (x1, s_o)
def f_X9_readsNode (s_o : Ob_T) (x1 : Int32) (x2 : Int32) : Option (Int32 × Ob_T) :=
  (f_X9_readsNumber s_o (0 : Int32) ((o_F s_o 3) - (1 : Int32))).bind fun u1 =>
  (st_A u1.2 1 150 (x1 + x2) (o_F u1.2 21)).bind fun o2 =>
  (zb_ u1.1).bind fun _ =>
  some (u1.1, o2)
def f_X9_readsRank_J77 (x3 : Int32) (k1 : Int32) (k2 : Int32) (s_o : Ob_T) : Option (Int32 × Ob_T) :=
  (st_A s_o 1 150 k1 k2).bind fun o2 =>
  (zb_ x3).bind fun _ =>
  some (x3, o2)
def f_X9_readsRank_J49 (x1 : Int32) (x2 : Int32) (k1 : Int32) (s_o : Ob_T) : Option (Int32 × Ob_T) :=
  (f_X9_readsNumber s_o k1 (3 : Int32)).bind fun u1 =>
  if x2 = (0 : Int32) then
  (f_X9_readsRank_J77 u1.1 (x1 + (3 : Int32)) (o_F u1.2 21) u1.2)
  else
  (f_X9_readsRank_J77 u1.1 (x1 + (3 : Int32)) (-(o_F u1.2 21)) u1.2)
def f_X9_readsRank_J39 (x1 : Int32) (x2 : Int32) (s_o : Ob_T) : Option (Int32 × Ob_T) :=
  if x2 = (0 : Int32) then
  (f_X9_readsRank_J49 x1 x2 (0 : Int32) s_o)
  else
  (f_X9_readsRank_J49 x1 x2 (1 : Int32) s_o)
def f_X9_readsRank_J30 (x1 : Int32) (k0 : Int32) (s_o : Ob_T) : Option (Int32 × Ob_T) :=
  if k0 = (0 : Int32) then
  (f_X9_readsRank_J39 x1 k0 s_o)
  else
  ((f_X9_nextToken s_o).bind fun u4 =>
  f_X9_readsRank_J39 x1 k0 u4)
def f_X9_readsRank_J29 (x1 : Int32) (s_o : Ob_T) : Option (Int32 × Ob_T) :=
  f_X9_readsRank_J30 x1 (0 : Int32) s_o
def f_X9_readsRank (s_o : Ob_T) (x1 : Int32) : Option (Int32 × Ob_T) :=
  if (o_F s_o 10) ≤ (o_F s_o 18) then
  (f_X9_readsRank_J29 x1 s_o)
  else
  ((ld_I (o_A s_o 9) 200 (o_F s_o 18)).bind fun v5 =>
  if v5 = (45 : Int32) then
  (f_X9_readsRank_J30 x1 (1 : Int32) s_o)
  else
  (f_X9_readsRank_J29 x1 s_o))
def f_X9_kindHere (s_o : Ob_T) : Option Int32 :=
  (f_X9_isWord s_o (o_A s_o 23) 5).bind fun u1 =>
  if u1 = (0 : Int32) then
  ((f_X9_isWord s_o (o_A s_o 24) 4).bind fun u2 =>
  if u2 = (0 : Int32) then
  ((f_X9_isWord s_o (o_A s_o 25) 4).bind fun u3 =>
  if u3 = (0 : Int32) then
  ((f_X9_isWord s_o (o_A s_o 26) 4).bind fun u4 =>
  if u4 = (0 : Int32) then
  ((f_X9_isWord s_o (o_A s_o 27) 4).bind fun u5 =>
  if u5 = (0 : Int32) then
  ((f_X9_isWord s_o (o_A s_o 28) 5).bind fun u6 =>
  if u6 = (0 : Int32) then
  ((f_X9_isWord s_o (o_A s_o 29) 4).bind fun u7 =>
  if u7 = (0 : Int32) then
  (some (-1 : Int32))
  else
  (some (6 : Int32)))
  else
  (some (5 : Int32)))
  else
  (some (4 : Int32)))
  else
  (some (3 : Int32)))
  else
  (some (2 : Int32)))
  else
  (some (1 : Int32)))
  else
  (some (0 : Int32))
def f_X9_readsArguments_J62 (x1 : Int32) (s_o : Ob_T) : Option (Int32 × Ob_T) :=
  (f_X9_readsExtents s_o x1).bind fun u1 =>
  if u1.1 = (0 : Int32) then
  (some ((0 : Int32), u1.2))
  else
  (some ((1 : Int32), u1.2))
def f_X9_readsArguments_J47 (x1 : Int32) (x2 : Int32) (k0 : Int32) (s_o : Ob_T) : Option (Int32 × Ob_T) :=
  if k0 = (0 : Int32) then
  (some ((0 : Int32), s_o))
  else
  (if x2 = (0 : Int32) then
  (f_X9_readsArguments_J62 x1 s_o)
  else
  (if x2 = (6 : Int32) then
  (f_X9_readsArguments_J62 x1 s_o)
  else
  ((f_X9_readsRank s_o x1).bind fun u2 =>
  if u2.1 = (0 : Int32) then
  (some ((0 : Int32), u2.2))
  else
  (some ((1 : Int32), u2.2)))))
def f_X9_readsArguments_J46 (x1 : Int32) (x2 : Int32) (s_o : Ob_T) : Option (Int32 × Ob_T) :=
  f_X9_readsArguments_J47 x1 x2 (0 : Int32) s_o
def f_X9_readsArguments_J42 (x1 : Int32) (x2 : Int32) (s_o : Ob_T) : Option (Int32 × Ob_T) :=
  f_X9_readsArguments_J47 x1 x2 (1 : Int32) s_o
def f_X9_readsArguments_J33 (x1 : Int32) (x2 : Int32) (s_o : Ob_T) : Option (Int32 × Ob_T) :=
  (f_X9_readsNode s_o x1 (2 : Int32)).bind fun u3 =>
  if u3.1 = (0 : Int32) then
  (f_X9_readsArguments_J46 x1 x2 u3.2)
  else
  (f_X9_readsArguments_J42 x1 x2 u3.2)
def f_X9_readsArguments_J18 (x1 : Int32) (x2 : Int32) (k0 : Int32) (s_o : Ob_T) : Option (Int32 × Ob_T) :=
  if k0 = (0 : Int32) then
  (f_X9_readsArguments_J46 x1 x2 s_o)
  else
  (if x2 = (1 : Int32) then
  (f_X9_readsArguments_J33 x1 x2 s_o)
  else
  (if x2 = (2 : Int32) then
  (f_X9_readsArguments_J33 x1 x2 s_o)
  else
  (f_X9_readsArguments_J42 x1 x2 s_o)))
def f_X9_readsArguments_J13 (x1 : Int32) (x2 : Int32) (s_o : Ob_T) : Option (Int32 × Ob_T) :=
  f_X9_readsArguments_J18 x1 x2 (1 : Int32) s_o
def f_X9_readsArguments (s_o : Ob_T) (x1 : Int32) (x2 : Int32) : Option (Int32 × Ob_T) :=
  if x2 = (0 : Int32) then
  (f_X9_readsArguments_J13 x1 x2 s_o)
  else
  ((f_X9_readsNode s_o x1 (1 : Int32)).bind fun u4 =>
  if u4.1 = (0 : Int32) then
  (f_X9_readsArguments_J18 x1 x2 (0 : Int32) u4.2)
  else
  (f_X9_readsArguments_J13 x1 x2 u4.2))
def f_X9_layExtent_J14 (x1 : Int32) (x2 : Int32) (s_o : Ob_T) : Option Ob_T :=
  if (o_F s_o 30) < (0 : Int32) then
  (some s_o)
  else
  ((st_A s_o 1 150 ((((15 : Int32) * x1) + (9 : Int32)) + (o_F s_o 30)) x2).bind fun o1 =>
  Lt_ (p_F o1 30 ((o_F o1 30) + (1 : Int32))) fun o2 =>
  some o2)
def f_X9_layExtent (s_o : Ob_T) (x1 : Int32) (x2 : Int32) : Option Ob_T :=
  if (o_F s_o 30) = (6 : Int32) then
  (Lt_ (p_F s_o 30 (-1 : Int32)) fun o3 =>
  f_X9_layExtent_J14 x1 x2 o3)
  else
  (f_X9_layExtent_J14 x1 x2 s_o)
def f_X9_longOf (s_o : Ob_T) (x1 : Int32) : Option Int32 :=
  (ld_I (o_A s_o 1) 150 (((15 : Int32) * x1) + (8 : Int32))).bind fun v1 =>
  some v1
def f_X9_frameOf (x0 : Int32) (x1 : Int32) : Option Int32 :=
  if (0 : Int32) ≤ x1 then
  (if x1 ≤ x0 then
  (some (x0 - x1))
  else
  (some (0 : Int32)))
  else
  (if (-x1) ≤ x0 then
  (some (-x1))
  else
  (some x0))
def f_X9_extentOf (s_o : Ob_T) (x1 : Int32) (x2 : Int32) : Option Int32 :=
  (ld_I (o_A s_o 1) 150 ((((15 : Int32) * x1) + (9 : Int32)) + x2)).bind fun v1 =>
  some v1
def f_X9_layExtents_L3 (rec3 : (Int32 × Int32 × Int32 × Int32 × Ob_T) → Option Ob_T) (x1 : Int32) (x2 : Int32) (x4 : Int32) (x5 : Int32) (s_o : Ob_T) : Option Ob_T :=
  if x4 ≤ x5 then
  (some s_o)
  else
  ((f_X9_extentOf s_o x2 x5).bind fun u1 =>
  (f_X9_layExtent s_o x1 u1).bind fun u2 =>
  rec3 (x1, x2, x4, (x5 + (1 : Int32)), u2))
def f_X9_layExtents (s_o : Ob_T) (x1 : Int32) (x2 : Int32) (x3 : Int32) (x4 : Int32) : Option Ob_T :=
  Lp_ (fun (rec : (Int32 × Int32 × Int32 × Int32 × Ob_T) → Option Ob_T) x => f_X9_layExtents_L3 rec x.1 x.2.1 x.2.2.1 x.2.2.2.1 x.2.2.2.2) FU_ (x1, x2, x4, x3, s_o)
def f_X9_layTwo_J223 (k1 : Int32) (k2 : Int32) (k3 : Int32) (k4 : Int32) (s_o : Ob_T) : Option Ob_T :=
  (f_X9_layExtents s_o k1 k2 k3 k4).bind fun u13 =>
  some u13
def f_X9_layTwo_J200 (x4 : Int32) (x5 : Int32) (x8 : Int32) (x9 : Int32) (k1 : Int32) (k2 : Int32) (k3 : Int32) (s_o : Ob_T) : Option Ob_T :=
  if x8 = (0 : Int32) then
  ((f_X9_longOf s_o x5).bind fun u12 =>
  f_X9_layTwo_J223 k1 k2 (k3 + x9) u12 s_o)
  else
  ((f_X9_longOf s_o x4).bind fun u14 =>
  f_X9_layTwo_J223 k1 k2 (k3 + x9) u14 s_o)
def f_X9_layTwo_J188 (x4 : Int32) (x5 : Int32) (x6 : Int32) (x7 : Int32) (x8 : Int32) (x9 : Int32) (k1 : Int32) (k2 : Int32) (s_o : Ob_T) : Option Ob_T :=
  if x8 = (0 : Int32) then
  (f_X9_layTwo_J200 x4 x5 x8 x9 k1 k2 x7 s_o)
  else
  (f_X9_layTwo_J200 x4 x5 x8 x9 k1 k2 x6 s_o)
def f_X9_layTwo_J172 (x1 : Int32) (x4 : Int32) (x5 : Int32) (x6 : Int32) (x7 : Int32) (x9 : Int32) (k0 : Int32) (s_o : Ob_T) : Option Ob_T :=
  if k0 = (0 : Int32) then
  (f_X9_layTwo_J188 x4 x5 x6 x7 k0 x9 x1 x5 s_o)
  else
  (f_X9_layTwo_J188 x4 x5 x6 x7 k0 x9 x1 x4 s_o)
def f_X9_layTwo_J132 (x1 : Int32) (x4 : Int32) (x5 : Int32) (x6 : Int32) (x7 : Int32) (x9 : Int32) (s_o : Ob_T) : Option Ob_T :=
  (f_X9_longOf s_o x4).bind fun u10 =>
  (f_X9_longOf s_o x5).bind fun u11 =>
  if ((u10 - x6) - x9) < ((u11 - x7) - x9) then
  (f_X9_layTwo_J172 x1 x4 x5 x6 x7 x9 (0 : Int32) s_o)
  else
  (f_X9_layTwo_J172 x1 x4 x5 x6 x7 x9 (1 : Int32) s_o)
def f_X9_layTwo_J116 (x1 : Int32) (x2 : Int32) (x4 : Int32) (x5 : Int32) (x6 : Int32) (x7 : Int32) (k0 : Int32) (s_o : Ob_T) : Option Ob_T :=
  if x2 = (0 : Int32) then
  (f_X9_layTwo_J132 x1 x4 x5 x6 x7 k0 s_o)
  else
  ((f_X9_layExtent s_o x1 ((20004 : Int32) + x1)).bind fun u15 =>
  f_X9_layTwo_J132 x1 x4 x5 x6 x7 k0 u15)
def f_X9_layTwo_J104 (x1 : Int32) (x2 : Int32) (x4 : Int32) (x5 : Int32) (x6 : Int32) (x7 : Int32) (k1 : Int32) (k2 : Int32) (k3 : Int32) (k4 : Int32) (s_o : Ob_T) : Option Ob_T :=
  (f_X9_layExtents s_o k1 k2 k3 k4).bind fun u9 =>
  if x2 = (0 : Int32) then
  (f_X9_layTwo_J116 x1 x2 x4 x5 x6 x7 (0 : Int32) u9)
  else
  (f_X9_layTwo_J116 x1 x2 x4 x5 x6 x7 (1 : Int32) u9)
def f_X9_layTwo_J91 (x1 : Int32) (x2 : Int32) (x4 : Int32) (x5 : Int32) (x6 : Int32) (x7 : Int32) (x8 : Int32) (k1 : Int32) (k2 : Int32) (s_o : Ob_T) : Option Ob_T :=
  if x8 = (0 : Int32) then
  (f_X9_layTwo_J104 x1 x2 x4 x5 x6 x7 k1 k2 (0 : Int32) x7 s_o)
  else
  (f_X9_layTwo_J104 x1 x2 x4 x5 x6 x7 k1 k2 (0 : Int32) x6 s_o)
def f_X9_layTwo_J75 (x1 : Int32) (x2 : Int32) (x4 : Int32) (x5 : Int32) (x6 : Int32) (x7 : Int32) (k0 : Int32) (s_o : Ob_T) : Option Ob_T :=
  if k0 = (0 : Int32) then
  (f_X9_layTwo_J91 x1 x2 x4 x5 x6 x7 k0 x1 x5 s_o)
  else
  (f_X9_layTwo_J91 x1 x2 x4 x5 x6 x7 k0 x1 x4 s_o)
def f_X9_layTwo (s_o : Ob_T) (x1 : Int32) (x2 : Int32) : Option Ob_T :=
  (ld_I (o_A s_o 1) 150 (((15 : Int32) * x1) + (1 : Int32))).bind fun v1 =>
  (ld_I (o_A s_o 1) 150 (((15 : Int32) * x1) + (2 : Int32))).bind fun v2 =>
  (f_X9_longOf s_o v1).bind fun u3 =>
  (ld_I (o_A s_o 1) 150 (((15 : Int32) * x1) + (3 : Int32))).bind fun v4 =>
  (f_X9_frameOf u3 v4).bind fun u5 =>
  (f_X9_longOf s_o v2).bind fun u6 =>
  (ld_I (o_A s_o 1) 150 (((15 : Int32) * x1) + (3 : Int32))).bind fun v7 =>
  (f_X9_frameOf u6 v7).bind fun u8 =>
  if u5 < u8 then
  (f_X9_layTwo_J75 x1 x2 v1 v2 u5 u8 (0 : Int32) s_o)
  else
  (f_X9_layTwo_J75 x1 x2 v1 v2 u5 u8 (1 : Int32) s_o)
def f_X9_layOne (s_o : Ob_T) (x1 : Int32) (x2 : Int32) : Option Ob_T :=
  (ld_I (o_A s_o 1) 150 (((15 : Int32) * x1) + (1 : Int32))).bind fun v1 =>
  (f_X9_longOf s_o v1).bind fun u2 =>
  (ld_I (o_A s_o 1) 150 (((15 : Int32) * x1) + (3 : Int32))).bind fun v3 =>
  (f_X9_frameOf u2 v3).bind fun u4 =>
  if x2 = (3 : Int32) then
  ((f_X9_longOf s_o v1).bind fun u9 =>
  (f_X9_layExtents s_o x1 v1 (0 : Int32) u9).bind fun u10 =>
  some u10)
  else
  ((f_X9_layExtents s_o x1 v1 (0 : Int32) u4).bind fun u5 =>
  if x2 = (5 : Int32) then
  ((f_X9_layExtent u5 x1 ((20004 : Int32) + x1)).bind fun u8 =>
  some u8)
  else
  ((f_X9_longOf u5 v1).bind fun u6 =>
  (f_X9_layExtents u5 x1 v1 (u4 + (1 : Int32)) u6).bind fun u7 =>
  some u7))
def f_X9_laysShape_L32 (k67 : Int32 → Ob_T → Option (Int32 × Ob_T)) (rec32 : (Int32 × Int32 × Int32 × Ob_T) → Option (Int32 × Ob_T)) (x1 : Int32) (x2 : Int32) (x4 : Int32) (s_o : Ob_T) : Option (Int32 × Ob_T) :=
  (ld_I (o_A s_o 1) 150 (x2 + (4 : Int32))).bind fun v3 =>
  if v3 ≤ x4 then
  (k67 x2 s_o)
  else
  ((ld_I (o_A s_o 1) 150 ((x2 + (5 : Int32)) + x4)).bind fun v4 =>
  (f_X9_layExtent s_o x1 v4).bind fun u5 =>
  rec32 (x1, x2, (x4 + (1 : Int32)), u5))
def f_X9_laysShape_J104 (x2 : Int32) (s_o : Ob_T) : Option (Int32 × Ob_T) :=
  (st_A s_o 1 150 (x2 + (8 : Int32)) (o_F s_o 30)).bind fun o6 =>
  if (o_F o6 30) < (0 : Int32) then
  (some ((0 : Int32), o6))
  else
  (some ((1 : Int32), o6))
def f_X9_laysShape_J67 (x2 : Int32) (s_o : Ob_T) : Option (Int32 × Ob_T) :=
  f_X9_laysShape_J104 x2 s_o
def f_X9_laysShape_J29 (x1 : Int32) (x2 : Int32) (s_o : Ob_T) : Option (Int32 × Ob_T) :=
  Lp_ (fun (rec : (Int32 × Int32 × Int32 × Ob_T) → Option (Int32 × Ob_T)) x => f_X9_laysShape_L32 (fun y2 t_o => f_X9_laysShape_J67 y2 t_o) rec x.1 x.2.1 x.2.2.1 x.2.2.2) FU_ (x1, x2, (0 : Int32), s_o)
def f_X9_laysShape_J92 (x2 : Int32) (k1 : Int32) (k2 : Int32) (s_o : Ob_T) : Option (Int32 × Ob_T) :=
  (f_X9_layTwo s_o k1 k2).bind fun u7 =>
  f_X9_laysShape_J104 x2 u7
def f_X9_laysShape_J80 (x1 : Int32) (x2 : Int32) (x3 : Int32) (s_o : Ob_T) : Option (Int32 × Ob_T) :=
  if x3 = (2 : Int32) then
  (f_X9_laysShape_J92 x2 x1 (1 : Int32) s_o)
  else
  (f_X9_laysShape_J92 x2 x1 (0 : Int32) s_o)
def f_X9_laysShape (s_o : Ob_T) (x1 : Int32) : Option (Int32 × Ob_T) :=
  (ld_I (o_A s_o 1) 150 (((15 : Int32) * x1) + (0 : Int32))).bind fun v1 =>
  Lt_ (p_F s_o 30 (0 : Int32)) fun o2 =>
  if v1 = (0 : Int32) then
  (f_X9_laysShape_J29 x1 ((15 : Int32) * x1) o2)
  else
  (if v1 = (6 : Int32) then
  (f_X9_laysShape_J29 x1 ((15 : Int32) * x1) o2)
  else
  (if v1 = (1 : Int32) then
  (f_X9_laysShape_J80 x1 ((15 : Int32) * x1) v1 o2)
  else
  (if v1 = (2 : Int32) then
  (f_X9_laysShape_J80 x1 ((15 : Int32) * x1) v1 o2)
  else
  ((f_X9_layOne o2 x1 v1).bind fun u8 =>
  f_X9_laysShape_J104 ((15 : Int32) * x1) u8))))
def f_X9_readsClause_L59 (k82 : Int32 → Int32 → Int32 → Ob_T → Option (Int32 × Ob_T)) (rec59 : (Int32 × Int32 × Int32 × Int32 × Ob_T) → Option (Int32 × Ob_T)) (x1 : Int32) (x2 : Int32) (x3 : Int32) (x4 : Int32) (s_o : Ob_T) : Option (Int32 × Ob_T) :=
  if (15 : Int32) ≤ x4 then
  (k82 x1 x2 x3 s_o)
  else
  ((st_A s_o 1 150 (x3 + x4) (-1 : Int32)).bind fun o3 =>
  rec59 (x1, x2, x3, (x4 + (1 : Int32)), o3))
def f_X9_readsClause_J82 (x1 : Int32) (x2 : Int32) (x3 : Int32) (s_o : Ob_T) : Option (Int32 × Ob_T) :=
  (st_A s_o 1 150 (x3 + (0 : Int32)) x1).bind fun o4 =>
  (st_A o4 1 150 (x3 + (4 : Int32)) (0 : Int32)).bind fun o5 =>
  (f_X9_nextToken o5).bind fun u6 =>
  (f_X9_readsArguments u6 x3 x1).bind fun u7 =>
  if u7.1 = (0 : Int32) then
  (some ((0 : Int32), u7.2))
  else
  ((f_X9_laysShape u7.2 (o_F u7.2 3)).bind fun u8 =>
  if u8.1 = (0 : Int32) then
  (Lt_ (p_F u8.2 18 x2) fun o10 =>
  some ((0 : Int32), o10))
  else
  (Lt_ (p_F u8.2 3 ((o_F u8.2 3) + (1 : Int32))) fun o9 =>
  some ((1 : Int32), o9)))
def f_X9_readsClause (s_o : Ob_T) : Option (Int32 × Ob_T) :=
  (f_X9_isWord s_o (o_A s_o 22) 7).bind fun u1 =>
  if u1 = (0 : Int32) then
  ((f_X9_kindHere s_o).bind fun u2 =>
  if u2 = (-1 : Int32) then
  (some ((0 : Int32), s_o))
  else
  (if (o_F s_o 3) = (10 : Int32) then
  (some ((0 : Int32), s_o))
  else
  (Lp_ (fun (rec : (Int32 × Int32 × Int32 × Int32 × Ob_T) → Option (Int32 × Ob_T)) x => f_X9_readsClause_L59 (fun y1 y2 y3 t_o => f_X9_readsClause_J82 y1 y2 y3 t_o) rec x.1 x.2.1 x.2.2.1 x.2.2.2.1 x.2.2.2.2) FU_ (u2, (o_F s_o 18), ((15 : Int32) * (o_F s_o 3)), (0 : Int32), s_o))))
  else
  ((f_X9_nextToken s_o).bind fun u11 =>
  Lt_ (p_F u11 3 (0 : Int32)) fun o12 =>
  some ((1 : Int32), o12))
def f_X9_reads_L2 (k27 : Ob_T → Option (Int32 × Ob_T)) (rec2 : (Int32 × Ob_T) → Option (Int32 × Ob_T)) (x1 : Int32) (s_o : Ob_T) : Option (Int32 × Ob_T) :=
  if (150 : Int32) ≤ x1 then
  (k27 s_o)
  else
  ((ld_I (o_A s_o 0) 150 x1).bind fun v1 =>
  (st_A s_o 1 150 x1 v1).bind fun o2 =>
  rec2 ((x1 + (1 : Int32)), o2))
def f_X9_reads_J97 (rec54 : (Int32 × Ob_T) → Option (Int32 × Ob_T)) (k0 : Int32) (s_o : Ob_T) : Option (Int32 × Ob_T) :=
  if k0 = (0 : Int32) then
  (rec54 (k0, s_o))
  else
  ((f_X9_nextToken s_o).bind fun u10 =>
  (f_X9_readsClause u10).bind fun u11 =>
  Lt_ (p_F u11.2 20 ((o_F u11.2 20) + (1 : Int32))) fun o12 =>
  rec54 (u11.1, o12))
def f_X9_reads_J96 (rec54 : (Int32 × Ob_T) → Option (Int32 × Ob_T)) (s_o : Ob_T) : Option (Int32 × Ob_T) :=
  f_X9_reads_J97 rec54 (0 : Int32) s_o
def f_X9_reads_L54 (rec54 : (Int32 × Ob_T) → Option (Int32 × Ob_T)) (x1 : Int32) (s_o : Ob_T) : Option (Int32 × Ob_T) :=
  if x1 = (0 : Int32) then
  ((zb_ x1).bind fun _ =>
  some (x1, s_o))
  else
  (if (o_F s_o 10) ≤ (o_F s_o 18) then
  ((zb_ x1).bind fun _ =>
  some (x1, s_o))
  else
  (if (24 : Int32) ≤ (o_F s_o 20) then
  (f_X9_reads_J96 rec54 s_o)
  else
  ((ld_I (o_A s_o 9) 200 (o_F s_o 18)).bind fun v13 =>
  if v13 = (59 : Int32) then
  (f_X9_reads_J97 rec54 (1 : Int32) s_o)
  else
  (f_X9_reads_J96 rec54 s_o))))
def f_X9_reads_J27 (s_o : Ob_T) : Option (Int32 × Ob_T) :=
  Lt_ (p_F s_o 3 (o_F s_o 2)) fun o3 =>
  Lt_ (p_F o3 19 (0 : Int32)) fun o4 =>
  Lt_ (p_F o4 20 (1 : Int32)) fun o5 =>
  (f_X9_nextToken o5).bind fun u6 =>
  (f_X9_readsClause u6).bind fun u7 =>
  Lp_ (fun (rec : (Int32 × Ob_T) → Option (Int32 × Ob_T)) x => f_X9_reads_L54 rec x.1 x.2) FU_ (u7.1, u7.2)
def f_X9_reads (s_o : Ob_T) : Option (Int32 × Ob_T) :=
  Lp_ (fun (rec : (Int32 × Ob_T) → Option (Int32 × Ob_T)) x => f_X9_reads_L2 (fun t_o => f_X9_reads_J27 t_o) rec x.1 x.2) FU_ ((0 : Int32), s_o)
def f_X9_fault (s_o : Ob_T) : Option (Int32 × Ob_T) :=
  (f_X9_reads s_o).bind fun u1 =>
  if u1.1 = (0 : Int32) then
  (some ((o_F u1.2 18), u1.2))
  else
  (some ((-1 : Int32), u1.2))
def f_X9_program_L12 (k37 : Ob_T → Option (Int32 × Ob_T)) (rec12 : (Int32 × Ob_T) → Option (Int32 × Ob_T)) (x1 : Int32) (s_o : Ob_T) : Option (Int32 × Ob_T) :=
  if (150 : Int32) ≤ x1 then
  (k37 s_o)
  else
  ((ld_I (o_A s_o 1) 150 x1).bind fun v2 =>
  (st_A s_o 0 150 x1 v2).bind fun o3 =>
  rec12 ((x1 + (1 : Int32)), o3))
def f_X9_program_L52 (k70 : Ob_T → Option (Int32 × Ob_T)) (rec52 : (Int32 × Ob_T) → Option (Int32 × Ob_T)) (x1 : Int32) (s_o : Ob_T) : Option (Int32 × Ob_T) :=
  if (4 : Int32) ≤ x1 then
  (k70 s_o)
  else
  ((st_A s_o 4 4 x1 (-1 : Int32)).bind fun o6 =>
  rec52 ((x1 + (1 : Int32)), o6))
def f_X9_program_L96 (rec96 : (Int32 × Ob_T) → Option (Int32 × Ob_T)) (x1 : Int32) (s_o : Ob_T) : Option (Int32 × Ob_T) :=
  if (3 : Int32) ≤ x1 then
  (some ((o_F s_o 20), s_o))
  else
  ((st_A s_o 16 3 x1 (-1 : Int32)).bind fun o11 =>
  rec96 ((x1 + (1 : Int32)), o11))
def f_X9_program_J70 (s_o : Ob_T) : Option (Int32 × Ob_T) :=
  Lt_ (p_F s_o 6 (0 : Int32)) fun o7 =>
  (st_A o7 8 2 (0 : Int32) (vp_nar .boolean (0 : Int32))).bind fun o8 =>
  (st_A o8 8 2 (1 : Int32) (vp_nar .boolean (0 : Int32))).bind fun o9 =>
  Lt_ (p_F o9 11 (0 : Int32)) fun o10 =>
  Lp_ (fun (rec : (Int32 × Ob_T) → Option (Int32 × Ob_T)) x => f_X9_program_L96 rec x.1 x.2) FU_ ((0 : Int32), o10)
def f_X9_program_J37 (s_o : Ob_T) : Option (Int32 × Ob_T) :=
  Lt_ (p_F s_o 2 (o_F s_o 3)) fun o4 =>
  Lt_ (p_F o4 10 (0 : Int32)) fun o5 =>
  Lp_ (fun (rec : (Int32 × Ob_T) → Option (Int32 × Ob_T)) x => f_X9_program_L52 (fun t_o => f_X9_program_J70 t_o) rec x.1 x.2) FU_ ((0 : Int32), o5)
def f_X9_program (s_o : Ob_T) : Option (Int32 × Ob_T) :=
  (f_X9_reads s_o).bind fun u1 =>
  if u1.1 = (0 : Int32) then
  (some ((-4 : Int32), u1.2))
  else
  (Lp_ (fun (rec : (Int32 × Ob_T) → Option (Int32 × Ob_T)) x => f_X9_program_L12 (fun t_o => f_X9_program_J37 t_o) rec x.1 x.2) FU_ ((0 : Int32), u1.2))
def f_X9_solved (s_o : Ob_T) (x1 : Int32) : Option Int32 :=
  if (20000 : Int32) ≤ x1 then
  ((ld_I (o_A s_o 31) 14 (x1 - (20000 : Int32))).bind fun v1 =>
  (ld_I (o_A s_o 32) 14 v1).bind fun v2 =>
  if (0 : Int32) ≤ v2 then
  ((ld_I (o_A s_o 32) 14 v1).bind fun v3 =>
  some v3)
  else
  (some ((20000 : Int32) + v1)))
  else
  (some x1)
def f_X9_fail (s_o : Ob_T) (x1 : Int32) (x2 : Int32) (x3 : Int32) (x4 : Int32) (x5 : Int32) : Option Ob_T :=
  Lt_ (p_F s_o 35 (1 : Int32)) fun o1 =>
  (st_A o1 34 5 (0 : Int32) x1).bind fun o2 =>
  (st_A o2 34 5 (1 : Int32) x2).bind fun o3 =>
  (st_A o3 34 5 (2 : Int32) x3).bind fun o4 =>
  (st_A o4 34 5 (3 : Int32) x4).bind fun o5 =>
  (st_A o5 34 5 (4 : Int32) x5).bind fun o6 =>
  some o6
def f_X9_becomeAlike_J62 (rec26 : (Int32 × Int32 × Int32 × Ob_T) → Option Ob_T) (x3 : Int32) (x4 : Int32) (x5 : Int32) (k1 : Int32) (k2 : Int32) (s_o : Ob_T) : Option Ob_T :=
  (st_A s_o 31 14 k1 k2).bind fun o3 =>
  rec26 (x3, x4, (x5 + (1 : Int32)), o3)
def f_X9_becomeAlike_L26 (rec26 : (Int32 × Int32 × Int32 × Ob_T) → Option Ob_T) (x3 : Int32) (x4 : Int32) (x5 : Int32) (s_o : Ob_T) : Option Ob_T :=
  if (14 : Int32) ≤ x5 then
  (some s_o)
  else
  ((ld_I (o_A s_o 31) 14 x5).bind fun v1 =>
  if v1 = x4 then
  (f_X9_becomeAlike_J62 rec26 x3 x4 x5 x5 x3 s_o)
  else
  ((ld_I (o_A s_o 31) 14 x5).bind fun v2 =>
  f_X9_becomeAlike_J62 rec26 x3 x4 x5 x5 v2 s_o))
def f_X9_becomeAlike_J21 (x3 : Int32) (k0 : Int32) (s_o : Ob_T) : Option Ob_T :=
  Lp_ (fun (rec : (Int32 × Int32 × Int32 × Ob_T) → Option Ob_T) x => f_X9_becomeAlike_L26 rec x.1 x.2.1 x.2.2.1 x.2.2.2) FU_ (x3, k0, (0 : Int32), s_o)
def f_X9_becomeAlike_J10 (x1 : Int32) (x2 : Int32) (k0 : Int32) (s_o : Ob_T) : Option Ob_T :=
  if x2 ≤ x1 then
  (f_X9_becomeAlike_J21 k0 x1 s_o)
  else
  (f_X9_becomeAlike_J21 k0 x2 s_o)
def f_X9_becomeAlike (s_o : Ob_T) (x1 : Int32) (x2 : Int32) : Option Ob_T :=
  if x2 ≤ x1 then
  (f_X9_becomeAlike_J10 x1 x2 x2 s_o)
  else
  (f_X9_becomeAlike_J10 x1 x2 x1 s_o)
def f_X9_meet_J53 (x6 : Int32) (x7 : Int32) (s_o : Ob_T) : Option Ob_T :=
  if (20000 : Int32) ≤ x6 then
  (if (20000 : Int32) ≤ x7 then
  ((f_X9_becomeAlike s_o (x6 - (20000 : Int32)) (x7 - (20000 : Int32))).bind fun u3 =>
  some u3)
  else
  ((st_A s_o 32 14 (x6 - (20000 : Int32)) x7).bind fun o4 =>
  some o4))
  else
  ((st_A s_o 32 14 (x7 - (20000 : Int32)) x6).bind fun o5 =>
  some o5)
def f_X9_meet (s_o : Ob_T) (x1 : Int32) (x2 : Int32) (x3 : Int32) (x4 : Int32) (x5 : Int32) : Option Ob_T :=
  (f_X9_solved s_o x4).bind fun u1 =>
  (f_X9_solved s_o x5).bind fun u2 =>
  if (20000 : Int32) ≤ u1 then
  (f_X9_meet_J53 u1 u2 s_o)
  else
  (if (20000 : Int32) ≤ u2 then
  (f_X9_meet_J53 u1 u2 s_o)
  else
  (if u1 = u2 then
  (some s_o)
  else
  ((f_X9_fail s_o x1 x2 x3 u1 u2).bind fun u6 =>
  some u6)))
def f_X9_meetBoth_L64 (k114 : Int32 → Int32 → Int32 → Int32 → Int32 → Int32 → Ob_T → Option Ob_T) (rec64 : (Int32 × Int32 × Int32 × Int32 × Int32 × Int32 × Int32 × Ob_T) → Option Ob_T) (x1 : Int32) (x2 : Int32) (x3 : Int32) (x4 : Int32) (x5 : Int32) (x6 : Int32) (x7 : Int32) (s_o : Ob_T) : Option Ob_T :=
  if x5 ≤ x7 then
  (k114 x1 x2 x3 x4 x5 x6 s_o)
  else
  (if x6 ≤ x7 then
  (k114 x1 x2 x3 x4 x5 x6 s_o)
  else
  (if (o_F s_o 35) = (0 : Int32) then
  ((f_X9_extentOf s_o x3 x7).bind fun u9 =>
  (f_X9_extentOf s_o x4 x7).bind fun u10 =>
  (f_X9_meet s_o x1 (1 : Int32) x7 u9 u10).bind fun u11 =>
  rec64 (x1, x2, x3, x4, x5, x6, (x7 + (1 : Int32)), u11))
  else
  (k114 x1 x2 x3 x4 x5 x6 s_o)))
def f_X9_meetBoth_L133 (rec133 : (Int32 × Int32 × Int32 × Int32 × Int32 × Int32 × Ob_T) → Option Ob_T) (x1 : Int32) (x3 : Int32) (x4 : Int32) (x5 : Int32) (x6 : Int32) (x7 : Int32) (s_o : Ob_T) : Option Ob_T :=
  (f_X9_longOf s_o x3).bind fun u13 =>
  if u13 ≤ (x5 + x7) then
  (some s_o)
  else
  ((f_X9_longOf s_o x4).bind fun u14 =>
  if u14 ≤ (x6 + x7) then
  (some s_o)
  else
  (if (o_F s_o 35) = (0 : Int32) then
  ((f_X9_extentOf s_o x3 (x5 + x7)).bind fun u15 =>
  (f_X9_extentOf s_o x4 (x6 + x7)).bind fun u16 =>
  (f_X9_meet s_o x1 (2 : Int32) x7 u15 u16).bind fun u17 =>
  rec133 (x1, x3, x4, x5, x6, (x7 + (1 : Int32)), u17))
  else
  (some s_o)))
def f_X9_meetBoth_J131 (x1 : Int32) (x3 : Int32) (x4 : Int32) (x5 : Int32) (x6 : Int32) (k0 : Int32) (s_o : Ob_T) : Option Ob_T :=
  Lp_ (fun (rec : (Int32 × Int32 × Int32 × Int32 × Int32 × Int32 × Ob_T) → Option Ob_T) x => f_X9_meetBoth_L133 rec x.1 x.2.1 x.2.2.1 x.2.2.2.1 x.2.2.2.2.1 x.2.2.2.2.2.1 x.2.2.2.2.2.2) FU_ (x1, x3, x4, x5, x6, k0, s_o)
def f_X9_meetBoth_J114 (x1 : Int32) (x2 : Int32) (x3 : Int32) (x4 : Int32) (x5 : Int32) (x6 : Int32) (s_o : Ob_T) : Option Ob_T :=
  (ld_I (o_A s_o 1) 150 (x2 + (0 : Int32))).bind fun v12 =>
  if v12 = (2 : Int32) then
  (f_X9_meetBoth_J131 x1 x3 x4 x5 x6 (1 : Int32) s_o)
  else
  (f_X9_meetBoth_J131 x1 x3 x4 x5 x6 (0 : Int32) s_o)
def f_X9_meetBoth (s_o : Ob_T) (x1 : Int32) : Option Ob_T :=
  (ld_I (o_A s_o 1) 150 (((15 : Int32) * x1) + (1 : Int32))).bind fun v1 =>
  (ld_I (o_A s_o 1) 150 (((15 : Int32) * x1) + (2 : Int32))).bind fun v2 =>
  (f_X9_longOf s_o v1).bind fun u3 =>
  (ld_I (o_A s_o 1) 150 (((15 : Int32) * x1) + (3 : Int32))).bind fun v4 =>
  (f_X9_frameOf u3 v4).bind fun u5 =>
  (f_X9_longOf s_o v2).bind fun u6 =>
  (ld_I (o_A s_o 1) 150 (((15 : Int32) * x1) + (3 : Int32))).bind fun v7 =>
  (f_X9_frameOf u6 v7).bind fun u8 =>
  Lp_ (fun (rec : (Int32 × Int32 × Int32 × Int32 × Int32 × Int32 × Int32 × Ob_T) → Option Ob_T) x => f_X9_meetBoth_L64 (fun y1 y2 y3 y4 y5 y6 t_o => f_X9_meetBoth_J114 y1 y2 y3 y4 y5 y6 t_o) rec x.1 x.2.1 x.2.2.1 x.2.2.2.1 x.2.2.2.2.1 x.2.2.2.2.2.1 x.2.2.2.2.2.2.1 x.2.2.2.2.2.2.2) FU_ (x1, ((15 : Int32) * x1), v1, v2, u5, u8, (0 : Int32), s_o)
def f_X9_layLeft (s_o : Ob_T) (x1 : Int32) : Option Ob_T :=
  (st_A s_o 37 6 (o_F s_o 39) x1).bind fun o1 =>
  Lt_ (p_F o1 39 ((o_F o1 39) + (1 : Int32))) fun o2 =>
  some o2
def f_X9_layRight (s_o : Ob_T) (x1 : Int32) : Option Ob_T :=
  (st_A s_o 38 6 (o_F s_o 40) x1).bind fun o1 =>
  Lt_ (p_F o1 40 ((o_F o1 40) + (1 : Int32))) fun o2 =>
  some o2
def f_X9_lookFor_J23 (x2 : Int32) (k1 : Int32) (k2 : Int32) (s_o : Ob_T) : Option Ob_T :=
  Lt_ (p_F s_o 41 (k1 + k2)) fun o2 =>
  if (20000 : Int32) ≤ x2 then
  (Lt_ (p_F o2 42 (x2 - (20000 : Int32))) fun o3 =>
  some o3)
  else
  (Lt_ (p_F o2 42 (o_F o2 42)) fun o4 =>
  some o4)
def f_X9_lookFor (s_o : Ob_T) (x1 : Int32) : Option Ob_T :=
  (f_X9_solved s_o x1).bind fun u1 =>
  if (20000 : Int32) ≤ u1 then
  (f_X9_lookFor_J23 u1 (o_F s_o 41) (1 : Int32) s_o)
  else
  (f_X9_lookFor_J23 u1 (o_F s_o 41) (0 : Int32) s_o)
def f_X9_isAlmostKnown_L7 (k31 : Ob_T → Option (Int32 × Ob_T)) (rec7 : (Int32 × Ob_T) → Option (Int32 × Ob_T)) (x1 : Int32) (s_o : Ob_T) : Option (Int32 × Ob_T) :=
  if (o_F s_o 39) ≤ x1 then
  (k31 s_o)
  else
  ((ld_I (o_A s_o 37) 6 x1).bind fun v2 =>
  (f_X9_lookFor s_o v2).bind fun u3 =>
  rec7 ((x1 + (1 : Int32)), u3))
def f_X9_isAlmostKnown_L33 (k57 : Ob_T → Option (Int32 × Ob_T)) (rec33 : (Int32 × Ob_T) → Option (Int32 × Ob_T)) (x1 : Int32) (s_o : Ob_T) : Option (Int32 × Ob_T) :=
  if (o_F s_o 40) ≤ x1 then
  (k57 s_o)
  else
  ((ld_I (o_A s_o 38) 6 x1).bind fun v4 =>
  (f_X9_lookFor s_o v4).bind fun u5 =>
  rec33 ((x1 + (1 : Int32)), u5))
def f_X9_isAlmostKnown_J57 (s_o : Ob_T) : Option (Int32 × Ob_T) :=
  if (2 : Int32) ≤ (o_F s_o 41) then
  (some ((0 : Int32), s_o))
  else
  (some ((1 : Int32), s_o))
def f_X9_isAlmostKnown_J31 (s_o : Ob_T) : Option (Int32 × Ob_T) :=
  Lp_ (fun (rec : (Int32 × Ob_T) → Option (Int32 × Ob_T)) x => f_X9_isAlmostKnown_L33 (fun t_o => f_X9_isAlmostKnown_J57 t_o) rec x.1 x.2) FU_ ((0 : Int32), s_o)
def f_X9_isAlmostKnown (s_o : Ob_T) : Option (Int32 × Ob_T) :=
  Lt_ (p_F s_o 41 (0 : Int32)) fun o1 =>
  Lp_ (fun (rec : (Int32 × Ob_T) → Option (Int32 × Ob_T)) x => f_X9_isAlmostKnown_L7 (fun t_o => f_X9_isAlmostKnown_J31 t_o) rec x.1 x.2) FU_ ((0 : Int32), o1)
def f_X9_becomes (s_o : Ob_T) (x1 : Int32) : Option Ob_T :=
  (st_A s_o 32 14 (o_F s_o 42) x1).bind fun o1 =>
  Lt_ (p_F o1 36 (1 : Int32)) fun o2 =>
  some o2
def f_X9_sumUp_J110 (x5 : Int32) (s_o : Ob_T) : Option Ob_T :=
  if (o_F s_o 41) = (1 : Int32) then
  ((f_X9_becomes s_o x5).bind fun u8 =>
  some u8)
  else
  (some s_o)
def f_X9_sumUp_J98 (x1 : Int32) (s_o : Ob_T) : Option Ob_T :=
  (f_X9_fail s_o x1 (3 : Int32) (0 : Int32) (0 : Int32) (0 : Int32)).bind fun u9 =>
  some u9
def f_X9_sumUp_J65 (x1 : Int32) (x2 : Int32) (x3 : Int32) (x4 : Int32) (k0 : Int32) (s_o : Ob_T) : Option Ob_T :=
  if (o_F s_o 41) = (0 : Int32) then
  (if x2 = (x3 + x4) then
  (f_X9_sumUp_J110 k0 s_o)
  else
  (f_X9_sumUp_J98 x1 s_o))
  else
  ((f_X9_in k0.toInt64 (0 : Int64) (9999 : Int64)).bind fun u7 =>
  if u7 = (0 : Int32) then
  (f_X9_sumUp_J98 x1 s_o)
  else
  (f_X9_sumUp_J110 k0 s_o))
def f_X9_sumUp (s_o : Ob_T) (x1 : Int32) : Option Ob_T :=
  (ld_I (o_A s_o 37) 6 (0 : Int32)).bind fun v1 =>
  (f_X9_solved s_o v1).bind fun u2 =>
  (ld_I (o_A s_o 38) 6 (0 : Int32)).bind fun v3 =>
  (f_X9_solved s_o v3).bind fun u4 =>
  (ld_I (o_A s_o 38) 6 (1 : Int32)).bind fun v5 =>
  (f_X9_solved s_o v5).bind fun u6 =>
  if u2 < (20000 : Int32) then
  (if u4 < (20000 : Int32) then
  (f_X9_sumUp_J65 x1 u2 u4 u6 (u2 - u4) s_o)
  else
  (f_X9_sumUp_J65 x1 u2 u4 u6 (u2 - u6) s_o))
  else
  (f_X9_sumUp_J65 x1 u2 u4 u6 (u4 + u6) s_o)
def f_X9_productOf_L5 (k30 : Int32 → Int64 → Option Int64) (rec5 : (Int32 × Int64 × Int32) → Option Int64) (x2 : Int32) (x3 : Int64) (x5 : Int32) (s_o : Ob_T) (f1 : Nat → Int32) (z1 : Nat) : Option Int64 :=
  if x2 ≤ x5 then
  (k30 x2 x3)
  else
  ((ld_I f1 z1 x5).bind fun v1 =>
  (f_X9_solved s_o v1).bind fun u2 =>
  if u2 = (0 : Int32) then
  (some (0 : Int64))
  else
  (rec5 (x2, x3, (x5 + (1 : Int32)))))
def f_X9_productOf_J66 (rec33 : (Int32 × Int64 × Int32) → Option Int64) (x2 : Int32) (x5 : Int32) (k0 : Int64) (s_o : Ob_T) (f1 : Nat → Int32) (z1 : Nat) : Option Int64 :=
  if (lg_cmp k0 (999999999999 : Int64)) ≤ (0 : Int32) then
  (rec33 (x2, k0, (x5 + (1 : Int32))))
  else
  (some (-1 : Int64))
def f_X9_productOf_L33 (rec33 : (Int32 × Int64 × Int32) → Option Int64) (x2 : Int32) (x3 : Int64) (x5 : Int32) (s_o : Ob_T) (f1 : Nat → Int32) (z1 : Nat) : Option Int64 :=
  if x2 ≤ x5 then
  (some x3)
  else
  ((ld_I f1 z1 x5).bind fun v3 =>
  (f_X9_solved s_o v3).bind fun u4 =>
  if (20000 : Int32) ≤ u4 then
  (f_X9_productOf_J66 rec33 x2 x5 x3 s_o f1 z1)
  else
  (f_X9_productOf_J66 rec33 x2 x5 (x3 * u4.toInt64) s_o f1 z1))
def f_X9_productOf_J30 (x2 : Int32) (x3 : Int64) (s_o : Ob_T) (f1 : Nat → Int32) (z1 : Nat) : Option Int64 :=
  Lp_ (fun (rec : (Int32 × Int64 × Int32) → Option Int64) x => f_X9_productOf_L33 rec x.1 x.2.1 x.2.2 s_o f1 z1) FU_ (x2, x3, (0 : Int32))
def f_X9_productOf (s_o : Ob_T) (x2 : Int32) (f1 : Nat → Int32) (z1 : Nat) : Option Int64 :=
  Lp_ (fun (rec : (Int32 × Int64 × Int32) → Option Int64) x => f_X9_productOf_L5 (fun y2 y3 => f_X9_productOf_J30 y2 y3 s_o f1 z1) rec x.1 x.2.1 x.2.2 s_o f1 z1) FU_ (x2, (1 : Int64), (0 : Int32))
def f_X9_isOnLeft_L4 (rec4 : (Int32 × Int32) → Option Int32) (x1 : Int32) (x2 : Int32) (s_o : Ob_T) : Option Int32 :=
  if (o_F s_o 39) ≤ x2 then
  ((zb_ x1).bind fun _ =>
  some x1)
  else
  (if x1 = (0 : Int32) then
  ((ld_I (o_A s_o 37) 6 x2).bind fun v2 =>
  (f_X9_solved s_o v2).bind fun u3 =>
  if u3 < (20000 : Int32) then
  (rec4 ((0 : Int32), (x2 + (1 : Int32))))
  else
  (rec4 ((1 : Int32), (x2 + (1 : Int32)))))
  else
  (rec4 ((1 : Int32), (x2 + (1 : Int32)))))
def f_X9_isOnLeft (s_o : Ob_T) : Option Int32 :=
  Lp_ (fun (rec : (Int32 × Int32) → Option Int32) x => f_X9_isOnLeft_L4 rec x.1 x.2 s_o) FU_ ((0 : Int32), (0 : Int32))
def f_X9_multiply_J88 (x1 : Int32) (s_o : Ob_T) : Option Ob_T :=
  (f_X9_fail s_o x1 (4 : Int32) (0 : Int32) (0 : Int32) (0 : Int32)).bind fun u5 =>
  some u5
def f_X9_multiply_J164 (x1 : Int32) (s_o : Ob_T) : Option Ob_T :=
  (f_X9_fail s_o x1 (4 : Int32) (0 : Int32) (0 : Int32) (0 : Int32)).bind fun u6 =>
  some u6
def f_X9_multiply_J134 (x1 : Int32) (x6 : Int64) (x8 : Int64) (s_o : Ob_T) : Option Ob_T :=
  if (o_F s_o 41) = (1 : Int32) then
  (if x6 = 0 then none else
  if (lg_cmp (x8 - x8 / x6 * x6) (0 : Int64)) = (0 : Int32) then
  (if x6 = 0 then none else
  if (lg_cmp (x8 / x6) (9999 : Int64)) ≤ (0 : Int32) then
  (if x6 = 0 then none else
  (f_X9_becomes s_o ((x8 / x6).toInt32)).bind fun u7 =>
  some u7)
  else
  (f_X9_multiply_J164 x1 s_o))
  else
  (f_X9_multiply_J164 x1 s_o))
  else
  (some s_o)
def f_X9_multiply_J100 (x1 : Int32) (x6 : Int64) (x8 : Int64) (s_o : Ob_T) : Option Ob_T :=
  if (o_F s_o 41) = (1 : Int32) then
  (if (lg_cmp x6 (0 : Int64)) = (0 : Int32) then
  (if (lg_cmp x8 (0 : Int64)) ≤ (0 : Int32) then
  (some s_o)
  else
  ((f_X9_fail s_o x1 (4 : Int32) (0 : Int32) (0 : Int32) (0 : Int32)).bind fun u8 =>
  some u8))
  else
  (f_X9_multiply_J134 x1 x6 x8 s_o))
  else
  (f_X9_multiply_J134 x1 x6 x8 s_o)
def f_X9_multiply_J55 (x1 : Int32) (x2 : Int64) (x4 : Int64) (x6 : Int64) (k0 : Int64) (s_o : Ob_T) : Option Ob_T :=
  if (lg_cmp x2 (-1 : Int64)) = (0 : Int32) then
  (f_X9_multiply_J88 x1 s_o)
  else
  (if (lg_cmp x4 (-1 : Int64)) = (0 : Int32) then
  (f_X9_multiply_J88 x1 s_o)
  else
  (if (o_F s_o 41) = (0 : Int32) then
  (if (lg_cmp x2 x4) = (0 : Int32) then
  (f_X9_multiply_J100 x1 x6 k0 s_o)
  else
  (f_X9_multiply_J88 x1 s_o))
  else
  (f_X9_multiply_J100 x1 x6 k0 s_o)))
def f_X9_multiply_J40 (x1 : Int32) (x2 : Int64) (x4 : Int64) (k0 : Int64) (s_o : Ob_T) : Option Ob_T :=
  (f_X9_isOnLeft s_o).bind fun u4 =>
  if u4 = (0 : Int32) then
  (f_X9_multiply_J55 x1 x2 x4 k0 x2 s_o)
  else
  (f_X9_multiply_J55 x1 x2 x4 k0 x4 s_o)
def f_X9_multiply (s_o : Ob_T) (x1 : Int32) : Option Ob_T :=
  (f_X9_productOf s_o (o_F s_o 39) (o_A s_o 37) 6).bind fun u1 =>
  (f_X9_productOf s_o (o_F s_o 40) (o_A s_o 38) 6).bind fun u2 =>
  (f_X9_isOnLeft s_o).bind fun u3 =>
  if u3 = (0 : Int32) then
  (f_X9_multiply_J40 x1 u1 u2 u2 s_o)
  else
  (f_X9_multiply_J40 x1 u1 u2 u1 s_o)
def f_X9_reckon_J250 (rec208 : (Int32 × Int32 × Int32 × Int32 × Int32 × Ob_T) → Option Ob_T) (x1 : Int32) (x3 : Int32) (x4 : Int32) (x5 : Int32) (x6 : Int32) (k1 : Int32) (s_o : Ob_T) : Option Ob_T :=
  (f_X9_layLeft s_o k1).bind fun u8 =>
  rec208 (x1, x3, x4, x5, (x6 + (1 : Int32)), u8)
def f_X9_reckon_J225 (k259 : Int32 → Int32 → Int32 → Ob_T → Option Ob_T) (rec208 : (Int32 × Int32 × Int32 × Int32 × Int32 × Ob_T) → Option Ob_T) (x1 : Int32) (x3 : Int32) (x4 : Int32) (x5 : Int32) (x6 : Int32) (k0 : Int32) (k1 : Int32) (s_o : Ob_T) : Option Ob_T :=
  if k1 ≤ k0 then
  (k259 x1 x4 x5 s_o)
  else
  (if x3 = (6 : Int32) then
  ((f_X9_extentOf s_o x1 x6).bind fun u9 =>
  f_X9_reckon_J250 rec208 x1 x3 x4 x5 x6 u9 s_o)
  else
  (f_X9_reckon_J250 rec208 x1 x3 x4 x5 x6 ((20004 : Int32) + x1) s_o))
def f_X9_reckon_L208 (k259 : Int32 → Int32 → Int32 → Ob_T → Option Ob_T) (rec208 : (Int32 × Int32 × Int32 × Int32 × Int32 × Ob_T) → Option Ob_T) (x1 : Int32) (x3 : Int32) (x4 : Int32) (x5 : Int32) (x6 : Int32) (s_o : Ob_T) : Option Ob_T :=
  if x3 = (6 : Int32) then
  ((f_X9_longOf s_o x1).bind fun u10 =>
  f_X9_reckon_J225 k259 rec208 x1 x3 x4 x5 x6 x6 u10 s_o)
  else
  (f_X9_reckon_J225 k259 rec208 x1 x3 x4 x5 x6 x6 (1 : Int32) s_o)
def f_X9_reckon_L263 (k292 : Int32 → Ob_T → Option Ob_T) (rec263 : (Int32 × Int32 × Int32 × Ob_T) → Option Ob_T) (x1 : Int32) (x4 : Int32) (x6 : Int32) (s_o : Ob_T) : Option Ob_T :=
  (f_X9_longOf s_o x4).bind fun u11 =>
  if u11 ≤ x6 then
  (k292 x1 s_o)
  else
  ((f_X9_extentOf s_o x4 x6).bind fun u12 =>
  (f_X9_layRight s_o u12).bind fun u13 =>
  rec263 (x1, x4, (x6 + (1 : Int32)), u13))
def f_X9_reckon_J292 (x1 : Int32) (s_o : Ob_T) : Option Ob_T :=
  (f_X9_isAlmostKnown s_o).bind fun u14 =>
  if u14.1 = (0 : Int32) then
  (some u14.2)
  else
  ((f_X9_multiply u14.2 x1).bind fun u15 =>
  some u15)
def f_X9_reckon_J259 (x1 : Int32) (x4 : Int32) (x5 : Int32) (s_o : Ob_T) : Option Ob_T :=
  Lp_ (fun (rec : (Int32 × Int32 × Int32 × Ob_T) → Option Ob_T) x => f_X9_reckon_L263 (fun y1 t_o => f_X9_reckon_J292 y1 t_o) rec x.1 x.2.1 x.2.2.1 x.2.2.2) FU_ (x1, x4, x5, s_o)
def f_X9_reckon_J203 (x1 : Int32) (x3 : Int32) (x4 : Int32) (k0 : Int32) (s_o : Ob_T) : Option Ob_T :=
  Lp_ (fun (rec : (Int32 × Int32 × Int32 × Int32 × Int32 × Ob_T) → Option Ob_T) x => f_X9_reckon_L208 (fun y1 y4 y5 t_o => f_X9_reckon_J259 y1 y4 y5 t_o) rec x.1 x.2.1 x.2.2.1 x.2.2.2.1 x.2.2.2.2.1 x.2.2.2.2.2) FU_ (x1, x3, x4, k0, (0 : Int32), s_o)
def f_X9_reckon_J176 (x1 : Int32) (x2 : Int32) (x3 : Int32) (x4 : Int32) (s_o : Ob_T) : Option Ob_T :=
  if x3 = (6 : Int32) then
  (f_X9_reckon_J203 x1 x3 x4 (0 : Int32) s_o)
  else
  ((f_X9_longOf s_o x4).bind fun u5 =>
  (ld_I (o_A s_o 1) 150 (x2 + (3 : Int32))).bind fun v6 =>
  (f_X9_frameOf u5 v6).bind fun u7 =>
  f_X9_reckon_J203 x1 x3 x4 u7 s_o)
def f_X9_reckon_J147 (x1 : Int32) (k1 : Int32) (s_o : Ob_T) : Option Ob_T :=
  (f_X9_layRight s_o k1).bind fun u27 =>
  (f_X9_isAlmostKnown u27).bind fun u28 =>
  if u28.1 = (0 : Int32) then
  (some u28.2)
  else
  ((f_X9_sumUp u28.2 x1).bind fun u29 =>
  some u29)
def f_X9_reckon_J120 (x1 : Int32) (x5 : Int32) (x7 : Int32) (k1 : Int32) (s_o : Ob_T) : Option Ob_T :=
  (f_X9_layRight s_o k1).bind fun u25 =>
  (f_X9_longOf u25 x5).bind fun u26 =>
  if u26 ≤ x7 then
  (f_X9_reckon_J147 x1 (1 : Int32) u25)
  else
  ((f_X9_extentOf u25 x5 x7).bind fun u30 =>
  f_X9_reckon_J147 x1 u30 u25)
def f_X9_reckon (s_o : Ob_T) (x1 : Int32) : Option Ob_T :=
  (ld_I (o_A s_o 1) 150 (((15 : Int32) * x1) + (0 : Int32))).bind fun v1 =>
  (ld_I (o_A s_o 1) 150 (((15 : Int32) * x1) + (1 : Int32))).bind fun v2 =>
  Lt_ (p_F s_o 39 (0 : Int32)) fun o3 =>
  Lt_ (p_F o3 40 (0 : Int32)) fun o4 =>
  if v1 = (2 : Int32) then
  ((ld_I (o_A o4 1) 150 (((15 : Int32) * x1) + (2 : Int32))).bind fun v16 =>
  (f_X9_longOf o4 v2).bind fun u17 =>
  (ld_I (o_A o4 1) 150 (((15 : Int32) * x1) + (3 : Int32))).bind fun v18 =>
  (f_X9_frameOf u17 v18).bind fun u19 =>
  (f_X9_longOf o4 v16).bind fun u20 =>
  (ld_I (o_A o4 1) 150 (((15 : Int32) * x1) + (3 : Int32))).bind fun v21 =>
  (f_X9_frameOf u20 v21).bind fun u22 =>
  (f_X9_layLeft o4 ((20004 : Int32) + x1)).bind fun u23 =>
  (f_X9_longOf u23 v2).bind fun u24 =>
  if u24 ≤ u19 then
  (f_X9_reckon_J120 x1 v16 u22 (1 : Int32) u23)
  else
  ((f_X9_extentOf u23 v2 u19).bind fun u31 =>
  f_X9_reckon_J120 x1 v16 u22 u31 u23))
  else
  (if v1 = (5 : Int32) then
  (f_X9_reckon_J176 x1 ((15 : Int32) * x1) v1 v2 o4)
  else
  (if v1 = (6 : Int32) then
  (f_X9_reckon_J176 x1 ((15 : Int32) * x1) v1 v2 o4)
  else
  (some o4)))
def f_X9_solve_J35 (rec2 : (Int32 × Ob_T) → Option Ob_T) (x1 : Int32) (k1 : Int32) (k2 : Int32) (s_o : Ob_T) : Option Ob_T :=
  (st_A s_o 32 14 k1 k2).bind fun o2 =>
  rec2 ((x1 + (1 : Int32)), o2)
def f_X9_solve_L2 (k42 : Ob_T → Option Ob_T) (rec2 : (Int32 × Ob_T) → Option Ob_T) (x1 : Int32) (s_o : Ob_T) : Option Ob_T :=
  if (14 : Int32) ≤ x1 then
  (k42 s_o)
  else
  ((st_A s_o 31 14 x1 x1).bind fun o1 =>
  if (4 : Int32) ≤ x1 then
  (f_X9_solve_J35 rec2 x1 x1 (-1 : Int32) o1)
  else
  ((ld_I (o_A o1 33) 4 x1).bind fun v3 =>
  f_X9_solve_J35 rec2 x1 x1 v3 o1))
def f_X9_solve_J94 (rec49 : (Int32 × Ob_T) → Option Ob_T) (x1 : Int32) (s_o : Ob_T) : Option Ob_T :=
  (f_X9_meetBoth s_o x1).bind fun u6 =>
  rec49 ((x1 + (1 : Int32)), u6)
def f_X9_solve_L49 (k105 : Ob_T → Option Ob_T) (rec49 : (Int32 × Ob_T) → Option Ob_T) (x1 : Int32) (s_o : Ob_T) : Option Ob_T :=
  if (o_F s_o 3) ≤ x1 then
  (k105 s_o)
  else
  (if (o_F s_o 35) = (0 : Int32) then
  ((ld_I (o_A s_o 1) 150 (((15 : Int32) * x1) + (0 : Int32))).bind fun v5 =>
  if v5 = (1 : Int32) then
  (f_X9_solve_J94 rec49 x1 s_o)
  else
  ((ld_I (o_A s_o 1) 150 (((15 : Int32) * x1) + (0 : Int32))).bind fun v7 =>
  if v7 = (2 : Int32) then
  (f_X9_solve_J94 rec49 x1 s_o)
  else
  (rec49 ((x1 + (1 : Int32)), s_o))))
  else
  (k105 s_o))
def f_X9_solve_L131 (rec110 : Ob_T → Option Ob_T) (rec131 : (Int32 × Ob_T) → Option Ob_T) (x1 : Int32) (s_o : Ob_T) : Option Ob_T :=
  if (o_F s_o 3) ≤ x1 then
  (rec110 (s_o))
  else
  (if (o_F s_o 35) = (0 : Int32) then
  ((f_X9_reckon s_o x1).bind fun u10 =>
  rec131 ((x1 + (1 : Int32)), u10))
  else
  (rec110 (s_o)))
def f_X9_solve_L110 (rec110 : Ob_T → Option Ob_T) (s_o : Ob_T) : Option Ob_T :=
  if (o_F s_o 36) = (0 : Int32) then
  (some s_o)
  else
  (if (o_F s_o 35) = (0 : Int32) then
  (Lt_ (p_F s_o 36 (0 : Int32)) fun o9 =>
  Lp_ (fun (rec : (Int32 × Ob_T) → Option Ob_T) x => f_X9_solve_L131 rec110 rec x.1 x.2) FU_ ((0 : Int32), o9))
  else
  (some s_o))
def f_X9_solve_J105 (s_o : Ob_T) : Option Ob_T :=
  Lt_ (p_F s_o 36 (1 : Int32)) fun o8 =>
  Lp_ (fun (rec : Ob_T → Option Ob_T) x => f_X9_solve_L110 rec x) FU_ (o8)
def f_X9_solve_J42 (s_o : Ob_T) : Option Ob_T :=
  Lt_ (p_F s_o 35 (0 : Int32)) fun o4 =>
  Lp_ (fun (rec : (Int32 × Ob_T) → Option Ob_T) x => f_X9_solve_L49 (fun t_o => f_X9_solve_J105 t_o) rec x.1 x.2) FU_ ((0 : Int32), o4)
def f_X9_solve (s_o : Ob_T) : Option Ob_T :=
  Lp_ (fun (rec : (Int32 × Ob_T) → Option Ob_T) x => f_X9_solve_L2 (fun t_o => f_X9_solve_J42 t_o) rec x.1 x.2) FU_ ((0 : Int32), s_o)
def f_X9_layNodes_L2 (rec2 : (Int32 × Ob_T) → Option Ob_T) (x1 : Int32) (s_o : Ob_T) : Option Ob_T :=
  if (150 : Int32) ≤ x1 then
  (Lt_ (p_F s_o 3 (o_F s_o 2)) fun o1 =>
  some o1)
  else
  ((ld_I (o_A s_o 0) 150 x1).bind fun v2 =>
  (st_A s_o 1 150 x1 v2).bind fun o3 =>
  rec2 ((x1 + (1 : Int32)), o3))
def f_X9_layNodes (s_o : Ob_T) : Option Ob_T :=
  Lp_ (fun (rec : (Int32 × Ob_T) → Option Ob_T) x => f_X9_layNodes_L2 rec x.1 x.2) FU_ ((0 : Int32), s_o)
def f_X9_solveNow_L6 (k29 : Ob_T → Option Ob_T) (rec6 : (Int32 × Ob_T) → Option Ob_T) (x1 : Int32) (s_o : Ob_T) : Option Ob_T :=
  if (4 : Int32) ≤ x1 then
  (k29 s_o)
  else
  ((ld_I (o_A s_o 4) 4 x1).bind fun v2 =>
  (st_A s_o 33 4 x1 v2).bind fun o3 =>
  rec6 ((x1 + (1 : Int32)), o3))
def f_X9_solveNow_J29 (s_o : Ob_T) : Option Ob_T :=
  (f_X9_solve s_o).bind fun u4 =>
  some u4
def f_X9_solveNow (s_o : Ob_T) : Option Ob_T :=
  (f_X9_layNodes s_o).bind fun u1 =>
  Lp_ (fun (rec : (Int32 × Ob_T) → Option Ob_T) x => f_X9_solveNow_L6 (fun t_o => f_X9_solveNow_J29 t_o) rec x.1 x.2) FU_ ((0 : Int32), u1)
def f_X9_isNode (s_o : Ob_T) (x1 : Int32) : Option Int32 :=
  (f_X9_in x1.toInt64 (0 : Int64) (((o_F s_o 2) - (1 : Int32)).toInt64)).bind fun u1 =>
  (zb_ u1).bind fun _ =>
  some u1
def f_X9_node (s_o : Ob_T) (x1 : Int32) (x2 : Int32) : Option Int32 :=
  (f_X9_isNode s_o x1).bind fun u1 =>
  if u1 = (0 : Int32) then
  (some (-2 : Int32))
  else
  (if x2 = (0 : Int32) then
  ((ld_I (o_A s_o 0) 150 (((15 : Int32) * x1) + (0 : Int32))).bind fun v2 =>
  some v2)
  else
  (if x2 = (1 : Int32) then
  ((ld_I (o_A s_o 0) 150 (((15 : Int32) * x1) + (8 : Int32))).bind fun v3 =>
  some v3)
  else
  (if x2 = (2 : Int32) then
  ((ld_I (o_A s_o 0) 150 (((15 : Int32) * x1) + (1 : Int32))).bind fun v4 =>
  some v4)
  else
  (if x2 = (3 : Int32) then
  ((ld_I (o_A s_o 0) 150 (((15 : Int32) * x1) + (2 : Int32))).bind fun v5 =>
  some v5)
  else
  (if x2 = (4 : Int32) then
  ((ld_I (o_A s_o 0) 150 (((15 : Int32) * x1) + (0 : Int32))).bind fun v6 =>
  (f_X9_in v6.toInt64 (1 : Int64) (5 : Int64)).bind fun u7 =>
  if u7 = (0 : Int32) then
  (some (-1 : Int32))
  else
  ((ld_I (o_A s_o 0) 150 (((15 : Int32) * x1) + (3 : Int32))).bind fun v8 =>
  some (v8 + (10 : Int32))))
  else
  (some (-3 : Int32)))))))
def f_X9_extent (s_o : Ob_T) (x1 : Int32) (x2 : Int32) : Option (Int32 × Ob_T) :=
  (f_X9_isNode s_o x1).bind fun u1 =>
  if u1 = (0 : Int32) then
  (some ((-2 : Int32), s_o))
  else
  ((ld_I (o_A s_o 0) 150 (((15 : Int32) * x1) + (8 : Int32))).bind fun v2 =>
  (f_X9_in x2.toInt64 (0 : Int64) ((v2 - (1 : Int32)).toInt64)).bind fun u3 =>
  if u3 = (0 : Int32) then
  (some ((-3 : Int32), s_o))
  else
  ((f_X9_solveNow s_o).bind fun u4 =>
  (f_X9_extentOf u4 x1 x2).bind fun u5 =>
  (f_X9_solved u4 u5).bind fun u6 =>
  some (u6, u4)))
def f_X9_as_J82 (x3 : Int32) (k0 : Int32) (s_o : Ob_T) : Option Int32 :=
  if k0 = (0 : Int32) then
  (some (-4 : Int32))
  else
  ((f_X9_in x3.toInt64 (1 : Int64) (5 : Int64)).bind fun u4 =>
  if u4 = (0 : Int32) then
  (some (-4 : Int32))
  else
  (some (1 : Int32)))
def f_X9_as_J77 (x3 : Int32) (s_o : Ob_T) : Option Int32 :=
  f_X9_as_J82 x3 (1 : Int32) s_o
def f_X9_as_J81 (x3 : Int32) (s_o : Ob_T) : Option Int32 :=
  f_X9_as_J82 x3 (0 : Int32) s_o
def f_X9_as_J67 (x2 : Int32) (x3 : Int32) (s_o : Ob_T) : Option Int32 :=
  if x2 = (4 : Int32) then
  (if x3 = (5 : Int32) then
  (f_X9_as_J77 x3 s_o)
  else
  (f_X9_as_J81 x3 s_o))
  else
  (f_X9_as_J81 x3 s_o)
def f_X9_as_J57 (x2 : Int32) (x3 : Int32) (s_o : Ob_T) : Option Int32 :=
  if x2 = (3 : Int32) then
  (if (3 : Int32) < x3 then
  (f_X9_as_J77 x3 s_o)
  else
  (f_X9_as_J67 x2 x3 s_o))
  else
  (f_X9_as_J67 x2 x3 s_o)
def f_X9_as (s_o : Ob_T) (x1 : Int32) (x2 : Int32) : Option Int32 :=
  (f_X9_isNode s_o x1).bind fun u1 =>
  if u1 = (0 : Int32) then
  (some (-2 : Int32))
  else
  ((f_X9_in x2.toInt64 (0 : Int64) (5 : Int64)).bind fun u2 =>
  if u2 = (0 : Int32) then
  (some (-3 : Int32))
  else
  ((ld_I (o_A s_o 0) 150 (((15 : Int32) * x1) + (0 : Int32))).bind fun v3 =>
  if x2 = (0 : Int32) then
  (f_X9_as_J77 v3 s_o)
  else
  (if x2 = v3 then
  (f_X9_as_J77 v3 s_o)
  else
  (if x2 = (1 : Int32) then
  (if v3 = (2 : Int32) then
  (f_X9_as_J77 v3 s_o)
  else
  (f_X9_as_J57 x2 v3 s_o))
  else
  (f_X9_as_J57 x2 v3 s_o)))))
def f_X9_givenMany_L4 (rec4 : (Int32 × Int32) → Option Int32) (x1 : Int32) (x2 : Int32) (s_o : Ob_T) : Option Int32 :=
  if (4 : Int32) ≤ x2 then
  (some x1)
  else
  ((ld_I (o_A s_o 4) 4 x2).bind fun v1 =>
  if (0 : Int32) ≤ v1 then
  (rec4 ((x1 + (1 : Int32)), (x2 + (1 : Int32))))
  else
  (rec4 ((x1 + (0 : Int32)), (x2 + (1 : Int32)))))
def f_X9_givenMany (s_o : Ob_T) : Option Int32 :=
  Lp_ (fun (rec : (Int32 × Int32) → Option Int32) x => f_X9_givenMany_L4 rec x.1 x.2 s_o) FU_ ((0 : Int32), (0 : Int32))
def f_X9_isTold (x0 : Int32) : Option Int32 :=
  (f_X9_in x0.toInt64 (0 : Int64) (3 : Int64)).bind fun u1 =>
  (zb_ u1).bind fun _ =>
  some u1
def f_X9_become_L49 (k79 : Int32 → Int32 → Ob_T → Option Ob_T) (rec49 : (Int32 × Int32 × Int32 × Ob_T) → Option Ob_T) (x1 : Int32) (x2 : Int32) (x3 : Int32) (s_o : Ob_T) : Option Ob_T :=
  if (4 : Int32) ≤ x3 then
  (k79 x1 x2 s_o)
  else
  ((ld_I (o_A s_o 4) 4 x3).bind fun v1 =>
  (st_A s_o 5 32 (((4 : Int32) * (o_F s_o 6)) + x3) v1).bind fun o2 =>
  rec49 (x1, x2, (x3 + (1 : Int32)), o2))
def f_X9_become_J79 (x1 : Int32) (x2 : Int32) (s_o : Ob_T) : Option Ob_T :=
  Lt_ (p_F s_o 6 ((o_F s_o 6) + (1 : Int32))) fun o3 =>
  (st_A o3 4 4 x1 x2).bind fun o4 =>
  some o4
def f_X9_become_J47 (x1 : Int32) (x2 : Int32) (s_o : Ob_T) : Option Ob_T :=
  Lp_ (fun (rec : (Int32 × Int32 × Int32 × Ob_T) → Option Ob_T) x => f_X9_become_L49 (fun y1 y2 t_o => f_X9_become_J79 y1 y2 t_o) rec x.1 x.2.1 x.2.2.1 x.2.2.2) FU_ (x1, x2, (0 : Int32), s_o)
def f_X9_become_L11 (k37 : Int32 → Int32 → Ob_T → Option Ob_T) (rec11 : (Int32 × Int32 × Int32 × Ob_T) → Option Ob_T) (x1 : Int32) (x2 : Int32) (x3 : Int32) (s_o : Ob_T) : Option Ob_T :=
  if (28 : Int32) ≤ x3 then
  (k37 x1 x2 s_o)
  else
  ((ld_I (o_A s_o 5) 32 (x3 + (4 : Int32))).bind fun v5 =>
  (st_A s_o 5 32 x3 v5).bind fun o6 =>
  rec11 (x1, x2, (x3 + (1 : Int32)), o6))
def f_X9_become_J37 (x1 : Int32) (x2 : Int32) (s_o : Ob_T) : Option Ob_T :=
  Lt_ (p_F s_o 6 ((o_F s_o 6) - (1 : Int32))) fun o7 =>
  f_X9_become_J47 x1 x2 o7
def f_X9_become (s_o : Ob_T) (x1 : Int32) (x2 : Int32) : Option Ob_T :=
  if (o_F s_o 6) = (8 : Int32) then
  (Lp_ (fun (rec : (Int32 × Int32 × Int32 × Ob_T) → Option Ob_T) x => f_X9_become_L11 (fun y1 y2 t_o => f_X9_become_J37 y1 y2 t_o) rec x.1 x.2.1 x.2.2.1 x.2.2.2) FU_ (x1, x2, (0 : Int32), s_o))
  else
  (f_X9_become_J47 x1 x2 s_o)
def f_X9_give (s_o : Ob_T) (x1 : Int32) (x2 : Int32) : Option (Int32 × Ob_T) :=
  (f_X9_isTold x1).bind fun u1 =>
  if u1 = (0 : Int32) then
  (some ((-2 : Int32), s_o))
  else
  ((f_X9_in x2.toInt64 (0 : Int64) (9 : Int64)).bind fun u2 =>
  if u2 = (0 : Int32) then
  (some ((-3 : Int32), s_o))
  else
  ((ld_I (o_A s_o 4) 4 x1).bind fun v3 =>
  if v3 = x2 then
  (some ((-4 : Int32), s_o))
  else
  ((f_X9_become s_o x1 x2).bind fun u4 =>
  (f_X9_givenMany u4).bind fun u5 =>
  some (u5, u4))))
def f_X9_free (s_o : Ob_T) (x1 : Int32) : Option (Int32 × Ob_T) :=
  (f_X9_isTold x1).bind fun u1 =>
  if u1 = (0 : Int32) then
  (some ((-2 : Int32), s_o))
  else
  ((ld_I (o_A s_o 4) 4 x1).bind fun v2 =>
  if (0 : Int32) ≤ v2 then
  ((f_X9_become s_o x1 (-1 : Int32)).bind fun u3 =>
  (f_X9_givenMany u3).bind fun u4 =>
  some (u4, u3))
  else
  (some ((-4 : Int32), s_o)))
def f_X9_undo_L22 (rec22 : (Int32 × Ob_T) → Option (Int32 × Ob_T)) (x1 : Int32) (s_o : Ob_T) : Option (Int32 × Ob_T) :=
  if (4 : Int32) ≤ x1 then
  (some ((o_F s_o 6), s_o))
  else
  ((ld_I (o_A s_o 5) 32 (((4 : Int32) * (o_F s_o 6)) + x1)).bind fun v2 =>
  (st_A s_o 4 4 x1 v2).bind fun o3 =>
  rec22 ((x1 + (1 : Int32)), o3))
def f_X9_undo (s_o : Ob_T) : Option (Int32 × Ob_T) :=
  if (o_F s_o 6) = (0 : Int32) then
  (some ((-4 : Int32), s_o))
  else
  (Lt_ (p_F s_o 6 ((o_F s_o 6) - (1 : Int32))) fun o1 =>
  Lp_ (fun (rec : (Int32 × Ob_T) → Option (Int32 × Ob_T)) x => f_X9_undo_L22 rec x.1 x.2) FU_ ((0 : Int32), o1))
def f_X9_keep_L15 (k42 : Int32 → Ob_T → Option (Int32 × Ob_T)) (rec15 : (Int32 × Int32 × Ob_T) → Option (Int32 × Ob_T)) (x1 : Int32) (x2 : Int32) (s_o : Ob_T) : Option (Int32 × Ob_T) :=
  if (4 : Int32) ≤ x2 then
  (k42 x1 s_o)
  else
  ((ld_I (o_A s_o 4) 4 x2).bind fun v2 =>
  (st_A s_o 7 8 (((4 : Int32) * x1) + x2) v2).bind fun o3 =>
  rec15 (x1, (x2 + (1 : Int32)), o3))
def f_X9_keep_J42 (x1 : Int32) (s_o : Ob_T) : Option (Int32 × Ob_T) :=
  (st_A s_o 8 2 x1 (vp_nar .boolean (1 : Int32))).bind fun o4 =>
  (f_X9_givenMany o4).bind fun u5 =>
  some (u5, o4)
def f_X9_keep (s_o : Ob_T) (x1 : Int32) : Option (Int32 × Ob_T) :=
  (f_X9_in x1.toInt64 (0 : Int64) (1 : Int64)).bind fun u1 =>
  if u1 = (0 : Int32) then
  (some ((-2 : Int32), s_o))
  else
  (Lp_ (fun (rec : (Int32 × Int32 × Ob_T) → Option (Int32 × Ob_T)) x => f_X9_keep_L15 (fun y1 t_o => f_X9_keep_J42 y1 t_o) rec x.1 x.2.1 x.2.2) FU_ (x1, (0 : Int32), s_o))
def f_X9_back_L27 (k54 : Ob_T → Option (Int32 × Ob_T)) (rec27 : (Int32 × Int32 × Ob_T) → Option (Int32 × Ob_T)) (x1 : Int32) (x2 : Int32) (s_o : Ob_T) : Option (Int32 × Ob_T) :=
  if (4 : Int32) ≤ x2 then
  (k54 s_o)
  else
  ((ld_I (o_A s_o 7) 8 (((4 : Int32) * x1) + x2)).bind fun v3 =>
  (st_A s_o 4 4 x2 v3).bind fun o4 =>
  rec27 (x1, (x2 + (1 : Int32)), o4))
def f_X9_back_J54 (s_o : Ob_T) : Option (Int32 × Ob_T) :=
  Lt_ (p_F s_o 6 (0 : Int32)) fun o5 =>
  (f_X9_givenMany o5).bind fun u6 =>
  some (u6, o5)
def f_X9_back (s_o : Ob_T) (x1 : Int32) : Option (Int32 × Ob_T) :=
  (f_X9_in x1.toInt64 (0 : Int64) (1 : Int64)).bind fun u1 =>
  if u1 = (0 : Int32) then
  (some ((-2 : Int32), s_o))
  else
  ((ld_I (o_A s_o 8) 2 x1).bind fun v2 =>
  if v2 = (0 : Int32) then
  (some ((-4 : Int32), s_o))
  else
  (Lp_ (fun (rec : (Int32 × Int32 × Ob_T) → Option (Int32 × Ob_T)) x => f_X9_back_L27 (fun t_o => f_X9_back_J54 t_o) rec x.1 x.2.1 x.2.2) FU_ (x1, (0 : Int32), s_o)))
def f_X9_letter_J62 (x1 : Int32) (s_o : Ob_T) : Option (Int32 × Ob_T) :=
  (f_X9_solveNow s_o).bind fun u3 =>
  (f_X9_solved u3 ((20000 : Int32) + x1)).bind fun u4 =>
  some (u4, u3)
def f_X9_letter_J47 (x1 : Int32) (k0 : Int32) (s_o : Ob_T) : Option (Int32 × Ob_T) :=
  (f_X9_isTold x1).bind fun u2 =>
  if u2 = (0 : Int32) then
  (if k0 = (0 : Int32) then
  (some ((-2 : Int32), s_o))
  else
  (f_X9_letter_J62 x1 s_o))
  else
  (f_X9_letter_J62 x1 s_o)
def f_X9_letter_J46 (x1 : Int32) (s_o : Ob_T) : Option (Int32 × Ob_T) :=
  f_X9_letter_J47 x1 (0 : Int32) s_o
def f_X9_letter_J42 (x1 : Int32) (s_o : Ob_T) : Option (Int32 × Ob_T) :=
  f_X9_letter_J47 x1 (1 : Int32) s_o
def f_X9_letter (s_o : Ob_T) (x1 : Int32) : Option (Int32 × Ob_T) :=
  (f_X9_isNode s_o (x1 - (4 : Int32))).bind fun u1 =>
  if u1 = (0 : Int32) then
  (f_X9_letter_J46 x1 s_o)
  else
  ((ld_I (o_A s_o 0) 150 (((15 : Int32) * (x1 - (4 : Int32))) + (0 : Int32))).bind fun v5 =>
  if v5 = (2 : Int32) then
  (f_X9_letter_J42 x1 s_o)
  else
  ((ld_I (o_A s_o 0) 150 (((15 : Int32) * (x1 - (4 : Int32))) + (0 : Int32))).bind fun v6 =>
  if v6 = (5 : Int32) then
  (f_X9_letter_J42 x1 s_o)
  else
  (f_X9_letter_J46 x1 s_o)))
def f_X9_fails (s_o : Ob_T) (x1 : Int32) : Option (Int32 × Ob_T) :=
  (f_X9_in x1.toInt64 (0 : Int64) (4 : Int64)).bind fun u1 =>
  if u1 = (0 : Int32) then
  (some ((-3 : Int32), s_o))
  else
  ((f_X9_solveNow s_o).bind fun u2 =>
  if (o_F u2 35) = (0 : Int32) then
  (some ((-1 : Int32), u2))
  else
  ((ld_I (o_A u2 34) 5 x1).bind fun v3 =>
  some (v3, u2)))
def f_X9_toldLetters_L14 (rec4 : (Int32 × Int32) → Option Int32) (rec14 : (Int32 × Int32 × Int32) → Option Int32) (x1 : Int32) (x2 : Int32) (x3 : Int32) (s_o : Ob_T) : Option Int32 :=
  (ld_I (o_A s_o 0) 150 (((15 : Int32) * x2) + (4 : Int32))).bind fun v1 =>
  if v1 ≤ x3 then
  (rec4 (x1, (x2 + (1 : Int32))))
  else
  ((ld_I (o_A s_o 0) 150 ((((15 : Int32) * x2) + (5 : Int32)) + x3)).bind fun v2 =>
  if (20000 : Int32) ≤ v2 then
  (Lt_ ((x1 ||| ((1 : Int32) <<< ((v2 - (20000 : Int32)) &&& (31 : Int32))))) fun e3 =>
  rec14 (e3, x2, (x3 + (1 : Int32))))
  else
  (rec14 ((x1 ||| (0 : Int32)), x2, (x3 + (1 : Int32)))))
def f_X9_toldLetters_L4 (rec4 : (Int32 × Int32) → Option Int32) (x1 : Int32) (x2 : Int32) (s_o : Ob_T) : Option Int32 :=
  if (o_F s_o 2) ≤ x2 then
  (some x1)
  else
  (Lp_ (fun (rec : (Int32 × Int32 × Int32) → Option Int32) x => f_X9_toldLetters_L14 rec4 rec x.1 x.2.1 x.2.2 s_o) FU_ (x1, x2, (0 : Int32)))
def f_X9_toldLetters (s_o : Ob_T) : Option Int32 :=
  Lp_ (fun (rec : (Int32 × Int32) → Option Int32) x => f_X9_toldLetters_L4 rec x.1 x.2 s_o) FU_ ((0 : Int32), (0 : Int32))
def f_X9_open_L13 (rec13 : (Int32 × Int32 × Int32 × Ob_T) → Option (Int32 × Ob_T)) (x1 : Int32) (x2 : Int32) (x3 : Int32) (s_o : Ob_T) : Option (Int32 × Ob_T) :=
  if (4 : Int32) ≤ x3 then
  (some (x2, s_o))
  else
  ((f_X9_has x1 x3).bind fun u3 =>
  if u3 = (0 : Int32) then
  (rec13 (x1, (x2 ||| (0 : Int32)), (x3 + (1 : Int32)), s_o))
  else
  ((f_X9_solved s_o ((20000 : Int32) + x3)).bind fun u4 =>
  if u4 = ((20000 : Int32) + x3) then
  (Lt_ ((x2 ||| ((1 : Int32) <<< (x3 &&& (31 : Int32))))) fun e5 =>
  rec13 (x1, e5, (x3 + (1 : Int32)), s_o))
  else
  (rec13 (x1, (x2 ||| (0 : Int32)), (x3 + (1 : Int32)), s_o))))
def f_X9_open (s_o : Ob_T) : Option (Int32 × Ob_T) :=
  (f_X9_solveNow s_o).bind fun u1 =>
  (f_X9_toldLetters u1).bind fun u2 =>
  Lp_ (fun (rec : (Int32 × Int32 × Int32 × Ob_T) → Option (Int32 × Ob_T)) x => f_X9_open_L13 rec x.1 x.2.1 x.2.2.1 x.2.2.2) FU_ (u2, (0 : Int32), (0 : Int32), u1)
def f_X9_findWays_L7 (k37 : Int32 → Int32 → Int32 → Ob_T → Option (Int32 × Ob_T)) (rec7 : (Int32 × Int32 × Int32 × Int32 × Ob_T) → Option (Int32 × Ob_T)) (x1 : Int32) (x2 : Int32) (x3 : Int32) (x4 : Int32) (s_o : Ob_T) : Option (Int32 × Ob_T) :=
  if (4 : Int32) ≤ x4 then
  (k37 x1 x2 x3 s_o)
  else
  ((f_X9_has x1 x4).bind fun u1 =>
  if u1 = (0 : Int32) then
  (rec7 (x1, (x2 * (1 : Int32)), x3, (x4 + (1 : Int32)), s_o))
  else
  (rec7 (x1, (x2 * (10 : Int32)), x3, (x4 + (1 : Int32)), s_o)))
def f_X9_findWays_J88 (rec53 : (Int32 × Int32 × Int32 × Int32 × Int32 × Int32 × Ob_T) → Option (Int32 × Ob_T)) (x1 : Int32) (x2 : Int32) (x3 : Int32) (x4 : Int32) (x5 : Int32) (x6 : Int32) (k1 : Int32) (k2 : Int32) (s_o : Ob_T) : Option (Int32 × Ob_T) :=
  (st_A s_o 33 4 k1 k2).bind fun o4 =>
  (f_X9_has x1 x6).bind fun u5 =>
  if u5 = (0 : Int32) then
  (rec53 (x1, x2, x3, x4, x5, (x6 + (-1 : Int32)), o4))
  else
  (if (10 : Int32) = 0 then none else
  rec53 (x1, x2, x3, x4, (x5 / (10 : Int32)), (x6 + (-1 : Int32)), o4))
def f_X9_findWays_L53 (k116 : Int32 → Int32 → Int32 → Int32 → Ob_T → Option (Int32 × Ob_T)) (rec53 : (Int32 × Int32 × Int32 × Int32 × Int32 × Int32 × Ob_T) → Option (Int32 × Ob_T)) (x1 : Int32) (x2 : Int32) (x3 : Int32) (x4 : Int32) (x5 : Int32) (x6 : Int32) (s_o : Ob_T) : Option (Int32 × Ob_T) :=
  if x6 < (0 : Int32) then
  (k116 x1 x2 x3 x4 s_o)
  else
  ((f_X9_has x1 x6).bind fun u2 =>
  if u2 = (0 : Int32) then
  ((ld_I (o_A s_o 4) 4 x6).bind fun v3 =>
  f_X9_findWays_J88 rec53 x1 x2 x3 x4 x5 x6 x6 v3 s_o)
  else
  (if (10 : Int32) = 0 then none else
  f_X9_findWays_J88 rec53 x1 x2 x3 x4 x5 x6 x6 (x5 - x5 / (10 : Int32) * (10 : Int32)) s_o))
def f_X9_findWays_L130 (rec40 : (Int32 × Int32 × Int32 × Int32 × Ob_T) → Option (Int32 × Ob_T)) (rec130 : (Int32 × Int32 × Int32 × Int32 × Int32 × Ob_T) → Option (Int32 × Ob_T)) (x1 : Int32) (x2 : Int32) (x3 : Int32) (x4 : Int32) (x6 : Int32) (s_o : Ob_T) : Option (Int32 × Ob_T) :=
  if (4 : Int32) ≤ x6 then
  (rec40 (x1, x2, (x3 + (1 : Int32)), (x4 + (1 : Int32)), s_o))
  else
  (if x3 = (0 : Int32) then
  ((ld_I (o_A s_o 33) 4 x6).bind fun v7 =>
  (st_A s_o 43 4 x6 v7).bind fun o8 =>
  rec130 (x1, x2, x3, x4, (x6 + (1 : Int32)), o8))
  else
  (rec40 (x1, x2, (x3 + (1 : Int32)), (x4 + (1 : Int32)), s_o)))
def f_X9_findWays_J116 (rec40 : (Int32 × Int32 × Int32 × Int32 × Ob_T) → Option (Int32 × Ob_T)) (x1 : Int32) (x2 : Int32) (x3 : Int32) (x4 : Int32) (s_o : Ob_T) : Option (Int32 × Ob_T) :=
  (f_X9_solve s_o).bind fun u6 =>
  if (o_F u6 35) = (0 : Int32) then
  (Lp_ (fun (rec : (Int32 × Int32 × Int32 × Int32 × Int32 × Ob_T) → Option (Int32 × Ob_T)) x => f_X9_findWays_L130 rec40 rec x.1 x.2.1 x.2.2.1 x.2.2.2.1 x.2.2.2.2.1 x.2.2.2.2.2) FU_ (x1, x2, x3, x4, (0 : Int32), u6))
  else
  (rec40 (x1, x2, x3, (x4 + (1 : Int32)), u6))
def f_X9_findWays_L40 (rec40 : (Int32 × Int32 × Int32 × Int32 × Ob_T) → Option (Int32 × Ob_T)) (x1 : Int32) (x2 : Int32) (x3 : Int32) (x4 : Int32) (s_o : Ob_T) : Option (Int32 × Ob_T) :=
  if x2 ≤ x4 then
  (some (x3, s_o))
  else
  (Lp_ (fun (rec : (Int32 × Int32 × Int32 × Int32 × Int32 × Int32 × Ob_T) → Option (Int32 × Ob_T)) x => f_X9_findWays_L53 (fun y1 y2 y3 y4 t_o => f_X9_findWays_J116 rec40 y1 y2 y3 y4 t_o) rec x.1 x.2.1 x.2.2.1 x.2.2.2.1 x.2.2.2.2.1 x.2.2.2.2.2.1 x.2.2.2.2.2.2) FU_ (x1, x2, x3, x4, x4, (3 : Int32), s_o))
def f_X9_findWays_J37 (x1 : Int32) (x2 : Int32) (x3 : Int32) (s_o : Ob_T) : Option (Int32 × Ob_T) :=
  Lp_ (fun (rec : (Int32 × Int32 × Int32 × Int32 × Ob_T) → Option (Int32 × Ob_T)) x => f_X9_findWays_L40 rec x.1 x.2.1 x.2.2.1 x.2.2.2.1 x.2.2.2.2) FU_ (x1, x2, x3, (0 : Int32), s_o)
def f_X9_findWays (s_o : Ob_T) (x1 : Int32) : Option (Int32 × Ob_T) :=
  Lp_ (fun (rec : (Int32 × Int32 × Int32 × Int32 × Ob_T) → Option (Int32 × Ob_T)) x => f_X9_findWays_L7 (fun y1 y2 y3 t_o => f_X9_findWays_J37 y1 y2 y3 t_o) rec x.1 x.2.1 x.2.2.1 x.2.2.2.1 x.2.2.2.2) FU_ (x1, (1 : Int32), (0 : Int32), (0 : Int32), s_o)
def f_X9_ways (s_o : Ob_T) : Option (Int32 × Ob_T) :=
  (f_X9_open s_o).bind fun u1 =>
  if (o_F u1.2 35) = (0 : Int32) then
  ((f_X9_findWays u1.2 u1.1).bind fun u2 =>
  some (u2.1, u2.2))
  else
  (some ((0 : Int32), u1.2))
def f_X9_way (s_o : Ob_T) (x1 : Int32) : Option (Int32 × Ob_T) :=
  (f_X9_isTold x1).bind fun u1 =>
  if u1 = (0 : Int32) then
  (some ((-2 : Int32), s_o))
  else
  ((f_X9_open s_o).bind fun u2 =>
  (f_X9_has u2.1 x1).bind fun u3 =>
  if u3 = (0 : Int32) then
  (some ((-4 : Int32), u2.2))
  else
  (if (o_F u2.2 35) = (0 : Int32) then
  ((f_X9_findWays u2.2 u2.1).bind fun u4 =>
  if u4.1 = (0 : Int32) then
  (some ((-1 : Int32), u4.2))
  else
  ((ld_I (o_A u4.2 43) 4 x1).bind fun v5 =>
  some (v5, u4.2)))
  else
  (some ((-1 : Int32), u2.2))))
def f_X9_odds_L41 (k63 : Int32 → Int32 → Int32 → Ob_T → Option (Int32 × Ob_T)) (rec41 : (Int32 × Int32 × Int32 × Int32 × Int32 × Ob_T) → Option (Int32 × Ob_T)) (x1 : Int32) (x2 : Int32) (x3 : Int32) (x4 : Int32) (x5 : Int32) (s_o : Ob_T) : Option (Int32 × Ob_T) :=
  (f_X9_bits x2).bind fun u4 =>
  if u4 ≤ x5 then
  (k63 x1 x3 x4 s_o)
  else
  (rec41 (x1, x2, x3, (x4 * (10 : Int32)), (x5 + (1 : Int32)), s_o))
def f_X9_odds_L70 (k93 : Int32 → Int32 → Int32 → Int32 → Ob_T → Option (Int32 × Ob_T)) (rec70 : (Int32 × Int32 × Int32 × Int32 × Int32 × Ob_T) → Option (Int32 × Ob_T)) (x1 : Int32) (x3 : Int32) (x4 : Int32) (x5 : Int32) (x6 : Int32) (s_o : Ob_T) : Option (Int32 × Ob_T) :=
  if x6 = (0 : Int32) then
  (k93 x1 x3 x4 x5 s_o)
  else
  (if x6 = 0 then none else
  rec70 (x1, x3, x4, x6, (x5 - x5 / x6 * x6), s_o))
def f_X9_odds_J93 (x1 : Int32) (x3 : Int32) (x4 : Int32) (x5 : Int32) (s_o : Ob_T) : Option (Int32 × Ob_T) :=
  if x1 = (0 : Int32) then
  (if x5 = 0 then none else
  some ((x3 / x5), s_o))
  else
  (if x5 = 0 then none else
  some ((x4 / x5), s_o))
def f_X9_odds_J63 (x1 : Int32) (x3 : Int32) (x4 : Int32) (s_o : Ob_T) : Option (Int32 × Ob_T) :=
  Lp_ (fun (rec : (Int32 × Int32 × Int32 × Int32 × Int32 × Ob_T) → Option (Int32 × Ob_T)) x => f_X9_odds_L70 (fun y1 y3 y4 y5 t_o => f_X9_odds_J93 y1 y3 y4 y5 t_o) rec x.1 x.2.1 x.2.2.1 x.2.2.2.1 x.2.2.2.2.1 x.2.2.2.2.2) FU_ (x1, x3, x4, x3, x4, s_o)
def f_X9_odds_J34 (x1 : Int32) (x2 : Int32) (k0 : Int32) (s_o : Ob_T) : Option (Int32 × Ob_T) :=
  Lp_ (fun (rec : (Int32 × Int32 × Int32 × Int32 × Int32 × Ob_T) → Option (Int32 × Ob_T)) x => f_X9_odds_L41 (fun y1 y3 y4 t_o => f_X9_odds_J63 y1 y3 y4 t_o) rec x.1 x.2.1 x.2.2.1 x.2.2.2.1 x.2.2.2.2.1 x.2.2.2.2.2) FU_ (x1, x2, k0, (1 : Int32), (0 : Int32), s_o)
def f_X9_odds (s_o : Ob_T) (x1 : Int32) : Option (Int32 × Ob_T) :=
  (f_X9_in x1.toInt64 (0 : Int64) (1 : Int64)).bind fun u1 =>
  if u1 = (0 : Int32) then
  (some ((-3 : Int32), s_o))
  else
  ((f_X9_open s_o).bind fun u2 =>
  if (o_F u2.2 35) = (0 : Int32) then
  ((f_X9_findWays u2.2 u2.1).bind fun u3 =>
  f_X9_odds_J34 x1 u2.1 u3.1 u3.2)
  else
  (f_X9_odds_J34 x1 u2.1 (0 : Int32) u2.2))
def f_X9_isMended_L21 (k43 : Ob_T → Option (Int32 × Ob_T)) (rec21 : (Int32 × Ob_T) → Option (Int32 × Ob_T)) (x4 : Int32) (s_o : Ob_T) : Option (Int32 × Ob_T) :=
  if (o_F s_o 3) ≤ x4 then
  (k43 s_o)
  else
  ((f_X9_laysShape s_o x4).bind fun u3 =>
  rec21 ((x4 + (1 : Int32)), u3.2))
def f_X9_isMended_J43 (s_o : Ob_T) : Option (Int32 × Ob_T) :=
  (f_X9_solve s_o).bind fun u4 =>
  if (o_F u4 35) = (0 : Int32) then
  (some ((1 : Int32), u4))
  else
  (some ((0 : Int32), u4))
def f_X9_isMended (s_o : Ob_T) (x1 : Int32) (x2 : Int32) (x3 : Int32) : Option (Int32 × Ob_T) :=
  (f_X9_layNodes s_o).bind fun u1 =>
  (st_A u1 1 150 ((((15 : Int32) * x1) + (5 : Int32)) + x2) x3).bind fun o2 =>
  Lp_ (fun (rec : (Int32 × Ob_T) → Option (Int32 × Ob_T)) x => f_X9_isMended_L21 (fun t_o => f_X9_isMended_J43 t_o) rec x.1 x.2) FU_ ((0 : Int32), o2)
def f_X9_mend_L42 (rec25 : (Int32 × Int32 × Ob_T) → Option (Int32 × Ob_T)) (rec42 : (Int32 × Int32 × Int32 × Ob_T) → Option (Int32 × Ob_T)) (x1 : Int32) (x2 : Int32) (x3 : Int32) (s_o : Ob_T) : Option (Int32 × Ob_T) :=
  if (10 : Int32) ≤ x3 then
  (rec25 (x1, (x2 + (1 : Int32)), s_o))
  else
  ((f_X9_isMended s_o x1 x2 x3).bind fun u3 =>
  if u3.1 = (0 : Int32) then
  (rec42 (x1, x2, (x3 + (1 : Int32)), u3.2))
  else
  (some (((((100 : Int32) * x1) + ((10 : Int32) * x2)) + x3), u3.2)))
def f_X9_mend_L25 (rec15 : (Int32 × Ob_T) → Option (Int32 × Ob_T)) (rec25 : (Int32 × Int32 × Ob_T) → Option (Int32 × Ob_T)) (x1 : Int32) (x2 : Int32) (s_o : Ob_T) : Option (Int32 × Ob_T) :=
  (ld_I (o_A s_o 0) 150 (((15 : Int32) * x1) + (4 : Int32))).bind fun v2 =>
  if v2 ≤ x2 then
  (rec15 ((x1 + (1 : Int32)), s_o))
  else
  (Lp_ (fun (rec : (Int32 × Int32 × Int32 × Ob_T) → Option (Int32 × Ob_T)) x => f_X9_mend_L42 rec25 rec x.1 x.2.1 x.2.2.1 x.2.2.2) FU_ (x1, x2, (0 : Int32), s_o))
def f_X9_mend_L15 (rec15 : (Int32 × Ob_T) → Option (Int32 × Ob_T)) (x1 : Int32) (s_o : Ob_T) : Option (Int32 × Ob_T) :=
  if (o_F s_o 2) ≤ x1 then
  (some ((-1 : Int32), s_o))
  else
  (Lp_ (fun (rec : (Int32 × Int32 × Ob_T) → Option (Int32 × Ob_T)) x => f_X9_mend_L25 rec15 rec x.1 x.2.1 x.2.2) FU_ (x1, (0 : Int32), s_o))
def f_X9_mend (s_o : Ob_T) : Option (Int32 × Ob_T) :=
  (f_X9_solveNow s_o).bind fun u1 =>
  if (o_F u1 35) = (0 : Int32) then
  (some ((-1 : Int32), u1))
  else
  (Lp_ (fun (rec : (Int32 × Ob_T) → Option (Int32 × Ob_T)) x => f_X9_mend_L15 rec x.1 x.2) FU_ ((0 : Int32), u1))
def f_X9_seen (s_o : Ob_T) (x1 : Int32) (x2 : Int32) (x3 : Int32) : Option (Int32 × Ob_T) :=
  (f_X9_in x1.toInt64 (1 : Int64) (9 : Int64)).bind fun u1 =>
  if u1 = (0 : Int32) then
  (some ((-3 : Int32), s_o))
  else
  ((f_X9_in x2.toInt64 (0 : Int64) (1 : Int64)).bind fun u2 =>
  if u2 = (0 : Int32) then
  (some ((-3 : Int32), s_o))
  else
  ((f_X9_in x3.toInt64 (0 : Int64) (99 : Int64)).bind fun u3 =>
  if u3 = (0 : Int32) then
  (some ((-3 : Int32), s_o))
  else
  (if (o_F s_o 11) = (6 : Int32) then
  (some ((-5 : Int32), s_o))
  else
  ((st_A s_o 12 6 (o_F s_o 11) x1).bind fun o4 =>
  (st_A o4 13 6 (o_F o4 11) x2).bind fun o5 =>
  (st_A o5 14 6 (o_F o5 11) x3).bind fun o6 =>
  Lt_ (p_F o6 11 ((o_F o6 11) + (1 : Int32))) fun o7 =>
  some ((o_F o7 11), o7)))))
def f_X9_forget (s_o : Ob_T) : Option (Int32 × Ob_T) :=
  Lt_ (p_F s_o 11 (0 : Int32)) fun o1 =>
  some ((o_F s_o 11), o1)
def f_X9_comesOf (x0 : Int32) (x1 : Int32) : Option Int32 :=
  if x0 = (4 : Int32) then
  (some (0 : Int32))
  else
  (if x0 = (2 : Int32) then
  (some ((100 : Int32) + ((2 : Int32) * x1)))
  else
  (some ((100 : Int32) + x1)))
def f_X9_kinds_L14 (k71 : Int32 → Int32 → Int32 → Option Int32) (rec14 : (Int32 × Int32 × Int32 × Int32) → Option Int32) (x1 : Int32) (x2 : Int32) (x3 : Int32) (x4 : Int32) (s_o : Ob_T) : Option Int32 :=
  if (o_F s_o 11) ≤ x4 then
  (k71 x1 x2 x3)
  else
  (if x3 = (0 : Int32) then
  (rec14 (x1, x2, (0 : Int32), (x4 + (1 : Int32))))
  else
  ((ld_I (o_A s_o 12) 6 x4).bind fun v1 =>
  (f_X9_comesOf x2 v1).bind fun u2 =>
  (ld_I (o_A s_o 13) 6 x4).bind fun v3 =>
  (ld_I (o_A s_o 14) 6 x4).bind fun v4 =>
  if u2 = (((100 : Int32) * v3) + v4) then
  (rec14 (x1, x2, (1 : Int32), (x4 + (1 : Int32))))
  else
  (rec14 (x1, x2, (0 : Int32), (x4 + (1 : Int32))))))
def f_X9_kinds_J71 (rec4 : (Int32 × Int32) → Option Int32) (x1 : Int32) (x2 : Int32) (x3 : Int32) (s_o : Ob_T) : Option Int32 :=
  if x3 = (0 : Int32) then
  (rec4 ((x1 ||| (0 : Int32)), (x2 + (1 : Int32))))
  else
  (Lt_ ((x1 ||| ((1 : Int32) <<< (x2 &&& (31 : Int32))))) fun e5 =>
  rec4 (e5, (x2 + (1 : Int32))))
def f_X9_kinds_L4 (rec4 : (Int32 × Int32) → Option Int32) (x1 : Int32) (x2 : Int32) (s_o : Ob_T) : Option Int32 :=
  if (5 : Int32) < x2 then
  (some x1)
  else
  (Lp_ (fun (rec : (Int32 × Int32 × Int32 × Int32) → Option Int32) x => f_X9_kinds_L14 (fun y1 y2 y3 => f_X9_kinds_J71 rec4 y1 y2 y3 s_o) rec x.1 x.2.1 x.2.2.1 x.2.2.2 s_o) FU_ (x1, x2, (1 : Int32), (0 : Int32)))
def f_X9_kinds (s_o : Ob_T) : Option Int32 :=
  Lp_ (fun (rec : (Int32 × Int32) → Option Int32) x => f_X9_kinds_L4 rec x.1 x.2 s_o) FU_ ((0 : Int32), (1 : Int32))
def f_X9_ask_L40 (k97 : Int32 → Int32 → Int32 → Int32 → Int32 → Int32 → Int32 → Option Int32) (rec40 : (Int32 × Int32 × Int32 × Int32 × Int32 × Int32 × Int32 × Int32) → Option Int32) (x1 : Int32) (x2 : Int32) (x3 : Int32) (x4 : Int32) (x5 : Int32) (x6 : Int32) (x7 : Int32) (x8 : Int32) (s_o : Ob_T) : Option Int32 :=
  if (5 : Int32) < x8 then
  (k97 x1 x2 x3 x4 x5 x6 x7)
  else
  ((f_X9_has x1 x6).bind fun u3 =>
  if u3 = (0 : Int32) then
  (rec40 (x1, x2, x3, x4, x5, x6, (x7 + (0 : Int32)), (x8 + (1 : Int32))))
  else
  ((f_X9_has x1 x8).bind fun u4 =>
  if u4 = (0 : Int32) then
  (rec40 (x1, x2, x3, x4, x5, x6, (x7 + (0 : Int32)), (x8 + (1 : Int32))))
  else
  ((f_X9_comesOf x6 x4).bind fun u5 =>
  (f_X9_comesOf x8 x4).bind fun u6 =>
  if u5 = u6 then
  (rec40 (x1, x2, x3, x4, x5, x6, (x7 + (1 : Int32)), (x8 + (1 : Int32))))
  else
  (rec40 (x1, x2, x3, x4, x5, x6, (x7 + (0 : Int32)), (x8 + (1 : Int32)))))))
def f_X9_ask_J97 (rec28 : (Int32 × Int32 × Int32 × Int32 × Int32 × Int32) → Option Int32) (x1 : Int32) (x2 : Int32) (x3 : Int32) (x4 : Int32) (x5 : Int32) (x6 : Int32) (x7 : Int32) (s_o : Ob_T) : Option Int32 :=
  if x7 ≤ x5 then
  (rec28 (x1, x2, x3, x4, x5, (x6 + (1 : Int32))))
  else
  (rec28 (x1, x2, x3, x4, x7, (x6 + (1 : Int32))))
def f_X9_ask_L28 (k119 : Int32 → Int32 → Int32 → Int32 → Int32 → Option Int32) (rec28 : (Int32 × Int32 × Int32 × Int32 × Int32 × Int32) → Option Int32) (x1 : Int32) (x2 : Int32) (x3 : Int32) (x4 : Int32) (x5 : Int32) (x6 : Int32) (s_o : Ob_T) : Option Int32 :=
  if (5 : Int32) < x6 then
  (k119 x1 x2 x3 x4 x5)
  else
  (Lp_ (fun (rec : (Int32 × Int32 × Int32 × Int32 × Int32 × Int32 × Int32 × Int32) → Option Int32) x => f_X9_ask_L40 (fun y1 y2 y3 y4 y5 y6 y7 => f_X9_ask_J97 rec28 y1 y2 y3 y4 y5 y6 y7 s_o) rec x.1 x.2.1 x.2.2.1 x.2.2.2.1 x.2.2.2.2.1 x.2.2.2.2.2.1 x.2.2.2.2.2.2.1 x.2.2.2.2.2.2.2 s_o) FU_ (x1, x2, x3, x4, x5, x6, (0 : Int32), (1 : Int32)))
def f_X9_ask_J131 (rec15 : (Int32 × Int32 × Int32 × Int32) → Option Int32) (x1 : Int32) (x3 : Int32) (x4 : Int32) (x5 : Int32) (k0 : Int32) (s_o : Ob_T) : Option Int32 :=
  if x3 ≤ x5 then
  (rec15 (x1, k0, x3, (x4 + (1 : Int32))))
  else
  (rec15 (x1, k0, x5, (x4 + (1 : Int32))))
def f_X9_ask_J119 (rec15 : (Int32 × Int32 × Int32 × Int32) → Option Int32) (x1 : Int32) (x2 : Int32) (x3 : Int32) (x4 : Int32) (x5 : Int32) (s_o : Ob_T) : Option Int32 :=
  if x3 ≤ x5 then
  (f_X9_ask_J131 rec15 x1 x3 x4 x5 x2 s_o)
  else
  (f_X9_ask_J131 rec15 x1 x3 x4 x5 x4 s_o)
def f_X9_ask_L15 (rec15 : (Int32 × Int32 × Int32 × Int32) → Option Int32) (x1 : Int32) (x2 : Int32) (x3 : Int32) (x4 : Int32) (s_o : Ob_T) : Option Int32 :=
  if (10 : Int32) ≤ x4 then
  (some x2)
  else
  (Lp_ (fun (rec : (Int32 × Int32 × Int32 × Int32 × Int32 × Int32) → Option Int32) x => f_X9_ask_L28 (fun y1 y2 y3 y4 y5 => f_X9_ask_J119 rec15 y1 y2 y3 y4 y5 s_o) rec x.1 x.2.1 x.2.2.1 x.2.2.2.1 x.2.2.2.2.1 x.2.2.2.2.2 s_o) FU_ (x1, x2, x3, x4, (0 : Int32), (1 : Int32)))
def f_X9_ask (s_o : Ob_T) : Option Int32 :=
  (f_X9_kinds s_o).bind fun u1 =>
  (f_X9_bits u1).bind fun u2 =>
  Lp_ (fun (rec : (Int32 × Int32 × Int32 × Int32) → Option Int32) x => f_X9_ask_L15 rec x.1 x.2.1 x.2.2.1 x.2.2.2 s_o) FU_ (u1, (-1 : Int32), u2, (1 : Int32))
def f_X9_isRow (x0 : Int32) : Option Int32 :=
  (f_X9_in x0.toInt64 (0 : Int64) (2 : Int64)).bind fun u1 =>
  (zb_ u1).bind fun _ =>
  some u1
def f_X9_row_L53 (rec53 : (Int32 × Int32 × Int32 × Ob_T) → Option (Int32 × Ob_T)) (x1 : Int32) (x3 : Int32) (x4 : Int32) (s_o : Ob_T) : Option (Int32 × Ob_T) :=
  if (10 : Int32) ≤ x4 then
  (some (x3, s_o))
  else
  ((st_A s_o 17 30 (((10 : Int32) * x1) + x4) (0 : Int32)).bind fun o5 =>
  rec53 (x1, x3, (x4 + (1 : Int32)), o5))
def f_X9_row (s_o : Ob_T) (x1 : Int32) (x2 : Int32) (x3 : Int32) : Option (Int32 × Ob_T) :=
  (f_X9_isRow x1).bind fun u1 =>
  if u1 = (0 : Int32) then
  (some ((-2 : Int32), s_o))
  else
  ((f_X9_in x2.toInt64 (0 : Int64) (1 : Int64)).bind fun u2 =>
  if u2 = (0 : Int32) then
  (some ((-3 : Int32), s_o))
  else
  (if x3 ≤ (10 : Int32) then
  (if (0 : Int32) ≤ x3 then
  ((st_A s_o 15 3 x1 x2).bind fun o3 =>
  (st_A o3 16 3 x1 x3).bind fun o4 =>
  Lp_ (fun (rec : (Int32 × Int32 × Int32 × Ob_T) → Option (Int32 × Ob_T)) x => f_X9_row_L53 rec x.1 x.2.1 x.2.2.1 x.2.2.2) FU_ (x1, x3, (0 : Int32), o4))
  else
  (some ((-12 : Int32), s_o)))
  else
  (some ((-3 : Int32), s_o))))
def f_X9_noPlace (s_o : Ob_T) (x1 : Int32) (x2 : Int32) (x3 : Int32) : Option Int32 :=
  (ld_I (o_A s_o 16) 3 x1).bind fun v1 =>
  if (0 : Int32) ≤ v1 then
  ((ld_I (o_A s_o 15) 3 x1).bind fun v2 =>
  if v2 = x2 then
  ((ld_I (o_A s_o 16) 3 x1).bind fun v3 =>
  (f_X9_in x3.toInt64 (0 : Int64) ((v3 - (1 : Int32)).toInt64)).bind fun u4 =>
  if u4 = (0 : Int32) then
  (some (-14 : Int32))
  else
  (some (0 : Int32)))
  else
  (some (-13 : Int32)))
  else
  (some (-11 : Int32))
def f_X9_set (s_o : Ob_T) (x1 : Int32) (x2 : Int32) (x3 : Int32) (x4 : Int32) : Option (Int32 × Ob_T) :=
  (f_X9_isRow x1).bind fun u1 =>
  if u1 = (0 : Int32) then
  (some ((-2 : Int32), s_o))
  else
  ((f_X9_in x2.toInt64 (0 : Int64) (1 : Int64)).bind fun u2 =>
  if u2 = (0 : Int32) then
  (some ((-3 : Int32), s_o))
  else
  ((f_X9_in x4.toInt64 (-9999 : Int64) (9999 : Int64)).bind fun u3 =>
  if u3 = (0 : Int32) then
  (some ((-3 : Int32), s_o))
  else
  ((f_X9_noPlace s_o x1 x2 x3).bind fun u4 =>
  if u4 = (0 : Int32) then
  ((ld_I (o_A s_o 17) 30 (((10 : Int32) * x1) + x3)).bind fun v5 =>
  (st_A s_o 17 30 (((10 : Int32) * x1) + x3) x4).bind fun o6 =>
  some ((v5 + (50000 : Int32)), o6))
  else
  (some (u4, s_o)))))
def f_X9_get (s_o : Ob_T) (x1 : Int32) (x2 : Int32) (x3 : Int32) : Option Int32 :=
  (f_X9_isRow x1).bind fun u1 =>
  if u1 = (0 : Int32) then
  (some (-2 : Int32))
  else
  ((f_X9_in x2.toInt64 (0 : Int64) (1 : Int64)).bind fun u2 =>
  if u2 = (0 : Int32) then
  (some (-3 : Int32))
  else
  ((f_X9_noPlace s_o x1 x2 x3).bind fun u3 =>
  if u3 = (0 : Int32) then
  ((ld_I (o_A s_o 17) 30 (((10 : Int32) * x1) + x3)).bind fun v4 =>
  some (v4 + (50000 : Int32)))
  else
  (some u3)))
def f_X9_isSpan (s_o : Ob_T) (x1 : Int32) (x2 : Int32) (x3 : Int32) : Option Int32 :=
  if x2 < (0 : Int32) then
  (some (0 : Int32))
  else
  ((ld_I (o_A s_o 16) 3 x1).bind fun v1 =>
  if (0 : Int32) < (lg_cmp (x2.toInt64 + x3.toInt64) v1.toInt64) then
  (some (0 : Int32))
  else
  (some (1 : Int32)))
def f_X9_copy_J130 (rec106 : (Int32 × Int32 × Int32 × Int32 × Int32 × Int32 × Int32 × Ob_T) → Option (Int32 × Ob_T)) (x1 : Int32) (x2 : Int32) (x3 : Int32) (x4 : Int32) (x5 : Int32) (x6 : Int32) (x7 : Int32) (k0 : Int32) (s_o : Ob_T) : Option (Int32 × Ob_T) :=
  (ld_I (o_A s_o 17) 30 ((((10 : Int32) * x1) + x2) + k0)).bind fun v9 =>
  (st_A s_o 17 30 ((((10 : Int32) * x3) + x4) + k0) v9).bind fun o10 =>
  rec106 (x1, x2, x3, x4, x5, x6, (x7 + (1 : Int32)), o10)
def f_X9_copy_L106 (rec106 : (Int32 × Int32 × Int32 × Int32 × Int32 × Int32 × Int32 × Ob_T) → Option (Int32 × Ob_T)) (x1 : Int32) (x2 : Int32) (x3 : Int32) (x4 : Int32) (x5 : Int32) (x6 : Int32) (x7 : Int32) (s_o : Ob_T) : Option (Int32 × Ob_T) :=
  if x5 ≤ x7 then
  (some (x5, s_o))
  else
  (if x6 = (0 : Int32) then
  (f_X9_copy_J130 rec106 x1 x2 x3 x4 x5 x6 x7 x7 s_o)
  else
  (f_X9_copy_J130 rec106 x1 x2 x3 x4 x5 x6 x7 ((x5 - (1 : Int32)) - x7) s_o))
def f_X9_copy_J101 (x1 : Int32) (x2 : Int32) (x3 : Int32) (x4 : Int32) (x5 : Int32) (k0 : Int32) (s_o : Ob_T) : Option (Int32 × Ob_T) :=
  Lp_ (fun (rec : (Int32 × Int32 × Int32 × Int32 × Int32 × Int32 × Int32 × Ob_T) → Option (Int32 × Ob_T)) x => f_X9_copy_L106 rec x.1 x.2.1 x.2.2.1 x.2.2.2.1 x.2.2.2.2.1 x.2.2.2.2.2.1 x.2.2.2.2.2.2.1 x.2.2.2.2.2.2.2) FU_ (x1, x2, x3, x4, x5, k0, (0 : Int32), s_o)
def f_X9_copy (s_o : Ob_T) (x1 : Int32) (x2 : Int32) (x3 : Int32) (x4 : Int32) (x5 : Int32) : Option (Int32 × Ob_T) :=
  (f_X9_isRow x1).bind fun u1 =>
  if u1 = (0 : Int32) then
  (some ((-2 : Int32), s_o))
  else
  ((f_X9_isRow x3).bind fun u2 =>
  if u2 = (0 : Int32) then
  (some ((-2 : Int32), s_o))
  else
  ((ld_I (o_A s_o 16) 3 x1).bind fun v3 =>
  if v3 < (0 : Int32) then
  (some ((-11 : Int32), s_o))
  else
  ((ld_I (o_A s_o 16) 3 x3).bind fun v4 =>
  if (0 : Int32) ≤ v4 then
  (if (0 : Int32) ≤ x5 then
  ((ld_I (o_A s_o 15) 3 x1).bind fun v5 =>
  (ld_I (o_A s_o 15) 3 x3).bind fun v6 =>
  if v5 = v6 then
  ((f_X9_isSpan s_o x1 x2 x5).bind fun u7 =>
  if u7 = (0 : Int32) then
  (some ((-14 : Int32), s_o))
  else
  ((f_X9_isSpan s_o x3 x4 x5).bind fun u8 =>
  if u8 = (0 : Int32) then
  (some ((-14 : Int32), s_o))
  else
  (if x4 ≤ x2 then
  (f_X9_copy_J101 x1 x2 x3 x4 x5 (0 : Int32) s_o)
  else
  (f_X9_copy_J101 x1 x2 x3 x4 x5 (1 : Int32) s_o))))
  else
  (some ((-13 : Int32), s_o)))
  else
  (some ((-12 : Int32), s_o)))
  else
  (some ((-11 : Int32), s_o)))))
def f_X9_append_L64 (k107 : Int32 → Int32 → Ob_T → Option (Int32 × Ob_T)) (rec64 : (Int32 × Int32 × Int32 × Int32 × Ob_T) → Option (Int32 × Ob_T)) (x1 : Int32) (x2 : Int32) (x3 : Int32) (x4 : Int32) (s_o : Ob_T) : Option (Int32 × Ob_T) :=
  if x3 ≤ x4 then
  (k107 x1 x3 s_o)
  else
  ((ld_I (o_A s_o 16) 3 x1).bind fun v7 =>
  (ld_I (o_A s_o 17) 30 (((10 : Int32) * x2) + x4)).bind fun v8 =>
  (st_A s_o 17 30 ((((10 : Int32) * x1) + v7) + x4) v8).bind fun o9 =>
  rec64 (x1, x2, x3, (x4 + (1 : Int32)), o9))
def f_X9_append_J107 (x1 : Int32) (x3 : Int32) (s_o : Ob_T) : Option (Int32 × Ob_T) :=
  (ld_I (o_A s_o 16) 3 x1).bind fun v10 =>
  (st_A s_o 16 3 x1 (v10 + x3)).bind fun o11 =>
  (ld_I (o_A o11 16) 3 x1).bind fun v12 =>
  some (v12, o11)
def f_X9_append (s_o : Ob_T) (x1 : Int32) (x2 : Int32) : Option (Int32 × Ob_T) :=
  (f_X9_isRow x1).bind fun u1 =>
  if u1 = (0 : Int32) then
  (some ((-2 : Int32), s_o))
  else
  ((f_X9_isRow x2).bind fun u2 =>
  if u2 = (0 : Int32) then
  (some ((-2 : Int32), s_o))
  else
  ((ld_I (o_A s_o 16) 3 x1).bind fun v3 =>
  if v3 < (0 : Int32) then
  (some ((-11 : Int32), s_o))
  else
  ((ld_I (o_A s_o 16) 3 x2).bind fun v4 =>
  if (0 : Int32) ≤ v4 then
  ((ld_I (o_A s_o 16) 3 x2).bind fun v5 =>
  (ld_I (o_A s_o 16) 3 x1).bind fun v6 =>
  if (v6 + v5) ≤ (10 : Int32) then
  (Lp_ (fun (rec : (Int32 × Int32 × Int32 × Int32 × Ob_T) → Option (Int32 × Ob_T)) x => f_X9_append_L64 (fun y1 y3 t_o => f_X9_append_J107 y1 y3 t_o) rec x.1 x.2.1 x.2.2.1 x.2.2.2.1 x.2.2.2.2) FU_ (x1, x2, v5, (0 : Int32), s_o))
  else
  (some ((-15 : Int32), s_o)))
  else
  (some ((-11 : Int32), s_o)))))
def f_X9_load_J119 (rec75 : (Int32 × Int32 × Int32 × Int32 × Ob_T) → Option (Int32 × Ob_T)) (x1 : Int32) (x2 : Int32) (x3 : Int32) (x4 : Int32) (k1 : Int32) (k2 : Int32) (s_o : Ob_T) : Option (Int32 × Ob_T) :=
  (st_A s_o 17 30 k1 k2).bind fun o10 =>
  rec75 (x1, x2, x3, (x4 + (1 : Int32)), o10)
def f_X9_load_L75 (rec75 : (Int32 × Int32 × Int32 × Int32 × Ob_T) → Option (Int32 × Ob_T)) (x1 : Int32) (x2 : Int32) (x3 : Int32) (x4 : Int32) (s_o : Ob_T) : Option (Int32 × Ob_T) :=
  if x3 ≤ x4 then
  (some (x3, s_o))
  else
  ((f_X9_extentOf s_o x2 x4).bind fun u8 =>
  (f_X9_solved s_o u8).bind fun u9 =>
  if (20000 : Int32) ≤ u9 then
  (f_X9_load_J119 rec75 x1 x2 x3 x4 (((10 : Int32) * x1) + x4) (-1 : Int32) s_o)
  else
  (f_X9_load_J119 rec75 x1 x2 x3 x4 (((10 : Int32) * x1) + x4) u9 s_o))
def f_X9_load (s_o : Ob_T) (x1 : Int32) (x2 : Int32) : Option (Int32 × Ob_T) :=
  (f_X9_isRow x1).bind fun u1 =>
  if u1 = (0 : Int32) then
  (some ((-2 : Int32), s_o))
  else
  ((f_X9_isNode s_o x2).bind fun u2 =>
  if u2 = (0 : Int32) then
  (some ((-2 : Int32), s_o))
  else
  ((ld_I (o_A s_o 16) 3 x1).bind fun v3 =>
  if (0 : Int32) ≤ v3 then
  ((ld_I (o_A s_o 15) 3 x1).bind fun v4 =>
  if v4 = (0 : Int32) then
  ((ld_I (o_A s_o 0) 150 (((15 : Int32) * x2) + (8 : Int32))).bind fun v5 =>
  (ld_I (o_A s_o 16) 3 x1).bind fun v6 =>
  if v5 ≤ v6 then
  ((f_X9_solveNow s_o).bind fun u7 =>
  Lp_ (fun (rec : (Int32 × Int32 × Int32 × Int32 × Ob_T) → Option (Int32 × Ob_T)) x => f_X9_load_L75 rec x.1 x.2.1 x.2.2.1 x.2.2.2.1 x.2.2.2.2) FU_ (x1, x2, v5, (0 : Int32), u7))
  else
  (some ((-14 : Int32), s_o)))
  else
  (some ((-13 : Int32), s_o)))
  else
  (some ((-11 : Int32), s_o))))
def f_X9_sum_L16 (k46 : Int32 → Int32 → Option Int32) (rec16 : (Int32 × Int32 × Int32) → Option Int32) (x1 : Int32) (x2 : Int32) (x3 : Int32) (s_o : Ob_T) : Option Int32 :=
  (ld_I (o_A s_o 16) 3 x1).bind fun v2 =>
  if v2 ≤ x3 then
  (k46 x1 x2)
  else
  ((ld_I (o_A s_o 17) 30 (((10 : Int32) * x1) + x3)).bind fun v3 =>
  rec16 (x1, (x2 + v3), (x3 + (1 : Int32))))
def f_X9_sum_J46 (x1 : Int32) (x2 : Int32) (s_o : Ob_T) : Option Int32 :=
  (ld_I (o_A s_o 16) 3 x1).bind fun v4 =>
  if (0 : Int32) ≤ v4 then
  (some x2)
  else
  (some (-11 : Int32))
def f_X9_sum (s_o : Ob_T) (x1 : Int32) : Option Int32 :=
  (f_X9_isRow x1).bind fun u1 =>
  if u1 = (0 : Int32) then
  (some (-2 : Int32))
  else
  (Lp_ (fun (rec : (Int32 × Int32 × Int32) → Option Int32) x => f_X9_sum_L16 (fun y1 y2 => f_X9_sum_J46 y1 y2 s_o) rec x.1 x.2.1 x.2.2 s_o) FU_ (x1, (500000 : Int32), (0 : Int32)))
def f_X9_drop (s_o : Ob_T) (x1 : Int32) : Option (Int32 × Ob_T) :=
  (f_X9_isRow x1).bind fun u1 =>
  if u1 = (0 : Int32) then
  (some ((-2 : Int32), s_o))
  else
  ((ld_I (o_A s_o 16) 3 x1).bind fun v2 =>
  (st_A s_o 16 3 x1 (-1 : Int32)).bind fun o3 =>
  if (0 : Int32) ≤ v2 then
  (some (v2, o3))
  else
  (some ((-11 : Int32), o3)))
def f_X9_allPlaces_L4 (rec4 : (Int32 × Int32) → Option Int32) (x1 : Int32) (x2 : Int32) (s_o : Ob_T) : Option Int32 :=
  if (3 : Int32) ≤ x2 then
  (some x1)
  else
  ((ld_I (o_A s_o 16) 3 x2).bind fun v1 =>
  if (0 : Int32) ≤ v1 then
  ((ld_I (o_A s_o 16) 3 x2).bind fun v2 =>
  rec4 ((x1 + v2), (x2 + (1 : Int32))))
  else
  (rec4 ((x1 + (0 : Int32)), (x2 + (1 : Int32)))))
def f_X9_allPlaces (s_o : Ob_T) : Option Int32 :=
  Lp_ (fun (rec : (Int32 × Int32) → Option Int32) x => f_X9_allPlaces_L4 rec x.1 x.2 s_o) FU_ ((0 : Int32), (0 : Int32))
def f_X9_givenOnes_L4 (rec4 : (Int32 × Int32) → Option Int32) (x1 : Int32) (x2 : Int32) (s_o : Ob_T) : Option Int32 :=
  if (4 : Int32) ≤ x2 then
  (some x1)
  else
  ((ld_I (o_A s_o 4) 4 x2).bind fun v1 =>
  if (0 : Int32) ≤ v1 then
  (Lt_ ((x1 ||| ((1 : Int32) <<< (x2 &&& (31 : Int32))))) fun e2 =>
  rec4 (e2, (x2 + (1 : Int32))))
  else
  (rec4 ((x1 ||| (0 : Int32)), (x2 + (1 : Int32)))))
def f_X9_givenOnes (s_o : Ob_T) : Option Int32 :=
  Lp_ (fun (rec : (Int32 × Int32) → Option Int32) x => f_X9_givenOnes_L4 rec x.1 x.2 s_o) FU_ ((0 : Int32), (0 : Int32))
def f_X9_count (s_o : Ob_T) (x1 : Int32) : Option Int32 :=
  if x1 = (0 : Int32) then
  (some (o_F s_o 2))
  else
  (if x1 = (1 : Int32) then
  ((f_X9_givenOnes s_o).bind fun u1 =>
  some u1)
  else
  (if x1 = (2 : Int32) then
  (some (o_F s_o 11))
  else
  (if x1 = (3 : Int32) then
  ((f_X9_allPlaces s_o).bind fun u2 =>
  some u2)
  else
  (if x1 = (4 : Int32) then
  (some (o_F s_o 6))
  else
  (if x1 = (5 : Int32) then
  (some (o_F s_o 10))
  else
  (if x1 = (6 : Int32) then
  ((f_X9_toldLetters s_o).bind fun u3 =>
  some u3)
  else
  (some (-3 : Int32))))))))
def f_X0_clear_L15 (rec15 : (Int32 × Ob_T) → Option Ob_T) (x1 : Int32) (s_g : Ob_T) : Option Ob_T :=
  if (2 : Int32) ≤ x1 then
  (some s_g)
  else
  ((st_A s_g 4 2 x1 (vp_nar .boolean (0 : Int32))).bind fun o4 =>
  rec15 ((x1 + (1 : Int32)), o4))
def f_X0_clear (s_g : Ob_T) : Option Ob_T :=
  (f_J7_fill_53178 (p_A ob_0 0 (o_A s_g 0)) (-1 : Int32) 4).bind fun u1 =>
  Lt_ (p_A s_g 0 (o_A u1 0)) fun o2 =>
  Lt_ (p_F o2 5 (0 : Int32)) fun o3 =>
  Lp_ (fun (rec : (Int32 × Ob_T) → Option Ob_T) x => f_X0_clear_L15 rec x.1 x.2) FU_ ((0 : Int32), o3)
def f_X0_numbers (s_g : Ob_T) : Option Unit :=
  some ()
def f_X0_numberOf (s_g : Ob_T) (x1 : Int32) : Option Int32 :=
  (ld_I (o_A s_g 0) 4 x1).bind fun v1 =>
  some v1
def f_X0_bits_L4 (rec4 : (Int32 × Int32) → Option Int32) (x1 : Int32) (x2 : Int32) (s_g : Ob_T) : Option Int32 :=
  if (4 : Int32) ≤ x2 then
  (some x1)
  else
  ((ld_I (o_A s_g 0) 4 x2).bind fun v1 =>
  if v1 = (-1 : Int32) then
  (rec4 ((x1 ||| (0 : Int32)), (x2 + (1 : Int32))))
  else
  (Lt_ ((x1 ||| ((1 : Int32) <<< (x2 &&& (31 : Int32))))) fun e2 =>
  rec4 (e2, (x2 + (1 : Int32)))))
def f_X0_bits (s_g : Ob_T) : Option Int32 :=
  Lp_ (fun (rec : (Int32 × Int32) → Option Int32) x => f_X0_bits_L4 rec x.1 x.2 s_g) FU_ ((0 : Int32), (0 : Int32))
def f_X0_howMany (s_g : Ob_T) : Option Int32 :=
  (f_X0_bits s_g).bind fun u1 =>
  (f_J6_bitCount_0f7a4 u1).bind fun u2 =>
  some u2
def f_X0_undoable (s_g : Ob_T) : Option Int32 :=
  some (o_F s_g 5)
def f_X0_change_J45 (x1 : Int32) (x2 : Int32) (s_g : Ob_T) : Option Ob_T :=
  (st_A s_g 1 8 (o_F s_g 5) x1).bind fun o1 =>
  (ld_I (o_A o1 0) 4 x1).bind fun v2 =>
  (st_A o1 2 8 (o_F o1 5) v2).bind fun o3 =>
  Lt_ (p_F o3 5 ((o_F o3 5) + (1 : Int32))) fun o4 =>
  (st_A o4 0 4 x1 x2).bind fun o5 =>
  some o5
def f_X0_change (s_g : Ob_T) (x1 : Int32) (x2 : Int32) : Option Ob_T :=
  if (o_F s_g 5) < (8 : Int32) then
  (f_X0_change_J45 x1 x2 s_g)
  else
  ((cp_I (o_A s_g 1) (o_A s_g 1) 8 8 (1 : Int32) (0 : Int32) (7 : Int32)).bind fun w6 =>
  Lt_ (p_A s_g 1 w6) fun o7 =>
  (cp_I (o_A o7 2) (o_A o7 2) 8 8 (1 : Int32) (0 : Int32) (7 : Int32)).bind fun w8 =>
  Lt_ (p_A o7 2 w8) fun o9 =>
  Lt_ (p_F o9 5 (7 : Int32)) fun o10 =>
  f_X0_change_J45 x1 x2 o10)
def f_X0_takeBack (s_g : Ob_T) : Option Ob_T :=
  if (o_F s_g 5) ≤ (0 : Int32) then
  (some s_g)
  else
  (Lt_ (p_F s_g 5 ((o_F s_g 5) - (1 : Int32))) fun o1 =>
  (ld_I (o_A o1 1) 8 (o_F o1 5)).bind fun v2 =>
  (ld_I (o_A o1 2) 8 (o_F o1 5)).bind fun v3 =>
  (st_A o1 0 4 v2 v3).bind fun o4 =>
  some o4)
def f_X0_store (s_g : Ob_T) (x1 : Int32) : Option Ob_T :=
  (cp_I (o_A s_g 0) (o_A s_g 3) 4 8 (0 : Int32) (x1 * (4 : Int32)) (4 : Int32)).bind fun w1 =>
  Lt_ (p_A s_g 3 w1) fun o2 =>
  (st_A o2 4 2 x1 (vp_nar .boolean (1 : Int32))).bind fun o3 =>
  some o3
def f_X0_isStored (s_g : Ob_T) (x1 : Int32) : Option Int32 :=
  (ld_I (o_A s_g 4) 2 x1).bind fun v1 =>
  (zb_ v1).bind fun _ =>
  some v1
def f_X0_restore (s_g : Ob_T) (x1 : Int32) : Option Ob_T :=
  (cp_I (o_A s_g 3) (o_A s_g 0) 8 4 (x1 * (4 : Int32)) (0 : Int32) (4 : Int32)).bind fun w1 =>
  Lt_ (p_A s_g 0 w1) fun o2 =>
  Lt_ (p_F o2 5 (0 : Int32)) fun o3 =>
  some o3
def f_X1_clear (s_n : Ob_T) : Option Ob_T :=
  Lt_ (p_F s_n 6 (0 : Int32)) fun o1 =>
  some o1
def f_X1_takeAll (s_n : Ob_T) (s_n2 : Ob_T) : Option Ob_T :=
  Lt_ (p_F s_n 6 (o_F s_n2 6)) fun o1 =>
  (cp_I (o_A s_n2 0) (o_A o1 0) 10 10 (0 : Int32) (0 : Int32) (10 : Int32)).bind fun w2 =>
  Lt_ (p_A o1 0 w2) fun o3 =>
  (cp_I (o_A s_n2 1) (o_A o3 1) 10 10 (0 : Int32) (0 : Int32) (10 : Int32)).bind fun w4 =>
  Lt_ (p_A o3 1 w4) fun o5 =>
  (cp_I (o_A s_n2 2) (o_A o5 2) 10 10 (0 : Int32) (0 : Int32) (10 : Int32)).bind fun w6 =>
  Lt_ (p_A o5 2 w6) fun o7 =>
  (cp_I (o_A s_n2 3) (o_A o7 3) 10 10 (0 : Int32) (0 : Int32) (10 : Int32)).bind fun w8 =>
  Lt_ (p_A o7 3 w8) fun o9 =>
  (cp_I (o_A s_n2 4) (o_A o9 4) 10 10 (0 : Int32) (0 : Int32) (10 : Int32)).bind fun w10 =>
  Lt_ (p_A o9 4 w10) fun o11 =>
  (cp_I (o_A s_n2 5) (o_A o11 5) 60 60 (0 : Int32) (0 : Int32) (60 : Int32)).bind fun w12 =>
  Lt_ (p_A o11 5 w12) fun o13 =>
  some o13
def f_X1_size (s_n : Ob_T) : Option Int32 :=
  some (o_F s_n 6)
def f_X1_has (s_n : Ob_T) (x1 : Int32) : Option Int32 :=
  if x1 < (0 : Int32) then
  (some (0 : Int32))
  else
  (if (o_F s_n 6) ≤ x1 then
  (some (0 : Int32))
  else
  (some (1 : Int32)))
def f_X1_kindOf (s_n : Ob_T) (x1 : Int32) : Option Int32 :=
  (ld_I (o_A s_n 0) 10 x1).bind fun v1 =>
  some v1
def f_X1_axesOf (s_n : Ob_T) (x1 : Int32) : Option Int32 :=
  (ld_I (o_A s_n 4) 10 x1).bind fun v1 =>
  some v1
def f_X1_firstOf (s_n : Ob_T) (x1 : Int32) : Option Int32 :=
  (ld_I (o_A s_n 1) 10 x1).bind fun v1 =>
  some v1
def f_X1_secondOf (s_n : Ob_T) (x1 : Int32) : Option Int32 :=
  (ld_I (o_A s_n 2) 10 x1).bind fun v1 =>
  some v1
def f_X1_rankOf (s_n : Ob_T) (x1 : Int32) : Option Int32 :=
  (ld_I (o_A s_n 3) 10 x1).bind fun v1 =>
  some v1
def f_X1_at (s_n : Ob_T) (x1 : Int32) (x2 : Int32) : Option Int32 :=
  (ld_I (o_A s_n 5) 60 ((x1 * (6 : Int32)) + x2)).bind fun v1 =>
  some v1
def f_X1_joinedAt (s_n : Ob_T) (x1 : Int32) (x2 : Int32) : Option Int32 :=
  (ld_I (o_A s_n 4) 10 x1).bind fun v1 =>
  if v1 ≤ x2 then
  (some (1 : Int32))
  else
  ((ld_I (o_A s_n 5) 60 ((x1 * (6 : Int32)) + x2)).bind fun v2 =>
  some v2)
def f_X1_isTold (s_n : Ob_T) (x1 : Int32) : Option Int32 :=
  (ld_I (o_A s_n 0) 10 x1).bind fun v1 =>
  if v1 = (0 : Int32) then
  (some (1 : Int32))
  else
  ((ld_I (o_A s_n 0) 10 x1).bind fun v2 =>
  if v2 = (6 : Int32) then
  (some (1 : Int32))
  else
  (some (0 : Int32)))
def f_X1_hasOwnLetter (s_n : Ob_T) (x1 : Int32) : Option Int32 :=
  if x1 < (4 : Int32) then
  (some (0 : Int32))
  else
  ((f_X1_has s_n (x1 - (4 : Int32))).bind fun u1 =>
  if u1 = (0 : Int32) then
  (some (0 : Int32))
  else
  ((ld_I (o_A s_n 0) 10 (x1 - (4 : Int32))).bind fun v2 =>
  if v2 = (2 : Int32) then
  (some (1 : Int32))
  else
  ((ld_I (o_A s_n 0) 10 (x1 - (4 : Int32))).bind fun v3 =>
  if v3 = (5 : Int32) then
  (some (1 : Int32))
  else
  (some (0 : Int32)))))
def f_X1_toldLetters_L14 (rec4 : (Int32 × Int32) → Option Int32) (rec14 : (Int32 × Int32 × Int32) → Option Int32) (x1 : Int32) (x2 : Int32) (x3 : Int32) (s_n : Ob_T) : Option Int32 :=
  (f_X1_isTold s_n x2).bind fun u1 =>
  if u1 = (0 : Int32) then
  (rec4 (x1, (x2 + (1 : Int32))))
  else
  ((ld_I (o_A s_n 4) 10 x2).bind fun v2 =>
  if v2 ≤ x3 then
  (rec4 (x1, (x2 + (1 : Int32))))
  else
  ((f_X1_at s_n x2 x3).bind fun u3 =>
  if u3 < (20000 : Int32) then
  (rec14 (x1, x2, (x3 + (1 : Int32))))
  else
  ((f_X1_at s_n x2 x3).bind fun u4 =>
  Lt_ ((x1 ||| ((1 : Int32) <<< ((u4 - (20000 : Int32)) &&& (31 : Int32))))) fun e5 =>
  rec14 (e5, x2, (x3 + (1 : Int32))))))
def f_X1_toldLetters_L4 (rec4 : (Int32 × Int32) → Option Int32) (x1 : Int32) (x2 : Int32) (s_n : Ob_T) : Option Int32 :=
  if (o_F s_n 6) ≤ x2 then
  (some x1)
  else
  (Lp_ (fun (rec : (Int32 × Int32 × Int32) → Option Int32) x => f_X1_toldLetters_L14 rec4 rec x.1 x.2.1 x.2.2 s_n) FU_ (x1, x2, (0 : Int32)))
def f_X1_toldLetters (s_n : Ob_T) : Option Int32 :=
  Lp_ (fun (rec : (Int32 × Int32) → Option Int32) x => f_X1_toldLetters_L4 rec x.1 x.2 s_n) FU_ ((0 : Int32), (0 : Int32))
def f_X1_frameOf (s_n : Ob_T) (x1 : Int32) (x2 : Int32) : Option Int32 :=
  (ld_I (o_A s_n 4) 10 x1).bind fun v1 =>
  if (0 : Int32) ≤ x2 then
  (if v1 ≤ x2 then
  (some (0 : Int32))
  else
  (some (v1 - x2)))
  else
  (if (-x2) ≤ v1 then
  (some (-x2))
  else
  (some v1))
def f_X1_cellOf (s_n : Ob_T) (x1 : Int32) (x2 : Int32) : Option Int32 :=
  (ld_I (o_A s_n 4) 10 x1).bind fun v1 =>
  (f_X1_frameOf s_n x1 x2).bind fun u2 =>
  some (v1 - u2)
def f_X1_axesOfVerb (s_n : Ob_T) (x1 : Int32) (x2 : Int32) (x3 : Int32) (x4 : Int32) : Option Int32 :=
  if x1 = (1 : Int32) then
  ((f_X1_frameOf s_n x2 x4).bind fun u1 =>
  (f_X1_frameOf s_n x3 x4).bind fun u2 =>
  (f_X1_cellOf s_n x2 x4).bind fun u3 =>
  (f_X1_cellOf s_n x3 x4).bind fun u4 =>
  some ((if u1 < u2 then u2 else u1) + (if u3 < u4 then u4 else u3)))
  else
  (if x1 = (2 : Int32) then
  ((f_X1_frameOf s_n x2 x4).bind fun u5 =>
  (f_X1_frameOf s_n x3 x4).bind fun u6 =>
  (f_X1_cellOf s_n x2 x4).bind fun u7 =>
  (f_X1_cellOf s_n x3 x4).bind fun u8 =>
  some ((if u5 < u6 then u6 else u5) + (if (1 : Int32) < (if u7 < u8 then u8 else u7) then (if u7 < u8 then u8 else u7) else (1 : Int32))))
  else
  (if x1 = (3 : Int32) then
  ((ld_I (o_A s_n 4) 10 x2).bind fun v9 =>
  some v9)
  else
  (if x1 = (4 : Int32) then
  ((f_X1_frameOf s_n x2 x4).bind fun u10 =>
  (f_X1_cellOf s_n x2 x4).bind fun u11 =>
  some (u10 + (if (0 : Int32) < (u11 - (1 : Int32)) then (u11 - (1 : Int32)) else (0 : Int32))))
  else
  (if x1 = (5 : Int32) then
  ((f_X1_frameOf s_n x2 x4).bind fun u12 =>
  some (u12 + (1 : Int32)))
  else
  (some (0 : Int32))))))
def f_X1_putOne (s_n : Ob_T) (x1 : Int32) (x2 : Int32) (x3 : Int32) : Option (Int32 × Ob_T) :=
  if x2 < (0 : Int32) then
  (some ((x2 + (1 : Int32)), s_n))
  else
  (if (6 : Int32) ≤ x2 then
  (some ((x2 + (1 : Int32)), s_n))
  else
  ((st_A s_n 5 60 ((x1 * (6 : Int32)) + x2) x3).bind fun o1 =>
  some ((x2 + (1 : Int32)), o1)))
def f_X1_putFrame_L15 (rec15 : (Int32 × Int32 × Int32 × Int32 × Ob_T) → Option (Int32 × Ob_T)) (x1 : Int32) (x2 : Int32) (x3 : Int32) (x4 : Int32) (s_n : Ob_T) : Option (Int32 × Ob_T) :=
  if x3 ≤ x4 then
  (some (x3, s_n))
  else
  ((f_X1_at s_n x2 x4).bind fun u3 =>
  (f_X1_putOne s_n x1 x4 u3).bind fun u4 =>
  rec15 (x1, x2, x3, (x4 + (1 : Int32)), u4.2))
def f_X1_putFrame (s_n : Ob_T) (x1 : Int32) (x2 : Int32) : Option (Int32 × Ob_T) :=
  (ld_I (o_A s_n 3) 10 x1).bind fun v1 =>
  (f_X1_frameOf s_n x2 v1).bind fun u2 =>
  Lp_ (fun (rec : (Int32 × Int32 × Int32 × Int32 × Ob_T) → Option (Int32 × Ob_T)) x => f_X1_putFrame_L15 rec x.1 x.2.1 x.2.2.1 x.2.2.2.1 x.2.2.2.2) FU_ (x1, x2, u2, (0 : Int32), s_n)
def f_X1_putLongerFrame_J46 (k1 : Int32) (k2 : Int32) (s_n : Ob_T) : Option (Int32 × Ob_T) :=
  (f_X1_putFrame s_n k1 k2).bind fun u7 =>
  some (u7.1, u7.2)
def f_X1_putLongerFrame (s_n : Ob_T) (x1 : Int32) : Option (Int32 × Ob_T) :=
  (ld_I (o_A s_n 1) 10 x1).bind fun v1 =>
  (ld_I (o_A s_n 2) 10 x1).bind fun v2 =>
  (ld_I (o_A s_n 3) 10 x1).bind fun v3 =>
  (f_X1_frameOf s_n v2 v3).bind fun u4 =>
  (ld_I (o_A s_n 3) 10 x1).bind fun v5 =>
  (f_X1_frameOf s_n v1 v5).bind fun u6 =>
  if u4 ≤ u6 then
  (f_X1_putLongerFrame_J46 x1 v1 s_n)
  else
  (f_X1_putLongerFrame_J46 x1 v2 s_n)
def f_X1_putPart_L4 (rec4 : (Int32 × Int32 × Int32 × Int32 × Int32 × Ob_T) → Option Ob_T) (x1 : Int32) (x2 : Int32) (x3 : Int32) (x4 : Int32) (x5 : Int32) (s_n : Ob_T) : Option Ob_T :=
  (ld_I (o_A s_n 4) 10 x3).bind fun v1 =>
  if v1 ≤ x5 then
  (some s_n)
  else
  ((f_X1_at s_n x3 x5).bind fun u2 =>
  (f_X1_putOne s_n x1 ((x2 + x5) - x4) u2).bind fun u3 =>
  rec4 (x1, x2, x3, x4, (x5 + (1 : Int32)), u3.2))
def f_X1_putPart (s_n : Ob_T) (x1 : Int32) (x2 : Int32) (x3 : Int32) (x4 : Int32) : Option Ob_T :=
  Lp_ (fun (rec : (Int32 × Int32 × Int32 × Int32 × Int32 × Ob_T) → Option Ob_T) x => f_X1_putPart_L4 rec x.1 x.2.1 x.2.2.1 x.2.2.2.1 x.2.2.2.2.1 x.2.2.2.2.2) FU_ (x1, x2, x3, x4, x4, s_n)
def f_X1_putLongerCell_J50 (x1 : Int32) (x2 : Int32) (x3 : Int32) (k0 : Int32) (s_n : Ob_T) : Option Ob_T :=
  (ld_I (o_A s_n 3) 10 x1).bind fun v7 =>
  (f_X1_frameOf s_n k0 v7).bind fun u8 =>
  (f_X1_putPart s_n x1 x2 k0 (u8 + x3)).bind fun u9 =>
  some u9
def f_X1_putLongerCell (s_n : Ob_T) (x1 : Int32) (x2 : Int32) (x3 : Int32) : Option Ob_T :=
  (ld_I (o_A s_n 1) 10 x1).bind fun v1 =>
  (ld_I (o_A s_n 2) 10 x1).bind fun v2 =>
  (ld_I (o_A s_n 3) 10 x1).bind fun v3 =>
  (f_X1_cellOf s_n v2 v3).bind fun u4 =>
  (ld_I (o_A s_n 3) 10 x1).bind fun v5 =>
  (f_X1_cellOf s_n v1 v5).bind fun u6 =>
  if u4 ≤ u6 then
  (f_X1_putLongerCell_J50 x1 x2 x3 v1 s_n)
  else
  (f_X1_putLongerCell_J50 x1 x2 x3 v2 s_n)
def f_X1_ownLetter (x0 : Int32) : Option Int32 :=
  some ((20004 : Int32) + x0)
def f_X1_derive (s_n : Ob_T) (x1 : Int32) : Option Ob_T :=
  (ld_I (o_A s_n 1) 10 x1).bind fun v1 =>
  (ld_I (o_A s_n 0) 10 x1).bind fun v2 =>
  if v2 = (1 : Int32) then
  ((f_X1_putLongerFrame s_n x1).bind fun u3 =>
  (f_X1_putLongerCell u3.2 x1 u3.1 (0 : Int32)).bind fun u4 =>
  some u4)
  else
  (if v2 = (2 : Int32) then
  ((f_X1_putLongerFrame s_n x1).bind fun u5 =>
  (f_X1_ownLetter x1).bind fun u6 =>
  (f_X1_putOne u5.2 x1 u5.1 u6).bind fun u7 =>
  (f_X1_putLongerCell u7.2 x1 u7.1 (1 : Int32)).bind fun u8 =>
  some u8)
  else
  (if v2 = (3 : Int32) then
  ((f_X1_putPart s_n x1 (0 : Int32) v1 (0 : Int32)).bind fun u9 =>
  some u9)
  else
  (if v2 = (4 : Int32) then
  ((f_X1_putFrame s_n x1 v1).bind fun u10 =>
  (ld_I (o_A u10.2 3) 10 x1).bind fun v11 =>
  (f_X1_frameOf u10.2 v1 v11).bind fun u12 =>
  (f_X1_putPart u10.2 x1 u10.1 v1 (u12 + (1 : Int32))).bind fun u13 =>
  some u13)
  else
  (if v2 = (5 : Int32) then
  ((f_X1_putFrame s_n x1 v1).bind fun u14 =>
  (f_X1_ownLetter x1).bind fun u15 =>
  (f_X1_putOne u14.2 x1 u14.1 u15).bind fun u16 =>
  some u16.2)
  else
  (some s_n)))))
def f_X1_add (s_n : Ob_T) (x1 : Int32) (x2 : Int32) (x3 : Int32) (x4 : Int32) : Option Ob_T :=
  if (o_F s_n 6) < (10 : Int32) then
  ((st_A s_n 0 10 (o_F s_n 6) x1).bind fun o1 =>
  (st_A o1 1 10 (o_F o1 6) x2).bind fun o2 =>
  (st_A o2 2 10 (o_F o2 6) x3).bind fun o3 =>
  (st_A o3 3 10 (o_F o3 6) x4).bind fun o4 =>
  (f_X1_axesOfVerb o4 x1 x2 x3 x4).bind fun u5 =>
  (st_A o4 4 10 (o_F o4 6) u5).bind fun o6 =>
  (f_X1_derive o6 (o_F o6 6)).bind fun u7 =>
  Lt_ (p_F u7 6 ((o_F u7 6) + (1 : Int32))) fun o8 =>
  some o8)
  else
  (some s_n)
def f_X1_tell (s_n : Ob_T) (x1 : Int32) : Option Ob_T :=
  if ((o_F s_n 6) - (1 : Int32)) < (0 : Int32) then
  (some s_n)
  else
  ((ld_I (o_A s_n 4) 10 ((o_F s_n 6) - (1 : Int32))).bind fun v1 =>
  if v1 < (3 : Int32) then
  ((ld_I (o_A s_n 4) 10 ((o_F s_n 6) - (1 : Int32))).bind fun v2 =>
  (f_X1_putOne s_n ((o_F s_n 6) - (1 : Int32)) v2 x1).bind fun u3 =>
  (ld_I (o_A u3.2 4) 10 ((o_F s_n 6) - (1 : Int32))).bind fun v4 =>
  (st_A u3.2 4 10 ((o_F s_n 6) - (1 : Int32)) (v4 + (1 : Int32))).bind fun o5 =>
  some o5)
  else
  (some s_n))
def f_X1_tellInstead_L13 (rec13 : (Int32 × Ob_T) → Option Ob_T) (x4 : Int32) (s_n : Ob_T) : Option Ob_T :=
  if (o_F s_n 6) ≤ x4 then
  (some s_n)
  else
  ((f_X1_derive s_n x4).bind fun u2 =>
  rec13 ((x4 + (1 : Int32)), u2))
def f_X1_tellInstead (s_n : Ob_T) (x1 : Int32) (x2 : Int32) (x3 : Int32) : Option Ob_T :=
  (f_X1_putOne s_n x1 x2 x3).bind fun u1 =>
  Lp_ (fun (rec : (Int32 × Ob_T) → Option Ob_T) x => f_X1_tellInstead_L13 rec x.1 x.2) FU_ ((x1 + (1 : Int32)), u1.2)
def f_X2_clear (s_r : Ob_T) : Option Ob_T :=
  (f_J7_fill_53178 (p_A ob_0 0 (o_A s_r 1)) (-1 : Int32) 3).bind fun u1 =>
  Lt_ (p_A s_r 1 (o_A u1 0)) fun o2 =>
  some o2
def f_X2_make (s_r : Ob_T) (x1 : Int32) (x2 : Int32) (x3 : Int32) : Option Ob_T :=
  (st_A s_r 1 3 x1 x3).bind fun o1 =>
  (st_A o1 2 3 x1 x2).bind fun o2 =>
  (f_J7_fill_fda19 (p_A ob_0 0 (o_A o2 0)) (x1 * (10 : Int32)) ((x1 + (1 : Int32)) * (10 : Int32)) (0 : Int32) 30).bind fun u3 =>
  Lt_ (p_A o2 0 (o_A u3 0)) fun o4 =>
  some o4
def f_X2_remove (s_r : Ob_T) (x1 : Int32) : Option Ob_T :=
  (st_A s_r 1 3 x1 (-1 : Int32)).bind fun o1 =>
  some o1
def f_X2_isMissing (s_r : Ob_T) (x1 : Int32) : Option Int32 :=
  (ld_I (o_A s_r 1) 3 x1).bind fun v1 =>
  if v1 = (-1 : Int32) then
  (some (1 : Int32))
  else
  (some (0 : Int32))
def f_X2_sizeOf (s_r : Ob_T) (x1 : Int32) : Option Int32 :=
  (ld_I (o_A s_r 1) 3 x1).bind fun v1 =>
  some v1
def f_X2_sortOf (s_r : Ob_T) (x1 : Int32) : Option Int32 :=
  (ld_I (o_A s_r 2) 3 x1).bind fun v1 =>
  some v1
def f_X2_placeTrouble (s_r : Ob_T) (x1 : Int32) (x2 : Int32) (x3 : Int32) : Option Int32 :=
  (f_X2_isMissing s_r x1).bind fun u1 =>
  if u1 = (0 : Int32) then
  ((ld_I (o_A s_r 2) 3 x1).bind fun v2 =>
  if v2 = x2 then
  (if x3 < (0 : Int32) then
  (some (-14 : Int32))
  else
  ((ld_I (o_A s_r 1) 3 x1).bind fun v3 =>
  if x3 < v3 then
  (some (-1 : Int32))
  else
  (some (-14 : Int32))))
  else
  (some (-13 : Int32)))
  else
  (some (-11 : Int32))
def f_X2_hasPlaces (s_r : Ob_T) (x1 : Int32) (x2 : Int32) (x3 : Int32) : Option Int32 :=
  if x2 < (0 : Int32) then
  (some (0 : Int32))
  else
  ((ld_I (o_A s_r 1) 3 x1).bind fun v1 =>
  if v1 < x2 then
  (some (0 : Int32))
  else
  ((ld_I (o_A s_r 1) 3 x1).bind fun v2 =>
  if (v2 - x2) < x3 then
  (some (0 : Int32))
  else
  (some (1 : Int32))))
def f_X2_at (s_r : Ob_T) (x1 : Int32) (x2 : Int32) : Option Int32 :=
  (ld_I (o_A s_r 0) 30 ((x1 * (10 : Int32)) + x2)).bind fun v1 =>
  some v1
def f_X2_put (s_r : Ob_T) (x1 : Int32) (x2 : Int32) (x3 : Int32) : Option Ob_T :=
  (st_A s_r 0 30 ((x1 * (10 : Int32)) + x2) x3).bind fun o1 =>
  some o1
def f_X2_move (s_r : Ob_T) (x1 : Int32) (x2 : Int32) (x3 : Int32) (x4 : Int32) (x5 : Int32) : Option Ob_T :=
  (cp_I (o_A s_r 0) (o_A s_r 0) 30 30 ((x1 * (10 : Int32)) + x2) ((x3 * (10 : Int32)) + x4) x5).bind fun w1 =>
  Lt_ (p_A s_r 0 w1) fun o2 =>
  some o2
def f_X2_extend (s_r : Ob_T) (x1 : Int32) (x2 : Int32) : Option Ob_T :=
  (ld_I (o_A s_r 1) 3 x2).bind fun v1 =>
  (ld_I (o_A s_r 1) 3 x1).bind fun v2 =>
  (f_X2_move s_r x2 (0 : Int32) x1 v2 v1).bind fun u3 =>
  (ld_I (o_A u3 1) 3 x1).bind fun v4 =>
  (st_A u3 1 3 x1 (v4 + v1)).bind fun o5 =>
  some o5
def f_X2_total_L4 (rec4 : (Int32 × Int32 × Int32) → Option Int32) (x1 : Int32) (x2 : Int32) (x3 : Int32) (s_r : Ob_T) : Option Int32 :=
  (ld_I (o_A s_r 1) 3 x1).bind fun v1 =>
  if v1 ≤ x3 then
  (some x2)
  else
  ((f_X2_at s_r x1 x3).bind fun u2 =>
  rec4 (x1, (x2 + u2), (x3 + (1 : Int32))))
def f_X2_total (s_r : Ob_T) (x1 : Int32) : Option Int32 :=
  Lp_ (fun (rec : (Int32 × Int32 × Int32) → Option Int32) x => f_X2_total_L4 rec x.1 x.2.1 x.2.2 s_r) FU_ (x1, (0 : Int32), (0 : Int32))
def f_X2_allPlaces_L4 (rec4 : (Int32 × Int32) → Option Int32) (x1 : Int32) (x2 : Int32) (s_r : Ob_T) : Option Int32 :=
  if (3 : Int32) ≤ x2 then
  (some x1)
  else
  ((f_X2_isMissing s_r x2).bind fun u1 =>
  if u1 = (0 : Int32) then
  ((ld_I (o_A s_r 1) 3 x2).bind fun v2 =>
  rec4 ((x1 + v2), (x2 + (1 : Int32))))
  else
  (rec4 ((x1 + (0 : Int32)), (x2 + (1 : Int32)))))
def f_X2_allPlaces (s_r : Ob_T) : Option Int32 :=
  Lp_ (fun (rec : (Int32 × Int32) → Option Int32) x => f_X2_allPlaces_L4 rec x.1 x.2 s_r) FU_ ((0 : Int32), (0 : Int32))
def f_X3_size (s_q : Ob_T) : Option Int32 :=
  some (o_F s_q 2)
def f_X3_clear (s_q : Ob_T) : Option Ob_T :=
  Lt_ (p_F s_q 2 (0 : Int32)) fun o1 =>
  some o1
def f_X3_add_J48 (k1 : Int32) (k2 : Int32) (s_q : Ob_T) : Option (Int32 × Ob_T) :=
  (st_A s_q 1 6 k1 k2).bind fun o2 =>
  Lt_ (p_F o2 2 ((o_F o2 2) + (1 : Int32))) fun o3 =>
  some ((1 : Int32), o3)
def f_X3_add (s_q : Ob_T) (x1 : Int32) (x2 : Int32) (x3 : Int32) : Option (Int32 × Ob_T) :=
  if (o_F s_q 2) < (6 : Int32) then
  ((st_A s_q 0 6 (o_F s_q 2) x1).bind fun o1 =>
  if x2 = (1 : Int32) then
  (f_X3_add_J48 (o_F o1 2) x3 o1)
  else
  (if x3 = (0 : Int32) then
  (f_X3_add_J48 (o_F o1 2) (-1 : Int32) o1)
  else
  (f_X3_add_J48 (o_F o1 2) (-2 : Int32) o1)))
  else
  (some ((0 : Int32), s_q))
def f_X3_wouldAnswer (x0 : Int32) (x1 : Int32) : Option Int32 :=
  if x0 = (4 : Int32) then
  (some (-1 : Int32))
  else
  (if x0 = (2 : Int32) then
  (some (x1 + x1))
  else
  (some x1))
def f_X3_fitsAll_L2 (rec2 : (Int32 × Int32) → Option Int32) (x1 : Int32) (x2 : Int32) (s_q : Ob_T) : Option Int32 :=
  if (o_F s_q 2) ≤ x2 then
  (some (1 : Int32))
  else
  ((ld_I (o_A s_q 0) 6 x2).bind fun v1 =>
  (f_X3_wouldAnswer x1 v1).bind fun u2 =>
  (ld_I (o_A s_q 1) 6 x2).bind fun v3 =>
  if u2 = v3 then
  (rec2 (x1, (x2 + (1 : Int32))))
  else
  (some (0 : Int32)))
def f_X3_fitsAll (s_q : Ob_T) (x1 : Int32) : Option Int32 :=
  Lp_ (fun (rec : (Int32 × Int32) → Option Int32) x => f_X3_fitsAll_L2 rec x.1 x.2 s_q) FU_ (x1, (0 : Int32))
def f_X3_kindsThatFit_L4 (rec4 : (Int32 × Int32) → Option Int32) (x1 : Int32) (x2 : Int32) (s_q : Ob_T) : Option Int32 :=
  if (5 : Int32) < x2 then
  (some x1)
  else
  ((f_X3_fitsAll s_q x2).bind fun u1 =>
  if u1 = (0 : Int32) then
  (rec4 ((x1 ||| (0 : Int32)), (x2 + (1 : Int32))))
  else
  (Lt_ ((x1 ||| ((1 : Int32) <<< (x2 &&& (31 : Int32))))) fun e2 =>
  rec4 (e2, (x2 + (1 : Int32)))))
def f_X3_kindsThatFit (s_q : Ob_T) : Option Int32 :=
  Lp_ (fun (rec : (Int32 × Int32) → Option Int32) x => f_X3_kindsThatFit_L4 rec x.1 x.2 s_q) FU_ ((0 : Int32), (1 : Int32))
def f_X3_greatestPart_J40 (rec15 : (Int32 × Int32 × Int32 × Int32 × Int32 × Int32) → Option Int32) (x0 : Int32) (x1 : Int32) (x2 : Int32) (x3 : Int32) (x4 : Int32) (x5 : Int32) (k0 : Int32) : Option Int32 :=
  if k0 = (0 : Int32) then
  (rec15 (x0, x1, x2, x3, (x4 + (0 : Int32)), (x5 + (1 : Int32))))
  else
  ((f_X3_wouldAnswer x3 x1).bind fun u1 =>
  (f_X3_wouldAnswer x5 x1).bind fun u2 =>
  if u1 = u2 then
  (rec15 (x0, x1, x2, x3, (x4 + (1 : Int32)), (x5 + (1 : Int32))))
  else
  (rec15 (x0, x1, x2, x3, (x4 + (0 : Int32)), (x5 + (1 : Int32)))))
def f_X3_greatestPart_L15 (k77 : Int32 → Int32 → Int32 → Int32 → Int32 → Option Int32) (rec15 : (Int32 × Int32 × Int32 × Int32 × Int32 × Int32) → Option Int32) (x0 : Int32) (x1 : Int32) (x2 : Int32) (x3 : Int32) (x4 : Int32) (x5 : Int32) : Option Int32 :=
  if (5 : Int32) < x5 then
  (k77 x0 x1 x2 x3 x4)
  else
  (if (((x0 >>> (x3 &&& (31 : Int32))) &&& (x0 >>> (x5 &&& (31 : Int32)))) &&& (1 : Int32)) = (1 : Int32) then
  (f_X3_greatestPart_J40 rec15 x0 x1 x2 x3 x4 x5 (1 : Int32))
  else
  (f_X3_greatestPart_J40 rec15 x0 x1 x2 x3 x4 x5 (0 : Int32)))
def f_X3_greatestPart_J77 (rec4 : (Int32 × Int32 × Int32 × Int32) → Option Int32) (x0 : Int32) (x1 : Int32) (x2 : Int32) (x3 : Int32) (x4 : Int32) : Option Int32 :=
  rec4 (x0, x1, (if x2 < x4 then x4 else x2), (x3 + (1 : Int32)))
def f_X3_greatestPart_L4 (rec4 : (Int32 × Int32 × Int32 × Int32) → Option Int32) (x0 : Int32) (x1 : Int32) (x2 : Int32) (x3 : Int32) : Option Int32 :=
  if (5 : Int32) < x3 then
  (some x2)
  else
  (Lp_ (fun (rec : (Int32 × Int32 × Int32 × Int32 × Int32 × Int32) → Option Int32) x => f_X3_greatestPart_L15 (fun y0 y1 y2 y3 y4 => f_X3_greatestPart_J77 rec4 y0 y1 y2 y3 y4) rec x.1 x.2.1 x.2.2.1 x.2.2.2.1 x.2.2.2.2.1 x.2.2.2.2.2) FU_ (x0, x1, x2, x3, (0 : Int32), (1 : Int32)))
def f_X3_greatestPart (x0 : Int32) (x1 : Int32) : Option Int32 :=
  Lp_ (fun (rec : (Int32 × Int32 × Int32 × Int32) → Option Int32) x => f_X3_greatestPart_L4 rec x.1 x.2.1 x.2.2.1 x.2.2.2) FU_ (x0, x1, (0 : Int32), (1 : Int32))
def f_X3_bestToAsk_L15 (rec15 : (Int32 × Int32 × Int32 × Int32) → Option Int32) (x1 : Int32) (x2 : Int32) (x3 : Int32) (x4 : Int32) (s_q : Ob_T) : Option Int32 :=
  if (9 : Int32) < x4 then
  (some x2)
  else
  ((f_X3_greatestPart x1 x4).bind fun u3 =>
  if x3 ≤ u3 then
  (rec15 (x1, x2, x3, (x4 + (1 : Int32))))
  else
  (rec15 (x1, x4, u3, (x4 + (1 : Int32)))))
def f_X3_bestToAsk (s_q : Ob_T) : Option Int32 :=
  (f_X3_kindsThatFit s_q).bind fun u1 =>
  (f_J6_bitCount_0f7a4 u1).bind fun u2 =>
  Lp_ (fun (rec : (Int32 × Int32 × Int32 × Int32) → Option Int32) x => f_X3_bestToAsk_L15 rec x.1 x.2.1 x.2.2.1 x.2.2.2 s_q) FU_ (u1, (-1 : Int32), u2, (1 : Int32))
def f_X4_clear_L2 (k27 : Ob_T → Option Ob_T) (rec2 : (Int32 × Ob_T) → Option Ob_T) (x1 : Int32) (s_d : Ob_T) : Option Ob_T :=
  if (2 : Int32) ≤ x1 then
  (k27 s_d)
  else
  ((st_L s_d 0 2 x1 (0 : Int64)).bind fun o1 =>
  (st_L o1 1 2 x1 (1 : Int64)).bind fun o2 =>
  rec2 ((x1 + (1 : Int32)), o2))
def f_X4_clear_J27 (s_d : Ob_T) : Option Ob_T :=
  Lt_ (p_F s_d 2 (0 : Int32)) fun o3 =>
  Lt_ (p_F o3 3 (0 : Int32)) fun o4 =>
  Lt_ (p_F o4 4 (0 : Int32)) fun o5 =>
  Lt_ (p_F o5 5 (0 : Int32)) fun o6 =>
  some o6
def f_X4_clear (s_d : Ob_T) : Option Ob_T :=
  Lp_ (fun (rec : (Int32 × Ob_T) → Option Ob_T) x => f_X4_clear_L2 (fun t_d => f_X4_clear_J27 t_d) rec x.1 x.2) FU_ ((0 : Int32), s_d)
def f_X4_add (s_d : Ob_T) (x1 : Int32) (x2 : Int32) : Option Ob_T :=
  if x2 < (20000 : Int32) then
  ((ld_J (o_L s_d 0) 2 x1).bind fun v1 =>
  (st_L s_d 0 2 x1 (v1 + x2.toInt64)).bind fun o2 =>
  if x2 = (0 : Int32) then
  ((st_L o2 1 2 x1 (0 : Int64)).bind fun o6 =>
  some o6)
  else
  ((ld_J (o_L o2 1) 2 x1).bind fun v3 =>
  if (0 : Int32) < (lg_cmp v3 (999999999999 : Int64)) then
  (some o2)
  else
  ((ld_J (o_L o2 1) 2 x1).bind fun v4 =>
  (st_L o2 1 2 x1 (v4 * x2.toInt64)).bind fun o5 =>
  some o5)))
  else
  (Lt_ (p_F s_d 2 ((o_F s_d 2) + (1 : Int32))) fun o7 =>
  Lt_ (p_F o7 3 (x2 - (20000 : Int32))) fun o8 =>
  Lt_ (p_F o8 4 x1) fun o9 =>
  Lt_ (p_F o9 5 ((o_F o9 5) ||| ((1 : Int32) <<< ((o_F o9 3) &&& (31 : Int32))))) fun o10 =>
  some o10)
def f_X4_letters (s_d : Ob_T) : Option Int32 :=
  some (o_F s_d 2)
def f_X4_latestLetter (s_d : Ob_T) : Option Int32 :=
  some (o_F s_d 3)
def f_X4_letterBits (s_d : Ob_T) : Option Int32 :=
  some (o_F s_d 5)
def f_X4_isTooGreat (s_d : Ob_T) : Option Int32 :=
  (ld_J (o_L s_d 1) 2 (0 : Int32)).bind fun v1 =>
  if (0 : Int32) < (lg_cmp v1 (999999999999 : Int64)) then
  (some (1 : Int32))
  else
  ((ld_J (o_L s_d 1) 2 (1 : Int32)).bind fun v2 =>
  if (lg_cmp v2 (999999999999 : Int64)) ≤ (0 : Int32) then
  (some (0 : Int32))
  else
  (some (1 : Int32)))
def f_X4_missingAddend (s_d : Ob_T) : Option Int64 :=
  if (o_F s_d 2) = (0 : Int32) then
  ((ld_J (o_L s_d 0) 2 (0 : Int32)).bind fun v3 =>
  (ld_J (o_L s_d 0) 2 (1 : Int32)).bind fun v4 =>
  if (lg_cmp v3 v4) = (0 : Int32) then
  (some (-2 : Int64))
  else
  (some (-1 : Int64)))
  else
  ((ld_J (o_L s_d 0) 2 ((1 : Int32) - (o_F s_d 4))).bind fun v1 =>
  (ld_J (o_L s_d 0) 2 (o_F s_d 4)).bind fun v2 =>
  if (lg_cmp (v1 - v2) (0 : Int64)) < (0 : Int32) then
  (some (-1 : Int64))
  else
  (if (lg_cmp (v1 - v2) (9999 : Int64)) ≤ (0 : Int32) then
  (some (v1 - v2))
  else
  (some (-1 : Int64))))
def f_X4_missingFactor_J55 (x1 : Int64) (x3 : Int64) (s_d : Ob_T) : Option Int64 :=
  if (lg_cmp x1 x3) = (0 : Int32) then
  (some (-2 : Int64))
  else
  (some (-1 : Int64))
def f_X4_missingFactor (s_d : Ob_T) : Option Int64 :=
  (ld_J (o_L s_d 1) 2 ((1 : Int32) - (o_F s_d 4))).bind fun v1 =>
  (ld_J (o_L s_d 1) 2 (o_F s_d 4)).bind fun v2 =>
  if (0 : Int32) < (lg_cmp v1 (999999999999 : Int64)) then
  (some (-1 : Int64))
  else
  (if (lg_cmp v2 (999999999999 : Int64)) ≤ (0 : Int32) then
  (if (o_F s_d 2) = (0 : Int32) then
  (f_X4_missingFactor_J55 v1 v2 s_d)
  else
  (if (lg_cmp v2 (0 : Int64)) = (0 : Int32) then
  (f_X4_missingFactor_J55 v1 v2 s_d)
  else
  (if v2 = 0 then none else
  if (lg_cmp (v1 - v1 / v2 * v2) (0 : Int64)) = (0 : Int32) then
  (if v2 = 0 then none else
  if (lg_cmp (v1 / v2) (9999 : Int64)) ≤ (0 : Int32) then
  (if v2 = 0 then none else
  some (v1 / v2))
  else
  (some (-1 : Int64)))
  else
  (some (-1 : Int64)))))
  else
  (some (-1 : Int64)))
def f_X5_clearFail_L7 (rec7 : (Int32 × Ob_T) → Option Ob_T) (x1 : Int32) (s_v : Ob_T) : Option Ob_T :=
  if (5 : Int32) ≤ x1 then
  (some s_v)
  else
  ((st_A s_v 5 5 x1 (-1 : Int32)).bind fun o2 =>
  rec7 ((x1 + (1 : Int32)), o2))
def f_X5_clearFail (s_v : Ob_T) : Option Ob_T :=
  Lt_ (p_F s_v 6 (0 : Int32)) fun o1 =>
  Lp_ (fun (rec : (Int32 × Ob_T) → Option Ob_T) x => f_X5_clearFail_L7 rec x.1 x.2) FU_ ((0 : Int32), o1)
def f_X5_hasFailed (s_v : Ob_T) : Option Int32 :=
  (ld_I (o_A s_v 5) 5 (0 : Int32)).bind fun v1 =>
  if v1 = (-1 : Int32) then
  (some (0 : Int32))
  else
  (some (1 : Int32))
def f_X5_valueOf (s_v : Ob_T) (x1 : Int32) : Option Int32 :=
  if (20000 : Int32) ≤ x1 then
  ((ld_I (o_A s_v 2) 14 (x1 - (20000 : Int32))).bind fun v1 =>
  (ld_I (o_A s_v 3) 14 v1).bind fun v2 =>
  if v2 = (-1 : Int32) then
  (some ((20000 : Int32) + v1))
  else
  ((ld_I (o_A s_v 3) 14 v1).bind fun v3 =>
  some v3))
  else
  (some x1)
def f_X5_failAt (s_v : Ob_T) (x1 : Int32) (x2 : Int32) (x3 : Int32) (x4 : Int32) (x5 : Int32) : Option Ob_T :=
  (st_A s_v 5 5 (0 : Int32) x1).bind fun o1 =>
  (st_A o1 5 5 (1 : Int32) x2).bind fun o2 =>
  (st_A o2 5 5 (2 : Int32) x3).bind fun o3 =>
  (st_A o3 5 5 (3 : Int32) x4).bind fun o4 =>
  (st_A o4 5 5 (4 : Int32) x5).bind fun o5 =>
  some o5
def f_X5_makeAlike_L2 (rec2 : (Int32 × Int32 × Int32 × Ob_T) → Option Ob_T) (x1 : Int32) (x2 : Int32) (x3 : Int32) (s_v : Ob_T) : Option Ob_T :=
  if (14 : Int32) ≤ x3 then
  (some s_v)
  else
  ((ld_I (o_A s_v 2) 14 x3).bind fun v1 =>
  if v1 = x2 then
  ((st_A s_v 2 14 x3 x1).bind fun o2 =>
  rec2 (x1, x2, (x3 + (1 : Int32)), o2))
  else
  (rec2 (x1, x2, (x3 + (1 : Int32)), s_v)))
def f_X5_makeAlike (s_v : Ob_T) (x1 : Int32) (x2 : Int32) : Option Ob_T :=
  Lp_ (fun (rec : (Int32 × Int32 × Int32 × Ob_T) → Option Ob_T) x => f_X5_makeAlike_L2 rec x.1 x.2.1 x.2.2.1 x.2.2.2) FU_ (x1, x2, (0 : Int32), s_v)
def f_X5_meet_J53 (x6 : Int32) (x7 : Int32) (s_v : Ob_T) : Option Ob_T :=
  if (20000 : Int32) ≤ x6 then
  (if (20000 : Int32) ≤ x7 then
  ((f_X5_makeAlike s_v ((if x7 < x6 then x7 else x6) - (20000 : Int32)) ((if x6 < x7 then x7 else x6) - (20000 : Int32))).bind fun u3 =>
  some u3)
  else
  ((st_A s_v 3 14 (x6 - (20000 : Int32)) x7).bind fun o4 =>
  some o4))
  else
  ((st_A s_v 3 14 (x7 - (20000 : Int32)) x6).bind fun o5 =>
  some o5)
def f_X5_meet (s_v : Ob_T) (x1 : Int32) (x2 : Int32) (x3 : Int32) (x4 : Int32) (x5 : Int32) : Option Ob_T :=
  (f_X5_valueOf s_v x1).bind fun u1 =>
  (f_X5_valueOf s_v x2).bind fun u2 =>
  if (20000 : Int32) ≤ u1 then
  (f_X5_meet_J53 u1 u2 s_v)
  else
  (if (20000 : Int32) ≤ u2 then
  (f_X5_meet_J53 u1 u2 s_v)
  else
  (if u1 = u2 then
  (some s_v)
  else
  ((f_X5_failAt s_v x3 x4 x5 u1 u2).bind fun u6 =>
  some u6)))
def f_X5_meetFrames_L56 (rec56 : (Int32 × Int32 × Int32 × Int32 × Int32 × Ob_T) → Option Ob_T) (x1 : Int32) (x2 : Int32) (x3 : Int32) (x5 : Int32) (x6 : Int32) (s_v : Ob_T) (s_n : Ob_T) : Option Ob_T :=
  if x5 ≤ x6 then
  (some s_v)
  else
  ((f_X5_hasFailed s_v).bind fun u6 =>
  if u6 = (0 : Int32) then
  ((f_X1_at s_n x2 x6).bind fun u7 =>
  (f_X1_at s_n x3 x6).bind fun u8 =>
  (f_X5_meet s_v u7 u8 x1 (1 : Int32) x6).bind fun u9 =>
  rec56 (x1, x2, x3, x5, (x6 + (1 : Int32)), u9))
  else
  (some s_v))
def f_X5_meetFrames (s_v : Ob_T) (s_n : Ob_T) (x1 : Int32) : Option Ob_T :=
  (f_X1_firstOf s_n x1).bind fun u1 =>
  (f_X1_secondOf s_n x1).bind fun u2 =>
  (f_X1_rankOf s_n x1).bind fun u3 =>
  (f_X1_frameOf s_n u1 u3).bind fun u4 =>
  (f_X1_frameOf s_n u2 u3).bind fun u5 =>
  Lp_ (fun (rec : (Int32 × Int32 × Int32 × Int32 × Int32 × Ob_T) → Option Ob_T) x => f_X5_meetFrames_L56 rec x.1 x.2.1 x.2.2.1 x.2.2.2.1 x.2.2.2.2.1 x.2.2.2.2.2 s_n) FU_ (x1, u1, u2, (if u5 < u4 then u5 else u4), (0 : Int32), s_v)
def f_X5_meetCells_L83 (rec83 : (Int32 × Int32 × Int32 × Int32 × Int32 × Int32 × Int32 × Ob_T) → Option Ob_T) (x1 : Int32) (x3 : Int32) (x4 : Int32) (x6 : Int32) (x7 : Int32) (x8 : Int32) (x9 : Int32) (s_v : Ob_T) (s_n : Ob_T) : Option Ob_T :=
  if x6 ≤ x9 then
  (some s_v)
  else
  ((f_X5_hasFailed s_v).bind fun u8 =>
  if u8 = (0 : Int32) then
  ((f_X1_at s_n x3 (x7 + x9)).bind fun u9 =>
  (f_X1_at s_n x4 (x8 + x9)).bind fun u10 =>
  (f_X5_meet s_v u9 u10 x1 (2 : Int32) x9).bind fun u11 =>
  rec83 (x1, x3, x4, x6, x7, x8, (x9 + (1 : Int32)), u11))
  else
  (some s_v))
def f_X5_meetCells (s_v : Ob_T) (s_n : Ob_T) (x1 : Int32) (x2 : Int32) : Option Ob_T :=
  (f_X1_firstOf s_n x1).bind fun u1 =>
  (f_X1_secondOf s_n x1).bind fun u2 =>
  (f_X1_rankOf s_n x1).bind fun u3 =>
  (f_X1_cellOf s_n u1 u3).bind fun u4 =>
  (f_X1_cellOf s_n u2 u3).bind fun u5 =>
  (f_X1_frameOf s_n u1 u3).bind fun u6 =>
  (f_X1_frameOf s_n u2 u3).bind fun u7 =>
  Lp_ (fun (rec : (Int32 × Int32 × Int32 × Int32 × Int32 × Int32 × Int32 × Ob_T) → Option Ob_T) x => f_X5_meetCells_L83 rec x.1 x.2.1 x.2.2.1 x.2.2.2.1 x.2.2.2.2.1 x.2.2.2.2.2.1 x.2.2.2.2.2.2.1 x.2.2.2.2.2.2.2 s_n) FU_ (x1, u1, u2, (if u5 < u4 then u5 else u4), u6, u7, x2, s_v)
def f_X5_meetAll_J36 (rec6 : (Int32 × Ob_T) → Option Ob_T) (x2 : Int32) (k1 : Int32) (k2 : Int32) (s_v : Ob_T) (s_n : Ob_T) (f1 : Nat → Int32) (z1 : Nat) : Option Ob_T :=
  (st_A s_v 3 14 k1 k2).bind fun o3 =>
  rec6 ((x2 + (1 : Int32)), o3)
def f_X5_meetAll_L6 (k43 : Ob_T → Option Ob_T) (rec6 : (Int32 × Ob_T) → Option Ob_T) (x2 : Int32) (s_v : Ob_T) (s_n : Ob_T) (f1 : Nat → Int32) (z1 : Nat) : Option Ob_T :=
  if (14 : Int32) ≤ x2 then
  (k43 s_v)
  else
  ((st_A s_v 2 14 x2 x2).bind fun o2 =>
  if (4 : Int32) ≤ x2 then
  (f_X5_meetAll_J36 rec6 x2 x2 (-1 : Int32) o2 s_n f1 z1)
  else
  ((ld_I f1 z1 x2).bind fun v4 =>
  f_X5_meetAll_J36 rec6 x2 x2 v4 o2 s_n f1 z1))
def f_X5_meetAll_J99 (rec45 : (Int32 × Ob_T) → Option Ob_T) (x2 : Int32) (k1 : Int32) (k2 : Int32) (s_v : Ob_T) (s_n : Ob_T) (f1 : Nat → Int32) (z1 : Nat) : Option Ob_T :=
  (f_X5_meetCells s_v s_n k1 k2).bind fun u9 =>
  rec45 ((x2 + (1 : Int32)), u9)
def f_X5_meetAll_J82 (rec45 : (Int32 × Ob_T) → Option Ob_T) (x2 : Int32) (x3 : Int32) (s_v : Ob_T) (s_n : Ob_T) (f1 : Nat → Int32) (z1 : Nat) : Option Ob_T :=
  (f_X5_meetFrames s_v s_n x2).bind fun u8 =>
  if x3 = (2 : Int32) then
  (f_X5_meetAll_J99 rec45 x2 x2 (1 : Int32) u8 s_n f1 z1)
  else
  (f_X5_meetAll_J99 rec45 x2 x2 (0 : Int32) u8 s_n f1 z1)
def f_X5_meetAll_L45 (k108 : Ob_T → Option Ob_T) (rec45 : (Int32 × Ob_T) → Option Ob_T) (x2 : Int32) (s_v : Ob_T) (s_n : Ob_T) (f1 : Nat → Int32) (z1 : Nat) : Option Ob_T :=
  (f_X1_size s_n).bind fun u5 =>
  if u5 ≤ x2 then
  (k108 s_v)
  else
  ((f_X5_hasFailed s_v).bind fun u6 =>
  if u6 = (0 : Int32) then
  ((f_X1_kindOf s_n x2).bind fun u7 =>
  if u7 = (1 : Int32) then
  (f_X5_meetAll_J82 rec45 x2 u7 s_v s_n f1 z1)
  else
  (if u7 = (2 : Int32) then
  (f_X5_meetAll_J82 rec45 x2 u7 s_v s_n f1 z1)
  else
  (rec45 ((x2 + (1 : Int32)), s_v))))
  else
  (k108 s_v))
def f_X5_meetAll_J108 (s_v : Ob_T) (s_n : Ob_T) (f1 : Nat → Int32) (z1 : Nat) : Option Ob_T :=
  (cp_I (o_A s_v 3) (o_A s_v 4) 14 14 (0 : Int32) (0 : Int32) (14 : Int32)).bind fun w10 =>
  Lt_ (p_A s_v 4 w10) fun o11 =>
  some o11
def f_X5_meetAll_J43 (s_v : Ob_T) (s_n : Ob_T) (f1 : Nat → Int32) (z1 : Nat) : Option Ob_T :=
  Lp_ (fun (rec : (Int32 × Ob_T) → Option Ob_T) x => f_X5_meetAll_L45 (fun t_v => f_X5_meetAll_J108 t_v s_n f1 z1) rec x.1 x.2 s_n f1 z1) FU_ ((0 : Int32), s_v)
def f_X5_meetAll (s_v : Ob_T) (s_n : Ob_T) (f1 : Nat → Int32) (z1 : Nat) : Option Ob_T :=
  (f_X5_clearFail s_v).bind fun u1 =>
  Lp_ (fun (rec : (Int32 × Ob_T) → Option Ob_T) x => f_X5_meetAll_L6 (fun t_v => f_X5_meetAll_J43 t_v s_n f1 z1) rec x.1 x.2 s_n f1 z1) FU_ ((0 : Int32), u1)
def f_X5_gatherSides_L173 (k214 : Int32 → Int32 → Ob_T → Option (Int32 × Ob_T)) (rec173 : (Int32 × Int32 × Int32 × Int32 × Ob_T) → Option (Int32 × Ob_T)) (x1 : Int32) (x3 : Int32) (x5 : Int32) (x6 : Int32) (s_d : Ob_T) (s_v : Ob_T) (s_n : Ob_T) : Option (Int32 × Ob_T) :=
  (f_X1_axesOf s_n x1).bind fun u5 =>
  if u5 ≤ x6 then
  (k214 x3 x5 s_d)
  else
  ((f_X1_at s_n x1 x6).bind fun u6 =>
  (f_X5_valueOf s_v u6).bind fun u7 =>
  (f_X4_add s_d (0 : Int32) u7).bind fun u8 =>
  rec173 (x1, x3, x5, (x6 + (1 : Int32)), u8))
def f_X5_gatherSides_L218 (rec218 : (Int32 × Int32 × Ob_T) → Option (Int32 × Ob_T)) (x3 : Int32) (x6 : Int32) (s_d : Ob_T) (s_v : Ob_T) (s_n : Ob_T) : Option (Int32 × Ob_T) :=
  (f_X1_axesOf s_n x3).bind fun u9 =>
  if u9 ≤ x6 then
  (some ((1 : Int32), s_d))
  else
  ((f_X1_at s_n x3 x6).bind fun u10 =>
  (f_X5_valueOf s_v u10).bind fun u11 =>
  (f_X4_add s_d (1 : Int32) u11).bind fun u12 =>
  rec218 (x3, (x6 + (1 : Int32)), u12))
def f_X5_gatherSides_J214 (x3 : Int32) (x5 : Int32) (s_d : Ob_T) (s_v : Ob_T) (s_n : Ob_T) : Option (Int32 × Ob_T) :=
  Lp_ (fun (rec : (Int32 × Int32 × Ob_T) → Option (Int32 × Ob_T)) x => f_X5_gatherSides_L218 rec x.1 x.2.1 x.2.2 s_v s_n) FU_ (x3, x5, s_d)
def f_X5_gatherSides_J167 (x1 : Int32) (x3 : Int32) (k0 : Int32) (s_d : Ob_T) (s_v : Ob_T) (s_n : Ob_T) : Option (Int32 × Ob_T) :=
  Lp_ (fun (rec : (Int32 × Int32 × Int32 × Int32 × Ob_T) → Option (Int32 × Ob_T)) x => f_X5_gatherSides_L173 (fun y3 y5 t_d => f_X5_gatherSides_J214 y3 y5 t_d s_v s_n) rec x.1 x.2.1 x.2.2.1 x.2.2.2.1 x.2.2.2.2 s_v s_n) FU_ (x1, x3, k0, k0, s_d)
def f_X5_gatherSides_J27 (x1 : Int32) (x2 : Int32) (s_d : Ob_T) (s_v : Ob_T) (s_n : Ob_T) : Option (Int32 × Ob_T) :=
  (f_X1_firstOf s_n x1).bind fun u2 =>
  (f_X1_rankOf s_n x1).bind fun u3 =>
  (f_X4_clear s_d).bind fun u4 =>
  if x2 = (2 : Int32) then
  ((f_X1_ownLetter x1).bind fun u14 =>
  (f_X5_valueOf s_v u14).bind fun u15 =>
  (f_X4_add u4 (0 : Int32) u15).bind fun u16 =>
  (f_X1_secondOf s_n x1).bind fun u17 =>
  (f_X1_frameOf s_n u2 u3).bind fun u18 =>
  (f_X1_joinedAt s_n u2 u18).bind fun u19 =>
  (f_X5_valueOf s_v u19).bind fun u20 =>
  (f_X4_add u16 (1 : Int32) u20).bind fun u21 =>
  (f_X1_frameOf s_n u17 u3).bind fun u22 =>
  (f_X1_joinedAt s_n u17 u22).bind fun u23 =>
  (f_X5_valueOf s_v u23).bind fun u24 =>
  (f_X4_add u21 (1 : Int32) u24).bind fun u25 =>
  some ((1 : Int32), u25))
  else
  (if x2 = (5 : Int32) then
  ((f_X1_frameOf s_n u2 u3).bind fun u13 =>
  f_X5_gatherSides_J167 x1 u2 u13 u4 s_v s_n)
  else
  (f_X5_gatherSides_J167 x1 u2 (0 : Int32) u4 s_v s_n))
def f_X5_gatherSides (s_v : Ob_T) (s_d : Ob_T) (s_n : Ob_T) (x1 : Int32) : Option (Int32 × Ob_T) :=
  (f_X1_kindOf s_n x1).bind fun u1 =>
  if u1 = (2 : Int32) then
  (f_X5_gatherSides_J27 x1 u1 s_d s_v s_n)
  else
  (if u1 = (5 : Int32) then
  (f_X5_gatherSides_J27 x1 u1 s_d s_v s_n)
  else
  (if u1 = (6 : Int32) then
  (f_X5_gatherSides_J27 x1 u1 s_d s_v s_n)
  else
  (some ((0 : Int32), s_d))))
def f_X5_settleOne_J82 (k1 : Int32) (k2 : Int32) (s_v : Ob_T) (s_d : Ob_T) (s_n : Ob_T) : Option (Int32 × Ob_T) :=
  (f_X5_failAt s_v k1 k2 (0 : Int32) (0 : Int32) (0 : Int32)).bind fun u7 =>
  some ((0 : Int32), u7)
def f_X5_settleOne_J68 (x1 : Int32) (x2 : Int32) (k1 : Int32) (s_v : Ob_T) (s_d : Ob_T) (s_n : Ob_T) : Option (Int32 × Ob_T) :=
  (zb_ k1).bind fun b5 =>
  Lt_ (p_F s_v 6 k1) fun o6 =>
  if x2 = (0 : Int32) then
  (f_X5_settleOne_J82 x1 (4 : Int32) o6 s_d s_n)
  else
  (f_X5_settleOne_J82 x1 (3 : Int32) o6 s_d s_n)
def f_X5_settleOne_J67 (x1 : Int32) (x2 : Int32) (s_v : Ob_T) (s_d : Ob_T) (s_n : Ob_T) : Option (Int32 × Ob_T) :=
  f_X5_settleOne_J68 x1 x2 (0 : Int32) s_v s_d s_n
def f_X5_settleOne_J39 (x1 : Int32) (x2 : Int32) (k0 : Int64) (s_v : Ob_T) (s_d : Ob_T) (s_n : Ob_T) : Option (Int32 × Ob_T) :=
  if (lg_cmp k0 (-1 : Int64)) = (0 : Int32) then
  (if x2 = (0 : Int32) then
  ((f_X4_isTooGreat s_d).bind fun u8 =>
  if u8 = (0 : Int32) then
  (f_X5_settleOne_J67 x1 x2 s_v s_d s_n)
  else
  (f_X5_settleOne_J68 x1 x2 (1 : Int32) s_v s_d s_n))
  else
  (f_X5_settleOne_J67 x1 x2 s_v s_d s_n))
  else
  (if (lg_cmp k0 (-2 : Int64)) = (0 : Int32) then
  (some ((0 : Int32), s_v))
  else
  ((f_X4_latestLetter s_d).bind fun u3 =>
  (st_A s_v 3 14 u3 k0.toInt32).bind fun o4 =>
  some ((1 : Int32), o4)))
def f_X5_settleOne_J17 (x1 : Int32) (k0 : Int32) (s_v : Ob_T) (s_d : Ob_T) (s_n : Ob_T) : Option (Int32 × Ob_T) :=
  if k0 = (0 : Int32) then
  ((f_X4_missingFactor s_d).bind fun u2 =>
  f_X5_settleOne_J39 x1 k0 u2 s_v s_d s_n)
  else
  ((f_X4_missingAddend s_d).bind fun u9 =>
  f_X5_settleOne_J39 x1 k0 u9 s_v s_d s_n)
def f_X5_settleOne (s_v : Ob_T) (s_d : Ob_T) (s_n : Ob_T) (x1 : Int32) : Option (Int32 × Ob_T) :=
  (f_X1_kindOf s_n x1).bind fun u1 =>
  if u1 = (2 : Int32) then
  (f_X5_settleOne_J17 x1 (1 : Int32) s_v s_d s_n)
  else
  (f_X5_settleOne_J17 x1 (0 : Int32) s_v s_d s_n)
def f_X5_settle_L33 (k98 : Int32 → Int32 → Int32 → Ob_T → Ob_T → Option (Ob_T × Ob_T)) (rec33 : (Int32 × Int32 × Int32 × Int32 × Ob_T × Ob_T) → Option (Ob_T × Ob_T)) (x2 : Int32) (x3 : Int32) (x4 : Int32) (x5 : Int32) (s_v : Ob_T) (s_d : Ob_T) (s_n : Ob_T) : Option (Ob_T × Ob_T) :=
  (f_X1_size s_n).bind fun u2 =>
  if u2 ≤ x5 then
  (k98 x2 x3 x4 s_v s_d)
  else
  ((f_X5_hasFailed s_v).bind fun u3 =>
  if u3 = (0 : Int32) then
  ((f_X5_gatherSides s_v s_d s_n x5).bind fun u4 =>
  if u4.1 = (0 : Int32) then
  (rec33 (x2, x3, x4, (x5 + (1 : Int32)), s_v, u4.2))
  else
  ((f_X4_letters u4.2).bind fun u5 =>
  if u5 ≤ (1 : Int32) then
  ((f_X5_settleOne s_v u4.2 s_n x5).bind fun u6 =>
  if u6.1 = (0 : Int32) then
  (rec33 (x2, x3, x4, (x5 + (1 : Int32)), u6.2, u4.2))
  else
  (rec33 (x2, x3, (1 : Int32), (x5 + (1 : Int32)), u6.2, u4.2)))
  else
  (rec33 (x2, (1 : Int32), x4, (x5 + (1 : Int32)), s_v, u4.2))))
  else
  (k98 x2 x3 x4 s_v s_d))
def f_X5_settle_J98 (rec15 : (Int32 × Int32 × Ob_T × Ob_T) → Option (Ob_T × Ob_T)) (x2 : Int32) (x3 : Int32) (x4 : Int32) (s_v : Ob_T) (s_d : Ob_T) (s_n : Ob_T) : Option (Ob_T × Ob_T) :=
  if x4 = (0 : Int32) then
  (rec15 ((0 : Int32), (x2 + (1 : Int32)), s_v, s_d))
  else
  (if x3 = (0 : Int32) then
  (rec15 ((0 : Int32), (x2 + (1 : Int32)), s_v, s_d))
  else
  ((f_X5_hasFailed s_v).bind fun u7 =>
  if u7 = (0 : Int32) then
  (rec15 ((1 : Int32), (x2 + (1 : Int32)), s_v, s_d))
  else
  (rec15 ((0 : Int32), (x2 + (1 : Int32)), s_v, s_d))))
def f_X5_settle_L15 (rec15 : (Int32 × Int32 × Ob_T × Ob_T) → Option (Ob_T × Ob_T)) (x1 : Int32) (x2 : Int32) (s_v : Ob_T) (s_d : Ob_T) (s_n : Ob_T) : Option (Ob_T × Ob_T) :=
  if (14 : Int32) < x2 then
  (some (s_v, s_d))
  else
  (if x1 = (0 : Int32) then
  (some (s_v, s_d))
  else
  (Lp_ (fun (rec : (Int32 × Int32 × Int32 × Int32 × Ob_T × Ob_T) → Option (Ob_T × Ob_T)) x => f_X5_settle_L33 (fun y2 y3 y4 t_v t_d => f_X5_settle_J98 rec15 y2 y3 y4 t_v t_d s_n) rec x.1 x.2.1 x.2.2.1 x.2.2.2.1 x.2.2.2.2.1 x.2.2.2.2.2 s_n) FU_ (x2, (0 : Int32), (0 : Int32), (0 : Int32), s_v, s_d)))
def f_X5_settle_J12 (k0 : Int32) (s_v : Ob_T) (s_d : Ob_T) (s_n : Ob_T) : Option (Ob_T × Ob_T) :=
  Lp_ (fun (rec : (Int32 × Int32 × Ob_T × Ob_T) → Option (Ob_T × Ob_T)) x => f_X5_settle_L15 rec x.1 x.2.1 x.2.2.1 x.2.2.2 s_n) FU_ (k0, (0 : Int32), s_v, s_d)
def f_X5_settle (s_v : Ob_T) (s_d : Ob_T) (s_n : Ob_T) : Option (Ob_T × Ob_T) :=
  (f_X5_hasFailed s_v).bind fun u1 =>
  if u1 = (0 : Int32) then
  (f_X5_settle_J12 (1 : Int32) s_v s_d s_n)
  else
  (f_X5_settle_J12 (0 : Int32) s_v s_d s_n)
def f_X5_solve (s_v : Ob_T) (s_d : Ob_T) (s_n : Ob_T) (f1 : Nat → Int32) (z1 : Nat) : Option (Ob_T × Ob_T) :=
  (f_X5_meetAll s_v s_n f1 z1).bind fun u1 =>
  (f_X5_settle u1 s_d s_n).bind fun u2 =>
  some (u2.1, u2.2)
def f_X5_hasTooGreat (s_v : Ob_T) : Option Int32 :=
  (zb_ (o_F s_v 6)).bind fun _ =>
  some (o_F s_v 6)
def f_X5_failPart (s_v : Ob_T) (x1 : Int32) : Option Int32 :=
  (ld_I (o_A s_v 5) 5 x1).bind fun v1 =>
  some v1
def f_X5_openLetters_L17 (rec4 : (Int32 × Int32) → Option Int32) (rec17 : (Int32 × Int32 × Int32) → Option Int32) (x1 : Int32) (x2 : Int32) (x3 : Int32) (s_v : Ob_T) (s_n : Ob_T) : Option Int32 :=
  (f_X1_isTold s_n x2).bind fun u2 =>
  if u2 = (0 : Int32) then
  (rec4 (x1, (x2 + (1 : Int32))))
  else
  ((f_X1_axesOf s_n x2).bind fun u3 =>
  if u3 ≤ x3 then
  (rec4 (x1, (x2 + (1 : Int32))))
  else
  ((f_X1_at s_n x2 x3).bind fun u4 =>
  (f_X5_valueOf s_v u4).bind fun u5 =>
  if u5 < (20000 : Int32) then
  (rec17 (x1, x2, (x3 + (1 : Int32))))
  else
  (Lt_ ((x1 ||| ((1 : Int32) <<< ((u5 - (20000 : Int32)) &&& (31 : Int32))))) fun e6 =>
  rec17 (e6, x2, (x3 + (1 : Int32))))))
def f_X5_openLetters_L4 (rec4 : (Int32 × Int32) → Option Int32) (x1 : Int32) (x2 : Int32) (s_v : Ob_T) (s_n : Ob_T) : Option Int32 :=
  (f_X1_size s_n).bind fun u1 =>
  if u1 ≤ x2 then
  (some x1)
  else
  (Lp_ (fun (rec : (Int32 × Int32 × Int32) → Option Int32) x => f_X5_openLetters_L17 rec4 rec x.1 x.2.1 x.2.2 s_v s_n) FU_ (x1, x2, (0 : Int32)))
def f_X5_openLetters (s_v : Ob_T) (s_n : Ob_T) : Option Int32 :=
  Lp_ (fun (rec : (Int32 × Int32) → Option Int32) x => f_X5_openLetters_L4 rec x.1 x.2 s_v s_n) FU_ ((0 : Int32), (0 : Int32))
def f_X5_settleWith_L21 (k48 : Ob_T → Ob_T → Option (Ob_T × Ob_T)) (rec21 : (Int32 × Ob_T × Ob_T) → Option (Ob_T × Ob_T)) (x2 : Int32) (s_v : Ob_T) (s_d : Ob_T) (s_n : Ob_T) (f1 : Nat → Int32) (z1 : Nat) : Option (Ob_T × Ob_T) :=
  if (4 : Int32) ≤ x2 then
  (k48 s_v s_d)
  else
  ((ld_I f1 z1 x2).bind fun v4 =>
  if v4 = (-1 : Int32) then
  (rec21 ((x2 + (1 : Int32)), s_v, s_d))
  else
  ((ld_I f1 z1 x2).bind fun v5 =>
  (st_A s_v 3 14 x2 v5).bind fun o6 =>
  rec21 ((x2 + (1 : Int32)), o6, s_d)))
def f_X5_settleWith_J48 (s_v : Ob_T) (s_d : Ob_T) (s_n : Ob_T) (f1 : Nat → Int32) (z1 : Nat) : Option (Ob_T × Ob_T) :=
  (f_X5_settle s_v s_d s_n).bind fun u7 =>
  some (u7.1, u7.2)
def f_X5_settleWith (s_v : Ob_T) (s_d : Ob_T) (s_n : Ob_T) (f1 : Nat → Int32) (z1 : Nat) : Option (Ob_T × Ob_T) :=
  (f_X5_clearFail s_v).bind fun u1 =>
  (cp_I (o_A u1 4) (o_A u1 3) 14 14 (0 : Int32) (0 : Int32) (14 : Int32)).bind fun w2 =>
  Lt_ (p_A u1 3 w2) fun o3 =>
  Lp_ (fun (rec : (Int32 × Ob_T × Ob_T) → Option (Ob_T × Ob_T)) x => f_X5_settleWith_L21 (fun t_v t_d => f_X5_settleWith_J48 t_v t_d s_n f1 z1) rec x.1 x.2.1 x.2.2 s_n f1 z1) FU_ ((0 : Int32), o3, s_d)
def f_X5_lettersInEquations_L4 (rec4 : (Int32 × Int32 × Ob_T) → Option (Int32 × Ob_T)) (x1 : Int32) (x2 : Int32) (s_d : Ob_T) (s_v : Ob_T) (s_n : Ob_T) : Option (Int32 × Ob_T) :=
  (f_X1_size s_n).bind fun u1 =>
  if u1 ≤ x2 then
  (some (x1, s_d))
  else
  ((f_X5_gatherSides s_v s_d s_n x2).bind fun u2 =>
  if u2.1 = (0 : Int32) then
  (rec4 (x1, (x2 + (1 : Int32)), u2.2))
  else
  ((f_X4_letterBits u2.2).bind fun u3 =>
  rec4 ((x1 ||| u3), (x2 + (1 : Int32)), u2.2)))
def f_X5_lettersInEquations (s_v : Ob_T) (s_d : Ob_T) (s_n : Ob_T) : Option (Int32 × Ob_T) :=
  Lp_ (fun (rec : (Int32 × Int32 × Ob_T) → Option (Int32 × Ob_T)) x => f_X5_lettersInEquations_L4 rec x.1 x.2.1 x.2.2 s_v s_n) FU_ ((0 : Int32), (0 : Int32), s_d)
def f_X6_add (s_t : Ob_T) (x1 : Int32) : Option (Int32 × Ob_T) :=
  if (o_F s_t 1) < (200 : Int32) then
  ((st_A s_t 0 200 (o_F s_t 1) (vp_nar .char ((x1.toUInt32 % 65536).toInt32))).bind fun o1 =>
  Lt_ (p_F o1 1 ((o_F o1 1) + (1 : Int32))) fun o2 =>
  some ((1 : Int32), o2))
  else
  (some ((0 : Int32), s_t))
def f_X6_length (s_t : Ob_T) : Option Int32 :=
  some (o_F s_t 1)
def f_X6_clear (s_t : Ob_T) : Option Ob_T :=
  Lt_ (p_F s_t 1 (0 : Int32)) fun o1 =>
  some o1
def f_X6_clausesRead (s_t : Ob_T) : Option Int32 :=
  some (o_F s_t 2)
def f_X6_numberHere_L7 (rec7 : (Int32 × Int32) → Option Int32) (x1 : Int32) (x2 : Int32) (s_t : Ob_T) : Option Int32 :=
  if (o_F s_t 5) ≤ x2 then
  (some x1)
  else
  ((ld_I (o_A s_t 0) 200 x2).bind fun v1 =>
  Lt_ (((x1 * (10 : Int32)) + (v1 - (48 : Int32)))) fun e2 =>
  rec7 (e2, (x2 + (1 : Int32))))
def f_X6_numberHere (s_t : Ob_T) : Option Int32 :=
  Lp_ (fun (rec : (Int32 × Int32) → Option Int32) x => f_X6_numberHere_L7 rec x.1 x.2 s_t) FU_ ((0 : Int32), (o_F s_t 4))
def f_X6_isNumber (s_t : Ob_T) (x1 : Int32) (x2 : Int32) : Option Int32 :=
  if (o_F s_t 3) = (2 : Int32) then
  (if ((o_F s_t 5) - (o_F s_t 4)) ≤ (2 : Int32) then
  ((f_X6_numberHere s_t).bind fun u1 =>
  if u1 < x1 then
  (some (0 : Int32))
  else
  (if x2 < u1 then
  (some (0 : Int32))
  else
  (some (1 : Int32))))
  else
  (some (0 : Int32)))
  else
  (some (0 : Int32))
def f_X6_sortOf_J14 (x0 : Int32) : Option Int32 :=
  if x0 < (48 : Int32) then
  (some (3 : Int32))
  else
  (if (57 : Int32) < x0 then
  (some (3 : Int32))
  else
  (some (2 : Int32)))
def f_X6_sortOf (x0 : Int32) : Option Int32 :=
  if x0 < (97 : Int32) then
  (f_X6_sortOf_J14 x0)
  else
  (if (122 : Int32) < x0 then
  (f_X6_sortOf_J14 x0)
  else
  (some (1 : Int32)))
def f_X6_step_L0 (k38 : Ob_T → Option Ob_T) (rec0 : Ob_T → Option Ob_T) (s_t : Ob_T) : Option Ob_T :=
  if (o_F s_t 1) ≤ (o_F s_t 5) then
  (k38 s_t)
  else
  ((ld_I (o_A s_t 0) 200 (o_F s_t 5)).bind fun v1 =>
  if v1 = (32 : Int32) then
  (Lt_ (p_F s_t 5 ((o_F s_t 5) + (1 : Int32))) fun o2 =>
  rec0 (o2))
  else
  (k38 s_t))
def f_X6_step_L89 (rec89 : Ob_T → Option Ob_T) (s_t : Ob_T) : Option Ob_T :=
  if (o_F s_t 3) = (3 : Int32) then
  (some s_t)
  else
  (if (o_F s_t 1) ≤ (o_F s_t 5) then
  (some s_t)
  else
  ((ld_I (o_A s_t 0) 200 (o_F s_t 5)).bind fun v8 =>
  (f_X6_sortOf v8).bind fun u9 =>
  if u9 = (o_F s_t 3) then
  (Lt_ (p_F s_t 5 ((o_F s_t 5) + (1 : Int32))) fun o10 =>
  rec89 (o10))
  else
  (some s_t)))
def f_X6_step_J38 (s_t : Ob_T) : Option Ob_T :=
  Lt_ (p_F s_t 4 (o_F s_t 5)) fun o3 =>
  if (o_F o3 5) < (o_F o3 1) then
  ((ld_I (o_A o3 0) 200 (o_F o3 5)).bind fun v4 =>
  (f_X6_sortOf v4).bind fun u5 =>
  Lt_ (p_F o3 3 u5) fun o6 =>
  Lt_ (p_F o6 5 ((o_F o6 5) + (1 : Int32))) fun o7 =>
  Lp_ (fun (rec : Ob_T → Option Ob_T) x => f_X6_step_L89 rec x) FU_ (o7))
  else
  (Lt_ (p_F o3 3 (0 : Int32)) fun o11 =>
  some o11)
def f_X6_step (s_t : Ob_T) : Option Ob_T :=
  Lp_ (fun (rec : Ob_T → Option Ob_T) x => f_X6_step_L0 (fun t_t => f_X6_step_J38 t_t) rec x) FU_ (s_t)
def f_X6_isSign (s_t : Ob_T) (x1 : Int32) : Option Int32 :=
  if (o_F s_t 3) = (3 : Int32) then
  ((ld_I (o_A s_t 0) 200 (o_F s_t 4)).bind fun v1 =>
  if v1 = x1 then
  (some (1 : Int32))
  else
  (some (0 : Int32)))
  else
  (some (0 : Int32))
def f_X6_readRank_J51 (k1 : Int32) (s_t : Ob_T) : Option (Int32 × Ob_T) :=
  Lt_ (p_F s_t 8 k1) fun o4 =>
  (f_X6_step o4).bind fun u5 =>
  some ((1 : Int32), u5)
def f_X6_readRank_J25 (x1 : Int32) (k1 : Int32) (s_t : Ob_T) : Option (Int32 × Ob_T) :=
  (f_X6_isNumber s_t k1 (3 : Int32)).bind fun u2 =>
  if u2 = (0 : Int32) then
  (some ((0 : Int32), s_t))
  else
  (if x1 = (0 : Int32) then
  ((f_X6_numberHere s_t).bind fun u3 =>
  f_X6_readRank_J51 u3 s_t)
  else
  ((f_X6_numberHere s_t).bind fun u6 =>
  f_X6_readRank_J51 (-u6) s_t))
def f_X6_readRank_J15 (x1 : Int32) (s_t : Ob_T) : Option (Int32 × Ob_T) :=
  if x1 = (0 : Int32) then
  (f_X6_readRank_J25 x1 (0 : Int32) s_t)
  else
  (f_X6_readRank_J25 x1 (1 : Int32) s_t)
def f_X6_readRank (s_t : Ob_T) : Option (Int32 × Ob_T) :=
  (f_X6_isSign s_t (45 : Int32)).bind fun u1 =>
  if u1 = (0 : Int32) then
  (f_X6_readRank_J15 u1 s_t)
  else
  ((f_X6_step s_t).bind fun u7 =>
  f_X6_readRank_J15 u1 u7)
def f_X6_readArguments_J82 (x1 : Int32) (s_t : Ob_T) : Option (Int32 × Ob_T) :=
  if x1 = (6 : Int32) then
  (some ((1 : Int32), s_t))
  else
  ((f_X6_readRank s_t).bind fun u12 =>
  if u12.1 = (0 : Int32) then
  (some ((0 : Int32), u12.2))
  else
  (some ((1 : Int32), u12.2)))
def f_X6_readArguments_J57 (x1 : Int32) (x2 : Int32) (s_t : Ob_T) : Option (Int32 × Ob_T) :=
  (f_X6_isNumber s_t (0 : Int32) (x2 - (1 : Int32))).bind fun u8 =>
  if u8 = (0 : Int32) then
  (some ((0 : Int32), s_t))
  else
  ((f_X6_numberHere s_t).bind fun u9 =>
  Lt_ (p_F s_t 7 u9) fun o10 =>
  (f_X6_step o10).bind fun u11 =>
  f_X6_readArguments_J82 x1 u11)
def f_X6_readArguments (s_t : Ob_T) (x1 : Int32) (x2 : Int32) : Option (Int32 × Ob_T) :=
  Lt_ (p_F s_t 6 (-1 : Int32)) fun o1 =>
  Lt_ (p_F o1 7 (-1 : Int32)) fun o2 =>
  Lt_ (p_F o2 8 (-11 : Int32)) fun o3 =>
  if x1 = (0 : Int32) then
  (some ((1 : Int32), o3))
  else
  ((f_X6_isNumber o3 (0 : Int32) (x2 - (1 : Int32))).bind fun u4 =>
  if u4 = (0 : Int32) then
  (some ((0 : Int32), o3))
  else
  ((f_X6_numberHere o3).bind fun u5 =>
  Lt_ (p_F o3 6 u5) fun o6 =>
  (f_X6_step o6).bind fun u7 =>
  if x1 = (1 : Int32) then
  (f_X6_readArguments_J57 x1 x2 u7)
  else
  (if x1 = (2 : Int32) then
  (f_X6_readArguments_J57 x1 x2 u7)
  else
  (f_X6_readArguments_J82 x1 u7))))
def f_X6_isPlainLetter (s_t : Ob_T) : Option Int32 :=
  if (o_F s_t 3) = (1 : Int32) then
  (if ((o_F s_t 5) - (o_F s_t 4)) = (1 : Int32) then
  ((ld_I (o_A s_t 0) 200 (o_F s_t 4)).bind fun v1 =>
  if v1 < (117 : Int32) then
  (some (0 : Int32))
  else
  ((ld_I (o_A s_t 0) 200 (o_F s_t 4)).bind fun v2 =>
  if (120 : Int32) < v2 then
  (some (0 : Int32))
  else
  (some (1 : Int32))))
  else
  (some (0 : Int32)))
  else
  (some (0 : Int32))
def f_X6_readExtents_J59 (rec2 : (Int32 × Ob_T × Ob_T) → Option (Ob_T × Ob_T)) (x2 : Int32) (s_t : Ob_T) (s_n : Ob_T) : Option (Ob_T × Ob_T) :=
  (f_X6_step s_t).bind fun u5 =>
  rec2 ((x2 + (1 : Int32)), u5, s_n)
def f_X6_readExtents_L2 (rec2 : (Int32 × Ob_T × Ob_T) → Option (Ob_T × Ob_T)) (x2 : Int32) (s_t : Ob_T) (s_n : Ob_T) : Option (Ob_T × Ob_T) :=
  if (3 : Int32) ≤ x2 then
  (some (s_t, s_n))
  else
  ((f_X6_isNumber s_t (0 : Int32) (9 : Int32)).bind fun u1 =>
  if u1 = (0 : Int32) then
  ((f_X6_isPlainLetter s_t).bind fun u2 =>
  if u2 = (0 : Int32) then
  (some (s_t, s_n))
  else
  ((ld_I (o_A s_t 0) 200 (o_F s_t 4)).bind fun v3 =>
  (f_X1_tell s_n (((20000 : Int32) + v3) - (117 : Int32))).bind fun u4 =>
  f_X6_readExtents_J59 rec2 x2 s_t u4))
  else
  ((f_X6_numberHere s_t).bind fun u6 =>
  (f_X1_tell s_n u6).bind fun u7 =>
  f_X6_readExtents_J59 rec2 x2 s_t u7))
def f_X6_readExtents (s_t : Ob_T) (s_n : Ob_T) : Option (Ob_T × Ob_T) :=
  Lp_ (fun (rec : (Int32 × Ob_T × Ob_T) → Option (Ob_T × Ob_T)) x => f_X6_readExtents_L2 rec x.1 x.2.1 x.2.2) FU_ ((0 : Int32), s_t, s_n)
def f_X7_howMany (s_w : Ob_T) : Option Int32 :=
  some (o_F s_w 5)
def f_X7_isOpen (s_w : Ob_T) (x1 : Int32) : Option Int32 :=
  if (((o_F s_w 3) >>> (x1 &&& (31 : Int32))) &&& (1 : Int32)) = (1 : Int32) then
  (some (1 : Int32))
  else
  (some (0 : Int32))
def f_X7_howManyAtMost_L4 (rec4 : (Int32 × Int32) → Option Int32) (x1 : Int32) (x2 : Int32) (s_w : Ob_T) : Option Int32 :=
  if (4 : Int32) ≤ x2 then
  (some x1)
  else
  ((f_X7_isOpen s_w x2).bind fun u1 =>
  if u1 = (0 : Int32) then
  (rec4 ((x1 * (1 : Int32)), (x2 + (1 : Int32))))
  else
  (rec4 ((x1 * (10 : Int32)), (x2 + (1 : Int32)))))
def f_X7_howManyAtMost (s_w : Ob_T) : Option Int32 :=
  Lp_ (fun (rec : (Int32 × Int32) → Option Int32) x => f_X7_howManyAtMost_L4 rec x.1 x.2 s_w) FU_ ((1 : Int32), (0 : Int32))
def f_X7_firstOf (s_w : Ob_T) (x1 : Int32) : Option Int32 :=
  (ld_I (o_A s_w 2) 4 x1).bind fun v1 =>
  some v1
def f_X7_findNone (s_w : Ob_T) (x1 : Int32) : Option Ob_T :=
  Lt_ (p_F s_w 3 x1) fun o1 =>
  Lt_ (p_F o1 5 (0 : Int32)) fun o2 =>
  (f_J7_fill_53178 (p_A ob_0 0 (o_A o2 1)) (-1 : Int32) 4).bind fun u3 =>
  Lt_ (p_A o2 1 (o_A u3 0)) fun o4 =>
  (f_J7_fill_53178 (p_A ob_0 0 (o_A o4 2)) (-1 : Int32) 4).bind fun u5 =>
  Lt_ (p_A o4 2 (o_A u5 0)) fun o6 =>
  some o6
def f_X7_waysAsSettled (s_w : Ob_T) (s_v : Ob_T) (x1 : Int32) : Option (Int32 × Ob_T) :=
  (f_X5_hasFailed s_v).bind fun u1 =>
  if u1 = (0 : Int32) then
  (if x1 = (0 : Int32) then
  ((cp_I (o_A s_w 1) (o_A s_w 2) 4 4 (0 : Int32) (0 : Int32) (4 : Int32)).bind fun w2 =>
  Lt_ (p_A s_w 2 w2) fun o3 =>
  some ((1 : Int32), o3))
  else
  (some ((1 : Int32), s_w)))
  else
  (some ((0 : Int32), s_w))
def f_X7_waysFrom_L181 (slf : Ob_T → Ob_T → Ob_T → Ob_T → Int32 → Int32 → Option (Int32 × Ob_T × Ob_T × Ob_T)) (k218 : Int32 → Int32 → Ob_T → Ob_T → Ob_T → Option (Int32 × Ob_T × Ob_T × Ob_T)) (rec181 : (Int32 × Int32 × Int32 × Int32 × Int32 × Ob_T × Ob_T × Ob_T) → Option (Int32 × Ob_T × Ob_T × Ob_T)) (x1 : Int32) (x2 : Int32) (x5 : Int32) (x6 : Int32) (x7 : Int32) (s_w : Ob_T) (s_v : Ob_T) (s_d : Ob_T) (s_n : Ob_T) : Option (Int32 × Ob_T × Ob_T × Ob_T) :=
  if x5 < x7 then
  (k218 x1 x6 s_w s_v s_d)
  else
  ((st_A s_w 1 4 x1 x7).bind fun o6 =>
  (slf o6 s_v s_d s_n (x1 + (1 : Int32)) (x2 + x6)).bind fun u7 =>
  rec181 (x1, x2, x5, (x6 + u7.1), (x7 + (1 : Int32)), u7.2.1, u7.2.2.1, u7.2.2.2))
def f_X7_waysFrom_J218 (slf : Ob_T → Ob_T → Ob_T → Ob_T → Int32 → Int32 → Option (Int32 × Ob_T × Ob_T × Ob_T)) (x1 : Int32) (x6 : Int32) (s_w : Ob_T) (s_v : Ob_T) (s_d : Ob_T) (s_n : Ob_T) : Option (Int32 × Ob_T × Ob_T × Ob_T) :=
  (st_A s_w 1 4 x1 (-1 : Int32)).bind fun o8 =>
  some (x6, o8, s_v, s_d)
def f_X7_waysFrom_J172 (slf : Ob_T → Ob_T → Ob_T → Ob_T → Int32 → Int32 → Option (Int32 × Ob_T × Ob_T × Ob_T)) (x1 : Int32) (x2 : Int32) (x4 : Int32) (k0 : Int32) (s_w : Ob_T) (s_v : Ob_T) (s_d : Ob_T) (s_n : Ob_T) : Option (Int32 × Ob_T × Ob_T × Ob_T) :=
  Lp_ (fun (rec : (Int32 × Int32 × Int32 × Int32 × Int32 × Ob_T × Ob_T × Ob_T) → Option (Int32 × Ob_T × Ob_T × Ob_T)) x => f_X7_waysFrom_L181 slf (fun y1 y6 t_w t_v t_d => f_X7_waysFrom_J218 slf y1 y6 t_w t_v t_d s_n) rec x.1 x.2.1 x.2.2.1 x.2.2.2.1 x.2.2.2.2.1 x.2.2.2.2.2.1 x.2.2.2.2.2.2.1 x.2.2.2.2.2.2.2 s_n) FU_ (x1, x2, k0, (0 : Int32), x4, s_w, s_v, s_d)
def f_X7_waysFrom_J152 (slf : Ob_T → Ob_T → Ob_T → Ob_T → Int32 → Int32 → Option (Int32 × Ob_T × Ob_T × Ob_T)) (x1 : Int32) (x2 : Int32) (x3 : Int32) (k0 : Int32) (s_w : Ob_T) (s_v : Ob_T) (s_d : Ob_T) (s_n : Ob_T) : Option (Int32 × Ob_T × Ob_T × Ob_T) :=
  if (20000 : Int32) ≤ x3 then
  (f_X7_waysFrom_J172 slf x1 x2 k0 (9 : Int32) s_w s_v s_d s_n)
  else
  (f_X7_waysFrom_J172 slf x1 x2 k0 (if (9 : Int32) < x3 then (9 : Int32) else x3) s_w s_v s_d s_n)
def f_X7_waysFrom_J139 (slf : Ob_T → Ob_T → Ob_T → Ob_T → Int32 → Int32 → Option (Int32 × Ob_T × Ob_T × Ob_T)) (x1 : Int32) (x2 : Int32) (k0 : Int32) (s_w : Ob_T) (s_v : Ob_T) (s_d : Ob_T) (s_n : Ob_T) : Option (Int32 × Ob_T × Ob_T × Ob_T) :=
  if (20000 : Int32) ≤ k0 then
  (f_X7_waysFrom_J152 slf x1 x2 k0 (0 : Int32) s_w s_v s_d s_n)
  else
  (f_X7_waysFrom_J152 slf x1 x2 k0 k0 s_w s_v s_d s_n)
def f_X7_waysFrom_J111 (slf : Ob_T → Ob_T → Ob_T → Ob_T → Int32 → Int32 → Option (Int32 × Ob_T × Ob_T × Ob_T)) (x1 : Int32) (x2 : Int32) (s_w : Ob_T) (s_v : Ob_T) (s_d : Ob_T) (s_n : Ob_T) : Option (Int32 × Ob_T × Ob_T × Ob_T) :=
  (f_X5_hasFailed s_v).bind fun u4 =>
  if u4 = (0 : Int32) then
  ((f_X5_valueOf s_v ((20000 : Int32) + x1)).bind fun u5 =>
  f_X7_waysFrom_J139 slf x1 x2 u5 s_w s_v s_d s_n)
  else
  (f_X7_waysFrom_J139 slf x1 x2 (20000 : Int32) s_w s_v s_d s_n)
def f_X7_waysFrom_B (slf : Ob_T → Ob_T → Ob_T → Ob_T → Int32 → Int32 → Option (Int32 × Ob_T × Ob_T × Ob_T)) (s_w : Ob_T) (s_v : Ob_T) (s_d : Ob_T) (s_n : Ob_T) (x1 : Int32) (x2 : Int32) : Option (Int32 × Ob_T × Ob_T × Ob_T) :=
  if x1 < (4 : Int32) then
  ((f_X7_isOpen s_w x1).bind fun u1 =>
  if u1 = (0 : Int32) then
  ((slf s_w s_v s_d s_n (x1 + (1 : Int32)) x2).bind fun u13 =>
  some (u13.1, u13.2.1, u13.2.2.1, u13.2.2.2))
  else
  (if (((o_F s_w 4) >>> (x1 &&& (31 : Int32))) &&& (1 : Int32)) = (0 : Int32) then
  ((st_A s_w 1 4 x1 (0 : Int32)).bind fun o10 =>
  (slf o10 s_v s_d s_n (x1 + (1 : Int32)) x2).bind fun u11 =>
  (st_A u11.2.1 1 4 x1 (-1 : Int32)).bind fun o12 =>
  some ((u11.1 * (10 : Int32)), o12, u11.2.2.1, u11.2.2.2))
  else
  ((f_X5_settleWith s_v s_d s_n (o_A s_w 1) 4).bind fun u2 =>
  (f_X5_hasFailed u2.1).bind fun u3 =>
  if u3 = (0 : Int32) then
  (f_X7_waysFrom_J111 slf x1 x2 s_w u2.1 u2.2 s_n)
  else
  ((f_X5_hasTooGreat u2.1).bind fun u9 =>
  if u9 = (0 : Int32) then
  (some ((0 : Int32), s_w, u2.1, u2.2))
  else
  (f_X7_waysFrom_J111 slf x1 x2 s_w u2.1 u2.2 s_n)))))
  else
  ((f_X5_settleWith s_v s_d s_n (o_A s_w 1) 4).bind fun u14 =>
  (f_X7_waysAsSettled s_w u14.1 x2).bind fun u15 =>
  some (u15.1, u15.2, u14.1, u14.2))
def f_X7_waysFrom : Nat → Ob_T → Ob_T → Ob_T → Ob_T → Int32 → Int32 → Option (Int32 × Ob_T × Ob_T × Ob_T)
  | 0 => fun _ _ _ _ _ _ => none
  | d + 1 => f_X7_waysFrom_B (f_X7_waysFrom d)
def f_X7_find (s_w : Ob_T) (s_v : Ob_T) (s_d : Ob_T) (s_n : Ob_T) (x1 : Int32) (f2 : Nat → Int32) (z2 : Nat) : Option (Ob_T × Ob_T × Ob_T) :=
  (f_X7_findNone s_w x1).bind fun u1 =>
  (f_X5_meetAll s_v s_n f2 z2).bind fun u2 =>
  (f_X5_lettersInEquations u2 s_d s_n).bind fun u3 =>
  Lt_ (p_F u1 4 u3.1) fun o4 =>
  (f_X7_waysFrom 6 o4 u2 u3.2 s_n (0 : Int32) (0 : Int32)).bind fun u5 =>
  Lt_ (p_F u5.2.1 5 u5.1) fun o6 =>
  some (o6, u5.2.2.1, u5.2.2.2)
def f_X8_write (s_x : Ob_T) (s_t : Ob_T) (x1 : Int32) : Option (Int32 × Ob_T) :=
  if x1 < (0 : Int32) then
  (some ((-3 : Int32), s_t))
  else
  (if x1 ≤ (255 : Int32) then
  ((f_X6_add s_t x1).bind fun u1 =>
  if u1.1 = (0 : Int32) then
  (some ((-5 : Int32), u1.2))
  else
  ((f_X6_length u1.2).bind fun u2 =>
  some (u2, u1.2)))
  else
  (some ((-3 : Int32), s_t)))
def f_X8_erase (s_x : Ob_T) (s_t : Ob_T) : Option (Int32 × Ob_T) :=
  (f_X6_length s_t).bind fun u1 =>
  (f_X6_clear s_t).bind fun u2 =>
  some (u1, u2)
def f_X8_node (s_x : Ob_T) (s_n : Ob_T) (x1 : Int32) (x2 : Int32) : Option Int32 :=
  (f_X1_has s_n x1).bind fun u1 =>
  if u1 = (0 : Int32) then
  (some (-2 : Int32))
  else
  (if x2 = (0 : Int32) then
  ((f_X1_kindOf s_n x1).bind fun u2 =>
  some u2)
  else
  (if x2 = (1 : Int32) then
  ((f_X1_axesOf s_n x1).bind fun u3 =>
  some u3)
  else
  (if x2 = (2 : Int32) then
  ((f_X1_firstOf s_n x1).bind fun u4 =>
  some u4)
  else
  (if x2 = (3 : Int32) then
  ((f_X1_secondOf s_n x1).bind fun u5 =>
  some u5)
  else
  (if x2 = (4 : Int32) then
  ((f_X1_rankOf s_n x1).bind fun u6 =>
  if u6 = (-11 : Int32) then
  (some (-1 : Int32))
  else
  (some (u6 + (10 : Int32))))
  else
  (some (-3 : Int32)))))))
def f_X8_solveNow (s_x : Ob_T) (s_n : Ob_T) (s_v : Ob_T) (s_d : Ob_T) (s_g : Ob_T) : Option (Ob_T × Ob_T × Ob_T) :=
  if (o_F s_x 9) = (0 : Int32) then
  ((f_X0_numbers s_g).bind fun u1 =>
  (f_X5_solve s_v s_d s_n (o_A s_g 0) 4).bind fun u2 =>
  Lt_ (p_F s_x 9 (1 : Int32)) fun o3 =>
  some (o3, u2.1, u2.2))
  else
  (some (s_x, s_v, s_d))
def f_X8_extent (s_x : Ob_T) (s_n : Ob_T) (s_v : Ob_T) (s_d : Ob_T) (s_g : Ob_T) (x1 : Int32) (x2 : Int32) : Option (Int32 × Ob_T × Ob_T × Ob_T) :=
  (f_X1_has s_n x1).bind fun u1 =>
  if u1 = (0 : Int32) then
  (some ((-2 : Int32), s_x, s_v, s_d))
  else
  (if x2 < (0 : Int32) then
  (some ((-3 : Int32), s_x, s_v, s_d))
  else
  ((f_X1_axesOf s_n x1).bind fun u2 =>
  if x2 < u2 then
  ((f_X8_solveNow s_x s_n s_v s_d s_g).bind fun u3 =>
  (f_X1_at s_n x1 x2).bind fun u4 =>
  (f_X5_valueOf u3.2.1 u4).bind fun u5 =>
  some (u5, u3.1, u3.2.1, u3.2.2))
  else
  (some ((-3 : Int32), s_x, s_v, s_d))))
def f_X8_isPlain (x0 : Int32) : Option Int32 :=
  if x0 < (0 : Int32) then
  (some (0 : Int32))
  else
  (if (4 : Int32) ≤ x0 then
  (some (0 : Int32))
  else
  (some (1 : Int32)))
def f_X8_forgetSolved (s_x : Ob_T) : Option Ob_T :=
  Lt_ (p_F s_x 9 (0 : Int32)) fun o1 =>
  Lt_ (p_F o1 10 (0 : Int32)) fun o2 =>
  some o2
def f_X8_give (s_x : Ob_T) (s_g : Ob_T) (x1 : Int32) (x2 : Int32) : Option (Int32 × Ob_T × Ob_T) :=
  (f_X8_isPlain x1).bind fun u1 =>
  if u1 = (0 : Int32) then
  (some ((-2 : Int32), s_x, s_g))
  else
  (if x2 < (0 : Int32) then
  (some ((-3 : Int32), s_x, s_g))
  else
  (if x2 ≤ (9 : Int32) then
  ((f_X0_numberOf s_g x1).bind fun u2 =>
  if u2 = x2 then
  (some ((-4 : Int32), s_x, s_g))
  else
  ((f_X0_change s_g x1 x2).bind fun u3 =>
  (f_X8_forgetSolved s_x).bind fun u4 =>
  (f_X0_howMany u3).bind fun u5 =>
  some (u5, u4, u3)))
  else
  (some ((-3 : Int32), s_x, s_g))))
def f_X8_free (s_x : Ob_T) (s_g : Ob_T) (x1 : Int32) : Option (Int32 × Ob_T × Ob_T) :=
  (f_X8_isPlain x1).bind fun u1 =>
  if u1 = (0 : Int32) then
  (some ((-2 : Int32), s_x, s_g))
  else
  ((f_X0_numberOf s_g x1).bind fun u2 =>
  if u2 = (-1 : Int32) then
  (some ((-4 : Int32), s_x, s_g))
  else
  ((f_X0_change s_g x1 (-1 : Int32)).bind fun u3 =>
  (f_X8_forgetSolved s_x).bind fun u4 =>
  (f_X0_howMany u3).bind fun u5 =>
  some (u5, u4, u3)))
def f_X8_undo (s_x : Ob_T) (s_g : Ob_T) : Option (Int32 × Ob_T × Ob_T) :=
  (f_X0_undoable s_g).bind fun u1 =>
  if u1 = (0 : Int32) then
  (some ((-4 : Int32), s_x, s_g))
  else
  ((f_X0_takeBack s_g).bind fun u2 =>
  (f_X8_forgetSolved s_x).bind fun u3 =>
  (f_X0_undoable u2).bind fun u4 =>
  some (u4, u3, u2))
def f_X8_keep (s_x : Ob_T) (s_g : Ob_T) (x1 : Int32) : Option (Int32 × Ob_T) :=
  if x1 < (0 : Int32) then
  (some ((-2 : Int32), s_g))
  else
  (if x1 < (2 : Int32) then
  ((f_X0_store s_g x1).bind fun u1 =>
  (f_X0_howMany u1).bind fun u2 =>
  some (u2, u1))
  else
  (some ((-2 : Int32), s_g)))
def f_X8_back (s_x : Ob_T) (s_g : Ob_T) (x1 : Int32) : Option (Int32 × Ob_T × Ob_T) :=
  if x1 < (0 : Int32) then
  (some ((-2 : Int32), s_x, s_g))
  else
  (if x1 < (2 : Int32) then
  ((f_X0_isStored s_g x1).bind fun u1 =>
  if u1 = (0 : Int32) then
  (some ((-4 : Int32), s_x, s_g))
  else
  ((f_X0_restore s_g x1).bind fun u2 =>
  (f_X8_forgetSolved s_x).bind fun u3 =>
  (f_X0_howMany u2).bind fun u4 =>
  some (u4, u3, u2)))
  else
  (some ((-2 : Int32), s_x, s_g)))
def f_X8_letter_J21 (x1 : Int32) (s_x : Ob_T) (s_v : Ob_T) (s_d : Ob_T) (s_n : Ob_T) (s_g : Ob_T) : Option (Int32 × Ob_T × Ob_T × Ob_T) :=
  (f_X8_solveNow s_x s_n s_v s_d s_g).bind fun u2 =>
  (f_X5_valueOf u2.2.1 ((20000 : Int32) + x1)).bind fun u3 =>
  some (u3, u2.1, u2.2.1, u2.2.2)
def f_X8_letter (s_x : Ob_T) (s_n : Ob_T) (s_v : Ob_T) (s_d : Ob_T) (s_g : Ob_T) (x1 : Int32) : Option (Int32 × Ob_T × Ob_T × Ob_T) :=
  (f_X8_isPlain x1).bind fun u1 =>
  if u1 = (0 : Int32) then
  ((f_X1_hasOwnLetter s_n x1).bind fun u4 =>
  if u4 = (0 : Int32) then
  (some ((-2 : Int32), s_x, s_v, s_d))
  else
  (f_X8_letter_J21 x1 s_x s_v s_d s_n s_g))
  else
  (f_X8_letter_J21 x1 s_x s_v s_d s_n s_g)
def f_X8_fails (s_x : Ob_T) (s_n : Ob_T) (s_v : Ob_T) (s_d : Ob_T) (s_g : Ob_T) (x1 : Int32) : Option (Int32 × Ob_T × Ob_T × Ob_T) :=
  if x1 < (0 : Int32) then
  (some ((-3 : Int32), s_x, s_v, s_d))
  else
  (if x1 < (5 : Int32) then
  ((f_X8_solveNow s_x s_n s_v s_d s_g).bind fun u1 =>
  (f_X5_failPart u1.2.1 x1).bind fun u2 =>
  some (u2, u1.1, u1.2.1, u1.2.2))
  else
  (some ((-3 : Int32), s_x, s_v, s_d)))
def f_X8_open (s_x : Ob_T) (s_n : Ob_T) (s_v : Ob_T) (s_d : Ob_T) (s_g : Ob_T) : Option (Int32 × Ob_T × Ob_T × Ob_T) :=
  (f_X8_solveNow s_x s_n s_v s_d s_g).bind fun u1 =>
  (f_X5_openLetters u1.2.1 s_n).bind fun u2 =>
  some (u2, u1.1, u1.2.1, u1.2.2)
def f_X8_countNow (s_x : Ob_T) (s_n : Ob_T) (s_v : Ob_T) (s_d : Ob_T) (s_g : Ob_T) (s_w : Ob_T) (s_v3 : Ob_T) (s_d3 : Ob_T) : Option (Ob_T × Ob_T × Ob_T × Ob_T × Ob_T × Ob_T) :=
  if (o_F s_x 10) = (0 : Int32) then
  ((f_X8_solveNow s_x s_n s_v s_d s_g).bind fun u1 =>
  (f_X5_hasFailed u1.2.1).bind fun u2 =>
  if u2 = (0 : Int32) then
  ((f_X5_openLetters u1.2.1 s_n).bind fun u3 =>
  (f_X0_numbers s_g).bind fun u4 =>
  (f_X7_find s_w s_v3 s_d3 s_n u3 (o_A s_g 0) 4).bind fun u5 =>
  Lt_ (p_F u1.1 10 (1 : Int32)) fun o6 =>
  some (o6, u1.2.1, u1.2.2, u5.1, u5.2.1, u5.2.2))
  else
  ((f_X5_openLetters u1.2.1 s_n).bind fun u7 =>
  (f_X7_findNone s_w u7).bind fun u8 =>
  Lt_ (p_F u1.1 10 (1 : Int32)) fun o9 =>
  some (o9, u1.2.1, u1.2.2, u8, s_v3, s_d3)))
  else
  (some (s_x, s_v, s_d, s_w, s_v3, s_d3))
def f_X8_ways (s_x : Ob_T) (s_n : Ob_T) (s_v : Ob_T) (s_d : Ob_T) (s_g : Ob_T) (s_w : Ob_T) (s_v3 : Ob_T) (s_d3 : Ob_T) : Option (Int32 × Ob_T × Ob_T × Ob_T × Ob_T × Ob_T × Ob_T) :=
  (f_X8_countNow s_x s_n s_v s_d s_g s_w s_v3 s_d3).bind fun u1 =>
  (f_X7_howMany u1.2.2.2.1).bind fun u2 =>
  some (u2, u1.1, u1.2.1, u1.2.2.1, u1.2.2.2.1, u1.2.2.2.2.1, u1.2.2.2.2.2)
def f_X8_way (s_x : Ob_T) (s_n : Ob_T) (s_v : Ob_T) (s_d : Ob_T) (s_g : Ob_T) (s_w : Ob_T) (s_v3 : Ob_T) (s_d3 : Ob_T) (x1 : Int32) : Option (Int32 × Ob_T × Ob_T × Ob_T × Ob_T × Ob_T × Ob_T) :=
  (f_X8_isPlain x1).bind fun u1 =>
  if u1 = (0 : Int32) then
  (some ((-2 : Int32), s_x, s_v, s_d, s_w, s_v3, s_d3))
  else
  ((f_X8_countNow s_x s_n s_v s_d s_g s_w s_v3 s_d3).bind fun u2 =>
  (f_X7_isOpen u2.2.2.2.1 x1).bind fun u3 =>
  if u3 = (0 : Int32) then
  (some ((-4 : Int32), u2.1, u2.2.1, u2.2.2.1, u2.2.2.2.1, u2.2.2.2.2.1, u2.2.2.2.2.2))
  else
  ((f_X7_firstOf u2.2.2.2.1 x1).bind fun u4 =>
  some (u4, u2.1, u2.2.1, u2.2.2.1, u2.2.2.2.1, u2.2.2.2.2.1, u2.2.2.2.2.2)))
def f_X8_commonDivisor_L7 (rec7 : (Int32 × Int32 × Int32) → Option Int32) (x2 : Int32) (x3 : Int32) (x4 : Int32) : Option Int32 :=
  if (100 : Int32) ≤ x4 then
  (some x2)
  else
  (if x3 = (0 : Int32) then
  (some x2)
  else
  (if x3 = 0 then none else
  rec7 (x3, (x2 - x2 / x3 * x3), (x4 + (1 : Int32)))))
def f_X8_commonDivisor (x0 : Int32) (x1 : Int32) : Option Int32 :=
  Lp_ (fun (rec : (Int32 × Int32 × Int32) → Option Int32) x => f_X8_commonDivisor_L7 rec x.1 x.2.1 x.2.2) FU_ (x0, x1, (0 : Int32))
def f_X8_odds (s_x : Ob_T) (s_n : Ob_T) (s_v : Ob_T) (s_d : Ob_T) (s_g : Ob_T) (s_w : Ob_T) (s_v3 : Ob_T) (s_d3 : Ob_T) (x1 : Int32) : Option (Int32 × Ob_T × Ob_T × Ob_T × Ob_T × Ob_T × Ob_T) :=
  if x1 < (0 : Int32) then
  (some ((-3 : Int32), s_x, s_v, s_d, s_w, s_v3, s_d3))
  else
  (if x1 ≤ (1 : Int32) then
  ((f_X8_countNow s_x s_n s_v s_d s_g s_w s_v3 s_d3).bind fun u1 =>
  (f_X7_howMany u1.2.2.2.1).bind fun u2 =>
  (f_X7_howManyAtMost u1.2.2.2.1).bind fun u3 =>
  (f_X8_commonDivisor u2 u3).bind fun u4 =>
  if u4 = (0 : Int32) then
  (some ((-1 : Int32), u1.1, u1.2.1, u1.2.2.1, u1.2.2.2.1, u1.2.2.2.2.1, u1.2.2.2.2.2))
  else
  (if x1 = (0 : Int32) then
  (if u4 = 0 then none else
  some ((u2 / u4), u1.1, u1.2.1, u1.2.2.1, u1.2.2.2.1, u1.2.2.2.2.1, u1.2.2.2.2.2))
  else
  (if u4 = 0 then none else
  some ((u3 / u4), u1.1, u1.2.1, u1.2.2.1, u1.2.2.2.1, u1.2.2.2.2.1, u1.2.2.2.2.2))))
  else
  (some ((-3 : Int32), s_x, s_v, s_d, s_w, s_v3, s_d3)))
def f_X8_mendingDigit_L2 (rec2 : (Int32 × Int32 × Int32 × Ob_T × Ob_T × Ob_T) → Option (Int32 × Ob_T × Ob_T × Ob_T)) (x1 : Int32) (x2 : Int32) (x3 : Int32) (s_n2 : Ob_T) (s_v2 : Ob_T) (s_d2 : Ob_T) (s_x : Ob_T) (s_n : Ob_T) (s_g : Ob_T) : Option (Int32 × Ob_T × Ob_T × Ob_T) :=
  if (9 : Int32) < x3 then
  (some ((-1 : Int32), s_n2, s_v2, s_d2))
  else
  ((f_X1_takeAll s_n2 s_n).bind fun u1 =>
  (f_X1_tellInstead u1 x1 x2 x3).bind fun u2 =>
  (f_X0_numbers s_g).bind fun u3 =>
  (f_X5_solve s_v2 s_d2 u2 (o_A s_g 0) 4).bind fun u4 =>
  (f_X5_hasFailed u4.1).bind fun u5 =>
  if u5 = (0 : Int32) then
  (some (x3, u2, u4.1, u4.2))
  else
  (rec2 (x1, x2, (x3 + (1 : Int32)), u2, u4.1, u4.2)))
def f_X8_mendingDigit (s_x : Ob_T) (s_n : Ob_T) (s_n2 : Ob_T) (s_v2 : Ob_T) (s_d2 : Ob_T) (s_g : Ob_T) (x1 : Int32) (x2 : Int32) : Option (Int32 × Ob_T × Ob_T × Ob_T) :=
  Lp_ (fun (rec : (Int32 × Int32 × Int32 × Ob_T × Ob_T × Ob_T) → Option (Int32 × Ob_T × Ob_T × Ob_T)) x => f_X8_mendingDigit_L2 rec x.1 x.2.1 x.2.2.1 x.2.2.2.1 x.2.2.2.2.1 x.2.2.2.2.2 s_x s_n s_g) FU_ (x1, x2, (0 : Int32), s_n2, s_v2, s_d2)
def f_X8_mend_L45 (rec18 : (Int32 × Ob_T × Ob_T × Ob_T × Ob_T × Ob_T × Ob_T) → Option (Int32 × Ob_T × Ob_T × Ob_T × Ob_T × Ob_T × Ob_T)) (rec45 : (Int32 × Int32 × Ob_T × Ob_T × Ob_T × Ob_T × Ob_T × Ob_T) → Option (Int32 × Ob_T × Ob_T × Ob_T × Ob_T × Ob_T × Ob_T)) (x1 : Int32) (x2 : Int32) (s_x : Ob_T) (s_n2 : Ob_T) (s_v : Ob_T) (s_d : Ob_T) (s_v2 : Ob_T) (s_d2 : Ob_T) (s_n : Ob_T) (s_g : Ob_T) : Option (Int32 × Ob_T × Ob_T × Ob_T × Ob_T × Ob_T × Ob_T) :=
  (f_X1_axesOf s_n x1).bind fun u5 =>
  if u5 ≤ x2 then
  (rec18 ((x1 + (1 : Int32)), s_x, s_n2, s_v, s_d, s_v2, s_d2))
  else
  ((f_X8_mendingDigit s_x s_n s_n2 s_v2 s_d2 s_g x1 x2).bind fun u6 =>
  if u6.1 = (-1 : Int32) then
  (rec45 (x1, (x2 + (1 : Int32)), s_x, u6.2.1, s_v, s_d, u6.2.2.1, u6.2.2.2))
  else
  (some (((((100 : Int32) * x1) + ((10 : Int32) * x2)) + u6.1), s_x, u6.2.1, s_v, s_d, u6.2.2.1, u6.2.2.2)))
def f_X8_mend_L18 (rec18 : (Int32 × Ob_T × Ob_T × Ob_T × Ob_T × Ob_T × Ob_T) → Option (Int32 × Ob_T × Ob_T × Ob_T × Ob_T × Ob_T × Ob_T)) (x1 : Int32) (s_x : Ob_T) (s_n2 : Ob_T) (s_v : Ob_T) (s_d : Ob_T) (s_v2 : Ob_T) (s_d2 : Ob_T) (s_n : Ob_T) (s_g : Ob_T) : Option (Int32 × Ob_T × Ob_T × Ob_T × Ob_T × Ob_T × Ob_T) :=
  (f_X1_size s_n).bind fun u3 =>
  if u3 ≤ x1 then
  (some ((-1 : Int32), s_x, s_n2, s_v, s_d, s_v2, s_d2))
  else
  ((f_X1_isTold s_n x1).bind fun u4 =>
  if u4 = (0 : Int32) then
  (rec18 ((x1 + (1 : Int32)), s_x, s_n2, s_v, s_d, s_v2, s_d2))
  else
  (Lp_ (fun (rec : (Int32 × Int32 × Ob_T × Ob_T × Ob_T × Ob_T × Ob_T × Ob_T) → Option (Int32 × Ob_T × Ob_T × Ob_T × Ob_T × Ob_T × Ob_T)) x => f_X8_mend_L45 rec18 rec x.1 x.2.1 x.2.2.1 x.2.2.2.1 x.2.2.2.2.1 x.2.2.2.2.2.1 x.2.2.2.2.2.2.1 x.2.2.2.2.2.2.2 s_n s_g) FU_ (x1, (0 : Int32), s_x, s_n2, s_v, s_d, s_v2, s_d2)))
def f_X8_mend (s_x : Ob_T) (s_n : Ob_T) (s_n2 : Ob_T) (s_v : Ob_T) (s_d : Ob_T) (s_v2 : Ob_T) (s_d2 : Ob_T) (s_g : Ob_T) : Option (Int32 × Ob_T × Ob_T × Ob_T × Ob_T × Ob_T × Ob_T) :=
  (f_X8_solveNow s_x s_n s_v s_d s_g).bind fun u1 =>
  (f_X5_hasFailed u1.2.1).bind fun u2 =>
  if u2 = (0 : Int32) then
  (some ((-1 : Int32), u1.1, s_n2, u1.2.1, u1.2.2, s_v2, s_d2))
  else
  (Lp_ (fun (rec : (Int32 × Ob_T × Ob_T × Ob_T × Ob_T × Ob_T × Ob_T) → Option (Int32 × Ob_T × Ob_T × Ob_T × Ob_T × Ob_T × Ob_T)) x => f_X8_mend_L18 rec x.1 x.2.1 x.2.2.1 x.2.2.2.1 x.2.2.2.2.1 x.2.2.2.2.2.1 x.2.2.2.2.2.2 s_n s_g) FU_ ((0 : Int32), u1.1, s_n2, u1.2.1, u1.2.2, s_v2, s_d2))
def f_X8_seen (s_x : Ob_T) (s_q : Ob_T) (x1 : Int32) (x2 : Int32) (x3 : Int32) : Option (Int32 × Ob_T) :=
  if x1 < (1 : Int32) then
  (some ((-3 : Int32), s_q))
  else
  (if (9 : Int32) < x1 then
  (some ((-3 : Int32), s_q))
  else
  (if x2 < (0 : Int32) then
  (some ((-3 : Int32), s_q))
  else
  (if (1 : Int32) < x2 then
  (some ((-3 : Int32), s_q))
  else
  (if x3 < (0 : Int32) then
  (some ((-3 : Int32), s_q))
  else
  (if x3 ≤ (99 : Int32) then
  ((f_X3_add s_q x1 x2 x3).bind fun u1 =>
  if u1.1 = (0 : Int32) then
  (some ((-5 : Int32), u1.2))
  else
  ((f_X3_size u1.2).bind fun u2 =>
  some (u2, u1.2)))
  else
  (some ((-3 : Int32), s_q)))))))
def f_X8_forget (s_x : Ob_T) (s_q : Ob_T) : Option (Int32 × Ob_T) :=
  (f_X3_size s_q).bind fun u1 =>
  (f_X3_clear s_q).bind fun u2 =>
  some (u1, u2)
def f_X8_kinds (s_x : Ob_T) (s_q : Ob_T) : Option Int32 :=
  (f_X3_kindsThatFit s_q).bind fun u1 =>
  some u1
def f_X8_ask (s_x : Ob_T) (s_q : Ob_T) : Option Int32 :=
  (f_X3_bestToAsk s_q).bind fun u1 =>
  some u1
def f_X8_isRow (x0 : Int32) : Option Int32 :=
  if x0 < (0 : Int32) then
  (some (0 : Int32))
  else
  (if (3 : Int32) ≤ x0 then
  (some (0 : Int32))
  else
  (some (1 : Int32)))
def f_X8_isSort (x0 : Int32) : Option Int32 :=
  if x0 = (0 : Int32) then
  (some (1 : Int32))
  else
  (if x0 = (1 : Int32) then
  (some (1 : Int32))
  else
  (some (0 : Int32)))
def f_X8_row (s_x : Ob_T) (s_r : Ob_T) (x1 : Int32) (x2 : Int32) (x3 : Int32) : Option (Int32 × Ob_T) :=
  (f_X8_isRow x1).bind fun u1 =>
  if u1 = (0 : Int32) then
  (some ((-2 : Int32), s_r))
  else
  ((f_X8_isSort x2).bind fun u2 =>
  if u2 = (0 : Int32) then
  (some ((-3 : Int32), s_r))
  else
  (if x3 ≤ (10 : Int32) then
  (if (0 : Int32) ≤ x3 then
  ((f_X2_make s_r x1 x2 x3).bind fun u3 =>
  some (x3, u3))
  else
  (some ((-12 : Int32), s_r)))
  else
  (some ((-3 : Int32), s_r))))
def f_X8_set (s_x : Ob_T) (s_r : Ob_T) (x1 : Int32) (x2 : Int32) (x3 : Int32) (x4 : Int32) : Option (Int32 × Ob_T) :=
  (f_X8_isRow x1).bind fun u1 =>
  if u1 = (0 : Int32) then
  (some ((-2 : Int32), s_r))
  else
  ((f_X8_isSort x2).bind fun u2 =>
  if u2 = (0 : Int32) then
  (some ((-3 : Int32), s_r))
  else
  (if x4 < (-9999 : Int32) then
  (some ((-3 : Int32), s_r))
  else
  (if x4 ≤ (9999 : Int32) then
  ((f_X2_placeTrouble s_r x1 x2 x3).bind fun u3 =>
  if u3 = (-1 : Int32) then
  ((f_X2_at s_r x1 x3).bind fun u4 =>
  (f_X2_put s_r x1 x3 x4).bind fun u5 =>
  some ((u4 + (50000 : Int32)), u5))
  else
  (some (u3, s_r)))
  else
  (some ((-3 : Int32), s_r)))))
def f_X8_get (s_x : Ob_T) (s_r : Ob_T) (x1 : Int32) (x2 : Int32) (x3 : Int32) : Option Int32 :=
  (f_X8_isRow x1).bind fun u1 =>
  if u1 = (0 : Int32) then
  (some (-2 : Int32))
  else
  ((f_X8_isSort x2).bind fun u2 =>
  if u2 = (0 : Int32) then
  (some (-3 : Int32))
  else
  ((f_X2_placeTrouble s_r x1 x2 x3).bind fun u3 =>
  if u3 = (-1 : Int32) then
  ((f_X2_at s_r x1 x3).bind fun u4 =>
  some (u4 + (50000 : Int32)))
  else
  (some u3)))
def f_X8_copy (s_x : Ob_T) (s_r : Ob_T) (x1 : Int32) (x2 : Int32) (x3 : Int32) (x4 : Int32) (x5 : Int32) : Option (Int32 × Ob_T) :=
  (f_X8_isRow x1).bind fun u1 =>
  if u1 = (0 : Int32) then
  (some ((-2 : Int32), s_r))
  else
  ((f_X8_isRow x3).bind fun u2 =>
  if u2 = (0 : Int32) then
  (some ((-2 : Int32), s_r))
  else
  ((f_X2_isMissing s_r x1).bind fun u3 =>
  if u3 = (0 : Int32) then
  ((f_X2_isMissing s_r x3).bind fun u4 =>
  if u4 = (0 : Int32) then
  (if (0 : Int32) ≤ x5 then
  ((f_X2_sortOf s_r x1).bind fun u5 =>
  (f_X2_sortOf s_r x3).bind fun u6 =>
  if u5 = u6 then
  ((f_X2_hasPlaces s_r x1 x2 x5).bind fun u7 =>
  if u7 = (0 : Int32) then
  (some ((-14 : Int32), s_r))
  else
  ((f_X2_hasPlaces s_r x3 x4 x5).bind fun u8 =>
  if u8 = (0 : Int32) then
  (some ((-14 : Int32), s_r))
  else
  ((f_X2_move s_r x1 x2 x3 x4 x5).bind fun u9 =>
  some (x5, u9))))
  else
  (some ((-13 : Int32), s_r)))
  else
  (some ((-12 : Int32), s_r)))
  else
  (some ((-11 : Int32), s_r)))
  else
  (some ((-11 : Int32), s_r))))
def f_X8_append (s_x : Ob_T) (s_r : Ob_T) (x1 : Int32) (x2 : Int32) : Option (Int32 × Ob_T) :=
  (f_X8_isRow x1).bind fun u1 =>
  if u1 = (0 : Int32) then
  (some ((-2 : Int32), s_r))
  else
  ((f_X8_isRow x2).bind fun u2 =>
  if u2 = (0 : Int32) then
  (some ((-2 : Int32), s_r))
  else
  ((f_X2_isMissing s_r x1).bind fun u3 =>
  if u3 = (0 : Int32) then
  ((f_X2_isMissing s_r x2).bind fun u4 =>
  if u4 = (0 : Int32) then
  ((f_X2_sizeOf s_r x1).bind fun u5 =>
  (f_X2_sizeOf s_r x2).bind fun u6 =>
  if (u5 + u6) ≤ (10 : Int32) then
  ((f_X2_extend s_r x1 x2).bind fun u7 =>
  (f_X2_sizeOf u7 x1).bind fun u8 =>
  some (u8, u7))
  else
  (some ((-15 : Int32), s_r)))
  else
  (some ((-11 : Int32), s_r)))
  else
  (some ((-11 : Int32), s_r))))
def f_X8_load_J126 (rec80 : (Int32 × Int32 × Int32 × Int32 × Ob_T × Ob_T × Ob_T × Ob_T) → Option (Int32 × Ob_T × Ob_T × Ob_T × Ob_T)) (x1 : Int32) (x2 : Int32) (x3 : Int32) (x4 : Int32) (k1 : Int32) (k2 : Int32) (k3 : Int32) (s_x : Ob_T) (s_v : Ob_T) (s_d : Ob_T) (s_r : Ob_T) (s_n : Ob_T) (s_g : Ob_T) : Option (Int32 × Ob_T × Ob_T × Ob_T × Ob_T) :=
  (f_X2_put s_r k1 k2 k3).bind fun u10 =>
  rec80 (x1, x2, x3, (x4 + (1 : Int32)), s_x, s_v, s_d, u10)
def f_X8_load_L80 (rec80 : (Int32 × Int32 × Int32 × Int32 × Ob_T × Ob_T × Ob_T × Ob_T) → Option (Int32 × Ob_T × Ob_T × Ob_T × Ob_T)) (x1 : Int32) (x2 : Int32) (x3 : Int32) (x4 : Int32) (s_x : Ob_T) (s_v : Ob_T) (s_d : Ob_T) (s_r : Ob_T) (s_n : Ob_T) (s_g : Ob_T) : Option (Int32 × Ob_T × Ob_T × Ob_T × Ob_T) :=
  if x3 ≤ x4 then
  (some (x3, s_x, s_v, s_d, s_r))
  else
  ((f_X1_at s_n x2 x4).bind fun u8 =>
  (f_X5_valueOf s_v u8).bind fun u9 =>
  if (20000 : Int32) ≤ u9 then
  (f_X8_load_J126 rec80 x1 x2 x3 x4 x1 x4 (-1 : Int32) s_x s_v s_d s_r s_n s_g)
  else
  (f_X8_load_J126 rec80 x1 x2 x3 x4 x1 x4 u9 s_x s_v s_d s_r s_n s_g))
def f_X8_load (s_x : Ob_T) (s_n : Ob_T) (s_v : Ob_T) (s_d : Ob_T) (s_g : Ob_T) (s_r : Ob_T) (x1 : Int32) (x2 : Int32) : Option (Int32 × Ob_T × Ob_T × Ob_T × Ob_T) :=
  (f_X8_isRow x1).bind fun u1 =>
  if u1 = (0 : Int32) then
  (some ((-2 : Int32), s_x, s_v, s_d, s_r))
  else
  ((f_X1_has s_n x2).bind fun u2 =>
  if u2 = (0 : Int32) then
  (some ((-2 : Int32), s_x, s_v, s_d, s_r))
  else
  ((f_X2_isMissing s_r x1).bind fun u3 =>
  if u3 = (0 : Int32) then
  ((f_X2_sortOf s_r x1).bind fun u4 =>
  if u4 = (0 : Int32) then
  ((f_X1_axesOf s_n x2).bind fun u5 =>
  (f_X2_sizeOf s_r x1).bind fun u6 =>
  if u5 ≤ u6 then
  ((f_X8_solveNow s_x s_n s_v s_d s_g).bind fun u7 =>
  Lp_ (fun (rec : (Int32 × Int32 × Int32 × Int32 × Ob_T × Ob_T × Ob_T × Ob_T) → Option (Int32 × Ob_T × Ob_T × Ob_T × Ob_T)) x => f_X8_load_L80 rec x.1 x.2.1 x.2.2.1 x.2.2.2.1 x.2.2.2.2.1 x.2.2.2.2.2.1 x.2.2.2.2.2.2.1 x.2.2.2.2.2.2.2 s_n s_g) FU_ (x1, x2, u5, (0 : Int32), u7.1, u7.2.1, u7.2.2, s_r))
  else
  (some ((-14 : Int32), s_x, s_v, s_d, s_r)))
  else
  (some ((-13 : Int32), s_x, s_v, s_d, s_r)))
  else
  (some ((-11 : Int32), s_x, s_v, s_d, s_r))))
def f_X8_sum (s_x : Ob_T) (s_r : Ob_T) (x1 : Int32) : Option Int32 :=
  (f_X8_isRow x1).bind fun u1 =>
  if u1 = (0 : Int32) then
  (some (-2 : Int32))
  else
  ((f_X2_isMissing s_r x1).bind fun u2 =>
  if u2 = (0 : Int32) then
  ((f_X2_total s_r x1).bind fun u3 =>
  some (u3 + (500000 : Int32)))
  else
  (some (-11 : Int32)))
def f_X8_drop (s_x : Ob_T) (s_r : Ob_T) (x1 : Int32) : Option (Int32 × Ob_T) :=
  (f_X8_isRow x1).bind fun u1 =>
  if u1 = (0 : Int32) then
  (some ((-2 : Int32), s_r))
  else
  ((f_X2_isMissing s_r x1).bind fun u2 =>
  if u2 = (0 : Int32) then
  ((f_X2_sizeOf s_r x1).bind fun u3 =>
  (f_X2_remove s_r x1).bind fun u4 =>
  some (u3, u4))
  else
  (some ((-11 : Int32), s_r)))
def f_X8_count (s_x : Ob_T) (s_t : Ob_T) (s_n : Ob_T) (s_g : Ob_T) (s_q : Ob_T) (s_r : Ob_T) (x1 : Int32) : Option Int32 :=
  if x1 = (0 : Int32) then
  ((f_X1_size s_n).bind fun u1 =>
  some u1)
  else
  (if x1 = (1 : Int32) then
  ((f_X0_bits s_g).bind fun u2 =>
  some u2)
  else
  (if x1 = (2 : Int32) then
  ((f_X3_size s_q).bind fun u3 =>
  some u3)
  else
  (if x1 = (3 : Int32) then
  ((f_X2_allPlaces s_r).bind fun u4 =>
  some u4)
  else
  (if x1 = (4 : Int32) then
  ((f_X0_undoable s_g).bind fun u5 =>
  some u5)
  else
  (if x1 = (5 : Int32) then
  ((f_X6_length s_t).bind fun u6 =>
  some u6)
  else
  (if x1 = (6 : Int32) then
  ((f_X1_toldLetters s_n).bind fun u7 =>
  some u7)
  else
  (some (-3 : Int32))))))))
