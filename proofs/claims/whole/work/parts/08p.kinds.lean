def wa_ (x0 x1 : Int32) : Int32 := if x0 = 4 then -1 else if x0 = 2 then x1 + x1 else x1
def cm_ (x0 x1 : Int32) : Int32 := if x0 = 4 then 0 else if x0 = 2 then 100 + 2 * x1 else 100 + x1
theorem x_wa (x0 x1 : Int32) : f_X3_wouldAnswer x0 x1 = some (wa_ x0 x1) := by
  unfold f_X3_wouldAnswer wa_
  by_cases c : x0 = 4
  · rw [if_pos c, if_pos c]
  · rw [if_neg c, if_neg c]
    by_cases c2 : x0 = 2
    · rw [if_pos c2, if_pos c2]
    · rw [if_neg c2, if_neg c2]
theorem m_cm (x0 x1 : Int32) : f_X9_comesOf x0 x1 = some (cm_ x0 x1) := by
  unfold f_X9_comesOf cm_
  by_cases c : x0 = 4
  · rw [if_pos c, if_pos c]
  · rw [if_neg c, if_neg c]
    by_cases c2 : x0 = 2
    · rw [if_pos c2, if_pos c2]
    · rw [if_neg c2, if_neg c2]
theorem wa_cm : ∀ k, k < 6 → ∀ n, n < 10 → ∀ a, a < 2 → ∀ m, m < 100 → (wa_ (nI k) (nI n) = sn_a a m ↔ cm_ (nI k) (nI n) = 100 * nI a + nI m) := by decide +kernel
/-- the kinds' bits -/
def kb_ (b : Int32) (F : Nat → Bool) (k : Nat) : Int32 := b ||| (if F k then (1 : Int32) <<< (nI k &&& 31) else 0)
def kf_ (F : Nat → Bool) : Int32 := kb_ (kb_ (kb_ (kb_ (kb_ 0 F 1) F 2) F 3) F 4) F 5
theorem ask_fin : ∀ b1 b2 b3 b4 b5 : Bool, ((f_J6_bitCount_0f7a4 (kf_ (fun k => if k = 1 then b1 else if k = 2 then b2 else if k = 3 then b3 else if k = 4 then b4 else b5))).bind fun u2 =>
  Lp_ (fun (rec : (Int32 × Int32 × Int32 × Int32) → Option Int32) x => f_X3_bestToAsk_L15 rec x.1 x.2.1 x.2.2.1 x.2.2.2 ob_0) FU_ (kf_ (fun k => if k = 1 then b1 else if k = 2 then b2 else if k = 3 then b3 else if k = 4 then b4 else b5), (-1 : Int32), u2, (1 : Int32))) = ((f_X9_bits (kf_ (fun k => if k = 1 then b1 else if k = 2 then b2 else if k = 3 then b3 else if k = 4 then b4 else b5))).bind fun u2 =>
  Lp_ (fun (rec : (Int32 × Int32 × Int32 × Int32) → Option Int32) x => f_X9_ask_L15 rec x.1 x.2.1 x.2.2.1 x.2.2.2 ob_0) FU_ (kf_ (fun k => if k = 1 then b1 else if k = 2 then b2 else if k = 3 then b3 else if k = 4 then b4 else b5), (-1 : Int32), u2, (1 : Int32))) := by decide +kernel
