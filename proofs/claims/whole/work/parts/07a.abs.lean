theorem q_0 : (0 : Int32) = nI 0 := rfl
theorem q_1 : (1 : Int32) = nI 1 := rfl
theorem q_2 : (2 : Int32) = nI 2 := rfl
theorem q_3 : (3 : Int32) = nI 3 := rfl
theorem q_4 : (4 : Int32) = nI 4 := rfl
theorem q_5 : (5 : Int32) = nI 5 := rfl
theorem q_6 : (6 : Int32) = nI 6 := rfl
theorem q_7 : (7 : Int32) = nI 7 := rfl
theorem q_8 : (8 : Int32) = nI 8 := rfl
theorem q_9 : (9 : Int32) = nI 9 := rfl
theorem q_10 : (10 : Int32) = nI 10 := rfl
theorem q_14 : (14 : Int32) = nI 14 := rfl
theorem q_15 : (15 : Int32) = nI 15 := rfl
theorem q_20 : (20 : Int32) = nI 20 := rfl
theorem q_24 : (24 : Int32) = nI 24 := rfl
theorem q_28 : (28 : Int32) = nI 28 := rfl
theorem q_32 : (32 : Int32) = nI 32 := rfl
theorem q_45 : (45 : Int32) = nI 45 := rfl
theorem q_48 : (48 : Int32) = nI 48 := rfl
theorem q_57 : (57 : Int32) = nI 57 := rfl
theorem q_59 : (59 : Int32) = nI 59 := rfl
theorem q_97 : (97 : Int32) = nI 97 := rfl
theorem q_100 : (100 : Int32) = nI 100 := rfl
theorem q_117 : (117 : Int32) = nI 117 := rfl
theorem q_120 : (120 : Int32) = nI 120 := rfl
theorem q_122 : (122 : Int32) = nI 122 := rfl
theorem q_150 : (150 : Int32) = nI 150 := rfl
theorem q_200 : (200 : Int32) = nI 200 := rfl
theorem q_9999 : (9999 : Int32) = nI 9999 := rfl
theorem q_20000 : (20000 : Int32) = nI 20000 := rfl
theorem q_20004 : (20004 : Int32) = nI 20004 := rfl
/-! the program, told in numbers: how many nodes, and of each its kind, arguments, rank, length, extents -/
abbrev Pg_ : Type := Nat × (Nat → Nat) × (Nat → Nat) × (Nat → Nat) × (Nat → Int32) × (Nat → Nat) × (Nat → Nat → Nat)
def g_N (P : Pg_) : Nat := P.1
def g_K (P : Pg_) (i : Nat) : Nat := P.2.1 i
def g_A (P : Pg_) (i : Nat) : Nat := P.2.2.1 i
def g_B (P : Pg_) (i : Nat) : Nat := P.2.2.2.1 i
def g_R (P : Pg_) (i : Nat) : Int32 := P.2.2.2.2.1 i
def g_L (P : Pg_) (i : Nat) : Nat := P.2.2.2.2.2.1 i
def g_E (P : Pg_) (i j : Nat) : Nat := P.2.2.2.2.2.2 i j
/-- how many axes the frame has -/
def fr_ (r : Int32) (n : Nat) : Nat := if 0 ≤ r.toInt then n - r.toInt.toNat else min n (-r.toInt).toNat
theorem fr_le (r : Int32) (n : Nat) : fr_ r n ≤ n := by
  unfold fr_
  by_cases h : 0 ≤ r.toInt
  · rw [if_pos h]; omega
  · rw [if_neg h]; omega
def rks_ : List Int32 := [-3, -2, -1, 0, 1, 2, 3]
theorem m_fr0 : ∀ r ∈ rks_, ∀ n, n < 7 → f_X9_frameOf (nI n) r = some (nI (fr_ r n)) := by decide +kernel
theorem x_fr0 : ∀ r ∈ rks_, ∀ n, n < 7 → (if (0 : Int32) ≤ r then (if nI n ≤ r then some (0 : Int32) else some (nI n - r)) else (if (-r) ≤ nI n then some (-r) else some (nI n))) = some (nI (fr_ r n)) := by decide +kernel
/-- how many axes a verb's node has, by its arguments -/
def fA_ (P : Pg_) (i : Nat) : Nat := fr_ (g_R P i) (g_L P (g_A P i))
def fB_ (P : Pg_) (i : Nat) : Nat := fr_ (g_R P i) (g_L P (g_B P i))
def cA_ (P : Pg_) (i : Nat) : Nat := g_L P (g_A P i) - fA_ P i
def cB_ (P : Pg_) (i : Nat) : Nat := g_L P (g_B P i) - fB_ P i
def dv_L (P : Pg_) (i : Nat) : Nat :=
  if g_K P i = 1 then max (fA_ P i) (fB_ P i) + max (cA_ P i) (cB_ P i)
  else if g_K P i = 2 then max (fA_ P i) (fB_ P i) + max 1 (max (cA_ P i) (cB_ P i))
  else if g_K P i = 3 then g_L P (g_A P i)
  else if g_K P i = 4 then fA_ P i + (cA_ P i - 1)
  else fA_ P i + 1
/-- of two arguments the one of the longer frame, of the longer cell -/
def lF_ (P : Pg_) (i : Nat) : Nat := if fA_ P i < fB_ P i then g_B P i else g_A P i
def lC_ (P : Pg_) (i : Nat) : Nat := if cA_ P i < cB_ P i then g_B P i else g_A P i
def fC_ (P : Pg_) (i : Nat) : Nat := if cA_ P i < cB_ P i then fB_ P i else fA_ P i
def dv_E (P : Pg_) (i j : Nat) : Nat :=
  if g_K P i = 1 then (if j < max (fA_ P i) (fB_ P i) then g_E P (lF_ P i) j else g_E P (lC_ P i) (fC_ P i + (j - max (fA_ P i) (fB_ P i))))
  else if g_K P i = 2 then (if j < max (fA_ P i) (fB_ P i) then g_E P (lF_ P i) j else if j = max (fA_ P i) (fB_ P i) then 20004 + i else g_E P (lC_ P i) (fC_ P i + (j - max (fA_ P i) (fB_ P i))))
  else if g_K P i = 3 then g_E P (g_A P i) j
  else if g_K P i = 4 then (if j < fA_ P i then g_E P (g_A P i) j else g_E P (g_A P i) (j + 1))
  else (if j < fA_ P i then g_E P (g_A P i) j else 20004 + i)
def e_ok (e : Nat) : Prop := e ≤ 9 ∨ (20000 ≤ e ∧ e < 20014)
def vb_ (P : Pg_) (i : Nat) : Prop := 1 ≤ g_K P i ∧ g_K P i ≤ 5
def td_ (P : Pg_) (i : Nat) : Prop := g_K P i = 0 ∨ g_K P i = 6
/-- what holds of node i -/
def Wn_ (P : Pg_) (i : Nat) : Prop := g_K P i ≤ 6 ∧ g_L P i ≤ 6 ∧ (g_K P i ≠ 0 → g_A P i < i) ∧ ((g_K P i = 1 ∨ g_K P i = 2) → g_B P i < i) ∧ (vb_ P i → g_R P i ∈ rks_ ∧ g_L P i = dv_L P i ∧ ∀ j, j < g_L P i → g_E P i j = dv_E P i j) ∧ (td_ P i → g_L P i ≤ 3 ∧ ∀ j, j < g_L P i → g_E P i j ≤ 9 ∨ (20000 ≤ g_E P i j ∧ g_E P i j < 20004))
def Wf_ (P : Pg_) : Prop := g_N P ≤ 10 ∧ ∀ i, i < g_N P → Wn_ P i
/-- how it lies in the class's Nodes -/
def Rn_ (n : Ob_T) (P : Pg_) : Prop := o_F n 6 = nI (g_N P) ∧ ∀ i, i < g_N P → o_A n 0 i = nI (g_K P i) ∧ (g_K P i ≠ 0 → o_A n 1 i = nI (g_A P i)) ∧ (g_K P i = 0 → o_A n 1 i = -1) ∧ ((g_K P i = 1 ∨ g_K P i = 2) → o_A n 2 i = nI (g_B P i)) ∧ (¬ (g_K P i = 1 ∨ g_K P i = 2) → o_A n 2 i = -1) ∧ (vb_ P i → o_A n 3 i = g_R P i) ∧ (¬ vb_ P i → o_A n 3 i = -11) ∧ o_A n 4 i = nI (g_L P i) ∧ ∀ j, j < g_L P i → o_A n 5 (6 * i + j) = nI (g_E P i j)
/-- how it lies in the reference's rows -/
def Rm_ (f : Nat → Int32) (P : Pg_) : Prop := ∀ i, i < g_N P → f (15 * i) = nI (g_K P i) ∧ (g_K P i ≠ 0 → f (15 * i + 1) = nI (g_A P i)) ∧ (g_K P i = 0 → f (15 * i + 1) = -1) ∧ ((g_K P i = 1 ∨ g_K P i = 2) → f (15 * i + 2) = nI (g_B P i)) ∧ (¬ (g_K P i = 1 ∨ g_K P i = 2) → f (15 * i + 2) = -1) ∧ (vb_ P i → f (15 * i + 3) = g_R P i) ∧ (td_ P i → f (15 * i + 4) = nI (g_L P i)) ∧ (¬ td_ P i → f (15 * i + 4) = nI 0) ∧ (td_ P i → ∀ j, j < g_L P i → f (15 * i + 5 + j) = nI (g_E P i j)) ∧ f (15 * i + 8) = nI (g_L P i) ∧ ∀ j, j < g_L P i → f (15 * i + 9 + j) = nI (g_E P i j)
/-! reading it -/
theorem m_long {o : Ob_T} {P : Pg_} (hR : Rm_ (o_A o 1) P) (hN : g_N P ≤ 10) {i : Nat} (hi : i < g_N P) : f_X9_longOf o (nI i) = some (nI (g_L P i)) := by
  unfold f_X9_longOf
  simp (disch := omega) only [q_0, q_1, q_2, q_3, q_4, q_5, q_6, q_7, q_8, q_9, q_10, q_14, q_15, q_20, q_24, q_28, q_32, q_45, q_48, q_57, q_59, q_97, q_100, q_117, q_120, q_122, q_150, q_200, q_9999, q_20000, q_20004, nI_add, pk_mul, pk_sub, nI_eq, nI_leI, nI_ltI, ld_nI, st_nI, Option.bind_some, (hR i hi).2.2.2.2.2.2.2.2.2.1]
theorem m_ext {o : Ob_T} {P : Pg_} (hR : Rm_ (o_A o 1) P) (hN : g_N P ≤ 10) {i j : Nat} (hi : i < g_N P) (hj : j < g_L P i) (hL : g_L P i ≤ 6) : f_X9_extentOf o (nI i) (nI j) = some (nI (g_E P i j)) := by
  unfold f_X9_extentOf
  simp (disch := omega) only [q_0, q_1, q_2, q_3, q_4, q_5, q_6, q_7, q_8, q_9, q_10, q_14, q_15, q_20, q_24, q_28, q_32, q_45, q_48, q_57, q_59, q_97, q_100, q_117, q_120, q_122, q_150, q_200, q_9999, q_20000, q_20004, nI_add, pk_mul, pk_sub, nI_eq, nI_leI, nI_ltI, ld_nI, st_nI, Option.bind_some, (hR i hi).2.2.2.2.2.2.2.2.2.2 j hj]
theorem x_fr {n : Ob_T} {P : Pg_} (hR : Rn_ n P) (hN : g_N P ≤ 10) {i : Nat} {r : Int32} (hi : i < g_N P) (hr : r ∈ rks_) (hL : g_L P i ≤ 6) : f_X1_frameOf n (nI i) r = some (nI (fr_ r (g_L P i))) := by
  unfold f_X1_frameOf
  simp (disch := omega) only [ld_nI, st_nI, Option.bind_some, (hR.2 i hi).2.2.2.2.2.2.2.1]
  exact x_fr0 r hr _ (by omega)
theorem x_ce {n : Ob_T} {P : Pg_} (hR : Rn_ n P) (hN : g_N P ≤ 10) {i : Nat} {r : Int32} (hi : i < g_N P) (hr : r ∈ rks_) (hL : g_L P i ≤ 6) : f_X1_cellOf n (nI i) r = some (nI (g_L P i - fr_ r (g_L P i))) := by
  have h0 := fr_le r (g_L P i)
  unfold f_X1_cellOf
  simp (disch := omega) only [ld_nI, st_nI, Option.bind_some, (hR.2 i hi).2.2.2.2.2.2.2.1, x_fr hR hN hi hr hL, pk_sub]
theorem x_ext {n : Ob_T} {P : Pg_} (hR : Rn_ n P) (hN : g_N P ≤ 10) {i j : Nat} (hi : i < g_N P) (hj : j < g_L P i) (hL : g_L P i ≤ 6) : f_X1_at n (nI i) (nI j) = some (nI (g_E P i j)) := by
  unfold f_X1_at
  simp (disch := omega) only [q_0, q_1, q_2, q_3, q_4, q_5, q_6, q_7, q_8, q_9, q_10, q_14, q_15, q_20, q_24, q_28, q_32, q_45, q_48, q_57, q_59, q_97, q_100, q_117, q_120, q_122, q_150, q_200, q_9999, q_20000, q_20004, nI_add, pk_mul, pk_sub, nI_eq, nI_leI, nI_ltI, ld_nI, st_nI, Option.bind_some, Nat.mul_comm i 6, (hR.2 i hi).2.2.2.2.2.2.2.2 j hj]
theorem m_fr {r : Int32} {n : Nat} (hr : r ∈ rks_) (h : n ≤ 6) : f_X9_frameOf (nI n) r = some (nI (fr_ r n)) := m_fr0 r hr n (by omega)
