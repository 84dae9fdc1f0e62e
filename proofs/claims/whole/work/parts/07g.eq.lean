/-! bits -/
def tb_ (x : Int32) (i : Nat) : Bool := x.toBitVec.getLsbD i
theorem tb_ext {x y : Int32} (h : ∀ i, i < 32 → tb_ x i = tb_ y i) : x = y := Int32.toBitVec_inj.mp (BitVec.eq_of_getLsbD_eq (fun i hi => h i hi))
theorem tb_or (x y : Int32) (i : Nat) : tb_ (x ||| y) i = (tb_ x i || tb_ y i) := by unfold tb_; rw [Int32.toBitVec_or, BitVec.getLsbD_or]
theorem tb_and (x y : Int32) (i : Nat) : tb_ (x &&& y) i = (tb_ x i && tb_ y i) := by unfold tb_; rw [Int32.toBitVec_and, BitVec.getLsbD_and]
theorem tb_0 (i : Nat) : tb_ 0 i = false := BitVec.getLsbD_zero
theorem tb_1 : ∀ i, i < 32 → tb_ 1 i = decide (i = 0) := by decide +kernel
theorem tb_sh : ∀ l, l < 32 → ∀ i, i < 32 → tb_ ((1 : Int32) <<< (nI l &&& 31)) i = decide (i = l) := by decide +kernel
theorem tb_sl : ∀ n, n < 32 → ((nI n &&& 31).toBitVec.smod 32).toNat = n := by decide +kernel
theorem tb_shr (n : Nat) (hn : n < 32) (x : Int32) : tb_ (x >>> (nI n &&& 31)) 0 = tb_ x n := by
  unfold tb_
  rw [Int32.toBitVec_shiftRight, BitVec.sshiftRight_eq', BitVec.getLsbD_sshiftRight, tb_sl n hn]
  simp [hn]
theorem tb_lo (x : Int32) : x &&& 1 = if tb_ x 0 then 1 else 0 := by
  refine tb_ext (fun i hi => ?_)
  rw [tb_and, tb_1 i hi]
  by_cases h0 : i = 0
  · subst h0
    cases h : tb_ x 0 <;> simp [tb_0] <;> exact (tb_1 0 (by omega)).symm
  · rw [show decide (i = 0) = false from decide_eq_false h0, Bool.and_false]
    cases h : tb_ x 0
    · exact (tb_0 i).symm
    · show false = tb_ 1 i
      rw [tb_1 i hi]
      exact (decide_eq_false h0).symm
theorem tb_has (x : Int32) {l : Nat} (hl : l < 32) : (x >>> (nI l &&& 31)) &&& 1 = if tb_ x l then 1 else 0 := by
  rw [tb_lo, tb_shr l hl]
/-! the two sides of a sum or a product, values in a row -/
def nl_ : List Nat → Nat
  | [] => 0
  | v :: l => (if v < 20000 then 0 else 1) + nl_ l
def su_ : List Nat → Nat
  | [] => 0
  | v :: l => (if v < 20000 then v else 0) + su_ l
def pd_ : List Nat → Nat
  | [] => 1
  | v :: l => (if v < 20000 then v else 1) * pd_ l
def pz_ : List Nat → Nat
  | [] => 1
  | v :: l => (if v < 20000 ∧ v ≠ 0 then v else 1) * pz_ l
def ol_ : List Nat → Nat
  | [] => 0
  | v :: l => if v < 20000 then ol_ l else v - 20000
theorem nl_app : ∀ (l m : List Nat), nl_ (l ++ m) = nl_ l + nl_ m
  | [], m => (Nat.zero_add _).symm
  | v :: l, m => by
    show (if v < 20000 then 0 else 1) + nl_ (l ++ m) = (if v < 20000 then 0 else 1) + nl_ l + nl_ m
    rw [nl_app l m]; omega
theorem su_app : ∀ (l m : List Nat), su_ (l ++ m) = su_ l + su_ m
  | [], m => (Nat.zero_add _).symm
  | v :: l, m => by
    show (if v < 20000 then v else 0) + su_ (l ++ m) = (if v < 20000 then v else 0) + su_ l + su_ m
    rw [su_app l m]; omega
theorem pd_app : ∀ (l m : List Nat), pd_ (l ++ m) = pd_ l * pd_ m
  | [], m => (Nat.one_mul _).symm
  | v :: l, m => by
    show (if v < 20000 then v else 1) * pd_ (l ++ m) = (if v < 20000 then v else 1) * pd_ l * pd_ m
    rw [pd_app l m, Nat.mul_assoc]
theorem pz_app : ∀ (l m : List Nat), pz_ (l ++ m) = pz_ l * pz_ m
  | [], m => (Nat.one_mul _).symm
  | v :: l, m => by
    show (if v < 20000 ∧ v ≠ 0 then v else 1) * pz_ (l ++ m) = (if v < 20000 ∧ v ≠ 0 then v else 1) * pz_ l * pz_ m
    rw [pz_app l m, Nat.mul_assoc]
theorem ol_app0 : ∀ (l : List Nat) (v : Nat), v < 20000 → ol_ (l ++ [v]) = ol_ l
  | [], v, h => by show (if v < 20000 then 0 else v - 20000) = 0; rw [if_pos h]
  | w :: l, v, h => by
    show (if w < 20000 then ol_ (l ++ [v]) else w - 20000) = if w < 20000 then ol_ l else w - 20000
    rw [ol_app0 l v h]
theorem ol_app1 : ∀ (l : List Nat) (v : Nat), ¬ v < 20000 → nl_ l = 0 → ol_ (l ++ [v]) = v - 20000
  | [], v, h, _ => by show (if v < 20000 then 0 else v - 20000) = _; rw [if_neg h]
  | w :: l, v, h, h0 => by
    have h1 : (if w < 20000 then 0 else 1) + nl_ l = 0 := h0
    by_cases hw : w < 20000
    · show (if w < 20000 then ol_ (l ++ [v]) else w - 20000) = _
      rw [if_pos hw]
      exact ol_app1 l v h (by omega)
    · rw [if_neg hw] at h1; omega
/-- no nought in it: the product is that of the others -/
theorem pd_pz : ∀ (l : List Nat), 0 ∉ l → pd_ l = pz_ l
  | [], _ => rfl
  | v :: l, h => by
    have hv : v ≠ 0 := fun z => h (by rw [z]; exact List.mem_cons_self)
    show (if v < 20000 then v else 1) * pd_ l = (if v < 20000 ∧ v ≠ 0 then v else 1) * pz_ l
    rw [pd_pz l (fun z => h (List.mem_cons_of_mem _ z))]
    by_cases c : v < 20000
    · rw [if_pos c, if_pos ⟨c, hv⟩]
    · rw [if_neg c, if_neg (fun z => c z.1)]
theorem pd_zero : ∀ (l : List Nat), 0 ∈ l → pd_ l = 0
  | [], h => by cases h
  | v :: l, h => by
    show (if v < 20000 then v else 1) * pd_ l = 0
    rcases List.mem_cons.mp h with z | z
    · rw [← z, if_pos (by omega), Nat.zero_mul]
    · rw [pd_zero l z, Nat.mul_zero]
theorem pz_pos : ∀ (l : List Nat), 1 ≤ pz_ l
  | [] => Nat.le_refl _
  | v :: l => by
    show 1 ≤ (if v < 20000 ∧ v ≠ 0 then v else 1) * pz_ l
    have h := pz_pos l
    by_cases c : v < 20000 ∧ v ≠ 0
    · rw [if_pos c]
      exact Nat.mul_pos (by omega) h
    · rw [if_neg c]; omega
def BD_ : Nat := 999999999999
/-- by which number a letter makes both sides alike: (0 none is asked, 1 it holds, 2 the letter is that, 3 it fails; 3 1: a product is too great) -/
def eqs_ (n goal rest l : Nat) : Nat × Nat × Nat := if n = 0 then (if goal = rest then (1, 0, 0) else (3, 0, 0)) else if goal < rest ∨ 9999 < goal - rest then (3, 0, 0) else (2, l, goal - rest)
def eqp_ (n goal rest l : Nat) : Nat × Nat × Nat := if BD_ < goal ∨ BD_ < rest then (3, 1, 0) else if n = 0 then (if goal = rest then (1, 0, 0) else (3, 0, 0)) else if rest = 0 then (if goal = 0 then (1, 0, 0) else (3, 0, 0)) else if goal % rest ≠ 0 ∨ 9999 < goal / rest then (3, 0, 0) else (2, l, goal / rest)
def eqv_ (s : Prop) [Decidable s] (L R : List Nat) : Nat × Nat × Nat :=
  if 2 ≤ nl_ L + nl_ R then (0, 0, 0)
  else if nl_ L = 1 then (if s then eqs_ (nl_ L + nl_ R) (su_ R) (su_ L) (ol_ L) else eqp_ (nl_ L + nl_ R) (pd_ R) (pd_ L) (ol_ L))
  else (if s then eqs_ (nl_ L + nl_ R) (su_ L) (su_ R) (ol_ R) else eqp_ (nl_ L + nl_ R) (pd_ L) (pd_ R) (ol_ R))
/-- a product as it is held: exact up to the bound, else only that it is beyond it -/
def pr_ (p q : Nat) : Prop := (p = q ∧ q ≤ BD_) ∨ (BD_ < p ∧ BD_ < q ∧ p ≤ 9998999999990001)
/-- the class's Sides hold these values -/
def Rd_ (d : Ob_T) (Ls : Nat → List Nat) : Prop :=
  (∀ s, s < 2 → su_ (Ls s) < 2 ^ 31 ∧ o_L d 0 s = lN (su_ (Ls s)) ∧ ∃ p, o_L d 1 s = lN p ∧ pr_ p (pd_ (Ls s))) ∧
  nl_ (Ls 0) + nl_ (Ls 1) ≤ 20 ∧ o_F d 2 = nI (nl_ (Ls 0) + nl_ (Ls 1)) ∧ (nl_ (Ls 0) + nl_ (Ls 1) = 0 → o_F d 4 = 0) ∧ (nl_ (Ls 0) + nl_ (Ls 1) = 1 → ∃ s, s < 2 ∧ o_F d 4 = nI s ∧ nl_ (Ls s) = 1 ∧ o_F d 3 = nI (ol_ (Ls s))) ∧
  ∀ l, l < 14 → (tb_ (o_F d 5) l = true ↔ (20000 + l ∈ Ls 0 ∨ 20000 + l ∈ Ls 1))
/-- one value more on a side -/
def ad_ (Ls : Nat → List Nat) (s v : Nat) : Nat → List Nat := fun t => if t = s then Ls t ++ [v] else Ls t
theorem lc_gt {a b : Nat} (ha : a < 2 ^ 63) (hb : b < 2 ^ 63) : 0 < lg_cmp (lN a) (lN b) ↔ b < a := by rw [lg_cmp_gt, pk_lLT hb ha]
theorem lc_le {a b : Nat} (ha : a < 2 ^ 63) (hb : b < 2 ^ 63) : lg_cmp (lN a) (lN b) ≤ 0 ↔ a ≤ b := by rw [lg_cmp_le, pk_lLE ha hb]
theorem lc_eq {a b : Nat} (ha : a < 2 ^ 63) (hb : b < 2 ^ 63) : lg_cmp (lN a) (lN b) = 0 ↔ a = b := by rw [lg_cmp_eq, pk_lEQ ha hb]
