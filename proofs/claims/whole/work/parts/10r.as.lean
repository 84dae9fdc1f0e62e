/-- what stands above a kind -/
def ab_ : Nat → Int32 := fun i => if i = 1 then 0 else if i = 2 then 1 else if i = 3 then 0 else if i = 4 then 3 else if i = 5 then 4 else -1
def f_X8_isVerb_J45 (x1 : Int32) : Option Int32 :=
  if x1 = (0 : Int32) then
  (some (1 : Int32))
  else
  (some (0 : Int32))
def f_X8_isVerb_L15 (rec15 : (Int32 × Int32 × Int32) → Option Int32) (x1 : Int32) (x2 : Int32) (x3 : Int32) : Option Int32 :=
  if (5 : Int32) < x3 then
  (f_X8_isVerb_J45 x1)
  else
  (if x2 ≤ (0 : Int32) then
  (f_X8_isVerb_J45 x1)
  else
  (if x2 = x1 then
  (some (1 : Int32))
  else
  ((ld_I ab_ 7 x2).bind fun v1 =>
  rec15 (x1, v1, (x3 + (1 : Int32))))))
def f_X8_isVerb (x0 : Int32) (x1 : Int32) : Option Int32 :=
  if x0 ≤ (0 : Int32) then
  (some (0 : Int32))
  else
  (if (6 : Int32) ≤ x0 then
  (some (0 : Int32))
  else
  (Lp_ (fun (rec : (Int32 × Int32 × Int32) → Option Int32) x => f_X8_isVerb_L15 rec x.1 x.2.1 x.2.2) FU_ (x1, x0, (0 : Int32))))
def f_X8_as (s_x : Ob_T) (s_n : Ob_T) (x1 : Int32) (x2 : Int32) : Option Int32 :=
  (f_X1_has s_n x1).bind fun u1 =>
  if u1 = (0 : Int32) then
  (some (-2 : Int32))
  else
  (if x2 < (0 : Int32) then
  (some (-3 : Int32))
  else
  (if (5 : Int32) < x2 then
  (some (-3 : Int32))
  else
  ((f_X1_kindOf s_n x1).bind fun u2 =>
  (f_X8_isVerb u2 x2).bind fun u3 =>
  if u3 = (0 : Int32) then
  (some (-4 : Int32))
  else
  (some (1 : Int32)))))
def asT_ (x2 v3 : Int32) (s_o : Ob_T) : Option Int32 :=
  if x2 = (0 : Int32) then
  (f_X9_as_J77 v3 s_o)
  else
  (if x2 = v3 then
  (f_X9_as_J77 v3 s_o)
  else
  (if x2 = (1 : Int32) then
  (if v3 = (2 : Int32) then
  (f_X9_as_J77 v3 s_o)
  else
  (f_X9_as_J57 x2 v3 s_o))
  else
  (f_X9_as_J57 x2 v3 s_o)))
theorem asT_o (x2 v3 : Int32) (o : Ob_T) : asT_ x2 v3 o = asT_ x2 v3 ob_0 := by
  unfold asT_ f_X9_as_J57 f_X9_as_J67 f_X9_as_J77 f_X9_as_J81 f_X9_as_J82
  rfl
theorem as_fin : ∀ K, K < 7 → ∀ q, q < 6 → (((f_X8_isVerb (nI K) (nI q)).bind fun u3 => if u3 = (0 : Int32) then (some (-4 : Int32)) else (some (1 : Int32))) = asT_ (nI q) (nI K) ob_0 ∧ (asT_ (nI q) (nI K) ob_0).isSome = true) := by decide +kernel
theorem sm_as {P : Pg_} (x : Ob_T) {n o : Ob_T} (hW : Wf_ P) (hn : Rn_ n P) (hm : Rm_ (o_A o 0) P) (h2 : o_F o 2 = nI (g_N P)) (x1 x2 : Int32) : Tr_ (f_X8_as x n x1 x2) (fun u => Tr_ (f_X9_as o x1 x2) (fun w => u = w)) := by
  have hN := hW.1
  have l0 : (0 : Int32).toInt = 0 := rfl
  have l5 : (5 : Int32).toInt = 5 := rfl
  unfold f_X8_as f_X9_as
  rw [x_has hn hN, Option.bind_some, m_isNode h2 hN, Option.bind_some]
  by_cases c1 : 0 ≤ x1.toInt ∧ x1.toInt < g_N P
  · rw [if_pos c1, if_neg n_10, if_neg n_10]
    obtain ⟨i, hi, rfl⟩ := i_of (x := x1) (n := 10) c1.1 (by omega)
    have hi : i < g_N P := by have := c1.2; rw [nI_toInt (by omega)] at this; omega
    have hK := (hW.2 i hi).1
    by_cases c2 : 0 ≤ x2.toInt ∧ x2.toInt ≤ 5
    · rw [if_neg (show ¬ x2 < 0 by rw [i_lt, l0]; omega), if_neg (show ¬ (5 : Int32) < x2 by rw [i_lt, l5]; omega), bind_eq _ (f_in1 (a := 0) (b := 5) c2), if_neg n_10]
      obtain ⟨q, hq, rfl⟩ := i_of (x := x2) (n := 5) c2.1 c2.2
      unfold f_X1_kindOf
      rw [ld_nI (by omega) (by omega), Option.bind_some, Option.bind_some, (hn.2 i hi).1, l_K hm hN hi, Option.bind_some]
      obtain ⟨e1, e2⟩ := as_fin (g_K P i) (by omega) q (by omega)
      obtain ⟨w, hw⟩ := Option.isSome_iff_exists.mp e2
      have e3 : asT_ (nI q) (nI (g_K P i)) o = some w := by rw [asT_o, hw]
      rw [e1, hw]
      refine tr_some ?_
      show Tr_ (asT_ (nI q) (nI (g_K P i)) o) _
      rw [e3]
      exact tr_some rfl
    · rw [bind_eq _ (f_in0 (a := 0) (b := 5) c2), if_pos rfl]
      refine tr_if (fun _ => tr_some (tr_some rfl)) (fun n1 => tr_if (fun _ => tr_some (tr_some rfl)) (fun n2 => ?_))
      rw [i_lt, l0] at n1
      rw [i_lt, l5] at n2
      exact absurd ⟨by omega, by omega⟩ c2
  · rw [if_neg c1, if_pos rfl, if_pos rfl]
    exact tr_some (tr_some rfl)
