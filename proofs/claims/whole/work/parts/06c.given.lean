theorem lp_u {σ ω : Type} {body : (σ → Option ω) → σ → Option ω} {x : σ} : Lp_ body FU_ x = body (Lp_ body 19999) x := rfl
theorem lp_n {σ ω : Type} {body : (σ → Option ω) → σ → Option ω} {n : Nat} {x : σ} : Lp_ body (n + 1) x = body (Lp_ body n) x := rfl
/-- which letters are given, as bits -/
def bt_4 (f : Nat → Int32) : Int32 := ((((0 ||| (if f 0 = -1 then 0 else 1)) ||| (if f 1 = -1 then 0 else 2)) ||| (if f 2 = -1 then 0 else 4)) ||| (if f 3 = -1 then 0 else 8))
/-- how many are given -/
def ct_4 (f : Nat → Int32) : Int32 := (if f 0 = -1 then 0 else 1) + (if f 1 = -1 then 0 else 1) + (if f 2 = -1 then 0 else 1) + (if f 3 = -1 then 0 else 1)
theorem ld4_0 (f : Nat → Int32) : ld_I f 4 0 = some (f 0) := rfl
theorem ld4_1 (f : Nat → Int32) : ld_I f 4 1 = some (f 1) := rfl
theorem ld4_2 (f : Nat → Int32) : ld_I f 4 2 = some (f 2) := rfl
theorem ld4_3 (f : Nat → Int32) : ld_I f 4 3 = some (f 3) := rfl
theorem or_0 (x : Int32) : x ||| 0 = x := by simp
theorem sh_0 : (1 : Int32) <<< ((0 : Int32) &&& 31) = 1 := by decide
theorem sh_1 : (1 : Int32) <<< ((1 : Int32) &&& 31) = 2 := by decide
theorem sh_2 : (1 : Int32) <<< ((2 : Int32) &&& 31) = 4 := by decide
theorem sh_3 : (1 : Int32) <<< ((3 : Int32) &&& 31) = 8 := by decide
theorem x_bits (g : Ob_T) : f_X0_bits g = some (bt_4 (o_A g 0)) := by
  unfold f_X0_bits
  show Lp_ _ (19995 + 5) _ = _
  generalize 19995 = n
  have c0 : ¬ (4 : Int32) ≤ 0 := by decide
  have c1 : ¬ (4 : Int32) ≤ 1 := by decide
  have c2 : ¬ (4 : Int32) ≤ 2 := by decide
  have c3 : ¬ (4 : Int32) ≤ 3 := by decide
  have c4 : (4 : Int32) ≤ 4 := by decide
  have a1 : (0 : Int32) + 1 = 1 := by decide
  have a2 : (1 : Int32) + 1 = 2 := by decide
  have a3 : (2 : Int32) + 1 = 3 := by decide
  have a4 : (3 : Int32) + 1 = 4 := by decide
  unfold bt_4
  by_cases h0 : o_A g 0 0 = -1 <;> by_cases h1 : o_A g 0 1 = -1 <;> by_cases h2 : o_A g 0 2 = -1 <;> by_cases h3 : o_A g 0 3 = -1 <;>
    simp only [Lp_, f_X0_bits_L4, Lt_E, ld4_0, ld4_1, ld4_2, ld4_3, Option.bind_some, h0, h1, h2, h3, if_true, if_false, c0, c1, c2, c3, c4, a1, a2, a3, a4, sh_0, sh_1, sh_2, sh_3]
theorem x_howMany (g : Ob_T) : f_X0_howMany g = some (ct_4 (o_A g 0)) := by
  unfold f_X0_howMany
  rw [bind_eq _ (x_bits g)]
  unfold bt_4 ct_4
  by_cases h0 : o_A g 0 0 = -1 <;> by_cases h1 : o_A g 0 1 = -1 <;> by_cases h2 : o_A g 0 2 = -1 <;> by_cases h3 : o_A g 0 3 = -1 <;>
    simp only [h0, h1, h2, h3, if_true, if_false] <;> decide
/-- a given number: none, or 0 to 9 -/
def gv_ok (v : Int32) : Prop := v = -1 ∨ ∃ k, k ≤ 9 ∧ v = nI k
theorem gv_neg {v : Int32} (h : gv_ok v) : 0 ≤ v ↔ ¬ v = -1 := by
  rcases h with rfl | ⟨k, hk, rfl⟩
  · exact ⟨fun z => absurd z (by decide), fun z => absurd rfl z⟩
  · refine ⟨fun _ z => ?_, fun _ => nI_pos' (by omega)⟩
    have := congrArg Int32.toInt z
    rw [nI_toInt (by omega)] at this
    have e : (-1 : Int32).toInt = -1 := rfl
    omega
theorem m_givenMany (o : Ob_T) (h : ∀ l, l < 4 → gv_ok (o_A o 4 l)) : f_X9_givenMany o = some (ct_4 (o_A o 4)) := by
  unfold f_X9_givenMany
  show Lp_ _ (19995 + 5) _ = _
  generalize 19995 = n
  have c0 : ¬ (4 : Int32) ≤ 0 := by decide
  have c1 : ¬ (4 : Int32) ≤ 1 := by decide
  have c2 : ¬ (4 : Int32) ≤ 2 := by decide
  have c3 : ¬ (4 : Int32) ≤ 3 := by decide
  have c4 : (4 : Int32) ≤ 4 := by decide
  have a1 : (0 : Int32) + 1 = 1 := by decide
  have a2 : (1 : Int32) + 1 = 2 := by decide
  have a3 : (2 : Int32) + 1 = 3 := by decide
  have a4 : (3 : Int32) + 1 = 4 := by decide
  have g0 := gv_neg (h 0 (by omega))
  have g1 := gv_neg (h 1 (by omega))
  have g2 := gv_neg (h 2 (by omega))
  have g3 := gv_neg (h 3 (by omega))
  unfold ct_4
  by_cases h0 : o_A o 4 0 = -1 <;> by_cases h1 : o_A o 4 1 = -1 <;> by_cases h2 : o_A o 4 2 = -1 <;> by_cases h3 : o_A o 4 3 = -1 <;>
    simp only [Lp_, f_X9_givenMany_L4, Lt_E, ld4_0, ld4_1, ld4_2, ld4_3, Option.bind_some, g0, g1, g2, g3, h0, h1, h2, h3, not_true_eq_false, not_false_eq_true, if_true, if_false, c0, c1, c2, c3, c4, a1, a2, a3, a4] <;> rfl
theorem m_givenOnes (o : Ob_T) (h : ∀ l, l < 4 → gv_ok (o_A o 4 l)) : f_X9_givenOnes o = some (bt_4 (o_A o 4)) := by
  unfold f_X9_givenOnes
  show Lp_ _ (19995 + 5) _ = _
  generalize 19995 = n
  have c0 : ¬ (4 : Int32) ≤ 0 := by decide
  have c1 : ¬ (4 : Int32) ≤ 1 := by decide
  have c2 : ¬ (4 : Int32) ≤ 2 := by decide
  have c3 : ¬ (4 : Int32) ≤ 3 := by decide
  have c4 : (4 : Int32) ≤ 4 := by decide
  have a1 : (0 : Int32) + 1 = 1 := by decide
  have a2 : (1 : Int32) + 1 = 2 := by decide
  have a3 : (2 : Int32) + 1 = 3 := by decide
  have a4 : (3 : Int32) + 1 = 4 := by decide
  have g0 := gv_neg (h 0 (by omega))
  have g1 := gv_neg (h 1 (by omega))
  have g2 := gv_neg (h 2 (by omega))
  have g3 := gv_neg (h 3 (by omega))
  unfold bt_4
  by_cases h0 : o_A o 4 0 = -1 <;> by_cases h1 : o_A o 4 1 = -1 <;> by_cases h2 : o_A o 4 2 = -1 <;> by_cases h3 : o_A o 4 3 = -1 <;>
    simp only [Lp_, f_X9_givenOnes_L4, Lt_E, ld4_0, ld4_1, ld4_2, ld4_3, Option.bind_some, g0, g1, g2, g3, h0, h1, h2, h3, not_true_eq_false, not_false_eq_true, if_true, if_false, c0, c1, c2, c3, c4, a1, a2, a3, a4, sh_0, sh_1, sh_2, sh_3] <;> rfl
