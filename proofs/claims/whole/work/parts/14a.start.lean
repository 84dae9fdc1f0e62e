theorem st_9w : ∀ k, k < 7 → ∀ i, i < wz_ k → o_A o9_ (23 + k) i = nI (wc_ k i) := by decide +kernel
theorem st_9p : ∀ i, i < 7 → o_A o9_ 22 i = nI (wc_ 7 i) := by decide +kernel
theorem st_g : ∀ l, l < 4 → o_A (p_A ob_0 0 (fl_ (fun _ => 0) 0 4 (-1))) 0 l = o_A o9_ 4 l ∧ o_A o9_ 4 l = -1 := by decide +kernel
theorem st_k : ∀ k, k < 2 → o_A (p_A ob_0 0 (fl_ (fun _ => 0) 0 4 (-1))) 4 k = 0 ∧ o_A o9_ 8 k = 0 := by decide +kernel
theorem st_r : ∀ k, k < 3 → o_A (p_A ob_0 1 (fl_ (fun _ => 0) 0 3 (-1))) 1 k = -1 ∧ o_A o9_ 16 k = -1 := by decide +kernel
/-- both objects, just made -/
theorem rr_start (v w : Ob_T) : RR_ ob_0 ob_0 ob_0 v w (p_A ob_0 0 (fl_ (fun _ => 0) 0 4 (-1))) ob_0 (p_A ob_0 1 (fl_ (fun _ => 0) 0 3 (-1))) o9_ :=
  ⟨(0, fun _ => 0, fun _ => 0, fun _ => 0, fun _ => 0, fun _ => 0, fun _ _ => 0), ⟨by decide, fun i hi => absurd hi (Nat.not_lt_zero i)⟩, ⟨rfl, fun i hi => absurd hi (Nat.not_lt_zero i)⟩, rfl, fun i hi => absurd hi (Nat.not_lt_zero i), ⟨0, by omega, rfl, rfl, fun i hi => absurd hi (Nat.not_lt_zero i)⟩, ⟨fun l hl => ⟨(st_g l hl).1, Or.inl (st_g l hl).2⟩, ⟨0, by omega, rfl, rfl, fun i hi => absurd hi (Nat.not_lt_zero i)⟩, fun k hk => Or.inl (st_k k hk)⟩, ⟨0, by omega, rfl, rfl, fun i hi => absurd hi (Nat.not_lt_zero i)⟩, fun k hk => Or.inl (st_r k hk), ⟨st_9p, st_9w⟩, Or.inl rfl, Or.inl rfl⟩
