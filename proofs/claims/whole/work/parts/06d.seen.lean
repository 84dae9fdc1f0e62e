/-- in(v, least, most), of an int -/
theorem f_in1 {x : Int32} {a b : Int64} (h : a.toInt ≤ x.toInt ∧ x.toInt ≤ b.toInt) : f_X9_in x.toInt64 a b = some 1 := by
  rw [f_in, i_wide, if_pos h]
theorem f_in0 {x : Int32} {a b : Int64} (h : ¬ (a.toInt ≤ x.toInt ∧ x.toInt ≤ b.toInt)) : f_X9_in x.toInt64 a b = some 0 := by
  rw [f_in, i_wide, if_neg h]
/-- how what was seen lies in the class: the extent, or a mark -/
def sn_a (a m : Nat) : Int32 := if a = 1 then nI m else if m = 0 then -1 else -2
def R_sn (q o : Ob_T) : Prop := ∃ z, z ≤ 6 ∧ o_F q 2 = nI z ∧ o_F o 11 = nI z ∧ ∀ i, i < z → ∃ n a m, (1 ≤ n ∧ n ≤ 9 ∧ a ≤ 1 ∧ m ≤ 99) ∧ o_A q 0 i = nI n ∧ o_A q 1 i = sn_a a m ∧ o_A o 12 i = nI n ∧ o_A o 13 i = nI a ∧ o_A o 14 i = nI m
theorem R_sn_fr {q o o' : Ob_T} {S : List Nat} (h : R_sn q o) (hf : Fr_ S o o') (hs : 11 ∉ S ∧ 12 ∉ S ∧ 13 ∉ S ∧ 14 ∉ S) : R_sn q o' := by
  obtain ⟨z, h1, h2, h3, h4⟩ := h
  refine ⟨z, h1, h2, by rw [(hf 11 hs.1).1]; exact h3, ?_⟩
  rw [(hf 12 hs.2.1).2, (hf 13 hs.2.2.1).2, (hf 14 hs.2.2.2).2]
  exact h4
theorem sm_seen (x q o : Ob_T) (x1 x2 x3 : Int32) (h : R_sn q o) : Tr_ (f_X8_seen x q x1 x2 x3) (fun u => Tr_ (f_X9_seen o x1 x2 x3) (fun w => u.1 = w.1 ∧ R_sn u.2 w.2 ∧ Fr_ [11, 12, 13, 14] o w.2)) := by
  have h' := h
  obtain ⟨z, hz, e1, e2, hc⟩ := h
  have l0 : (0 : Int32).toInt = 0 := rfl
  have l1 : (1 : Int32).toInt = 1 := rfl
  have l9 : (9 : Int32).toInt = 9 := rfl
  have l99 : (99 : Int32).toInt = 99 := rfl
  have j0 : (0 : Int64).toInt = 0 := rfl
  have j1 : (1 : Int64).toInt = 1 := rfl
  have j9 : (9 : Int64).toInt = 9 := rfl
  have j99 : (99 : Int64).toInt = 99 := rfl
  have out : ∀ {A : Option (Int32 × Ob_T)}, A = some ((-3 : Int32), o) → Tr_ (some ((-3 : Int32), q)) (fun u => Tr_ A (fun w => u.1 = w.1 ∧ R_sn u.2 w.2 ∧ Fr_ [11, 12, 13, 14] o w.2)) := fun e => tr_some (tr_eq e ⟨rfl, h', fr_rf _ _⟩)
  by_cases c1 : 1 ≤ x1.toInt ∧ x1.toInt ≤ 9
  · by_cases c2 : 0 ≤ x2.toInt ∧ x2.toInt ≤ 1
    · by_cases c3 : 0 ≤ x3.toInt ∧ x3.toInt ≤ 99
      · obtain ⟨n, hn, rfl⟩ := i_of (x := x1) (n := 9) (by omega) c1.2
        obtain ⟨a, ha, rfl⟩ := i_of (x := x2) (n := 1) c2.1 c2.2
        obtain ⟨m, hm, rfl⟩ := i_of (x := x3) (n := 99) c3.1 c3.2
        have hn1 : 1 ≤ n := by have := c1.1; rw [nI_toInt (by omega)] at this; omega
        have g1 : ¬ nI n < 1 := by rw [i_lt, l1]; omega
        have g2 : ¬ 9 < nI n := by rw [i_lt, l9]; omega
        have g3 : ¬ nI a < 0 := by rw [i_lt, l0]; omega
        have g4 : ¬ 1 < nI a := by rw [i_lt, l1]; omega
        have g5 : ¬ nI m < 0 := by rw [i_lt, l0]; omega
        have g6 : nI m ≤ 99 := by rw [i_le, l99]; omega
        unfold f_X8_seen f_X9_seen
        rw [if_neg g1, if_neg g2, if_neg g3, if_neg g4, if_neg g5, if_pos g6, bind_eq _ (f_in1 (by rw [j1, j9]; exact c1)), if_neg (by decide), bind_eq _ (f_in1 (by rw [j0, j1]; exact c2)), if_neg (by decide), bind_eq _ (f_in1 (by rw [j0, j99]; exact c3)), if_neg (by decide)]
        unfold f_X3_add
        by_cases hf : z = 6
        · subst hf
          rw [e1, e2, if_neg (by decide), if_pos (by decide)]
          exact tr_some (tr_some ⟨rfl, h', fr_rf _ _⟩)
        · have hl : z < 6 := by omega
          have b1 : nI z < 6 := show nI z < nI 6 from nI_lt hl (by omega)
          have b2 : ¬ nI z = 6 := fun w => hf ((nI_eq (by omega) (by omega)).mp (show nI z = nI 6 from w))
          rw [e1, e2, if_pos b1, if_neg b2, st_nI hl (by omega), st_nI hl (by omega)]
          have key : ((if nI a = (1 : Int32) then f_X3_add_J48 (o_F (p_A q 0 (upd (o_A q 0) z (nI n))) 2) (nI m) (p_A q 0 (upd (o_A q 0) z (nI n))) else if nI m = (0 : Int32) then f_X3_add_J48 (o_F (p_A q 0 (upd (o_A q 0) z (nI n))) 2) (-1 : Int32) (p_A q 0 (upd (o_A q 0) z (nI n))) else f_X3_add_J48 (o_F (p_A q 0 (upd (o_A q 0) z (nI n))) 2) (-2 : Int32) (p_A q 0 (upd (o_A q 0) z (nI n))))) = f_X3_add_J48 (nI z) (sn_a a m) (p_A q 0 (upd (o_A q 0) z (nI n))) := by
            rw [oF_pA, e1]
            unfold sn_a
            by_cases ca : a = 1
            · rw [if_pos (show nI a = 1 by rw [ca]; rfl), if_pos ca]
            · rw [if_neg (show ¬ nI a = 1 from fun w => ca ((nI_eq (by omega) (by omega)).mp (show nI a = nI 1 from w))), if_neg ca]
              by_cases cm : m = 0
              · rw [if_pos (show nI m = 0 by rw [cm]; rfl), if_pos cm]
              · rw [if_neg (show ¬ nI m = 0 from fun w => cm ((nI_eq (by omega) (by omega)).mp (show nI m = nI 0 from w))), if_neg cm]
          refine tr_bind (tr_bind (tr_some ?_))
          show Tr_ (if nI a = (1 : Int32) then _ else _) _
          rw [key]
          unfold f_X3_add_J48
          rw [st_nI hl (by omega)]
          refine tr_bind (tr_some (tr_let (tr_some ?_)))
          show Tr_ (if (1 : Int32) = 0 then _ else _) _
          rw [if_neg (by decide)]
          refine tr_bind (tr_some (tr_some (tr_bind (tr_some ?_))))
          simp only [oF_pF, oF_pA, oA_pF, oA_pA, e1, e2, if_true, st_nI hl (show 6 < 2 ^ 31 by omega), Option.bind_some, Lt_E]
          refine tr_some ⟨rfl, ⟨z + 1, by omega, nI_1 z, nI_1 z, fun i hi => ?_⟩, ?_⟩
          · by_cases hi2 : i = z
            · subst hi2
              refine ⟨n, a, m, ⟨hn1, hn, ha, hm⟩, ?_⟩
              simp [oA_pF, oA_pA, updE]
            · obtain ⟨n', a', m', g, q1, q2, q3, q4, q5⟩ := hc i (by omega)
              refine ⟨n', a', m', g, ?_⟩
              simp [oA_pF, oA_pA, updE, hi2, q1, q2, q3, q4, q5]
          · exact fr_tr (fr_pA (by decide)) (fr_tr (fr_pA (by decide)) (fr_tr (fr_pA (by decide)) (fr_pF (by decide))))
      · have eM : f_X9_seen o x1 x2 x3 = some ((-3 : Int32), o) := by
          unfold f_X9_seen
          rw [bind_eq _ (f_in1 (by rw [j1, j9]; exact c1)), if_neg (by decide), bind_eq _ (f_in1 (by rw [j0, j1]; exact c2)), if_neg (by decide), bind_eq _ (f_in0 (by rw [j0, j99]; exact c3)), if_pos rfl]
        unfold f_X8_seen
        refine tr_if (fun _ => out eM) (fun _ => tr_if (fun _ => out eM) (fun _ => tr_if (fun _ => out eM) (fun _ => tr_if (fun _ => out eM) (fun _ => tr_if (fun _ => out eM) (fun n1 => tr_if (fun p1 => ?_) (fun _ => out eM))))))
        rw [i_lt, l0] at n1
        rw [i_le, l99] at p1
        exact absurd ⟨by omega, p1⟩ c3
    · have eM : f_X9_seen o x1 x2 x3 = some ((-3 : Int32), o) := by
        unfold f_X9_seen
        rw [bind_eq _ (f_in1 (by rw [j1, j9]; exact c1)), if_neg (by decide), bind_eq _ (f_in0 (by rw [j0, j1]; exact c2)), if_pos rfl]
      unfold f_X8_seen
      refine tr_if (fun _ => out eM) (fun _ => tr_if (fun _ => out eM) (fun _ => tr_if (fun _ => out eM) (fun n1 => tr_if (fun _ => out eM) (fun n2 => ?_))))
      rw [i_lt, l0] at n1
      rw [i_lt, l1] at n2
      exact absurd ⟨by omega, by omega⟩ c2
  · have eM : f_X9_seen o x1 x2 x3 = some ((-3 : Int32), o) := by
      unfold f_X9_seen
      rw [bind_eq _ (f_in0 (by rw [j1, j9]; exact c1)), if_pos rfl]
    unfold f_X8_seen
    refine tr_if (fun _ => out eM) (fun n1 => tr_if (fun _ => out eM) (fun n2 => ?_))
    rw [i_lt, l1] at n1
    rw [i_lt, l9] at n2
    exact absurd ⟨by omega, by omega⟩ c1
theorem sm_forget (x q o : Ob_T) (h : R_sn q o) : Tr_ (f_X8_forget x q) (fun u => Tr_ (f_X9_forget o) (fun w => u.1 = w.1 ∧ R_sn u.2 w.2 ∧ Fr_ [11, 12, 13, 14] o w.2)) := by
  obtain ⟨z, hz, e1, e2, hc⟩ := h
  refine tr_bind (tr_some (tr_bind (tr_let (tr_some (tr_some (tr_let (tr_some ?_)))))))
  exact ⟨by rw [e1, e2], ⟨0, by omega, rfl, rfl, fun i hi => absurd hi (by omega)⟩, fr_pF (by decide)⟩
