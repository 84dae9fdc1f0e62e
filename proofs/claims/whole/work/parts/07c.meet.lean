/-- what failed, as it lies in five places -/
def Rf_ (f : Nat → Int32) (F : List Nat) : Prop := F.length = 5 ∧ ∀ k, k < 5 → F.getD k 0 < 2 ^ 31 ∧ f k = nI (F.getD k 0)
def Rso_ (o : Ob_T) (S : Sv_) : Prop := Rs_ (o_A o 31) (o_A o 32) S.1 ∧ ((S.2 = [] ∧ o_F o 35 = 0) ∨ (Rf_ (o_A o 34) S.2 ∧ o_F o 35 = 1))
def Rsv_ (v : Ob_T) (S : Sv_) : Prop := Rs_ (o_A v 2) (o_A v 3) S.1 ∧ ((S.2 = [] ∧ ∀ k, k < 5 → o_A v 5 k = -1) ∨ Rf_ (o_A v 5) S.2)
theorem rf_ne {f : Nat → Int32} {F : List Nat} (h : Rf_ f F) : ¬ F = [] := by
  intro z
  rw [z] at h
  exact absurd h.1 (by decide)
theorem rso_f0 {o : Ob_T} {S : Sv_} (h : Rso_ o S) (hS : S.2 = []) : o_F o 35 = 0 := by
  rcases h.2 with ⟨-, a⟩ | ⟨a, -⟩
  · exact a
  · exact absurd hS (rf_ne a)
theorem rso_f1 {o : Ob_T} {S : Sv_} (h : Rso_ o S) (hS : ¬ S.2 = []) : o_F o 35 = 1 := by
  rcases h.2 with ⟨a, -⟩ | ⟨-, a⟩
  · exact absurd a hS
  · exact a
theorem x_failed {v : Ob_T} {S : Sv_} (h : Rsv_ v S) : f_X5_hasFailed v = some (if S.2 = [] then 0 else 1) := by
  unfold f_X5_hasFailed
  rw [show ld_I (o_A v 5) 5 0 = some (o_A v 5 0) from ld_nI (i := 0) (by omega) (by omega), Option.bind_some]
  rcases h.2 with ⟨a, b⟩ | a
  · rw [b 0 (by omega), if_pos rfl, if_pos a]
  · rw [(a.2 0 (by omega)).2, if_neg (nI_nm1 (a.2 0 (by omega)).1), if_neg (rf_ne a)]
def fl5_ (f : Nat → Int32) (a b c d e : Int32) : Nat → Int32 := upd (upd (upd (upd (upd f 0 a) 1 b) 2 c) 3 d) 4 e
theorem fl5_rf {f : Nat → Int32} {a b c d e : Nat} (h : a < 2 ^ 31 ∧ b < 2 ^ 31 ∧ c < 2 ^ 31 ∧ d < 2 ^ 31 ∧ e < 2 ^ 31) : Rf_ (fl5_ f (nI a) (nI b) (nI c) (nI d) (nI e)) [a, b, c, d, e] := by
  refine ⟨rfl, fun k hk => ?_⟩
  match k, hk with
  | 0, _ => exact ⟨h.1, rfl⟩
  | 1, _ => exact ⟨h.2.1, rfl⟩
  | 2, _ => exact ⟨h.2.2.1, rfl⟩
  | 3, _ => exact ⟨h.2.2.2.1, rfl⟩
  | 4, _ => exact ⟨h.2.2.2.2, rfl⟩
  | k + 5, hk => omega
theorem st_q {s : Ob_T} {k n i : Nat} {j x : Int32} (e : j = nI i) (h : i < n) (hn : n < 2 ^ 31) : st_A s k n j x = some (p_A s k (upd (o_A s k) i x)) := by
  rw [e]; exact st_nI h hn
theorem m_fail (o : Ob_T) (a b c d e : Int32) : f_X9_fail o a b c d e = some (p_A (p_F o 35 1) 34 (fl5_ (o_A o 34) a b c d e)) := by
  unfold f_X9_fail fl5_
  simp (disch := omega) only [q_0, q_1, q_2, q_3, q_4, q_5, q_6, q_7, q_8, q_9, q_10, q_14, q_15, q_20, q_24, q_28, q_32, q_45, q_48, q_57, q_59, q_97, q_100, q_117, q_120, q_122, q_150, q_200, q_9999, q_20000, q_20004, st_nI, Option.bind_some, pA_pA, oA_pA, if_true, oA_pF, Lt_E]
theorem x_fail (v : Ob_T) (a b c d e : Int32) : f_X5_failAt v a b c d e = some (p_A v 5 (fl5_ (o_A v 5) a b c d e)) := by
  unfold f_X5_failAt fl5_
  simp (disch := omega) only [q_0, q_1, q_2, q_3, q_4, q_5, q_6, q_7, q_8, q_9, q_10, q_14, q_15, q_20, q_24, q_28, q_32, q_45, q_48, q_57, q_59, q_97, q_100, q_117, q_120, q_122, q_150, q_200, q_9999, q_20000, q_20004, st_nI, Option.bind_some, pA_pA, oA_pA, if_true, oA_pF, Lt_E]
/-- two extents are met -/
def mt_ (S : Sv_) (nd by_ ax x y : Nat) : Sv_ :=
  if S.2 = [] then
    (if vl_ S.1 x < 20000 then
      (if vl_ S.1 y < 20000 then (if vl_ S.1 x = vl_ S.1 y then S else (S.1, [nd, by_, ax, vl_ S.1 x, vl_ S.1 y]))
      else (sb_ S.1 (vl_ S.1 y - 20000) (vl_ S.1 x), []))
    else (if vl_ S.1 y < 20000 then (sb_ S.1 (vl_ S.1 x - 20000) (vl_ S.1 y), [])
      else (sb_ S.1 (max (vl_ S.1 x) (vl_ S.1 y) - 20000) (min (vl_ S.1 x) (vl_ S.1 y)), [])))
  else S
theorem mt_f {S : Sv_} (h : ¬ S.2 = []) (nd by_ ax x y : Nat) : mt_ S nd by_ ax x y = S := by
  unfold mt_
  rw [if_neg h]
theorem rs_al {al is : Nat → Int32} {V : Nat → Nat} (h : Rs_ al is V) {a b : Nat} (ha : a < 14) (hb : b < 14) (ea : V a = 20000 + a) (eb : V b = 20000 + b) : Rs_ (mk_ al (nI (min a b)) (nI (max a b)) 14) is (sb_ V (max a b) (20000 + min a b)) := by
  by_cases hab : a = b
  · subst hab
    refine rs_same h (fun l hl => ?_) (fun _ _ => rfl) (fun l hl => ?_)
    · unfold mk_
      rw [show min a a = a by omega, show max a a = a by omega]
      by_cases z : l < 14 ∧ al l = nI a
      · rw [if_pos z, z.2]
      · rw [if_neg z]
    · unfold sb_
      rw [show min a a = a by omega, show max a a = a by omega]
      by_cases z : V l = 20000 + a
      · rw [if_pos z, z]
      · rw [if_neg z]
  · refine rs_merge h (a := min a b) (b := max a b) (by omega) (by omega) ?_ ?_ (fun l hl => ?_)
    · rcases Nat.lt_or_ge a b with z | z
      · rw [show min a b = a by omega]; exact ea
      · rw [show min a b = b by omega]; exact eb
    · rcases Nat.lt_or_ge a b with z | z
      · rw [show max a b = b by omega]; exact eb
      · rw [show max a b = a by omega]; exact ea
    · unfold mk_
      by_cases z : al l = nI (max a b)
      · rw [if_pos ⟨hl, z⟩, if_pos z]
      · rw [if_neg (fun w => z w.2), if_neg z]
theorem m_meet {o : Ob_T} {S : Sv_} (hR : Rso_ o S) (hS : S.2 = []) {nd by_ ax x y : Nat} (hb : nd < 2 ^ 31 ∧ by_ < 2 ^ 31 ∧ ax < 2 ^ 31) (hx : e_ok x) (hy : e_ok y) : ∃ o', f_X9_meet o (nI nd) (nI by_) (nI ax) (nI x) (nI y) = some o' ∧ Rso_ o' (mt_ S nd by_ ax x y) ∧ Fr_ [31, 32, 34, 35] o o' := by
  have hk := rs_vk hR.1
  have f0 := rso_f0 hR hS
  have sub0 : ∀ r, nI (20000 + r) - 20000 = nI r := fun r => (pk_sub (b := 20000) (by omega)).trans (congrArg nI (by omega))
  unfold f_X9_meet mt_
  rw [if_pos hS, m_solved hR.1 hx, Option.bind_some, m_solved hR.1 hy, Option.bind_some]
  rcases vk_vl hk hx with ux | ⟨a, ha, ex, ea⟩
  · rw [if_neg (show ¬ (20000 : Int32) ≤ nI (vl_ S.1 x) from nI_ge (b := 20000) (by omega) (by omega)), if_pos (show vl_ S.1 x < 20000 by omega)]
    rcases vk_vl hk hy with uy | ⟨b, hb', ey, eb⟩
    · rw [if_neg (show ¬ (20000 : Int32) ≤ nI (vl_ S.1 y) from nI_ge (b := 20000) (by omega) (by omega)), if_pos (show vl_ S.1 y < 20000 by omega)]
      by_cases he : vl_ S.1 x = vl_ S.1 y
      · rw [if_pos (by rw [he]), if_pos he]
        exact ⟨o, rfl, hR, fr_rf _ _⟩
      · rw [if_neg (fun z => he ((nI_eq (by omega) (by omega)).mp z)), if_neg he, m_fail, Option.bind_some]
        refine ⟨_, rfl, ⟨hR.1, Or.inr ⟨?_, rfl⟩⟩, fr_tr (fr_pF (by decide)) (fr_pA (by decide))⟩
        exact fl5_rf ⟨hb.1, hb.2.1, hb.2.2, by omega, by omega⟩
    · rw [if_pos (show (20000 : Int32) ≤ nI (vl_ S.1 y) from nI_le (a := 20000) (by omega) (by omega)), if_neg (show ¬ vl_ S.1 y < 20000 by omega)]
      unfold f_X9_meet_J53
      rw [if_neg (show ¬ (20000 : Int32) ≤ nI (vl_ S.1 x) from nI_ge (b := 20000) (by omega) (by omega)), ey, sub0, st_nI (by omega) (by omega), Option.bind_some]
      refine ⟨_, rfl, ⟨?_, Or.inl ⟨rfl, f0⟩⟩, fr_pA (by decide)⟩
      rw [show 20000 + b - 20000 = b by omega]
      exact rs_set hR.1 hb' eb ux
  · rw [if_pos (show (20000 : Int32) ≤ nI (vl_ S.1 x) from nI_le (a := 20000) (by omega) (by omega)), if_neg (show ¬ vl_ S.1 x < 20000 by omega)]
    unfold f_X9_meet_J53
    rw [if_pos (show (20000 : Int32) ≤ nI (vl_ S.1 x) from nI_le (a := 20000) (by omega) (by omega))]
    rcases vk_vl hk hy with uy | ⟨b, hb', ey, eb⟩
    · rw [if_neg (show ¬ (20000 : Int32) ≤ nI (vl_ S.1 y) from nI_ge (b := 20000) (by omega) (by omega)), if_pos (show vl_ S.1 y < 20000 by omega), ex, sub0, st_nI (by omega) (by omega), Option.bind_some]
      refine ⟨_, rfl, ⟨?_, Or.inl ⟨rfl, f0⟩⟩, fr_pA (by decide)⟩
      rw [show 20000 + a - 20000 = a by omega]
      exact rs_set hR.1 ha ea uy
    · rw [if_pos (show (20000 : Int32) ≤ nI (vl_ S.1 y) from nI_le (a := 20000) (by omega) (by omega)), if_neg (show ¬ vl_ S.1 y < 20000 by omega), ex, ey, sub0, sub0, m_alike o ha hb', Option.bind_some]
      refine ⟨_, rfl, ⟨?_, Or.inl ⟨rfl, f0⟩⟩, fr_pA (by decide)⟩
      rw [show max (20000 + a) (20000 + b) - 20000 = max a b by omega, show min (20000 + a) (20000 + b) = 20000 + min a b by omega]
      exact rs_al hR.1 ha hb' ea eb
theorem x_meet {v : Ob_T} {S : Sv_} (hR : Rsv_ v S) (hS : S.2 = []) {nd by_ ax x y : Nat} (hb : nd < 2 ^ 31 ∧ by_ < 2 ^ 31 ∧ ax < 2 ^ 31) (hx : e_ok x) (hy : e_ok y) : ∃ v', f_X5_meet v (nI x) (nI y) (nI nd) (nI by_) (nI ax) = some v' ∧ Rsv_ v' (mt_ S nd by_ ax x y) ∧ Fr_ [2, 3, 5] v v' := by
  have hk := rs_vk hR.1
  have f0 : ∀ k, k < 5 → o_A v 5 k = -1 := by
    rcases hR.2 with ⟨-, a⟩ | a
    · exact a
    · exact absurd hS (rf_ne a)
  have sub0 : ∀ r, nI (20000 + r) - 20000 = nI r := fun r => (pk_sub (b := 20000) (by omega)).trans (congrArg nI (by omega))
  unfold f_X5_meet mt_
  rw [if_pos hS, x_value hR.1 hx, Option.bind_some, x_value hR.1 hy, Option.bind_some]
  rcases vk_vl hk hx with ux | ⟨a, ha, ex, ea⟩
  · rw [if_neg (show ¬ (20000 : Int32) ≤ nI (vl_ S.1 x) from nI_ge (b := 20000) (by omega) (by omega)), if_pos (show vl_ S.1 x < 20000 by omega)]
    rcases vk_vl hk hy with uy | ⟨b, hb', ey, eb⟩
    · rw [if_neg (show ¬ (20000 : Int32) ≤ nI (vl_ S.1 y) from nI_ge (b := 20000) (by omega) (by omega)), if_pos (show vl_ S.1 y < 20000 by omega)]
      by_cases he : vl_ S.1 x = vl_ S.1 y
      · rw [if_pos (by rw [he]), if_pos he]
        exact ⟨v, rfl, hR, fr_rf _ _⟩
      · rw [if_neg (fun z => he ((nI_eq (by omega) (by omega)).mp z)), if_neg he, x_fail, Option.bind_some]
        refine ⟨_, rfl, ⟨hR.1, Or.inr ?_⟩, fr_pA (by decide)⟩
        exact fl5_rf ⟨hb.1, hb.2.1, hb.2.2, by omega, by omega⟩
    · rw [if_pos (show (20000 : Int32) ≤ nI (vl_ S.1 y) from nI_le (a := 20000) (by omega) (by omega)), if_neg (show ¬ vl_ S.1 y < 20000 by omega)]
      unfold f_X5_meet_J53
      rw [if_neg (show ¬ (20000 : Int32) ≤ nI (vl_ S.1 x) from nI_ge (b := 20000) (by omega) (by omega)), ey, sub0, st_nI (by omega) (by omega), Option.bind_some]
      refine ⟨_, rfl, ⟨?_, Or.inl ⟨rfl, f0⟩⟩, fr_pA (by decide)⟩
      rw [show 20000 + b - 20000 = b by omega]
      exact rs_set hR.1 hb' eb ux
  · rw [if_pos (show (20000 : Int32) ≤ nI (vl_ S.1 x) from nI_le (a := 20000) (by omega) (by omega)), if_neg (show ¬ vl_ S.1 x < 20000 by omega)]
    unfold f_X5_meet_J53
    rw [if_pos (show (20000 : Int32) ≤ nI (vl_ S.1 x) from nI_le (a := 20000) (by omega) (by omega))]
    rcases vk_vl hk hy with uy | ⟨b, hb', ey, eb⟩
    · rw [if_neg (show ¬ (20000 : Int32) ≤ nI (vl_ S.1 y) from nI_ge (b := 20000) (by omega) (by omega)), if_pos (show vl_ S.1 y < 20000 by omega), ex, sub0, st_nI (by omega) (by omega), Option.bind_some]
      refine ⟨_, rfl, ⟨?_, Or.inl ⟨rfl, f0⟩⟩, fr_pA (by decide)⟩
      rw [show 20000 + a - 20000 = a by omega]
      exact rs_set hR.1 ha ea uy
    · rw [if_pos (show (20000 : Int32) ≤ nI (vl_ S.1 y) from nI_le (a := 20000) (by omega) (by omega)), if_neg (show ¬ vl_ S.1 y < 20000 by omega), ex, ey]
      have e1 : (if nI (20000 + b) < nI (20000 + a) then nI (20000 + b) else nI (20000 + a)) - 20000 = nI (min a b) := by
        by_cases z : b < a
        · rw [if_pos (nI_lt (by omega) (by omega)), sub0, show min a b = b by omega]
        · rw [if_neg (nI_nlt (by omega) (by omega)), sub0, show min a b = a by omega]
      have e2 : (if nI (20000 + a) < nI (20000 + b) then nI (20000 + b) else nI (20000 + a)) - 20000 = nI (max a b) := by
        by_cases z : a < b
        · rw [if_pos (nI_lt (by omega) (by omega)), sub0, show max a b = b by omega]
        · rw [if_neg (nI_nlt (by omega) (by omega)), sub0, show max a b = a by omega]
      rw [e1, e2, x_alike, Option.bind_some]
      refine ⟨_, rfl, ⟨?_, Or.inl ⟨rfl, f0⟩⟩, fr_pA (by decide)⟩
      rw [show max (20000 + a) (20000 + b) - 20000 = max a b by omega, show min (20000 + a) (20000 + b) = 20000 + min a b by omega]
      exact rs_al hR.1 ha hb' ea eb
