theorem sB_add (g : Nat → Nat) (a : Nat) : ∀ (b : Nat), sB_ g (a + b) = sB_ g a + sB_ (fun j => g (a + j)) b
  | 0 => rfl
  | b + 1 => by
    show sB_ g (a + b) + g (a + b) = sB_ g a + (sB_ (fun j => g (a + j)) b + g (a + b))
    rw [sB_add g a b]; omega
theorem fd_add (g : Nat → Nat) (a : Nat) : ∀ (b : Nat), fd_ g (a + b) = if sB_ g a = 0 ∧ ¬ sB_ (fun j => g (a + j)) b = 0 then a + fd_ (fun j => g (a + j)) b else fd_ g a
  | 0 => by rw [if_neg (fun z => z.2 rfl)]; rfl
  | b + 1 => by
    show (if sB_ g (a + b) = 0 ∧ ¬ g (a + b) = 0 then a + b else fd_ g (a + b)) = if sB_ g a = 0 ∧ ¬ (sB_ (fun j => g (a + j)) b + g (a + b)) = 0 then a + (if sB_ (fun j => g (a + j)) b = 0 ∧ ¬ g (a + b) = 0 then b else fd_ (fun j => g (a + j)) b) else fd_ g a
    rw [fd_add g a b, sB_add g a b]
    by_cases h1 : sB_ g a = 0
    · by_cases h2 : sB_ (fun j => g (a + j)) b = 0
      · by_cases h3 : g (a + b) = 0
        · rw [if_neg (fun z => z.2 h3), if_neg (fun z => z.2 h2), if_neg (fun z => z.2 (by omega))]
        · rw [if_pos ⟨by omega, h3⟩, if_pos ⟨h1, by omega⟩, if_pos ⟨h2, h3⟩]
      · rw [if_neg (fun z => h2 (by omega)), if_pos ⟨h1, h2⟩, if_pos ⟨h1, by omega⟩, if_neg (fun z => h2 z.1)]
    · rw [if_neg (fun z => h1 (by omega)), if_neg (fun z => h1 z.1), if_neg (fun z => h1 z.1)]
theorem sB_cg {g h : Nat → Nat} : ∀ (n : Nat), (∀ d, d < n → g d = h d) → sB_ g n = sB_ h n ∧ fd_ g n = fd_ h n
  | 0, _ => ⟨rfl, rfl⟩
  | n + 1, e => by
    obtain ⟨a, b⟩ := sB_cg n (fun d hd => e d (by omega))
    have e1 := e n (by omega)
    refine ⟨?_, ?_⟩
    · show sB_ g n + g n = sB_ h n + h n
      rw [a, e1]
    · show (if sB_ g n = 0 ∧ ¬ g n = 0 then n else fd_ g n) = if sB_ h n = 0 ∧ ¬ h n = 0 then n else fd_ h n
      rw [a, b, e1]
theorem fd_lt {g : Nat → Nat} : ∀ (n : Nat), ¬ sB_ g n = 0 → fd_ g n < n ∧ ¬ g (fd_ g n) = 0
  | 0, h => absurd rfl h
  | n + 1, h => by
    have h : ¬ sB_ g n + g n = 0 := h
    show (if sB_ g n = 0 ∧ ¬ g n = 0 then n else fd_ g n) < n + 1 ∧ ¬ g (if sB_ g n = 0 ∧ ¬ g n = 0 then n else fd_ g n) = 0
    by_cases c : sB_ g n = 0 ∧ ¬ g n = 0
    · rw [if_pos c]; exact ⟨by omega, c.2⟩
    · rw [if_neg c]
      have := fd_lt (g := g) n (fun z => c ⟨z, by omega⟩)
      exact ⟨by omega, this.2⟩
/-- a row of blocks, each of M -/
theorem sB_blk (F : Nat → Nat → Nat) {M : Nat} (hM : 0 < M) : ∀ (n : Nat), sB_ (fun w => F (w / M) (w % M)) (n * M) = sB_ (fun d => sB_ (F d) M) n ∧ (¬ sB_ (fun d => sB_ (F d) M) n = 0 → fd_ (fun w => F (w / M) (w % M)) (n * M) = fd_ (fun d => sB_ (F d) M) n * M + fd_ (F (fd_ (fun d => sB_ (F d) M) n)) M)
  | 0 => ⟨by rw [Nat.zero_mul]; rfl, fun z => absurd rfl z⟩
  | n + 1 => by
    obtain ⟨a, b⟩ := sB_blk F hM n
    have e : ∀ j, j < M → (fun j => (fun w => F (w / M) (w % M)) (n * M + j)) j = F n j := by
      intro j hj
      show F ((n * M + j) / M) ((n * M + j) % M) = F n j
      rw [show (n * M + j) / M = n from by rw [Nat.mul_comm n M, Nat.mul_add_div hM, Nat.div_eq_of_lt hj, Nat.add_zero], show (n * M + j) % M = j from by rw [Nat.mul_comm n M, Nat.mul_add_mod, Nat.mod_eq_of_lt hj]]
    obtain ⟨c1, c2⟩ := sB_cg M e
    have es : sB_ (fun d => sB_ (F d) M) (n + 1) = sB_ (fun d => sB_ (F d) M) n + sB_ (F n) M := rfl
    have ef : fd_ (fun d => sB_ (F d) M) (n + 1) = if sB_ (fun d => sB_ (F d) M) n = 0 ∧ ¬ sB_ (F n) M = 0 then n else fd_ (fun d => sB_ (F d) M) n := rfl
    rw [Nat.succ_mul]
    refine ⟨by rw [sB_add, a, c1, es], fun hz => ?_⟩
    rw [fd_add, a, c1, c2, ef]
    by_cases q : sB_ (fun d => sB_ (F d) M) n = 0 ∧ ¬ sB_ (F n) M = 0
    · rw [if_pos q, if_pos q]
    · rw [if_neg q, if_neg q]
      rw [es] at hz
      exact b (fun z => q ⟨z, by omega⟩)
/-- how many ways there could be, from letter 4 - m on -/
def Mw_ (op : Nat → Bool) : Nat → Nat
  | 0 => 1
  | m + 1 => if op (3 - m) = true then 10 * Mw_ op m else Mw_ op m
theorem Mw_pos (op : Nat → Bool) : ∀ m, 0 < Mw_ op m ∧ Mw_ op m ≤ 10 ^ m
  | 0 => ⟨by show 0 < 1; omega, by show 1 ≤ 1; omega⟩
  | m + 1 => by
    obtain ⟨a, b⟩ := Mw_pos op m
    have pw : 10 ^ (m + 1) = 10 * 10 ^ m := by rw [Nat.pow_succ, Nat.mul_comm]
    show 0 < (if op (3 - m) = true then 10 * Mw_ op m else Mw_ op m) ∧ (if op (3 - m) = true then 10 * Mw_ op m else Mw_ op m) ≤ 10 ^ (m + 1)
    by_cases c : op (3 - m) = true
    · rw [if_pos c]; omega
    · rw [if_neg c]; omega
/-- the choice of a way by its number -/
def pu_ (op : Nat → Bool) : Nat → (Nat → Int32) → Nat → (Nat → Int32)
  | 0, c, _ => c
  | m + 1, c, w => if op (3 - m) = true then pu_ op m (upd c (3 - m) (nI (w / Mw_ op m))) (w % Mw_ op m) else pu_ op m c w
theorem cn_pu (ok : (Nat → Int32) → Nat) (op : Nat → Bool) : ∀ (m : Nat) (c : Nat → Int32), sB_ (fun w => ok (pu_ op m c w)) (Mw_ op m) = cnA_ ok op m c ∧ (¬ cnA_ ok op m c = 0 → pu_ op m c (fd_ (fun w => ok (pu_ op m c w)) (Mw_ op m)) = fwA_ ok op m c)
  | 0, c => ⟨Nat.zero_add _, fun _ => rfl⟩
  | m + 1, c => by
    obtain ⟨Mp, -⟩ := Mw_pos op m
    by_cases q : op (3 - m) = true
    · have eM : Mw_ op (m + 1) = 10 * Mw_ op m := by show (if _ then _ else _) = _; rw [if_pos q]
      have ec : cnA_ ok op (m + 1) c = sB_ (fun d => cnA_ ok op m (upd c (3 - m) (nI d))) 10 := by show (if _ then _ else _) = _; rw [if_pos q]
      have ef : fwA_ ok op (m + 1) c = fwA_ ok op m (upd c (3 - m) (nI (fd_ (fun d => cnA_ ok op m (upd c (3 - m) (nI d))) 10))) := by show (if _ then _ else _) = _; rw [if_pos q]
      have eg : (fun w => ok (pu_ op (m + 1) c w)) = fun w => (fun d r => ok (pu_ op m (upd c (3 - m) (nI d)) r)) (w / Mw_ op m) (w % Mw_ op m) := by
        funext w
        show ok (if op (3 - m) = true then _ else _) = _
        rw [if_pos q]
      obtain ⟨a, b⟩ := sB_blk (fun d r => ok (pu_ op m (upd c (3 - m) (nI d)) r)) Mp 10
      have eb : (fun d => sB_ ((fun d r => ok (pu_ op m (upd c (3 - m) (nI d)) r)) d) (Mw_ op m)) = fun d => cnA_ ok op m (upd c (3 - m) (nI d)) := by
        funext d
        exact (cn_pu ok op m (upd c (3 - m) (nI d))).1
      rw [eb] at a b
      rw [eM, ec, ef, eg, a]
      refine ⟨rfl, fun hz => ?_⟩
      rw [b hz]
      obtain ⟨f1, f2⟩ := fd_lt 10 hz
      obtain ⟨g1, g2⟩ := cn_pu ok op m (upd c (3 - m) (nI (fd_ (fun d => cnA_ ok op m (upd c (3 - m) (nI d))) 10)))
      have hlt := (fd_lt (g := fun r => ok (pu_ op m (upd c (3 - m) (nI (fd_ (fun d => cnA_ ok op m (upd c (3 - m) (nI d))) 10))) r)) (Mw_ op m) (by rw [g1]; exact f2)).1
      show (if op (3 - m) = true then _ else _) = _
      rw [if_pos q, show (fd_ (fun d => cnA_ ok op m (upd c (3 - m) (nI d))) 10 * Mw_ op m + fd_ (fun r => ok (pu_ op m (upd c (3 - m) (nI (fd_ (fun d => cnA_ ok op m (upd c (3 - m) (nI d))) 10))) r)) (Mw_ op m)) / Mw_ op m = fd_ (fun d => cnA_ ok op m (upd c (3 - m) (nI d))) 10 from by rw [Nat.mul_comm, Nat.mul_add_div Mp, Nat.div_eq_of_lt hlt, Nat.add_zero], show (fd_ (fun d => cnA_ ok op m (upd c (3 - m) (nI d))) 10 * Mw_ op m + fd_ (fun r => ok (pu_ op m (upd c (3 - m) (nI (fd_ (fun d => cnA_ ok op m (upd c (3 - m) (nI d))) 10))) r)) (Mw_ op m)) % Mw_ op m = fd_ (fun r => ok (pu_ op m (upd c (3 - m) (nI (fd_ (fun d => cnA_ ok op m (upd c (3 - m) (nI d))) 10))) r)) (Mw_ op m) from by rw [Nat.mul_comm, Nat.mul_add_mod, Nat.mod_eq_of_lt hlt]]
      exact g2 f2
    · have eM : Mw_ op (m + 1) = Mw_ op m := by show (if _ then _ else _) = _; rw [if_neg q]
      have ec : cnA_ ok op (m + 1) c = cnA_ ok op m c := by show (if _ then _ else _) = _; rw [if_neg q]
      have ef : fwA_ ok op (m + 1) c = fwA_ ok op m c := by show (if _ then _ else _) = _; rw [if_neg q]
      have eg : ∀ w, pu_ op (m + 1) c w = pu_ op m c w := fun w => by show (if _ then _ else _) = _; rw [if_neg q]
      have eg2 : (fun w => ok (pu_ op (m + 1) c w)) = fun w => ok (pu_ op m c w) := funext (fun w => by rw [eg])
      rw [eM, ec, ef, eg2, eg]
      exact cn_pu ok op m c
/-- what is left of a way's number behind so many letters from the last -/
def rsq_ (op : Nat → Bool) (w : Nat) : Nat → Nat
  | 0 => w
  | k + 1 => if op (3 - k) = true then rsq_ op w k / 10 else rsq_ op w k
/-- the reference's choice of a way -/
def cw_ (op : Nat → Bool) (w : Nat) : Nat → Int32 := fun l => if op l = true then nI (rsq_ op w (3 - l) % 10) else -1
theorem rsq_le (op : Nat → Bool) (w : Nat) : ∀ k, rsq_ op w k ≤ w
  | 0 => Nat.le_refl _
  | k + 1 => by
    have := rsq_le op w k
    show (if op (3 - k) = true then rsq_ op w k / 10 else rsq_ op w k) ≤ w
    by_cases c : op (3 - k) = true
    · rw [if_pos c]; omega
    · rw [if_neg c]; exact this
theorem pu_cw (op : Nat → Bool) {w : Nat} (hw : w < Mw_ op 4) : ∀ l, l < 4 → pu_ op 4 c0_ w l = cw_ op w l := by
  intro l hl
  have m1 : Mw_ op 1 = if op 3 = true then 10 * 1 else 1 := rfl
  have m2 : Mw_ op 2 = if op 2 = true then 10 * Mw_ op 1 else Mw_ op 1 := rfl
  have m3 : Mw_ op 3 = if op 1 = true then 10 * Mw_ op 2 else Mw_ op 2 := rfl
  have m4 : Mw_ op 4 = if op 0 = true then 10 * Mw_ op 3 else Mw_ op 3 := rfl
  have p1 : ∀ c w, pu_ op 1 c w = if op 3 = true then upd c 3 (nI (w / 1)) else c := fun c w => rfl
  have p2 : ∀ c w, pu_ op 2 c w = if op 2 = true then pu_ op 1 (upd c 2 (nI (w / Mw_ op 1))) (w % Mw_ op 1) else pu_ op 1 c w := fun c w => rfl
  have p3 : ∀ c w, pu_ op 3 c w = if op 1 = true then pu_ op 2 (upd c 1 (nI (w / Mw_ op 2))) (w % Mw_ op 2) else pu_ op 2 c w := fun c w => rfl
  have p4 : ∀ c w, pu_ op 4 c w = if op 0 = true then pu_ op 3 (upd c 0 (nI (w / Mw_ op 3))) (w % Mw_ op 3) else pu_ op 3 c w := fun c w => rfl
  have r0 : rsq_ op w 0 = w := rfl
  have r1 : rsq_ op w 1 = if op 3 = true then w / 10 else w := rfl
  have r2 : rsq_ op w 2 = if op 2 = true then rsq_ op w 1 / 10 else rsq_ op w 1 := rfl
  have r3 : rsq_ op w 3 = if op 1 = true then rsq_ op w 2 / 10 else rsq_ op w 2 := rfl
  have c0 : ∀ j, c0_ j = -1 := fun _ => rfl
  unfold cw_
  cases h0 : op 0 <;> cases h1 : op 1 <;> cases h2 : op 2 <;> cases h3 : op 3 <;>
    simp only [h0, h1, h2, h3, if_true, if_false, Bool.false_eq_true] at m1 m2 m3 m4 p1 p2 p3 p4 r1 r2 r3 <;>
    simp only [m1, m2, m3, m4] at hw p2 p3 p4 <;>
    (rcases (show l = 0 ∨ l = 1 ∨ l = 2 ∨ l = 3 by omega) with rfl | rfl | rfl | rfl) <;>
    first
      | (simp [p4, p3, p2, p1, updE, c0, h0, h1, h2, h3, r0, r1, r2, r3]; done)
      | (simp [p4, p3, p2, p1, updE, c0, h0, h1, h2, h3, r0, r1, r2, r3]; exact congrArg nI (by omega))
theorem okc_cg {P : Pg_} {V : Nat → Nat} {c c' : Nat → Int32} (h : ∀ l, l < 4 → c l = c' l) : okc_ P V c = okc_ P V c' := by
  have e : (fun l => sg_ c (V l)) = fun l => sg_ c' (V l) := by
    funext l
    unfold sg_
    by_cases z : 20000 ≤ V l ∧ V l < 20004
    · rw [h (V l - 20000) (by omega)]
    · rw [if_neg (fun w => z ⟨w.1, w.2.1⟩), if_neg (fun w => z ⟨w.1, w.2.1⟩)]
  unfold okc_
  rw [e]
