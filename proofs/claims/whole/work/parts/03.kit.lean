/-- the words that a call takes along: all of the tables that last -/
def WL_ : List Cond := lw_tbl.filter goodWord
theorem wl_in {w : Cond} (h : w ∈ lw_tbl) (hg : goodWord w = true) : w ∈ WL_ := List.mem_filter.mpr ⟨h, hg⟩
theorem tj_0 {w : Cond} (h : w ∈ tables_1) : w ∈ lw_tbl := List.mem_append_right _ h
theorem tj_1 {w : Cond} (h : w ∈ tables_1_1) : w ∈ lw_tbl := tj_0 (List.mem_append_left _ h)
theorem tj_2 {w : Cond} (h : w ∈ tables_1_2) : w ∈ lw_tbl := tj_0 (List.mem_append_right _ (List.mem_append_left _ h))
theorem tj_3 {w : Cond} (h : w ∈ tables_1_3) : w ∈ lw_tbl := tj_0 (List.mem_append_right _ (List.mem_append_right _ (List.mem_append_left _ h)))
theorem tj_4 {w : Cond} (h : w ∈ tables_1_4) : w ∈ lw_tbl := tj_0 (List.mem_append_right _ (List.mem_append_right _ (List.mem_append_right _ (List.mem_append_left _ h))))
theorem tj_5 {w : Cond} (h : w ∈ tables_1_5) : w ∈ lw_tbl := tj_0 (List.mem_append_right _ (List.mem_append_right _ (List.mem_append_right _ (List.mem_append_right _ (List.mem_append_left _ h)))))
theorem tj_6 {w : Cond} (h : w ∈ tables_1_6) : w ∈ lw_tbl := tj_0 (List.mem_append_right _ (List.mem_append_right _ (List.mem_append_right _ (List.mem_append_right _ (List.mem_append_right _ (List.mem_append_left _ h))))))
theorem tj_7 {w : Cond} (h : w ∈ tables_1_7) : w ∈ lw_tbl := tj_0 (List.mem_append_right _ (List.mem_append_right _ (List.mem_append_right _ (List.mem_append_right _ (List.mem_append_right _ (List.mem_append_right _ h))))))
theorem k_iw {l : List Cond} (h : (l.all fun w => decide (w ∈ lw_tbl) && goodWord w) = true) : ∀ w ∈ l, w ∈ WL_ := fun w hw => by
  have h1 := List.all_eq_true.mp h w hw
  rw [Bool.and_eq_true] at h1
  exact wl_in (of_decide_eq_true h1.1) h1.2
theorem wl_good {w : Cond} (h : w ∈ WL_) : (w.onTables && w.keeps) = true ∨ ∃ ty, w = .arrayClass ty := good_of_word (List.mem_filter.mp h).2
theorem gg_ {l : List Cond} (h : ∀ w ∈ l, w ∈ WL_) : GoodIn WL_ l := fun w hw => ⟨h w hw, wl_good (h w hw)⟩
theorem gv_ {own C : String} {idx n : Nat} {y : MethodName} {b : ByteArray} {ret : Option FieldType} (h1 : Cond.methodLink own idx y ∈ WL_) (h2 : Cond.instanceMethod y ∈ WL_) (h3 : Cond.selects C y y ∈ WL_) (h4 : Cond.initialized C ∈ WL_) (h5 : Cond.code y b n ret ∈ WL_) : GoodIn WL_ (wsV own idx C y (.code y b n ret :: WL_)) := by
  refine gg_ (fun w hw => ?_)
  rcases List.mem_append.mp hw with h | h
  · rcases List.mem_cons.mp h with rfl | h
    · exact h1
    · rcases List.mem_cons.mp h with rfl | h
      · exact h2
      · rcases List.mem_cons.mp h with rfl | h
        · exact h3
        · rcases List.mem_cons.mp h with rfl | h
          · exact h4
          · cases h
  · rcases List.mem_cons.mp h with rfl | h
    · exact h5
    · exact h
theorem gs_ {own : String} {idx n : Nat} {y : MethodName} {b : ByteArray} {ret : Option FieldType} (h1 : Cond.methodLink own idx y ∈ WL_) (h2 : Cond.static y ∈ WL_) (h4 : Cond.initialized y.cls ∈ WL_) (h5 : Cond.code y b n ret ∈ WL_) : GoodIn WL_ (va_wsS own idx y (.code y b n ret :: WL_)) := by
  refine gg_ (fun w hw => ?_)
  rcases List.mem_append.mp hw with h | h
  · rcases List.mem_cons.mp h with rfl | h
    · exact h1
    · rcases List.mem_cons.mp h with rfl | h
      · exact h2
      · rcases List.mem_cons.mp h with rfl | h
        · exact h4
        · cases h
  · rcases List.mem_cons.mp h with rfl | h
    · exact h5
    · exact h
/-! what an object holds: ints by field, int arrays by field, long arrays by field -/
abbrev Ob_T : Type := (Nat → Int32) × (Nat → Nat → Int32) × (Nat → Nat → Int64)
def o_F (s : Ob_T) (k : Nat) : Int32 := s.1 k
def o_A (s : Ob_T) (k : Nat) : Nat → Int32 := s.2.1 k
def o_L (s : Ob_T) (k : Nat) : Nat → Int64 := s.2.2 k
def p_F (s : Ob_T) (k : Nat) (v : Int32) : Ob_T := (fun j => if j = k then v else s.1 j, s.2.1, s.2.2)
def p_A (s : Ob_T) (k : Nat) (f : Nat → Int32) : Ob_T := (s.1, fun j => if j = k then f else s.2.1 j, s.2.2)
def p_L (s : Ob_T) (k : Nat) (f : Nat → Int64) : Ob_T := (s.1, s.2.1, fun j => if j = k then f else s.2.2 j)
def ob_0 : Ob_T := (fun _ => 0, fun _ _ => 0, fun _ _ => 0)
/-! the words of the pure programs -/
def Lt_ {α β : Type} (e : α) (k : α → β) : β := k e
def ld_I (f : Nat → Int32) (n : Nat) (i : Int32) : Option Int32 := if i < 0 ∨ n ≤ i.toNatClampNeg then none else some (f i.toNatClampNeg)
def ld_J (f : Nat → Int64) (n : Nat) (i : Int32) : Option Int64 := if i < 0 ∨ n ≤ i.toNatClampNeg then none else some (f i.toNatClampNeg)
def st_A (s : Ob_T) (k n : Nat) (i x : Int32) : Option Ob_T := if i < 0 ∨ n ≤ i.toNatClampNeg then none else some (p_A s k (upd (o_A s k) i.toNatClampNeg x))
def st_L (s : Ob_T) (k n : Nat) (i : Int32) (x : Int64) : Option Ob_T := if i < 0 ∨ n ≤ i.toNatClampNeg then none else some (p_L s k (vp_updL (o_L s k) i.toNatClampNeg x))
def zb_ (v : Int32) : Option Int32 := if v = 0 ∨ v = 1 then some v else none
def cp_I (f g : Nat → Int32) (n0 n1 : Nat) (sp dp n : Int32) : Option (Nat → Int32) := if sp < 0 ∨ dp < 0 ∨ n < 0 ∨ n0 < sp.toNatClampNeg + n.toNatClampNeg ∨ n1 < dp.toNatClampNeg + n.toNatClampNeg then none else some (va_cpy f g sp.toNatClampNeg dp.toNatClampNeg n.toNatClampNeg)
def Lp_ {σ ω : Type} (body : (σ → Option ω) → σ → Option ω) : Nat → σ → Option ω
  | 0, _ => none
  | n + 1, x => body (Lp_ body n) x
def FU_ : Nat := 20000
theorem Lp_ok {σ ω : Type} {body : (σ → Option ω) → σ → Option ω} {out : ω} (P : σ → Prop) (hs : ∀ (rec : σ → Option ω), (∀ y, rec y = some out → P y) → ∀ x, body rec x = some out → P x) : ∀ n x, Lp_ body n x = some out → P x
  | 0, _, h => by cases h
  | n + 1, x, h => hs (Lp_ body n) (fun y hy => Lp_ok P hs n y hy) x h
theorem k_bl {a b : Nat} (h : a ≤ b) : Nat.ble a b = true := Nat.ble_eq_true_of_le h
theorem k_bd {α β : Type} {o : Option α} {K : α → Option β} {out : β} (h : o.bind K = some out) : ∃ u, o = some u ∧ K u = some out := by
  cases o with
  | none => cases h
  | some u => exact ⟨u, rfl, h⟩
theorem k_t {c : Prop} [Decidable c] {α : Type} {a b : α} {o : α} (hc : c) (h : (if c then a else b) = o) : a = o := by rwa [if_pos hc] at h
theorem k_f {c : Prop} [Decidable c] {α : Type} {a b : α} {o : α} (hc : ¬ c) (h : (if c then a else b) = o) : b = o := by rwa [if_neg hc] at h
theorem k_lt {α β : Type} {x e : α} {K : α → β} {o : β} (ex : x = e) (h : Lt_ e K = o) : K x = o := by subst ex; exact h
theorem k_ldI {f : Nat → Int32} {n : Nat} {i : Int32} {v : Int32} (h : ld_I f n i = some v) : vp_in i n ∧ f i.toNatClampNeg = v := by
  unfold ld_I at h
  by_cases hc : i < 0 ∨ n ≤ i.toNatClampNeg
  · rw [if_pos hc] at h; cases h
  · rw [if_neg hc] at h; exact ⟨hc, Option.some.inj h⟩
theorem k_ldJ {f : Nat → Int64} {n : Nat} {i : Int32} {v : Int64} (h : ld_J f n i = some v) : vp_in i n ∧ f i.toNatClampNeg = v := by
  unfold ld_J at h
  by_cases hc : i < 0 ∨ n ≤ i.toNatClampNeg
  · rw [if_pos hc] at h; cases h
  · rw [if_neg hc] at h; exact ⟨hc, Option.some.inj h⟩
theorem k_stA {s s1 : Ob_T} {k n : Nat} {i x : Int32} (h : st_A s k n i x = some s1) : vp_in i n ∧ p_A s k (upd (o_A s k) i.toNatClampNeg x) = s1 := by
  unfold st_A at h
  by_cases hc : i < 0 ∨ n ≤ i.toNatClampNeg
  · rw [if_pos hc] at h; cases h
  · rw [if_neg hc] at h; exact ⟨hc, Option.some.inj h⟩
theorem k_stL {s s1 : Ob_T} {k n : Nat} {i : Int32} {x : Int64} (h : st_L s k n i x = some s1) : vp_in i n ∧ p_L s k (vp_updL (o_L s k) i.toNatClampNeg x) = s1 := by
  unfold st_L at h
  by_cases hc : i < 0 ∨ n ≤ i.toNatClampNeg
  · rw [if_pos hc] at h; cases h
  · rw [if_neg hc] at h; exact ⟨hc, Option.some.inj h⟩
theorem k_zb {v w : Int32} (h : zb_ v = some w) : v = w ∧ narrow .boolean (.int v) = .int v ∧ fits .boolean (.int v) = true := by
  unfold zb_ at h
  by_cases hc : v = 0 ∨ v = 1
  · rw [if_pos hc] at h
    refine ⟨Option.some.inj h, ?_⟩
    rcases hc with rfl | rfl <;> exact ⟨rfl, rfl⟩
  · rw [if_neg hc] at h; cases h
/-! the machine's side -/
abbrev ty_all (aC : Nat → ClassId) : List (ClassId × FieldType) := [(aC 0, .int), (aC 1, .boolean), (aC 2, .long), (aC 3, .char)]
def K_X (p : Program) (s : State) (m : MethodId) (args : Array Value) (meth : Method) (c : Code) (cc : ByteArray) (nL : Nat) (Ts : List Cond) (own : String) (D : va_G) (aC : Nat → ClassId) (A : Nat → Prop) : Prop :=
  p.tables.exec = Jvm.exec ∧ c.code = cc ∧ c.maxLocals = nL ∧ s.vm.findClass own = some m.cls ∧ (∀ w ∈ Ts, w.before args s = true) ∧ va_K D vwCl (ty_all aC) s ∧ (∀ q, s.heap.size ≤ q → A q) ∧ meth.locks = false
def K_S (D : va_G) (A : Nat → Prop) (s : State) (w : va_W) (H : Heap) (locs : List Loc) : Prop := va_P D vwCl w H ∧ va_D A w ∧ va_S A s.heap H locs
def C_in (D : va_G) (aC : Nat → ClassId) (w : va_W) (sz : Nat) (U : State) : Prop := U.heap.size = sz ∧ va_P D vwCl w U.heap ∧ va_K D vwCl (ty_all aC) U ∧ va_D (fun _ => True) w
def Q_W (v : Option Value) (D : va_G) (A : Nat → Prop) (w1 : va_W) : Array Value → State → Outcome → State → Prop := fun _ st oc t => oc = .returned v ∧ va_P D vwCl w1 t.heap ∧ va_F A st t
def Q_R (v : Option Value) : Array Value → State → Outcome → State → Prop := fun _ st oc t => oc = .returned v ∧ t.heap = st.heap
abbrev R_m (fr lc : Nat) : Room := { frames := fr, cells := 0, slots := 0, locals := lc }
def M_W (l : Launch) (y : MethodName) (ws : List Cond) (fr lc : Nat) (D : va_G) (aC : Nat → ClassId) (av : List Value) (w0 : va_W) (v : Option Value) (w1 : va_W) : Prop := ∀ sz : Nat, Met l y ws (R_m fr lc) (va_Pc av (C_in D aC w0 sz)) (Q_W v D (va_A w0 sz) w1) 0 0 (va_A w0 sz)
def M_R (l : Launch) (y : MethodName) (ws : List Cond) (fr lc : Nat) (D : va_G) (aC : Nat → ClassId) (av : List Value) (w0 : va_W) (v : Option Value) : Prop := ∀ sz : Nat, Met l y ws (R_m fr lc) (va_Pc av (C_in D aC w0 sz)) (Q_R v) 0 0 (fun _ => False)
/-- a world's cells put in place of others, at places -/
def mg_ (w : va_W) : List Nat → va_W → va_W
  | i :: is, x :: xs => mg_ (w.set i x) is xs
  | _, _ => w
theorem d_addr {A : Nat → Prop} {w w' : va_W} (hD : va_D A w) (he : w'.map (·.1) = w.map (·.1)) : va_D A w' := by
  have key : ∀ (k : Nat) (q : Nat × va_E), w'[k]? = some q → ∃ q0, w[k]? = some q0 ∧ q0.1 = q.1 := by
    intro k q hk
    have h1 : (w'.map (·.1))[k]? = some q.1 := by rw [List.getElem?_map, hk]; rfl
    rw [he, List.getElem?_map] at h1
    cases hw : w[k]? with
    | none => rw [hw] at h1; cases h1
    | some q0 => rw [hw] at h1; exact ⟨q0, rfl, Option.some.inj h1⟩
  refine ⟨fun i j x y hi hj hxy => ?_, fun k q hk => ?_⟩
  · obtain ⟨x0, h1, h2⟩ := key i x hi
    obtain ⟨y0, h3, h4⟩ := key j y hj
    exact hD.1 i j x0 y0 h1 h3 (h2.trans (hxy.trans h4.symm))
  · obtain ⟨q0, h1, h2⟩ := key k q hk
    rw [← h2]
    exact hD.2 k q0 h1
theorem mg_spec : ∀ (is : List Nat) (xs w : va_W) (k : Nat) (q : Nat × va_E), (mg_ w is xs)[k]? = some q → q ∈ xs ∨ (w[k]? = some q ∧ (is.length = xs.length → k ∉ is)) 
  | [], xs, w, k, q, h => by
    have h : w[k]? = some q := by cases xs <;> exact h
    exact Or.inr ⟨h, fun _ => by simp⟩
  | i :: is, [], w, k, q, h => Or.inr ⟨h, fun hl => by simp at hl⟩
  | i :: is, x :: xs, w, k, q, h => by
    rcases mg_spec is xs (w.set i x) k q h with h1 | ⟨h1, h2⟩
    · exact Or.inl (List.mem_cons_of_mem _ h1)
    · by_cases hki : k = i
      · subst hki
        by_cases hl : k < w.length
        · rw [List.getElem?_set_self hl] at h1
          cases h1
          exact Or.inl List.mem_cons_self
        · have : (w.set k x)[k]? = none := by simp; omega
          rw [this] at h1; cases h1
      · rw [List.getElem?_set_ne (Ne.symm hki)] at h1
        refine Or.inr ⟨h1, fun hl => ?_⟩
        intro hm
        rcases List.mem_cons.mp hm with e | e
        · exact hki e
        · exact h2 (by simpa using hl) e
/-- behind a call: what the callee's cells are now, in their places; all else as it was -/
theorem k_join {A : Nat → Prop} {D : va_G} {w0 wc w1 w' : va_W} {H H1 : Heap} (hP : va_P D vwCl w0 H) (hD : va_D A w0) (isC : List Nat) (hC : isC.map (fun i => w0[i]?) = wc.map some) (hm : mg_ w0 isC w1 = w') (hl : isC.length = w1.length) (he : w'.map (·.1) = w0.map (·.1))
    (hk : ∀ q : Nat, q < H.size → ¬ va_A wc H.size q → H1[q]? = H[q]?) (hP1 : va_P D vwCl w1 H1) : va_P D vwCl w' H1 ∧ va_D A w' := by
  refine ⟨fun k q hq => ?_, d_addr hD he⟩
  rw [← hm] at hq
  rcases mg_spec isC w1 w0 k q hq with h1 | ⟨h1, h2⟩
  · obtain ⟨j, hj⟩ := List.getElem?_of_mem h1
    exact hP1 j q hj
  · have hlt := (hP k q h1).lt
    refine (hP k q h1).kept (hk q.1 hlt (fun hA => ?_))
    rcases hA with ⟨k2, e, h3⟩ | h3
    · have h4 : (isC.map (fun i => w0[i]?))[k2]? = some (some (q.1, e)) := by rw [hC, List.getElem?_map, h3]; rfl
      rw [List.getElem?_map] at h4
      cases hi : isC[k2]? with
      | none => rw [hi] at h4; cases h4
      | some i =>
        rw [hi] at h4
        have h5 : w0[i]? = some (q.1, e) := Option.some.inj h4
        have h6 := hD.1 k i q (q.1, e) h1 h5 rfl
        subst h6
        exact h2 hl (List.mem_of_getElem? hi)
    · omega
theorem k_blind {av : List Value} {D : va_G} {aC : Nat → ClassId} {w0 : va_W} {sz : Nat} : FrameBlind (va_Pc av (C_in D aC w0 sz)) := by
  intro a U g mk q
  obtain ⟨q0, q1, qP, qK, qD⟩ := q
  exact ⟨q0, q1, qP, va_K.moved (u := U) (U := U.calling g mk a) (Vm.Alike.refl U.vm) qK, qD⟩
section KIT
variable {p : Program} {l : Launch} {e : Env} {R : Room} {s : State} {m : MethodId} {args : Array Value} {below : List Frame} {meth : Method} {c : Code} {H : Heap} {locs : List Loc} {cells slots : Nat} {Q : State → Prop} {cc : ByteArray} {nL : Nat} {Ts : List Cond} {own : String} {D : va_G} {aC : Nat → ClassId} {A : Nat → Prop} {pc : Nat} {ls : Array Slot} {rest st0 : List Value} {ω : Type} {out : ω} {ws : va_W} {a : Nat}
theorem k_get (hX : K_X p s m args meth c cc nL Ts own D aC A) (hP : va_P D vwCl ws H) (q0 ci : Nat) {fs : List Value} (he : ws[q0]? = some (a, .inr (ci, fs))) {C : String} {T : u_T} {N index : Nat} (hc : vwCl[ci]? = some (C, T, N)) (hin : ∀ w ∈ u_ws C T N, w ∈ Ts) (k : Nat) (hk : Nat.ble (k + 1) N = true) (hlink : Cond.fieldLink own index (T k).1 (T k).2.1 (T k).2.2.1 ∈ Ts) {v : Value} (hv : fs[k]? = some v) (hdg : decode cc pc = .ok (.getfield index, 3))
    (kk : W p l e R s m args below meth c H locs cells slots Q (F0 m (pc + 3) ls (v :: rest))) : W p l e R s m args below meth c H locs cells slots Q (F0 m pc ls (.ref a :: rest)) :=
  va_get hX.1 hX.2.1 hX.2.2.2.2.1 hin hX.2.2.2.1 hX.2.2.2.2.2.1 hP q0 he hc k (Nat.le_of_ble_eq_true hk) (hX.2.2.2.2.1 _ hlink) (fun _ h9 => h9) hv hdg kk
theorem k_put {wf : Ob_T → va_W} {o : Ob_T} {v : Int32} {K : Ob_T → Option ω} (hX : K_X p s m args meth c cc nL Ts own D aC A) (hZ : K_S D A s (wf o) H locs) (q0 ci : Nat) {fs : List Value} (he : (wf o)[q0]? = some (a, .inr (ci, fs))) {C : String} {T : u_T} {N index : Nat} (hc : vwCl[ci]? = some (C, T, N)) (hin : ∀ w ∈ u_ws C T N, w ∈ Ts) (ty0 : Nat → FieldType) (hty : ∀ k, k < N → parseFieldDescriptor (T k).2.2.1 = some (ty0 k)) (hnm : ∀ a, a < N → ∀ b, b < N → a ≠ b → (T a).2.1 ≠ (T b).2.1) (k : Nat) (hk : Nat.ble (k + 1) N = true) (hlink : Cond.fieldLink own index (T k).1 (T k).2.1 (T k).2.2.1 ∈ Ts) (hfin : (T k).2.2.2 = false) (hn : narrow (ty0 k) (.int v) = .int v) (hfit : fits (ty0 k) (.int v) = true) (hl : Nat.ble (k + 1) fs.length = true) (hset : (wf o).set q0 (a, .inr (ci, fs.set k (.int v))) = wf (p_F o k v)) (h : Lt_ (p_F o k v) K = some out) (hdg : decode cc pc = .ok (.putfield index, 3))
    (kk : ∀ (o1 : Ob_T) (H1 : Heap) (locs1 : List Loc), K_S D A s (wf o1) H1 locs1 → K o1 = some out → W p l e R s m args below meth c H1 locs1 cells slots Q (F0 m (pc + 3) ls rest)) : W p l e R s m args below meth c H locs cells slots Q (F0 m pc ls (.int v :: .ref a :: rest)) := by
  refine va_put hX.1 hX.2.1 hX.2.2.2.2.1 hin ty0 hty hnm hX.2.2.2.1 hX.2.2.2.2.2.1 hZ.1 hZ.2.1 hZ.2.2 q0 he hc k (Nat.le_of_ble_eq_true hk) (hX.2.2.2.2.1 _ hlink) (fun _ h9 => h9) hfin (hty k (Nat.le_of_ble_eq_true hk)) hn hfit (Nat.le_of_ble_eq_true hl) hdg (fun H1 locs1 hP hD hS => ?_)
  rw [hset] at hP hD
  exact kk _ H1 locs1 ⟨hP, hD, hS⟩ h
theorem k_iald {K : Int32 → Option ω} (hX : K_X p s m args meth c cc nL Ts own D aC A) (hP : va_P D vwCl ws H) (q0 : Nat) {n : Nat} {f : Nat → Int32} {i : Int32} (ha : ws[q0]? = some (a, .inl (aC 0, n, .inl f))) (h : (ld_I f n i).bind K = some out) (hdg : decode cc pc = .ok (.iaload, 1))
    (kk : ∀ v : Int32, K v = some out → W p l e R s m args below meth c H locs cells slots Q (F0 m (pc + 1) ls (.int v :: rest))) : W p l e R s m args below meth c H locs cells slots Q (F0 m pc ls (.int i :: .ref a :: rest)) := by
  obtain ⟨v, hv, h⟩ := k_bd h
  obtain ⟨hin, rfl⟩ := k_ldI hv
  exact va_iald hX.1 hX.2.1 hX.2.2.2.2.2.1 hP q0 0 ha rfl hin hdg (kk _ h)
theorem k_zald {K : Int32 → Option ω} (hX : K_X p s m args meth c cc nL Ts own D aC A) (hP : va_P D vwCl ws H) (q0 : Nat) {n : Nat} {f : Nat → Int32} {i : Int32} (ha : ws[q0]? = some (a, .inl (aC 1, n, .inl f))) (h : (ld_I f n i).bind K = some out) (hdg : decode cc pc = .ok (.baload, 1))
    (kk : ∀ v : Int32, K v = some out → W p l e R s m args below meth c H locs cells slots Q (F0 m (pc + 1) ls (.int v :: rest))) : W p l e R s m args below meth c H locs cells slots Q (F0 m pc ls (.int i :: .ref a :: rest)) := by
  obtain ⟨v, hv, h⟩ := k_bd h
  obtain ⟨hin, rfl⟩ := k_ldI hv
  exact va_zald hX.1 hX.2.1 hX.2.2.2.2.2.1 hP q0 1 ha rfl hin hdg (kk _ h)
theorem k_cald {K : Int32 → Option ω} (hX : K_X p s m args meth c cc nL Ts own D aC A) (hP : va_P D vwCl ws H) (q0 : Nat) {n : Nat} {f : Nat → Int32} {i : Int32} (ha : ws[q0]? = some (a, .inl (aC 3, n, .inl f))) (h : (ld_I f n i).bind K = some out) (hdg : decode cc pc = .ok (.caload, 1))
    (kk : ∀ v : Int32, K v = some out → W p l e R s m args below meth c H locs cells slots Q (F0 m (pc + 1) ls (.int v :: rest))) : W p l e R s m args below meth c H locs cells slots Q (F0 m pc ls (.int i :: .ref a :: rest)) := by
  obtain ⟨v, hv, h⟩ := k_bd h
  obtain ⟨hin, rfl⟩ := k_ldI hv
  exact va_cald hX.1 hX.2.1 hX.2.2.2.2.2.1 hP q0 3 ha rfl hin hdg (kk _ h)
theorem k_lald {K : Int64 → Option ω} (hX : K_X p s m args meth c cc nL Ts own D aC A) (hP : va_P D vwCl ws H) (q0 : Nat) {n : Nat} {f : Nat → Int64} {i : Int32} (ha : ws[q0]? = some (a, .inl (aC 2, n, .inr (.inl f)))) (h : (ld_J f n i).bind K = some out) (hdg : decode cc pc = .ok (.laload, 1))
    (kk : ∀ v : Int64, K v = some out → W p l e R s m args below meth c H locs cells slots Q (F0 m (pc + 1) ls (.long v :: rest))) : W p l e R s m args below meth c H locs cells slots Q (F0 m pc ls (.int i :: .ref a :: rest)) := by
  obtain ⟨v, hv, h⟩ := k_bd h
  obtain ⟨hin, rfl⟩ := k_ldJ hv
  exact va_lald hX.1 hX.2.1 hX.2.2.2.2.2.1 hP q0 2 ha rfl hin hdg (kk _ h)
theorem k_iast {wf : Ob_T → va_W} {o : Ob_T} {K : Ob_T → Option ω} (hX : K_X p s m args meth c cc nL Ts own D aC A) (hZ : K_S D A s (wf o) H locs) (q0 k : Nat) {n : Nat} {i x : Int32} (ha : (wf o)[q0]? = some (a, .inl (aC 0, n, .inl (o_A o k)))) (hset : ∀ g, (wf o).set q0 (a, .inl (aC 0, n, .inl g)) = wf (p_A o k g)) (h : (st_A o k n i x).bind K = some out) (hdg : decode cc pc = .ok (.iastore, 1))
    (kk : ∀ (o1 : Ob_T) (H1 : Heap) (locs1 : List Loc), K_S D A s (wf o1) H1 locs1 → K o1 = some out → W p l e R s m args below meth c H1 locs1 cells slots Q (F0 m (pc + 1) ls rest)) : W p l e R s m args below meth c H locs cells slots Q (F0 m pc ls (.int x :: .int i :: .ref a :: rest)) := by
  obtain ⟨o1, ho, h⟩ := k_bd h
  obtain ⟨hin, rfl⟩ := k_stA ho
  refine va_iast hX.1 hX.2.1 hX.2.2.2.2.2.1 hZ.1 hZ.2.1 hZ.2.2 q0 0 ha rfl hin hdg (fun H1 locs1 hP hD hS => ?_)
  rw [hset] at hP hD
  exact kk _ H1 locs1 ⟨hP, hD, hS⟩ h
theorem k_zast {wf : Ob_T → va_W} {o : Ob_T} {K : Ob_T → Option ω} (hX : K_X p s m args meth c cc nL Ts own D aC A) (hZ : K_S D A s (wf o) H locs) (q0 k : Nat) {n : Nat} {i x : Int32} (ha : (wf o)[q0]? = some (a, .inl (aC 1, n, .inl (o_A o k)))) (hset : ∀ g, (wf o).set q0 (a, .inl (aC 1, n, .inl g)) = wf (p_A o k g)) (h : (st_A o k n i (vp_nar .boolean x)).bind K = some out) (hdg : decode cc pc = .ok (.bastore, 1))
    (kk : ∀ (o1 : Ob_T) (H1 : Heap) (locs1 : List Loc), K_S D A s (wf o1) H1 locs1 → K o1 = some out → W p l e R s m args below meth c H1 locs1 cells slots Q (F0 m (pc + 1) ls rest)) : W p l e R s m args below meth c H locs cells slots Q (F0 m pc ls (.int x :: .int i :: .ref a :: rest)) := by
  obtain ⟨o1, ho, h⟩ := k_bd h
  obtain ⟨hin, rfl⟩ := k_stA ho
  refine va_zast hX.1 hX.2.1 hX.2.2.2.2.2.1 hZ.1 hZ.2.1 hZ.2.2 q0 1 ha rfl hin hdg (fun H1 locs1 hP hD hS => ?_)
  rw [hset] at hP hD
  exact kk _ H1 locs1 ⟨hP, hD, hS⟩ h
theorem k_cast {wf : Ob_T → va_W} {o : Ob_T} {K : Ob_T → Option ω} (hX : K_X p s m args meth c cc nL Ts own D aC A) (hZ : K_S D A s (wf o) H locs) (q0 k : Nat) {n : Nat} {i x : Int32} (ha : (wf o)[q0]? = some (a, .inl (aC 3, n, .inl (o_A o k)))) (hset : ∀ g, (wf o).set q0 (a, .inl (aC 3, n, .inl g)) = wf (p_A o k g)) (h : (st_A o k n i (vp_nar .char x)).bind K = some out) (hdg : decode cc pc = .ok (.castore, 1))
    (kk : ∀ (o1 : Ob_T) (H1 : Heap) (locs1 : List Loc), K_S D A s (wf o1) H1 locs1 → K o1 = some out → W p l e R s m args below meth c H1 locs1 cells slots Q (F0 m (pc + 1) ls rest)) : W p l e R s m args below meth c H locs cells slots Q (F0 m pc ls (.int x :: .int i :: .ref a :: rest)) := by
  obtain ⟨o1, ho, h⟩ := k_bd h
  obtain ⟨hin, rfl⟩ := k_stA ho
  refine va_cast hX.1 hX.2.1 hX.2.2.2.2.2.1 hZ.1 hZ.2.1 hZ.2.2 q0 3 ha rfl hin hdg (fun H1 locs1 hP hD hS => ?_)
  rw [hset] at hP hD
  exact kk _ H1 locs1 ⟨hP, hD, hS⟩ h
theorem k_last {wf : Ob_T → va_W} {o : Ob_T} {K : Ob_T → Option ω} (hX : K_X p s m args meth c cc nL Ts own D aC A) (hZ : K_S D A s (wf o) H locs) (q0 k : Nat) {n : Nat} {i : Int32} {x : Int64} (ha : (wf o)[q0]? = some (a, .inl (aC 2, n, .inr (.inl (o_L o k))))) (hset : ∀ g, (wf o).set q0 (a, .inl (aC 2, n, .inr (.inl g))) = wf (p_L o k g)) (h : (st_L o k n i x).bind K = some out) (hdg : decode cc pc = .ok (.lastore, 1))
    (kk : ∀ (o1 : Ob_T) (H1 : Heap) (locs1 : List Loc), K_S D A s (wf o1) H1 locs1 → K o1 = some out → W p l e R s m args below meth c H1 locs1 cells slots Q (F0 m (pc + 1) ls rest)) : W p l e R s m args below meth c H locs cells slots Q (F0 m pc ls (.long x :: .int i :: .ref a :: rest)) := by
  obtain ⟨o1, ho, h⟩ := k_bd h
  obtain ⟨hin, rfl⟩ := k_stL ho
  refine va_last hX.1 hX.2.1 hX.2.2.2.2.2.1 hZ.1 hZ.2.1 hZ.2.2 q0 2 ha rfl hin hdg (fun H1 locs1 hP hD hS => ?_)
  rw [hset] at hP hD
  exact kk _ H1 locs1 ⟨hP, hD, hS⟩ h
theorem k_sw {x v : Int32} (cx : x = v) (kk : W p l e R s m args below meth c H locs cells slots Q (F0 m pc ls (.int v :: rest))) : W p l e R s m args below meth c H locs cells slots Q (F0 m pc ls (.int x :: rest)) := by
  rw [cx]; exact kk
theorem k_ne {x v : Int32} (hc : ¬ x = v) (n : Int) (hv : v.toInt = n) : x.toInt ≠ n := by
  intro h
  exact hc (Int32.toInt_inj.mp (h.trans hv.symm))
theorem k_cpI {f g w : Nat → Int32} {n0 n1 : Nat} {sp dp n : Int32} (h : cp_I f g n0 n1 sp dp n = some w) : ¬ sp < 0 ∧ ¬ dp < 0 ∧ ¬ n < 0 ∧ sp.toNatClampNeg + n.toNatClampNeg ≤ n0 ∧ dp.toNatClampNeg + n.toNatClampNeg ≤ n1 ∧ va_cpy f g sp.toNatClampNeg dp.toNatClampNeg n.toNatClampNeg = w := by
  unfold cp_I at h
  by_cases hc : sp < 0 ∨ dp < 0 ∨ n < 0 ∨ n0 < sp.toNatClampNeg + n.toNatClampNeg ∨ n1 < dp.toNatClampNeg + n.toNatClampNeg
  · rw [if_pos hc] at h; cases h
  · rw [if_neg hc] at h
    have h1 : ¬ sp < 0 := fun z => hc (Or.inl z)
    have h2 : ¬ dp < 0 := fun z => hc (Or.inr (Or.inl z))
    have h3 : ¬ n < 0 := fun z => hc (Or.inr (Or.inr (Or.inl z)))
    have h4 : ¬ n0 < sp.toNatClampNeg + n.toNatClampNeg := fun z => hc (Or.inr (Or.inr (Or.inr (Or.inl z))))
    have h5 : ¬ n1 < dp.toNatClampNeg + n.toNatClampNeg := fun z => hc (Or.inr (Or.inr (Or.inr (Or.inr z))))
    exact ⟨h1, h2, h3, Nat.le_of_not_lt h4, Nat.le_of_not_lt h5, Option.some.inj h⟩
theorem k_copy {wf : Ob_T → va_W} {o : Ob_T} {K : Ob_T → Option ω} (hX : K_X p s m args meth c cc nL Ts own D aC A) (hsz : ls.size = nL) (hZ : K_S D A s (wf o) H locs) (q0 q1 k : Nat) {a0 n0 n1 index : Nat} {f : Nat → Int32} (ha0 : (wf o)[q0]? = some (a0, .inl (aC 0, n0, .inl f))) (ha1 : (wf o)[q1]? = some (a, .inl (aC 0, n1, .inl (o_A o k)))) (hset : ∀ g, (wf o).set q1 (a, .inl (aC 0, n1, .inl g)) = wf (p_A o k g))
    (hlink : (Cond.methodLink own index arraycopyName).before args s = true) (hnat : (Cond.native arraycopyName).before args s = true) (hstat : (Cond.static arraycopyName).before args s = true) (hini : (Cond.initialized "java/lang/System").before args s = true) (hfr : Nat.ble 1 R.frames = true) (hlo : Nat.ble ((rest.map fun v => v.category).sum + (nativeFrameWords "java/lang/System" "arraycopy" 5 + 11)) R.locals = true) {sp dp n : Int32} (h : (cp_I f (o_A o k) n0 n1 sp dp n).bind (fun w => Lt_ (p_A o k w) K) = some out) (hdg : decode cc pc = .ok (.invokestatic index, 3))
    (kk : ∀ (o1 : Ob_T) (H1 : Heap) (locs1 : List Loc), K_S D A s (wf o1) H1 locs1 → K o1 = some out → W p l e R s m args below meth c H1 locs1 cells slots Q (F0 m (pc + 3) ls rest)) : W p l e R s m args below meth c H locs cells slots Q (F0 m pc ls (.int n :: .int dp :: .ref a :: .int sp :: .ref a0 :: rest)) := by
  obtain ⟨w, hw, h⟩ := k_bd h
  obtain ⟨h1, h2, h3, h4, h5, rfl⟩ := k_cpI hw
  refine va_copyi hX.1 hX.2.1 (hX.2.2.1.trans hsz.symm) hX.2.2.2.1 hlink hnat hstat hini hX.2.2.2.2.2.1 hZ.1 hZ.2.1 hZ.2.2 q0 q1 0 0 ha0 ha1 rfl rfl rfl h1 h2 h3 h4 h5 (fun _ _ => rfl) (Nat.le_of_ble_eq_true hfr) (Nat.le_of_ble_eq_true hlo) hdg (fun H1 locs1 hP hD hS => ?_)
  rw [hset] at hP hD
  exact kk _ H1 locs1 ⟨hP, hD, hS⟩ h
theorem k_aretR {rt : FieldType} {v : Nat} (hX : K_X p s m args meth c cc nL Ts own D aC A) (hr : meth.sig.returnType = some rt) (hrt : (∃ n, rt = .object n) ∨ ∃ t, rt = .array t) (hF : ∀ q ∈ locs, False) (hdg : decode cc pc = .ok (.areturn, 1)) : W p l e R s m args below meth c s.heap locs 0 0 (MQ below (Q_R (some (.ref v))) args s 0 0 (fun _ => False)) (F0 m pc ls [.ref v]) :=
  W.aret hX.1 hX.2.1 hr hrt (Or.inr ⟨v, rfl⟩) (fun t ht _ => ⟨rfl, ht⟩) (fun q hq => hF q hq) hdg hX.2.2.2.2.2.2.2
/-! the start and the end of a method -/
theorem k_entW {y : MethodName} {wl : List Cond} {fr lc maxL : Nat} {av : List Value} {w0 w1 : va_W} {v : Option Value} {ret : Option FieldType} (hy : plainName y.cls = true) (hw : wl = Cond.code y cc maxL ret :: WL_) (hlen : Nat.ble (lg_sl av).length maxL = true) (hcl : y.cls = own)
    (body : ∀ (p : Program) (e : Env) (s : State) (m : MethodId) (below : List Frame) (meth : Method) (c : Code) (A : Nat → Prop) (ls : Array Slot), K_X p s m av.toArray meth c cc maxL WL_ own D aC A → meth.sig.returnType = ret → K_S D A s w0 s.heap [] → lv_has ls maxL (lv_args 0 av) → W p l e (R_m fr lc) s m av.toArray below meth c s.heap [] 0 0 (MQ below (Q_W v D A w1) av.toArray s 0 0 A) (F0 m 0 ls [])) : M_W l y wl fr lc D aC av w0 v w1 := by
  intro sz
  refine Met.ofW hy hw ?_
  intro p e s m args below meth c s₁ B hml hv
  obtain ⟨rfl, hsz, hP, hK, hD0⟩ := hv
  subst hsz
  subst hcl
  have hw0 := hw
  have hts0 := atoms_spec (ws := wl) B.pre
  have hts : ∀ w ∈ WL_, w.before _ s = true := fun w hw => hts0 w (by rw [hw0]; exact List.mem_cons_of_mem _ hw)
  rw [lg_entry_eq]
  exact body p e s m below meth c _ _ ⟨B.exec, B.bytes, hml, findClass_of_methodNamed B.named, hts, hK, fun q h => Or.inr h, B.notSynchronized⟩ B.returns ⟨hP, hD0.self, va_S.rf⟩ (lv_entry av (Nat.le_of_ble_eq_true hlen))
theorem k_entR {y : MethodName} {wl : List Cond} {fr lc maxL : Nat} {av : List Value} {w0 : va_W} {v : Option Value} {ret : Option FieldType} (hy : plainName y.cls = true) (hw : wl = Cond.code y cc maxL ret :: WL_) (hlen : Nat.ble (lg_sl av).length maxL = true) (hcl : y.cls = own)
    (body : ∀ (p : Program) (e : Env) (s : State) (m : MethodId) (below : List Frame) (meth : Method) (c : Code) (A : Nat → Prop) (ls : Array Slot), K_X p s m av.toArray meth c cc maxL WL_ own D aC A → meth.sig.returnType = ret → (va_P D vwCl w0 s.heap ∧ va_D (fun _ => True) w0) → lv_has ls maxL (lv_args 0 av) → W p l e (R_m fr lc) s m av.toArray below meth c s.heap [] 0 0 (MQ below (Q_R v) av.toArray s 0 0 (fun _ => False)) (F0 m 0 ls [])) : M_R l y wl fr lc D aC av w0 v := by
  intro sz
  refine Met.ofW hy hw ?_
  intro p e s m args below meth c s₁ B hml hv
  obtain ⟨rfl, hsz, hP, hK, hD0⟩ := hv
  subst hsz
  subst hcl
  have hw0 := hw
  have hts0 := atoms_spec (ws := wl) B.pre
  have hts : ∀ w ∈ WL_, w.before _ s = true := fun w hw => hts0 w (by rw [hw0]; exact List.mem_cons_of_mem _ hw)
  rw [lg_entry_eq]
  exact body p e s m below meth c (fun q => s.heap.size ≤ q) _ ⟨B.exec, B.bytes, hml, findClass_of_methodNamed B.named, hts, hK, fun q h => h, B.notSynchronized⟩ B.returns ⟨hP, hD0⟩ (lv_entry av (Nat.le_of_ble_eq_true hlen))
theorem k_iretW {w1 : va_W} {v : Int32} (hX : K_X p s m args meth c cc nL Ts own D aC A) (hr : meth.sig.returnType = some .int) (hZ : K_S D A s w1 H locs) (hdg : decode cc pc = .ok (.ireturn, 1)) : W p l e R s m args below meth c H locs 0 0 (MQ below (Q_W (some (.int v)) D A w1) args s 0 0 A) (F0 m pc ls [.int v]) :=
  W.iret hX.1 hX.2.1 hr (fun t ht _ => ⟨rfl, by rw [ht]; exact hZ.1, hZ.2.2.F ht⟩) hZ.2.2.2.2 hdg hX.2.2.2.2.2.2.2
theorem k_zretW {w1 : va_W} {v : Int32} (hX : K_X p s m args meth c cc nL Ts own D aC A) (hr : meth.sig.returnType = some .boolean) (hn : narrow .boolean (.int v) = .int v) (hZ : K_S D A s w1 H locs) (hdg : decode cc pc = .ok (.ireturn, 1)) : W p l e R s m args below meth c H locs 0 0 (MQ below (Q_W (some (.int v)) D A w1) args s 0 0 A) (F0 m pc ls [.int v]) :=
  W.zret hX.1 hX.2.1 hr hn (fun t ht _ => ⟨rfl, by rw [ht]; exact hZ.1, hZ.2.2.F ht⟩) hZ.2.2.2.2 hdg hX.2.2.2.2.2.2.2
theorem k_lretW {w1 : va_W} {v : Int64} (hX : K_X p s m args meth c cc nL Ts own D aC A) (hr : meth.sig.returnType = some .long) (hZ : K_S D A s w1 H locs) (hdg : decode cc pc = .ok (.lreturn, 1)) : W p l e R s m args below meth c H locs 0 0 (MQ below (Q_W (some (.long v)) D A w1) args s 0 0 A) (F0 m pc ls [.long v]) :=
  W.lret hX.1 hX.2.1 hr (fun t ht _ => ⟨rfl, by rw [ht]; exact hZ.1, hZ.2.2.F ht⟩) hZ.2.2.2.2 hdg hX.2.2.2.2.2.2.2
theorem k_vretW {w1 : va_W} (hX : K_X p s m args meth c cc nL Ts own D aC A) (hr : meth.sig.returnType = none) (hZ : K_S D A s w1 H locs) (hdg : decode cc pc = .ok (.return_, 1)) : W p l e R s m args below meth c H locs 0 0 (MQ below (Q_W none D A w1) args s 0 0 A) (F0 m pc ls []) :=
  W.vret hX.1 hX.2.1 hr (fun t ht _ => ⟨rfl, by rw [ht]; exact hZ.1, hZ.2.2.F ht⟩) hZ.2.2.2.2 hdg hX.2.2.2.2.2.2.2
theorem k_iretR {v : Int32} (hX : K_X p s m args meth c cc nL Ts own D aC A) (hr : meth.sig.returnType = some .int) (hF : ∀ q ∈ locs, False) (hdg : decode cc pc = .ok (.ireturn, 1)) : W p l e R s m args below meth c s.heap locs 0 0 (MQ below (Q_R (some (.int v))) args s 0 0 (fun _ => False)) (F0 m pc ls [.int v]) :=
  W.iret hX.1 hX.2.1 hr (fun t ht _ => ⟨rfl, ht⟩) (fun q hq => hF q hq) hdg hX.2.2.2.2.2.2.2
theorem k_zretR {v : Int32} (hX : K_X p s m args meth c cc nL Ts own D aC A) (hr : meth.sig.returnType = some .boolean) (hn : narrow .boolean (.int v) = .int v) (hF : ∀ q ∈ locs, False) (hdg : decode cc pc = .ok (.ireturn, 1)) : W p l e R s m args below meth c s.heap locs 0 0 (MQ below (Q_R (some (.int v))) args s 0 0 (fun _ => False)) (F0 m pc ls [.int v]) :=
  W.zret hX.1 hX.2.1 hr hn (fun t ht _ => ⟨rfl, ht⟩) (fun q hq => hF q hq) hdg hX.2.2.2.2.2.2.2
theorem k_lretR {v : Int64} (hX : K_X p s m args meth c cc nL Ts own D aC A) (hr : meth.sig.returnType = some .long) (hF : ∀ q ∈ locs, False) (hdg : decode cc pc = .ok (.lreturn, 1)) : W p l e R s m args below meth c s.heap locs 0 0 (MQ below (Q_R (some (.long v))) args s 0 0 (fun _ => False)) (F0 m pc ls [.long v]) :=
  W.lret hX.1 hX.2.1 hr (fun t ht _ => ⟨rfl, ht⟩) (fun q hq => hF q hq) hdg hX.2.2.2.2.2.2.2
theorem k_vretR (hX : K_X p s m args meth c cc nL Ts own D aC A) (hr : meth.sig.returnType = none) (hF : ∀ q ∈ locs, False) (hdg : decode cc pc = .ok (.return_, 1)) : W p l e R s m args below meth c s.heap locs 0 0 (MQ below (Q_R none) args s 0 0 (fun _ => False)) (F0 m pc ls []) :=
  W.vret hX.1 hX.2.1 hr (fun t ht _ => ⟨rfl, ht⟩) (fun q hq => hF q hq) hdg hX.2.2.2.2.2.2.2
/-! calls -/
theorem k_go {Qa : State → Outcome → State → Prop} {free : Addr → Prop} (hr : va_Run p l e R s m args below meth c H locs cells slots 0 0 (F0 m pc ls st0) rest Qa free)
    (kk : ∀ (v : Option Value) (st t : State) (L : List Loc), st.heap = H → (∀ q ∈ L, free q.base) → Qa st (.returned v) t → W p l e R s m args below meth c t.heap (locs ++ L) cells slots Q (F0 m (pc + 3) ls (v.toList ++ rest))) : W p l e R s m args below meth c H locs cells slots Q (F0 m pc ls st0) := by
  intro T hT X
  obtain ⟨v, st₀, t, T', L, h0, X', hL, e1, e2, hq, st⟩ := hr T hT X
  obtain ⟨t2, a1, b1⟩ := kk v st₀ t L h0 hL hq T' e1 X'
  exact ⟨t2, st t2 a1, b1⟩
theorem k_cW {v : Option Value} {w0 wc w1 w' : va_W} {a : Array Value} (hr : va_Run p l e R s m args below meth c H locs cells slots 0 0 (F0 m pc ls st0) rest (Q_W v D (va_A wc H.size) w1 a) (va_A wc H.size)) (hX : K_X p s m args meth c cc nL Ts own D aC A) (hZ : K_S D A s w0 H locs) (isC : List Nat) (hC : isC.map (fun i => w0[i]?) = wc.map some) (hm : mg_ w0 isC w1 = w') (hl : isC.length = w1.length) (he : w'.map (·.1) = w0.map (·.1))
    (kk : ∀ (H1 : Heap) (locs1 : List Loc), K_S D A s w' H1 locs1 → W p l e R s m args below meth c H1 locs1 cells slots Q (F0 m (pc + 3) ls (v.toList ++ rest))) : W p l e R s m args below meth c H locs cells slots Q (F0 m pc ls st0) := by
  obtain ⟨hP, hD, hS⟩ := hZ
  have hF := va_free hD hS hX.2.2.2.2.2.2.1 isC hC
  refine k_go hr (fun v' st t L hst hL hq => ?_)
  obtain ⟨hv, hP1, hz, hk⟩ := hq
  cases hv
  rw [hst] at hz hk
  obtain ⟨hP', hD'⟩ := k_join hP hD isC hC hm hl he hk hP1
  refine kk _ _ ⟨hP', hD', Nat.le_trans hS.1 hz, fun q h1 h2 => ?_, fun q hq => ?_⟩
  · rw [hk q (Nat.lt_of_lt_of_le h1 hS.1) (fun z => h2 (hF q z))]
    exact hS.2.1 q h1 h2
  · rcases List.mem_append.mp hq with h | h
    · exact hS.2.2 q h
    · exact hF _ (hL q h)
theorem k_cR {v : Option Value} {w0 : va_W} {a : Array Value} (hr : va_Run p l e R s m args below meth c H locs cells slots 0 0 (F0 m pc ls st0) rest (Q_R v a) (fun _ => False)) (hZ : K_S D A s w0 H locs)
    (kk : ∀ (locs1 : List Loc), K_S D A s w0 H locs1 → W p l e R s m args below meth c H locs1 cells slots Q (F0 m (pc + 3) ls (v.toList ++ rest))) : W p l e R s m args below meth c H locs cells slots Q (F0 m pc ls st0) := by
  obtain ⟨hP, hD, hS⟩ := hZ
  refine k_go hr (fun v' st t L hst hL hq => ?_)
  obtain ⟨hv, ht⟩ := hq
  cases hv
  rw [ht, hst]
  refine kk _ ⟨hP, hD, hS.1, hS.2.1, fun q hq => ?_⟩
  rcases List.mem_append.mp hq with h | h
  · exact hS.2.2 q h
  · exact (hL q h).elim
theorem k_cRR {v : Option Value} {a : Array Value} (hr : va_Run p l e R s m args below meth c H locs cells slots 0 0 (F0 m pc ls st0) rest (Q_R v a) (fun _ => False)) (hF : ∀ q ∈ locs, False)
    (kk : ∀ (locs1 : List Loc), (∀ q ∈ locs1, False) → W p l e R s m args below meth c H locs1 cells slots Q (F0 m (pc + 3) ls (v.toList ++ rest))) : W p l e R s m args below meth c H locs cells slots Q (F0 m pc ls st0) := by
  refine k_go hr (fun v' st t L hst hL hq => ?_)
  obtain ⟨hv, ht⟩ := hq
  cases hv
  rw [ht, hst]
  refine kk _ (fun q hq => ?_)
  rcases List.mem_append.mp hq with h | h
  · exact hF q h
  · exact (hL q h).elim
variable {y : MethodName} {wl wl' : List Cond} {fr lc maxL n index : Nat} {C : String} {bytes : ByteArray} {ret : Option FieldType} {Qc : Nat → Array Value → State → Outcome → State → Prop} {free : Nat → Addr → Prop} {b : Nat} {As : List Value} {wc : va_W}
theorem k_runV (hX : K_X p s m args meth c cc nL Ts own D aC A) (hsz : ls.size = nL) (hM : ∀ sz : Nat, Met l y wl (R_m fr lc) (va_Pc (.ref b :: As) (C_in D aC wc sz)) (Qc sz) 0 0 (free sz)) (hg : GoodIn Ts (wsV own index C y wl)) (hw : wl = Cond.code y bytes maxL ret :: wl') (hd : y.cls = C ∧ y.cls ≠ "java/lang/invoke/MethodHandle" ∧ y.cls ≠ "java/lang/invoke/VarHandle" ∧ (parseMethodDescriptor y.desc).map (fun d => d.parameters.length) = some n) (hR : Nat.ble (fr + 1) R.frames = true ∧ Nat.ble (8 + (maxL + 11) + lc) R.locals = true)
    (ci q0 : Nat) {T : u_T} {N : Nat} {fs : List Value} (hc : vwCl[ci]? = some (C, T, N)) (he : wc[q0]? = some (b, .inr (ci, fs))) (hP : va_P D vwCl wc H) (hD : va_D (fun _ => True) wc) (hn : As.length = n) (hst : st0 = As.reverse ++ .ref b :: rest) (hrm : Nat.ble (rest.map fun v => v.category).sum 8 = true) (hdg : decode cc pc = .ok (.invokevirtual index, 3)) (hf : Nat.ble cells R.cells = true ∧ Nat.ble slots R.slots = true) :
    va_Run p l e R s m args below meth c H locs cells slots 0 0 (F0 m pc ls st0) rest (Qc H.size (Value.ref b :: As).toArray) (free H.size) :=
  va_runV ⟨hX.1, hX.2.1, hX.2.2.1, hX.2.2.2.1, hX.2.2.2.2.1⟩ (hM H.size) (cwV n hX.2.2.2.2.1 hg hw rfl rfl hd ⟨Nat.le_of_ble_eq_true hR.1, Nat.le_of_ble_eq_true hR.2⟩) ⟨k_blind, va_recv hX.2.2.2.2.2.1 hP hc he, fun U hU hW => ⟨rfl, by rw [hU], by rw [hU]; exact hP, va_K.moved hW.alike hX.2.2.2.2.2.1, hD⟩⟩ rfl hn hsz hst (lv_room (Nat.le_of_ble_eq_true hrm)) hdg ⟨Nat.le_of_ble_eq_true hf.1, Nat.le_of_ble_eq_true hf.2⟩
theorem k_runS (hX : K_X p s m args meth c cc nL Ts own D aC A) (hsz : ls.size = nL) (hM : ∀ sz : Nat, Met l y wl (R_m fr lc) (va_Pc As (C_in D aC wc sz)) (Qc sz) 0 0 (free sz)) (hg : GoodIn Ts (va_wsS own index y wl)) (hw : wl = Cond.code y bytes maxL ret :: wl') (hd : y.cls ≠ "java/lang/invoke/MethodHandle" ∧ y.cls ≠ "java/lang/invoke/VarHandle" ∧ (parseMethodDescriptor y.desc).map (fun d => d.parameters.length) = some n) (hR : Nat.ble (fr + 1) R.frames = true ∧ Nat.ble (8 + (maxL + 11) + lc) R.locals = true)
    (hP : va_P D vwCl wc H) (hD : va_D (fun _ => True) wc) (hn : As.length = n) (hst : st0 = As.reverse ++ rest) (hrm : Nat.ble (rest.map fun v => v.category).sum 8 = true) (hdg : decode cc pc = .ok (.invokestatic index, 3)) (hf : Nat.ble cells R.cells = true ∧ Nat.ble slots R.slots = true) :
    va_Run p l e R s m args below meth c H locs cells slots 0 0 (F0 m pc ls st0) rest (Qc H.size As.toArray) (free H.size) :=
  va_runS ⟨hX.1, hX.2.1, hX.2.2.1, hX.2.2.2.1, hX.2.2.2.2.1⟩ (hM H.size) (va_cwS n hX.2.2.2.2.1 hg hw rfl rfl hd ⟨Nat.le_of_ble_eq_true hR.1, Nat.le_of_ble_eq_true hR.2⟩) ⟨k_blind, fun U hU hW => ⟨rfl, by rw [hU], by rw [hU]; exact hP, va_K.moved hW.alike hX.2.2.2.2.2.1, hD⟩⟩ rfl hn hsz hst (lv_room (Nat.le_of_ble_eq_true hrm)) hdg ⟨Nat.le_of_ble_eq_true hf.1, Nat.le_of_ble_eq_true hf.2⟩
end KIT
theorem k_D0 {A : Nat → Prop} {w wc : va_W} (hD : va_D A w) (is : List Nat) (hn : va_nd is = true) (hs : is.map (fun i => w[i]?) = wc.map some) : va_D (fun _ => True) wc := (hD.sub is hn hs).weaken (fun _ _ _ _ => trivial)
theorem k_P0 {D : va_G} {w wc : va_W} {H : Heap} (hP : va_P D vwCl w H) (is : List Nat) (hs : is.map (fun i => w[i]?) = wc.map some) : va_P D vwCl wc H := by
  intro k q hk
  have h1 : (is.map (fun i => w[i]?))[k]? = some (some q) := by rw [hs, List.getElem?_map, hk]; rfl
  rw [List.getElem?_map] at h1
  cases hi : is[k]? with
  | none => rw [hi] at h1; cases h1
  | some i => rw [hi] at h1; exact hP i q (Option.some.inj h1)

section CALLS
variable {cells slots : Nat} {p : Program} {l : Launch} {e : Env} {R : Room} {s : State} {m : MethodId} {args : Array Value} {below : List Frame} {meth : Method} {c : Code} {H : Heap} {locs : List Loc} {Q : State → Prop} {cc : ByteArray} {nL : Nat} {Ts : List Cond} {own : String} {D : va_G} {aC : Nat → ClassId} {A : Nat → Prop} {pc : Nat} {ls : Array Slot} {rest st0 st1 : List Value} {w0 wc w1 w' : va_W} {v : Option Value}
variable {y : MethodName} {wl wl' : List Cond} {fr lc maxL n index : Nat} {C : String} {bytes : ByteArray} {ret : Option FieldType} {b : Nat} {As : List Value} {T : u_T} {N : Nat} {fs : List Value}
theorem k_vR (hX : K_X p s m args meth c cc nL Ts own D aC A) (hsz : ls.size = nL) (hZ : K_S D A s w0 H locs) (hM : M_R l y wl fr lc D aC (.ref b :: As) wc v) (hg : GoodIn Ts (wsV own index C y wl)) (hw : wl = Cond.code y bytes maxL ret :: wl') (hd : y.cls = C ∧ y.cls ≠ "java/lang/invoke/MethodHandle" ∧ y.cls ≠ "java/lang/invoke/VarHandle" ∧ (parseMethodDescriptor y.desc).map (fun d => d.parameters.length) = some n) (hR : Nat.ble (fr + 1) R.frames = true ∧ Nat.ble (8 + (maxL + 11) + lc) R.locals = true) (ci q0 : Nat) (hc : vwCl[ci]? = some (C, T, N)) (he : wc[q0]? = some (b, .inr (ci, fs))) (is : List Nat) (hs : is.map (fun i => w0[i]?) = wc.map some) (hnd : va_nd is = true) (hn : As.length = n) (hst : st0 = As.reverse ++ .ref b :: rest) (hrm : Nat.ble (rest.map fun v => v.category).sum 8 = true) (hdg : decode cc pc = .ok (.invokevirtual index, 3)) (hst1 : v.toList ++ rest = st1) (hf : Nat.ble cells R.cells = true ∧ Nat.ble slots R.slots = true)
    (kk : ∀ locs1 : List Loc, K_S D A s w0 H locs1 → W p l e R s m args below meth c H locs1 cells slots Q (F0 m (pc + 3) ls st1)) : W p l e R s m args below meth c H locs cells slots Q (F0 m pc ls st0) := by
  subst hst1
  exact k_cR (k_runV (Qc := fun _ => Q_R v) (free := fun _ _ => False) hX hsz hM hg hw hd hR ci q0 hc he (k_P0 hZ.1 is hs) (k_D0 hZ.2.1 is hnd hs) hn hst hrm hdg hf) hZ kk
theorem k_vRR (hX : K_X p s m args meth c cc nL Ts own D aC A) (hsz : ls.size = nL) (hZ : va_P D vwCl w0 H ∧ va_D (fun _ => True) w0) (hF : ∀ q ∈ locs, False) (hM : M_R l y wl fr lc D aC (.ref b :: As) wc v) (hg : GoodIn Ts (wsV own index C y wl)) (hw : wl = Cond.code y bytes maxL ret :: wl') (hd : y.cls = C ∧ y.cls ≠ "java/lang/invoke/MethodHandle" ∧ y.cls ≠ "java/lang/invoke/VarHandle" ∧ (parseMethodDescriptor y.desc).map (fun d => d.parameters.length) = some n) (hR : Nat.ble (fr + 1) R.frames = true ∧ Nat.ble (8 + (maxL + 11) + lc) R.locals = true) (ci q0 : Nat) (hc : vwCl[ci]? = some (C, T, N)) (he : wc[q0]? = some (b, .inr (ci, fs))) (is : List Nat) (hs : is.map (fun i => w0[i]?) = wc.map some) (hnd : va_nd is = true) (hn : As.length = n) (hst : st0 = As.reverse ++ .ref b :: rest) (hrm : Nat.ble (rest.map fun v => v.category).sum 8 = true) (hdg : decode cc pc = .ok (.invokevirtual index, 3)) (hst1 : v.toList ++ rest = st1) (hf : Nat.ble cells R.cells = true ∧ Nat.ble slots R.slots = true)
    (kk : ∀ locs1 : List Loc, (∀ q ∈ locs1, False) → W p l e R s m args below meth c H locs1 cells slots Q (F0 m (pc + 3) ls st1)) : W p l e R s m args below meth c H locs cells slots Q (F0 m pc ls st0) := by
  subst hst1
  exact k_cRR (k_runV (Qc := fun _ => Q_R v) (free := fun _ _ => False) hX hsz hM hg hw hd hR ci q0 hc he (k_P0 hZ.1 is hs) (k_D0 hZ.2 is hnd hs) hn hst hrm hdg hf) hF kk
theorem k_vW (hX : K_X p s m args meth c cc nL Ts own D aC A) (hsz : ls.size = nL) (hZ : K_S D A s w0 H locs) (hM : M_W l y wl fr lc D aC (.ref b :: As) wc v w1) (hg : GoodIn Ts (wsV own index C y wl)) (hw : wl = Cond.code y bytes maxL ret :: wl') (hd : y.cls = C ∧ y.cls ≠ "java/lang/invoke/MethodHandle" ∧ y.cls ≠ "java/lang/invoke/VarHandle" ∧ (parseMethodDescriptor y.desc).map (fun d => d.parameters.length) = some n) (hR : Nat.ble (fr + 1) R.frames = true ∧ Nat.ble (8 + (maxL + 11) + lc) R.locals = true) (ci q0 : Nat) (hc : vwCl[ci]? = some (C, T, N)) (he : wc[q0]? = some (b, .inr (ci, fs))) (is : List Nat) (hs : is.map (fun i => w0[i]?) = wc.map some) (hnd : va_nd is = true) (hn : As.length = n) (hst : st0 = As.reverse ++ .ref b :: rest) (hrm : Nat.ble (rest.map fun v => v.category).sum 8 = true) (hdg : decode cc pc = .ok (.invokevirtual index, 3)) (hst1 : v.toList ++ rest = st1) (hf : Nat.ble cells R.cells = true ∧ Nat.ble slots R.slots = true) (hm : mg_ w0 is w1 = w') (hl : is.length = w1.length) (he1 : w'.map (·.1) = w0.map (·.1))
    (kk : ∀ (H1 : Heap) (locs1 : List Loc), K_S D A s w' H1 locs1 → W p l e R s m args below meth c H1 locs1 cells slots Q (F0 m (pc + 3) ls st1)) : W p l e R s m args below meth c H locs cells slots Q (F0 m pc ls st0) := by
  subst hst1
  exact k_cW (k_runV (Qc := fun sz => Q_W v D (va_A wc sz) w1) (free := fun sz => va_A wc sz) hX hsz hM hg hw hd hR ci q0 hc he (k_P0 hZ.1 is hs) (k_D0 hZ.2.1 is hnd hs) hn hst hrm hdg hf) hX hZ is hs hm hl he1 kk
theorem k_sR (hX : K_X p s m args meth c cc nL Ts own D aC A) (hsz : ls.size = nL) (hZ : K_S D A s w0 H locs) (hM : M_R l y wl fr lc D aC As wc v) (hg : GoodIn Ts (va_wsS own index y wl)) (hw : wl = Cond.code y bytes maxL ret :: wl') (hd : y.cls ≠ "java/lang/invoke/MethodHandle" ∧ y.cls ≠ "java/lang/invoke/VarHandle" ∧ (parseMethodDescriptor y.desc).map (fun d => d.parameters.length) = some n) (hR : Nat.ble (fr + 1) R.frames = true ∧ Nat.ble (8 + (maxL + 11) + lc) R.locals = true) (is : List Nat) (hs : is.map (fun i => w0[i]?) = wc.map some) (hnd : va_nd is = true) (hn : As.length = n) (hst : st0 = As.reverse ++ rest) (hrm : Nat.ble (rest.map fun v => v.category).sum 8 = true) (hdg : decode cc pc = .ok (.invokestatic index, 3)) (hst1 : v.toList ++ rest = st1) (hf : Nat.ble cells R.cells = true ∧ Nat.ble slots R.slots = true)
    (kk : ∀ locs1 : List Loc, K_S D A s w0 H locs1 → W p l e R s m args below meth c H locs1 cells slots Q (F0 m (pc + 3) ls st1)) : W p l e R s m args below meth c H locs cells slots Q (F0 m pc ls st0) := by
  subst hst1
  exact k_cR (k_runS (Qc := fun _ => Q_R v) (free := fun _ _ => False) hX hsz hM hg hw hd hR (k_P0 hZ.1 is hs) (k_D0 hZ.2.1 is hnd hs) hn hst hrm hdg hf) hZ kk
theorem k_sRR (hX : K_X p s m args meth c cc nL Ts own D aC A) (hsz : ls.size = nL) (hZ : va_P D vwCl w0 H ∧ va_D (fun _ => True) w0) (hF : ∀ q ∈ locs, False) (hM : M_R l y wl fr lc D aC As wc v) (hg : GoodIn Ts (va_wsS own index y wl)) (hw : wl = Cond.code y bytes maxL ret :: wl') (hd : y.cls ≠ "java/lang/invoke/MethodHandle" ∧ y.cls ≠ "java/lang/invoke/VarHandle" ∧ (parseMethodDescriptor y.desc).map (fun d => d.parameters.length) = some n) (hR : Nat.ble (fr + 1) R.frames = true ∧ Nat.ble (8 + (maxL + 11) + lc) R.locals = true) (is : List Nat) (hs : is.map (fun i => w0[i]?) = wc.map some) (hnd : va_nd is = true) (hn : As.length = n) (hst : st0 = As.reverse ++ rest) (hrm : Nat.ble (rest.map fun v => v.category).sum 8 = true) (hdg : decode cc pc = .ok (.invokestatic index, 3)) (hst1 : v.toList ++ rest = st1) (hf : Nat.ble cells R.cells = true ∧ Nat.ble slots R.slots = true)
    (kk : ∀ locs1 : List Loc, (∀ q ∈ locs1, False) → W p l e R s m args below meth c H locs1 cells slots Q (F0 m (pc + 3) ls st1)) : W p l e R s m args below meth c H locs cells slots Q (F0 m pc ls st0) := by
  subst hst1
  exact k_cRR (k_runS (Qc := fun _ => Q_R v) (free := fun _ _ => False) hX hsz hM hg hw hd hR (k_P0 hZ.1 is hs) (k_D0 hZ.2 is hnd hs) hn hst hrm hdg hf) hF kk
theorem k_sW (hX : K_X p s m args meth c cc nL Ts own D aC A) (hsz : ls.size = nL) (hZ : K_S D A s w0 H locs) (hM : M_W l y wl fr lc D aC As wc v w1) (hg : GoodIn Ts (va_wsS own index y wl)) (hw : wl = Cond.code y bytes maxL ret :: wl') (hd : y.cls ≠ "java/lang/invoke/MethodHandle" ∧ y.cls ≠ "java/lang/invoke/VarHandle" ∧ (parseMethodDescriptor y.desc).map (fun d => d.parameters.length) = some n) (hR : Nat.ble (fr + 1) R.frames = true ∧ Nat.ble (8 + (maxL + 11) + lc) R.locals = true) (is : List Nat) (hs : is.map (fun i => w0[i]?) = wc.map some) (hnd : va_nd is = true) (hn : As.length = n) (hst : st0 = As.reverse ++ rest) (hrm : Nat.ble (rest.map fun v => v.category).sum 8 = true) (hdg : decode cc pc = .ok (.invokestatic index, 3)) (hst1 : v.toList ++ rest = st1) (hf : Nat.ble cells R.cells = true ∧ Nat.ble slots R.slots = true) (hm : mg_ w0 is w1 = w') (hl : is.length = w1.length) (he1 : w'.map (·.1) = w0.map (·.1))
    (kk : ∀ (H1 : Heap) (locs1 : List Loc), K_S D A s w' H1 locs1 → W p l e R s m args below meth c H1 locs1 cells slots Q (F0 m (pc + 3) ls st1)) : W p l e R s m args below meth c H locs cells slots Q (F0 m pc ls st0) := by
  subst hst1
  exact k_cW (k_runS (Qc := fun sz => Q_W v D (va_A wc sz) w1) (free := fun sz => va_A wc sz) hX hsz hM hg hw hd hR (k_P0 hZ.1 is hs) (k_D0 hZ.2.1 is hnd hs) hn hst hrm hdg hf) hX hZ is hs hm hl he1 kk
/-! calls whose callee has the caller's whole world -/
theorem k_vRs (hX : K_X p s m args meth c cc nL Ts own D aC A) (hsz : ls.size = nL) (hZ : K_S D A s w0 H locs) (hM : M_R l y wl fr lc D aC (.ref b :: As) w0 v) (hg : GoodIn Ts (wsV own index C y wl)) (hw : wl = Cond.code y bytes maxL ret :: wl') (hd : y.cls = C ∧ y.cls ≠ "java/lang/invoke/MethodHandle" ∧ y.cls ≠ "java/lang/invoke/VarHandle" ∧ (parseMethodDescriptor y.desc).map (fun d => d.parameters.length) = some n) (hR : Nat.ble (fr + 1) R.frames = true ∧ Nat.ble (8 + (maxL + 11) + lc) R.locals = true) (ci q0 : Nat) (hc : vwCl[ci]? = some (C, T, N)) (he : w0[q0]? = some (b, .inr (ci, fs))) (hn : As.length = n) (hst : st0 = As.reverse ++ .ref b :: rest) (hrm : Nat.ble (rest.map fun v => v.category).sum 8 = true) (hdg : decode cc pc = .ok (.invokevirtual index, 3)) (hst1 : v.toList ++ rest = st1) (hf : Nat.ble cells R.cells = true ∧ Nat.ble slots R.slots = true)
    (kk : ∀ locs1 : List Loc, K_S D A s w0 H locs1 → W p l e R s m args below meth c H locs1 cells slots Q (F0 m (pc + 3) ls st1)) : W p l e R s m args below meth c H locs cells slots Q (F0 m pc ls st0) := by
  subst hst1
  exact k_cR (k_runV (Qc := fun _ => Q_R v) (free := fun _ _ => False) hX hsz hM hg hw hd hR ci q0 hc he hZ.1 (hZ.2.1.weaken (fun _ _ _ _ => trivial)) hn hst hrm hdg hf) hZ kk
theorem k_vRRs (hX : K_X p s m args meth c cc nL Ts own D aC A) (hsz : ls.size = nL) (hZ : va_P D vwCl w0 H ∧ va_D (fun _ => True) w0) (hF : ∀ q ∈ locs, False) (hM : M_R l y wl fr lc D aC (.ref b :: As) w0 v) (hg : GoodIn Ts (wsV own index C y wl)) (hw : wl = Cond.code y bytes maxL ret :: wl') (hd : y.cls = C ∧ y.cls ≠ "java/lang/invoke/MethodHandle" ∧ y.cls ≠ "java/lang/invoke/VarHandle" ∧ (parseMethodDescriptor y.desc).map (fun d => d.parameters.length) = some n) (hR : Nat.ble (fr + 1) R.frames = true ∧ Nat.ble (8 + (maxL + 11) + lc) R.locals = true) (ci q0 : Nat) (hc : vwCl[ci]? = some (C, T, N)) (he : w0[q0]? = some (b, .inr (ci, fs))) (hn : As.length = n) (hst : st0 = As.reverse ++ .ref b :: rest) (hrm : Nat.ble (rest.map fun v => v.category).sum 8 = true) (hdg : decode cc pc = .ok (.invokevirtual index, 3)) (hst1 : v.toList ++ rest = st1) (hf : Nat.ble cells R.cells = true ∧ Nat.ble slots R.slots = true)
    (kk : ∀ locs1 : List Loc, (∀ q ∈ locs1, False) → W p l e R s m args below meth c H locs1 cells slots Q (F0 m (pc + 3) ls st1)) : W p l e R s m args below meth c H locs cells slots Q (F0 m pc ls st0) := by
  subst hst1
  exact k_cRR (k_runV (Qc := fun _ => Q_R v) (free := fun _ _ => False) hX hsz hM hg hw hd hR ci q0 hc he hZ.1 hZ.2 hn hst hrm hdg hf) hF kk
theorem k_vWs (hX : K_X p s m args meth c cc nL Ts own D aC A) (hsz : ls.size = nL) (hZ : K_S D A s w0 H locs) (hM : M_W l y wl fr lc D aC (.ref b :: As) w0 v w1) (hg : GoodIn Ts (wsV own index C y wl)) (hw : wl = Cond.code y bytes maxL ret :: wl') (hd : y.cls = C ∧ y.cls ≠ "java/lang/invoke/MethodHandle" ∧ y.cls ≠ "java/lang/invoke/VarHandle" ∧ (parseMethodDescriptor y.desc).map (fun d => d.parameters.length) = some n) (hR : Nat.ble (fr + 1) R.frames = true ∧ Nat.ble (8 + (maxL + 11) + lc) R.locals = true) (ci q0 : Nat) (hc : vwCl[ci]? = some (C, T, N)) (he : w0[q0]? = some (b, .inr (ci, fs))) (hn : As.length = n) (hst : st0 = As.reverse ++ .ref b :: rest) (hrm : Nat.ble (rest.map fun v => v.category).sum 8 = true) (hdg : decode cc pc = .ok (.invokevirtual index, 3)) (hst1 : v.toList ++ rest = st1) (hf : Nat.ble cells R.cells = true ∧ Nat.ble slots R.slots = true) (he1 : w1.map (·.1) = w0.map (·.1))
    (kk : ∀ (H1 : Heap) (locs1 : List Loc), K_S D A s w1 H1 locs1 → W p l e R s m args below meth c H1 locs1 cells slots Q (F0 m (pc + 3) ls st1)) : W p l e R s m args below meth c H locs cells slots Q (F0 m pc ls st0) := by
  subst hst1
  refine k_go (k_runV (Qc := fun sz => Q_W v D (va_A w0 sz) w1) (free := fun sz => va_A w0 sz) hX hsz hM hg hw hd hR ci q0 hc he hZ.1 (hZ.2.1.weaken (fun _ _ _ _ => trivial)) hn hst hrm hdg hf) (fun v' st t L hst hL hq => ?_)
  obtain ⟨hP, hD, hS⟩ := hZ
  have hF : ∀ q, va_A w0 H.size q → A q := by
    intro q h
    rcases h with ⟨k, e, h⟩ | h
    · exact hD.2 k _ h
    · exact hX.2.2.2.2.2.2.1 q (Nat.le_trans hS.1 h)
  obtain ⟨hv, hP1, hz, hk⟩ := hq
  cases hv
  rw [hst] at hz hk
  refine kk _ _ ⟨hP1, d_addr hD he1, Nat.le_trans hS.1 hz, fun q h1 h2 => ?_, fun q hq => ?_⟩
  · rw [hk q (Nat.lt_of_lt_of_le h1 hS.1) (fun z => h2 (hF q z))]
    exact hS.2.1 q h1 h2
  · rcases List.mem_append.mp hq with h | h
    · exact hS.2.2 q h
    · exact hF _ (hL q h)
end CALLS
