/-! constructors: they make cells; their worlds grow -/
def NW_ (U : State) : Prop := va_Nw (.methodLinkNest RX8 11 yX6_init "ShapeFrames") U ∧ va_Nw (.methodLinkNest RX8 18 yX1_init "ShapeFrames") U ∧ va_Nw (.methodLinkNest RX5 11 yX4_init "ShapeFrames") U ∧ va_Nw (.methodLinkNest RX8 56 yX3_init "ShapeFrames") U
theorem NW_.warm {s U : State} (hW : s.WarmedH U.vm) (h : NW_ s) : NW_ U := ⟨va_Nw.warmM hW h.1, va_Nw.warmM hW h.2.1, va_Nw.warmM hW h.2.2.1, va_Nw.warmM hW h.2.2.2⟩
theorem NW_.same {u U : State} (e : u.vm = U.vm) (h : NW_ u) : NW_ U := ⟨va_Nw.same rfl e h.1, va_Nw.same rfl e h.2.1, va_Nw.same rfl e h.2.2.1, va_Nw.same rfl e h.2.2.2⟩
def C_inI (D : va_G) (aC : Nat → ClassId) (w : va_W) (sz : Nat) (U : State) : Prop := C_in D aC w sz U ∧ NW_ U
def Q_I (D : va_G) (A : Nat → Prop) (Wp : va_W → Prop) : Array Value → State → Outcome → State → Prop := fun _ st oc t => oc = .returned none ∧ (∃ w, Wp w ∧ va_P D vwCl w t.heap ∧ va_D A w) ∧ va_F A st t
abbrev R_i (fr lc mc ms : Nat) : Room := { frames := fr, cells := mc, slots := ms, locals := lc }
def M_I (l : Launch) (y : MethodName) (ws : List Cond) (fr lc mc ms : Nat) (D : va_G) (aC : Nat → ClassId) (av : List Value) (w0 : va_W) (Wp : va_W → Prop) : Prop := ∀ sz : Nat, Met l y ws (R_i fr lc mc ms) (va_Pc av (C_inI D aC w0 sz)) (Q_I D (va_A w0 sz) Wp) mc ms (va_A w0 sz)
theorem k_blindI {av : List Value} {D : va_G} {aC : Nat → ClassId} {w0 : va_W} {sz : Nat} : FrameBlind (va_Pc av (C_inI D aC w0 sz)) := by
  intro a U g mk q
  obtain ⟨q0, ⟨q1, qP, qK, qD⟩, qE⟩ := q
  exact ⟨q0, ⟨q1, qP, va_K.moved (u := U) (U := U.calling g mk a) (Vm.Alike.refl U.vm) qK, qD⟩, NW_.same (u := U) (U := U.calling g mk a) rfl qE⟩
theorem gi_ {n : Nat} {y : MethodName} {b : ByteArray} (h5 : Cond.code y b n none ∈ WL_) : GoodIn WL_ (.code y b n none :: WL_) := gg_ (fun w hw => by
  rcases List.mem_cons.mp hw with rfl | h
  · exact h5
  · exact h)
/-! a world in another order -/
theorem P_perm {D : va_G} {w w' : va_W} {H : Heap} (hp : w.Perm w') (h : va_P D vwCl w H) : va_P D vwCl w' H := by
  intro k q hk
  have hm : q ∈ w := hp.mem_iff.mpr (List.mem_of_getElem? hk)
  obtain ⟨i, hi⟩ := List.mem_iff_getElem?.mp hm
  exact h i q hi
theorem D_nd {A : Nat → Prop} {w : va_W} : va_D A w ↔ (w.map (·.1)).Nodup ∧ ∀ q ∈ w, A q.1 := by
  constructor
  · rintro ⟨h1, h2⟩
    refine ⟨?_, fun q hq => ?_⟩
    · rw [List.nodup_iff_pairwise_ne, List.pairwise_iff_getElem]
      intro i j hi hj hij he
      simp only [List.length_map] at hi hj
      simp only [List.getElem_map] at he
      have := h1 i j w[i] w[j] (List.getElem?_eq_getElem hi) (List.getElem?_eq_getElem hj) he
      omega
    · obtain ⟨i, hi⟩ := List.mem_iff_getElem?.mp hq
      exact h2 i q hi
  · rintro ⟨h1, h2⟩
    refine ⟨fun i j p q hi hj he => ?_, fun k q hk => h2 q (List.mem_of_getElem? hk)⟩
    rw [List.nodup_iff_pairwise_ne, List.pairwise_iff_getElem] at h1
    obtain ⟨ei, rfl⟩ := List.getElem?_eq_some_iff.mp hi
    obtain ⟨ej, rfl⟩ := List.getElem?_eq_some_iff.mp hj
    rcases Nat.lt_trichotomy i j with h | h | h
    · exact absurd (by rw [List.getElem_map, List.getElem_map]; exact he) (h1 i j (by simpa using ei) (by simpa using ej) h)
    · exact h
    · exact absurd (by rw [List.getElem_map, List.getElem_map]; exact he.symm) (h1 j i (by simpa using ej) (by simpa using ei) h)
theorem D_perm {A : Nat → Prop} {w w' : va_W} (hp : w.Perm w') (h : va_D A w) : va_D A w' := by
  rw [D_nd] at h ⊢
  exact ⟨(hp.map _).nodup_iff.mp h.1, fun q hq => h.2 q (hp.mem_iff.mpr hq)⟩
theorem S_perm {D : va_G} {A : Nat → Prop} {s : State} {w w' : va_W} {H : Heap} {locs : List Loc} (hp : w.Perm w') (h : K_S D A s w H locs) : K_S D A s w' H locs := ⟨P_perm hp h.1, D_perm hp h.2.1, h.2.2⟩
section IKIT
variable {cells slots : Nat} {p : Program} {l : Launch} {e : Env} {R : Room} {s : State} {m : MethodId} {args : Array Value} {below : List Frame} {meth : Method} {c : Code} {H : Heap} {locs : List Loc} {Q : State → Prop} {cc : ByteArray} {nL : Nat} {Ts : List Cond} {own : String} {D : va_G} {aC : Nat → ClassId} {A : Nat → Prop} {pc : Nat} {ls : Array Slot} {rest st0 : List Value} {w w0 : va_W} {Wp : va_W → Prop}
variable {y : MethodName} {wl wl' : List Cond} {fr lc maxL n index mc ms : Nat} {bytes : ByteArray} {b a : Nat} {As : List Value} {T : u_T} {N ci : Nat} {fs : List Value} {C : String} {v : Value}
theorem k_entI {av : List Value} (hy : plainName y.cls = true) (hw : wl = Cond.code y cc maxL none :: WL_) (hlen : Nat.ble (lg_sl av).length maxL = true) (hcl : y.cls = own) (hnm : y.name = "<init>")
    (body : ∀ (p : Program) (e : Env) (s : State) (m : MethodId) (below : List Frame) (meth : Method) (c : Code) (A : Nat → Prop) (ls : Array Slot), NW_ s → K_X p s m av.toArray meth c cc maxL WL_ own D aC A → meth.name = "<init>" → meth.sig.returnType = none → K_S D A s w0 s.heap [] → lv_has ls maxL (lv_args 0 av) → W p l e (R_i fr lc mc ms) s m av.toArray below meth c s.heap [] 0 0 (MQ below (Q_I D A Wp) av.toArray s mc ms A) (F0 m 0 ls [])) : M_I l y wl fr lc mc ms D aC av w0 Wp := by
  intro sz
  refine Met.ofW hy hw ?_
  intro p e s m args below meth c s₁ B hml hv
  obtain ⟨rfl, ⟨hsz, hP, hK, hD0⟩, hE⟩ := hv
  subst hsz
  subst hcl
  have hw0 := hw
  have hts0 := atoms_spec (ws := wl) B.pre
  have hts : ∀ w ∈ WL_, w.before _ s = true := fun w hw => hts0 w (by rw [hw0]; exact List.mem_cons_of_mem _ hw)
  rw [lg_entry_eq]
  exact body p e s m below meth c _ _ hE ⟨B.exec, B.bytes, hml, findClass_of_methodNamed B.named, hts, hK, fun q h => Or.inr h, B.notSynchronized⟩ ((name_of_methodNamed B.named B.method).1.trans hnm) B.returns ⟨hP, hD0.self, va_S.rf⟩ (lv_entry av (Nat.le_of_ble_eq_true hlen))
theorem k_retI (hX : K_X p s m args meth c cc nL Ts own D aC A) (hr : meth.sig.returnType = none) (hZ : K_S D A s w H locs) (hw : Wp w) (hc : Nat.ble cells mc = true) (hs : Nat.ble slots ms = true) (hdg : decode cc pc = .ok (.return_, 1)) : W p l e R s m args below meth c H locs cells slots (MQ below (Q_I D A Wp) args s mc ms A) (F0 m pc ls []) :=
  W.widen (k := mc) (n := ms) (Nat.le_of_ble_eq_true hc) (Nat.le_of_ble_eq_true hs) (W.vret hX.1 hX.2.1 hr (fun t ht _ => ⟨rfl, ⟨w, hw, by rw [ht]; exact hZ.1, hZ.2.1⟩, hZ.2.2.F ht⟩) hZ.2.2.2.2 hdg hX.2.2.2.2.2.2.2)
theorem k_objI (hX : K_X p s m args meth c cc nL Ts own D aC A) (hl : ls.size = nL) (h1 : Cond.methodLink own index objectInit ∈ Ts) (h2 : Cond.instanceMethod objectInit ∈ Ts) (h3 : Cond.code objectInit ⟨#[0xb1]⟩ 1 none ∈ Ts) (hfr : Nat.ble 1 R.frames = true) (hlo : Nat.ble 12 R.locals = true) (hdg : decode cc pc = .ok (.invokespecial index, 3)) (kk : W p l e R s m args below meth c H locs cells slots Q (F0 m (pc + 3) ls [])) : W p l e R s m args below meth c H locs cells slots Q (F0 m pc ls [.ref a]) := by
  refine W.objInit hX.1 hX.2.1 hX.2.2.2.1 (hX.2.2.2.2.1 _ h1) (hX.2.2.2.2.1 _ h2) (hX.2.2.2.2.1 _ h3) rfl (by rw [hX.2.2.1]; exact hl) rfl hdg (Nat.le_of_ble_eq_true hfr) ?_ ?_
  · have h := Nat.le_of_ble_eq_true hlo
    simpa [F0] using h
  · exact W.eq (g2 := F0 m (pc + 3) ls []) rfl kk
/-! new arrays: their classes are those that are known -/
theorem k_arr1 {cA : ClassId} {ty : FieldType} {i : Nat} (hK : va_K D vwCl (ty_all aC) s) (hi : (ty_all aC)[i]? = some (aC i, ty)) (hp : ty = .int ∨ ty = .boolean ∨ ty = .long ∨ ty = .char) (hR : va_RA s cA ty) : cA = aC i := by
  have h := (hK.2 i _ hi).2
  rcases hp with rfl | rfl | rfl | rfl <;> exact Option.some.inj (hR.symm.trans h)
theorem k_newa {at_ : ArrayType} {ty : FieldType} {i : Nat} {nn : Int32} {N' : Nat} {a0 : vp_A} (hX : K_X p s m args meth c cc nL Ts own D aC A) (hZ : K_S D A s w H locs) (harr : Cond.arrayClass ty ∈ Ts) (hty : newarray.typeOf at_ = ty) (hi : (ty_all aC)[i]? = some (aC i, ty)) (hp : ty = .int ∨ ty = .boolean ∨ ty = .long ∨ ty = .char) (ha : ∀ cA : ClassId, vp_cell cA a0 = arrV cA N' (fun _ => defaultValue ty)) (hn : ¬ nn < 0) (hN : nn.toNatClampNeg = N') (hby : Nat.ble (N' * componentBytes ty) 536870912 = true) (hc : Nat.ble (cells + 1) R.cells = true) (hs : Nat.ble (slots + N') R.slots = true) (hdg : decode cc pc = .ok (.newarray at_, 2))
    (kk : ∀ (q : Nat) (H1 : Heap), K_S D A s (w ++ [(q, .inl (aC i, a0))]) H1 locs → W p l e R s m args below meth c H1 locs (cells + 1) (slots + N') Q (F0 m (pc + 2) ls (.ref q :: rest))) : W p l e R s m args below meth c H locs cells slots Q (F0 m pc ls (.int nn :: rest)) := by
  subst hty
  refine va_newa hX.1 hX.2.1 (hX.2.2.2.2.1 _ harr) rfl hX.2.2.2.2.2.1 hZ.1 hZ.2.1 hZ.2.2 hX.2.2.2.2.2.2.1 ha hn hN (Nat.le_of_ble_eq_true hby) (Nat.le_of_ble_eq_true hc) (Nat.le_of_ble_eq_true hs) hdg (fun q cA H1 hK hP hD hS => ?_)
  have hq := (hK.2 (ty_all aC).length (cA, newarray.typeOf at_) (by rw [List.getElem?_append_right (Nat.le_refl _), Nat.sub_self]; rfl)).2
  have e := k_arr1 hX.2.2.2.2.2.1 hi hp hq
  subst e
  exact kk q H1 ⟨hP, hD, hS⟩
/-- into a final field of the object that is being made: it stands first -/
theorem k_putI {ty : FieldType} (hX : K_X p s m args meth c cc nL Ts own D aC A) (hin2 : meth.name = "<init>") (hZ : K_S D A s ((a, .inr (ci, fs)) :: w) H locs) (hc : vwCl[ci]? = some (C, T, N)) (hin : ∀ w ∈ u_ws C T N, w ∈ Ts) (ty0 : Nat → FieldType) (hty : ∀ k, k < N → parseFieldDescriptor (T k).2.2.1 = some (ty0 k)) (hnm : ∀ a, a < N → ∀ b, b < N → a ≠ b → (T a).2.1 ≠ (T b).2.1) (k : Nat) (hk : Nat.ble (k + 1) N = true) (hlink : Cond.fieldLink own index (T k).1 (T k).2.1 (T k).2.2.1 ∈ Ts) (hfin : (T k).2.2.2 = true) (hdecl : (T k).1 = own) (hd : parseFieldDescriptor (T k).2.2.1 = some ty) (hn : narrow ty v = v) (hfit : fits ty v = true) (hl : Nat.ble (k + 1) fs.length = true) (hdg : decode cc pc = .ok (.putfield index, 3))
    (kk : ∀ (H1 : Heap) (locs1 : List Loc), K_S D A s ((a, .inr (ci, fs.set k v)) :: w) H1 locs1 → W p l e R s m args below meth c H1 locs1 cells slots Q (F0 m (pc + 3) ls rest)) : W p l e R s m args below meth c H locs cells slots Q (F0 m pc ls (v :: .ref a :: rest)) :=
  va_putF hX.1 hX.2.1 hX.2.2.2.2.1 hin ty0 hty hnm hX.2.2.2.1 hX.2.2.2.2.2.1 hZ.1 hZ.2.1 hZ.2.2 0 rfl hc k (Nat.le_of_ble_eq_true hk) (hX.2.2.2.2.1 _ hlink) (fun _ h9 => h9) hfin hin2 hdecl hd hn hfit (Nat.le_of_ble_eq_true hl) hdg (fun H1 locs1 hP hD hS => kk H1 locs1 ⟨hP, hD, hS⟩)
theorem k_putJ {ty : FieldType} (hX : K_X p s m args meth c cc nL Ts own D aC A) (hZ : K_S D A s ((a, .inr (ci, fs)) :: w) H locs) (hc : vwCl[ci]? = some (C, T, N)) (hin : ∀ w ∈ u_ws C T N, w ∈ Ts) (ty0 : Nat → FieldType) (hty : ∀ k, k < N → parseFieldDescriptor (T k).2.2.1 = some (ty0 k)) (hnm : ∀ a, a < N → ∀ b, b < N → a ≠ b → (T a).2.1 ≠ (T b).2.1) (k : Nat) (hk : Nat.ble (k + 1) N = true) (hlink : Cond.fieldLink own index (T k).1 (T k).2.1 (T k).2.2.1 ∈ Ts) (hfin : (T k).2.2.2 = false) (hd : parseFieldDescriptor (T k).2.2.1 = some ty) (hn : narrow ty v = v) (hfit : fits ty v = true) (hl : Nat.ble (k + 1) fs.length = true) (hdg : decode cc pc = .ok (.putfield index, 3))
    (kk : ∀ (H1 : Heap) (locs1 : List Loc), K_S D A s ((a, .inr (ci, fs.set k v)) :: w) H1 locs1 → W p l e R s m args below meth c H1 locs1 cells slots Q (F0 m (pc + 3) ls rest)) : W p l e R s m args below meth c H locs cells slots Q (F0 m pc ls (v :: .ref a :: rest)) :=
  va_put hX.1 hX.2.1 hX.2.2.2.2.1 hin ty0 hty hnm hX.2.2.2.1 hX.2.2.2.2.2.1 hZ.1 hZ.2.1 hZ.2.2 0 rfl hc k (Nat.le_of_ble_eq_true hk) (hX.2.2.2.2.1 _ hlink) (fun _ h9 => h9) hfin hd hn hfit (Nat.le_of_ble_eq_true hl) hdg (fun H1 locs1 hP hD hS => kk H1 locs1 ⟨hP, hD, hS⟩)
/-- a number into the array that was made last -/
theorem k_istL {nn : Nat} {f : Nat → Int32} {i x : Int32} (hX : K_X p s m args meth c cc nL Ts own D aC A) (hZ : K_S D A s (w ++ [(a, .inl (aC 0, nn, .inl f))]) H locs) (hi : ¬ (i < 0 ∨ nn ≤ i.toNatClampNeg)) (hdg : decode cc pc = .ok (.iastore, 1))
    (kk : ∀ (H1 : Heap) (locs1 : List Loc), K_S D A s (w ++ [(a, .inl (aC 0, nn, .inl (upd f i.toNatClampNeg x)))]) H1 locs1 → W p l e R s m args below meth c H1 locs1 cells slots Q (F0 m (pc + 1) ls rest)) : W p l e R s m args below meth c H locs cells slots Q (F0 m pc ls (.int x :: .int i :: .ref a :: rest)) := by
  have ha : (w ++ [(a, (.inl (aC 0, nn, .inl f) : va_E))])[w.length]? = some (a, .inl (aC 0, nn, .inl f)) := by rw [List.getElem?_append_right (Nat.le_refl _), Nat.sub_self]; rfl
  have hset : ∀ g : Nat → Int32, (w ++ [(a, (.inl (aC 0, nn, .inl f) : va_E))]).set w.length (a, .inl (aC 0, nn, .inl g)) = w ++ [(a, .inl (aC 0, nn, .inl g))] := fun g => by rw [List.set_append_right _ _ (Nat.le_refl _), Nat.sub_self]; rfl
  refine va_iast hX.1 hX.2.1 hX.2.2.2.2.2.1 hZ.1 hZ.2.1 hZ.2.2 w.length 0 ha rfl hi hdg (fun H1 locs1 hP hD hS => ?_)
  rw [hset] at hP hD
  exact kk H1 locs1 ⟨hP, hD, hS⟩
theorem k_newI (hX : K_X p s m args meth c cc nL Ts own D aC A) (hZ : K_S D A s w H locs) (hc : vwCl[ci]? = some (C, T, N)) (hin : ∀ w ∈ u_ws C T N, w ∈ Ts) (ty0 : Nat → FieldType) (hty : ∀ k, k < N → parseFieldDescriptor (T k).2.2.1 = some (ty0 k)) (hcl : Cond.classLink own index C ∈ Ts) (hinst : Cond.instantiable C N ∈ Ts) (hini : Cond.initialized C ∈ Ts) (hfs : ∀ j, j < N → defaultValue (ty0 j) = vp_V fs j) (hcs : Nat.ble (cells + 1) R.cells = true) (hs : Nat.ble (slots + N) R.slots = true) (hdg : decode cc pc = .ok (.new index, 3))
    (kk : ∀ (q : Nat) (H1 : Heap), K_S D A s (w ++ [(q, .inr (ci, fs))]) H1 locs → W p l e R s m args below meth c H1 locs (cells + 1) (slots + N) Q (F0 m (pc + 3) ls (.ref q :: rest))) : W p l e R s m args below meth c H locs cells slots Q (F0 m pc ls rest) :=
  va_new hX.1 hX.2.1 hX.2.2.2.2.1 hin ty0 hty hX.2.2.2.1 (hX.2.2.2.2.1 _ hcl) (hX.2.2.2.2.1 _ hinst) (hX.2.2.2.2.1 _ hini) hX.2.2.2.2.2.1 hZ.1 hZ.2.1 hZ.2.2 hX.2.2.2.2.2.2.1 hc hfs (Nat.le_of_ble_eq_true hcs) (Nat.le_of_ble_eq_true hs) hdg (fun q H1 hP hD hS => kk q H1 ⟨hP, hD, hS⟩)
theorem k_goI {Qa : State → Outcome → State → Prop} {free : Addr → Prop} (hr : va_Run p l e R s m args below meth c H locs cells slots mc ms (F0 m pc ls st0) rest Qa free)
    (kk : ∀ (v : Option Value) (st t : State) (L : List Loc), st.heap = H → (∀ q ∈ L, free q.base) → Qa st (.returned v) t → W p l e R s m args below meth c t.heap (locs ++ L) (cells + mc) (slots + ms) Q (F0 m (pc + 3) ls (v.toList ++ rest))) : W p l e R s m args below meth c H locs cells slots Q (F0 m pc ls st0) := by
  intro T hT X
  obtain ⟨v, st₀, t, T', L, h0, X', hL, e1, e2, hq, st⟩ := hr T hT X
  obtain ⟨t2, a1, b1⟩ := kk v st₀ t L h0 hL hq T' e1 X'
  exact ⟨t2, st t2 a1, b1⟩
theorem k_snoc1 {x : Nat × va_E} : [w.length].map (fun i => (w ++ [x])[i]?) = [x].map some := by
  show [(w ++ [x])[w.length]?] = [some x]
  rw [List.getElem?_append_right (Nat.le_refl _), Nat.sub_self]
  rfl
theorem k_snocR {x : Nat × va_E} : (List.range w.length).map (fun i => (w ++ [x])[i]?) = w.map some := by
  refine List.ext_getElem (by simp) (fun i h1 h2 => ?_)
  have hi : i < w.length := by simpa using h1
  simp [List.getElem?_append_left hi, hi]
theorem k_ndr (n : Nat) : va_nd (List.range n) = true := by
  have h : ∀ l : List Nat, l.Nodup → va_nd l = true := by
    intro l hl
    induction hl with
    | nil => rfl
    | cons h1 _ ih =>
      simp [va_nd, ih]
      intro hm
      exact h1 _ hm rfl
  exact h _ List.nodup_range
/-- behind a constructor's call on the object made last -/
theorem k_cI {x : Nat × va_E} {ar : Array Value} (hr : va_Run p l e R s m args below meth c H locs cells slots mc ms (F0 m pc ls st0) rest (Q_I D (va_A [x] H.size) Wp ar) (va_A [x] H.size)) (hX : K_X p s m args meth c cc nL Ts own D aC A) (hZ : K_S D A s (w ++ [x]) H locs)
    (kk : ∀ (w1 : va_W) (H1 : Heap) (locs1 : List Loc), Wp w1 → K_S D A s (w ++ w1) H1 locs1 → W p l e R s m args below meth c H1 locs1 (cells + mc) (slots + ms) Q (F0 m (pc + 3) ls rest)) : W p l e R s m args below meth c H locs cells slots Q (F0 m pc ls st0) := by
  obtain ⟨hP, hD, hS⟩ := hZ
  have hF := va_free hD hS hX.2.2.2.2.2.2.1 [w.length] (k_snoc1 (x := x))
  refine k_goI hr (fun v' st t L hst hL hq => ?_)
  obtain ⟨hv, ⟨w1, hw1, hP1, hD1⟩, hz, hk⟩ := hq
  cases hv
  rw [hst] at hz hk
  obtain ⟨hP', hD'⟩ := va_join (wc := [x]) (wr := w) (w1 := w1) hP hD [w.length] (List.range w.length) k_snoc1 k_snocR (k_ndr _) (fun i hi h => by
    have h1 := List.mem_range.mp hi
    have h2 := List.mem_singleton.mp h
    omega) hk hF hP1 hD1
  refine kk w1 _ _ hw1 ⟨hP', hD', Nat.le_trans hS.1 hz, fun q h1 h2 => ?_, fun q hq => ?_⟩
  · rw [hk q (Nat.lt_of_lt_of_le h1 hS.1) (fun z => h2 (hF q z))]
    exact hS.2.1 q h1 h2
  · rcases List.mem_append.mp hq with h | h
    · exact hS.2.2 q h
    · exact hF _ (hL q h)
theorem k_PL {x : Nat × va_E} (hP : va_P D vwCl (w ++ [x]) H) : va_P D vwCl [x] H := k_P0 hP [w.length] k_snoc1
theorem k_DL {x : Nat × va_E} (hD : va_D A (w ++ [x])) : va_D (fun _ => True) [x] := k_D0 hD [w.length] (by simp [va_nd]) k_snoc1
variable {Qc : Nat → Array Value → State → Outcome → State → Prop} {free : Nat → Addr → Prop}
theorem k_runI {wc : va_W} (hN : NW_ s) (hX : K_X p s m args meth c cc nL Ts own D aC A) (hsz : ls.size = nL) (hM : ∀ sz : Nat, Met l y wl (R_i fr lc mc ms) (va_Pc (.ref b :: As) (C_inI D aC wc sz)) (Qc sz) mc ms (free sz)) (hg : GoodIn Ts wl) (hw : wl = Cond.code y bytes maxL none :: wl') (hini : Cond.initialized y.cls ∈ Ts) (hlk : Cond.methodLink own index y ∈ Ts) (him : Cond.instanceMethod y ∈ Ts) (hy1 : y.name = "<init>") (hd : y.cls ≠ "java/lang/invoke/MethodHandle" ∧ y.cls ≠ "java/lang/invoke/VarHandle" ∧ (parseMethodDescriptor y.desc).map (fun d => d.parameters.length) = some n) (hR : Nat.ble (fr + 1) R.frames = true ∧ Nat.ble (8 + (maxL + 11) + lc) R.locals = true)
    (hP : va_P D vwCl wc H) (hD : va_D (fun _ => True) wc) (hn : As.length = n) (hst : st0 = As.reverse ++ .ref b :: rest) (hrm : Nat.ble (rest.map fun v => v.category).sum 8 = true) (hdg : decode cc pc = .ok (.invokespecial index, 3)) (hf : Nat.ble (cells + mc) R.cells = true ∧ Nat.ble (slots + ms) R.slots = true) :
    va_Run p l e R s m args below meth c H locs cells slots mc ms (F0 m pc ls st0) rest (Qc H.size (Value.ref b :: As).toArray) (free H.size) :=
  va_runI ⟨hX.1, hX.2.1, hX.2.2.1, hX.2.2.2.1, hX.2.2.2.2.1⟩ (hM H.size) (cwI n hX.2.2.2.2.1 hg hw rfl rfl (hX.2.2.2.2.1 _ hini) (hX.2.2.2.2.1 _ hlk) (hX.2.2.2.2.1 _ him) hy1 hd ⟨Nat.le_of_ble_eq_true hR.1, Nat.le_of_ble_eq_true hR.2⟩) ⟨k_blindI, fun U hU hW => ⟨rfl, ⟨by rw [hU], by rw [hU]; exact hP, va_K.moved hW.alike hX.2.2.2.2.2.1, hD⟩, NW_.warm hW hN⟩⟩ rfl hn hsz hst (lv_room (Nat.le_of_ble_eq_true hrm)) hdg ⟨Nat.le_of_ble_eq_true hf.1, Nat.le_of_ble_eq_true hf.2⟩
theorem k_runIN {wc : va_W} {host : String} (hN : NW_ s) (hX : K_X p s m args meth c cc nL Ts own D aC A) (hsz : ls.size = nL) (hM : ∀ sz : Nat, Met l y wl (R_i fr lc mc ms) (va_Pc (.ref b :: As) (C_inI D aC wc sz)) (Qc sz) mc ms (free sz)) (hg : GoodIn Ts wl) (hw : wl = Cond.code y bytes maxL none :: wl') (hini : Cond.initialized y.cls ∈ Ts) (hlk : va_Nw (.methodLinkNest own index y host) s) (him : Cond.instanceMethod y ∈ Ts) (hy1 : y.name = "<init>") (hd : y.cls ≠ "java/lang/invoke/MethodHandle" ∧ y.cls ≠ "java/lang/invoke/VarHandle" ∧ (parseMethodDescriptor y.desc).map (fun d => d.parameters.length) = some n) (hR : Nat.ble (fr + 1) R.frames = true ∧ Nat.ble (8 + (maxL + 11) + lc) R.locals = true)
    (hP : va_P D vwCl wc H) (hD : va_D (fun _ => True) wc) (hn : As.length = n) (hst : st0 = As.reverse ++ .ref b :: rest) (hrm : Nat.ble (rest.map fun v => v.category).sum 8 = true) (hdg : decode cc pc = .ok (.invokespecial index, 3)) (hf : Nat.ble (cells + mc) R.cells = true ∧ Nat.ble (slots + ms) R.slots = true) :
    va_Run p l e R s m args below meth c H locs cells slots mc ms (F0 m pc ls st0) rest (Qc H.size (Value.ref b :: As).toArray) (free H.size) :=
  va_runIN ⟨hX.1, hX.2.1, hX.2.2.1, hX.2.2.2.1, hX.2.2.2.2.1⟩ (hM H.size) ⟨va_cnB n hX.2.2.2.2.1 hg hw rfl rfl hlk (hX.2.2.2.2.1 _ hini) hd ⟨Nat.le_of_ble_eq_true hR.1, Nat.le_of_ble_eq_true hR.2⟩, hy1, hX.2.2.2.2.1 _ him⟩ ⟨k_blindI, fun U hU hW => ⟨rfl, ⟨by rw [hU], by rw [hU]; exact hP, va_K.moved hW.alike hX.2.2.2.2.2.1, hD⟩, NW_.warm hW hN⟩⟩ rfl hn hsz hst (lv_room (Nat.le_of_ble_eq_true hrm)) hdg ⟨Nat.le_of_ble_eq_true hf.1, Nat.le_of_ble_eq_true hf.2⟩
end IKIT
