def C_inE (adK adV : Nat → Nat) (tA : Nat) (B : Nat → Prop) (D : va_G) (aC : Nat → ClassId) (w : va_W) (sz : Nat) (U : State) : Prop := C_in D aC w sz U ∧ EX_ adK adV tA B U U.heap
def M_WE (adK adV : Nat → Nat) (tA : Nat) (l : Launch) (y : MethodName) (ws : List Cond) (fr lc : Nat) (D : va_G) (aC : Nat → ClassId) (av : List Value) (w0 : va_W) (v : Option Value) (w1 : va_W) : Prop := ∀ sz : Nat, Met l y ws (R_m fr lc) (va_Pc av (C_inE adK adV tA (va_A w0 sz) D aC w0 sz)) (Q_W v D (va_A w0 sz) w1) 0 0 (va_A w0 sz)
def M_RE (adK adV : Nat → Nat) (tA : Nat) (l : Launch) (y : MethodName) (ws : List Cond) (fr lc : Nat) (D : va_G) (aC : Nat → ClassId) (av : List Value) (w0 : va_W) (v : Option Value) : Prop := ∀ sz : Nat, Met l y ws (R_m fr lc) (va_Pc av (C_inE adK adV tA (fun q => sz ≤ q) D aC w0 sz)) (Q_R v) 0 0 (fun _ => False)
theorem k_blindE {adK adV : Nat → Nat} {tA : Nat} {B : Nat → Prop} {av : List Value} {D : va_G} {aC : Nat → ClassId} {w0 : va_W} {sz : Nat} : FrameBlind (va_Pc av (C_inE adK adV tA B D aC w0 sz)) := by
  intro a U g mk q
  obtain ⟨q0, ⟨q1, qP, qK, qD⟩, qE⟩ := q
  exact ⟨q0, ⟨q1, qP, va_K.moved (u := U) (U := U.calling g mk a) (Vm.Alike.refl U.vm) qK, qD⟩, EX_.same (s := U) (U := U.calling g mk a) rfl qE⟩
section EKIT
variable {adK adV : Nat → Nat} {tA : Nat}
variable {cells slots : Nat} {p : Program} {l : Launch} {e : Env} {R : Room} {s : State} {m : MethodId} {args : Array Value} {below : List Frame} {meth : Method} {c : Code} {H : Heap} {locs : List Loc} {Q : State → Prop} {cc : ByteArray} {nL : Nat} {Ts : List Cond} {own : String} {D : va_G} {aC : Nat → ClassId} {A : Nat → Prop} {pc : Nat} {ls : Array Slot} {rest st0 st1 : List Value} {w0 wc w1 w' : va_W} {v : Option Value}
variable {y : MethodName} {wl wl' : List Cond} {fr lc maxL n index : Nat} {C : String} {bytes : ByteArray} {ret : Option FieldType} {b : Nat} {As : List Value} {T : u_T} {N : Nat} {fs : List Value}
theorem k_entWE {av : List Value} (hy : plainName y.cls = true) (hw : wl = Cond.code y cc maxL ret :: WL_) (hlen : Nat.ble (lg_sl av).length maxL = true) (hcl : y.cls = own)
    (body : ∀ (p : Program) (e : Env) (s : State) (m : MethodId) (below : List Frame) (meth : Method) (c : Code) (A : Nat → Prop) (ls : Array Slot), EX_ adK adV tA A s s.heap → K_X p s m av.toArray meth c cc maxL WL_ own D aC A → meth.sig.returnType = ret → K_S D A s w0 s.heap [] → lv_has ls maxL (lv_args 0 av) → W p l e (R_m fr lc) s m av.toArray below meth c s.heap [] 0 0 (MQ below (Q_W v D A w1) av.toArray s 0 0 A) (F0 m 0 ls [])) : M_WE adK adV tA l y wl fr lc D aC av w0 v w1 := by
  intro sz
  refine Met.ofW hy hw ?_
  intro p e s m args below meth c s₁ B hml hv
  obtain ⟨rfl, ⟨hsz, hP, hK, hD0⟩, hE⟩ := hv
  subst hsz
  subst hcl
  have hw0 := hw
  have hts0 := atoms_spec (ws := wl) B.pre
  have hts : ∀ w ∈ WL_, w.before _ s = true := fun w hw => hts0 w (by rw [hw0]; exact List.mem_cons_of_mem _ hw)
  rw [lg_entry_eq]
  exact body p e s m below meth c _ _ hE ⟨B.exec, B.bytes, hml, findClass_of_methodNamed B.named, hts, hK, fun q h => Or.inr h, B.notSynchronized⟩ B.returns ⟨hP, hD0.self, va_S.rf⟩ (lv_entry av (Nat.le_of_ble_eq_true hlen))
theorem k_entRE {av : List Value} (hy : plainName y.cls = true) (hw : wl = Cond.code y cc maxL ret :: WL_) (hlen : Nat.ble (lg_sl av).length maxL = true) (hcl : y.cls = own)
    (body : ∀ (p : Program) (e : Env) (s : State) (m : MethodId) (below : List Frame) (meth : Method) (c : Code) (ls : Array Slot), EX_ adK adV tA (fun q => s.heap.size ≤ q) s s.heap → K_X p s m av.toArray meth c cc maxL WL_ own D aC (fun q => s.heap.size ≤ q) → meth.sig.returnType = ret → (va_P D vwCl w0 s.heap ∧ va_D (fun _ => True) w0) → lv_has ls maxL (lv_args 0 av) → W p l e (R_m fr lc) s m av.toArray below meth c s.heap [] 0 0 (MQ below (Q_R v) av.toArray s 0 0 (fun _ => False)) (F0 m 0 ls [])) : M_RE adK adV tA l y wl fr lc D aC av w0 v := by
  intro sz
  refine Met.ofW hy hw ?_
  intro p e s m args below meth c s₁ B hml hv
  obtain ⟨rfl, ⟨hsz, hP, hK, hD0⟩, hE⟩ := hv
  subst hsz
  subst hcl
  have hw0 := hw
  have hts0 := atoms_spec (ws := wl) B.pre
  have hts : ∀ w ∈ WL_, w.before _ s = true := fun w hw => hts0 w (by rw [hw0]; exact List.mem_cons_of_mem _ hw)
  rw [lg_entry_eq]
  exact body p e s m below meth c _ hE ⟨B.exec, B.bytes, hml, findClass_of_methodNamed B.named, hts, hK, fun q h => h, B.notSynchronized⟩ B.returns ⟨hP, hD0⟩ (lv_entry av (Nat.le_of_ble_eq_true hlen))
/-- what is known, at the call -/
theorem k_exW (hE : EX_ adK adV tA A s s.heap) (hX : K_X p s m args meth c cc nL Ts own D aC A) (hZ : K_S D A s w0 H locs) (isC : List Nat) (hC : isC.map (fun i => w0[i]?) = wc.map some) : EX_ adK adV tA (va_A wc H.size) s H := (hE.kept hZ.2.2.2.1).narrow (va_free hZ.2.1 hZ.2.2 hX.2.2.2.2.2.2.1 isC hC)
theorem k_exR (hE : EX_ adK adV tA A s s.heap) (hX : K_X p s m args meth c cc nL Ts own D aC A) (hS : va_S A s.heap H locs) : EX_ adK adV tA (fun q => H.size ≤ q) s H := (hE.kept hS.2.1).narrow (fun q hq => hX.2.2.2.2.2.2.1 q (Nat.le_trans hS.1 hq))
variable {Qc : Nat → Array Value → State → Outcome → State → Prop} {free : Nat → Addr → Prop} {Bf : Nat → Nat → Prop}
theorem k_runVE (hEc : EX_ adK adV tA (Bf H.size) s H) (hX : K_X p s m args meth c cc nL Ts own D aC A) (hsz : ls.size = nL) (hM : ∀ sz : Nat, Met l y wl (R_m fr lc) (va_Pc (.ref b :: As) (C_inE adK adV tA (Bf sz) D aC wc sz)) (Qc sz) 0 0 (free sz)) (hg : GoodIn Ts (wsV own index C y wl)) (hw : wl = Cond.code y bytes maxL ret :: wl') (hd : y.cls = C ∧ y.cls ≠ "java/lang/invoke/MethodHandle" ∧ y.cls ≠ "java/lang/invoke/VarHandle" ∧ (parseMethodDescriptor y.desc).map (fun d => d.parameters.length) = some n) (hR : Nat.ble (fr + 1) R.frames = true ∧ Nat.ble (8 + (maxL + 11) + lc) R.locals = true)
    (ci q0 : Nat) (hc : vwCl[ci]? = some (C, T, N)) (he : wc[q0]? = some (b, .inr (ci, fs))) (hP : va_P D vwCl wc H) (hD : va_D (fun _ => True) wc) (hn : As.length = n) (hst : st0 = As.reverse ++ .ref b :: rest) (hrm : Nat.ble (rest.map fun v => v.category).sum 8 = true) (hdg : decode cc pc = .ok (.invokevirtual index, 3)) (hf : Nat.ble cells R.cells = true ∧ Nat.ble slots R.slots = true) :
    va_Run p l e R s m args below meth c H locs cells slots 0 0 (F0 m pc ls st0) rest (Qc H.size (Value.ref b :: As).toArray) (free H.size) :=
  va_runV ⟨hX.1, hX.2.1, hX.2.2.1, hX.2.2.2.1, hX.2.2.2.2.1⟩ (hM H.size) (cwV n hX.2.2.2.2.1 hg hw rfl rfl hd ⟨Nat.le_of_ble_eq_true hR.1, Nat.le_of_ble_eq_true hR.2⟩) ⟨k_blindE, va_recv hX.2.2.2.2.2.1 hP hc he, fun U hU hW => ⟨rfl, ⟨by rw [hU], by rw [hU]; exact hP, va_K.moved hW.alike hX.2.2.2.2.2.1, hD⟩, by rw [hU]; exact EX_.warm hW hEc⟩⟩ rfl hn hsz hst (lv_room (Nat.le_of_ble_eq_true hrm)) hdg ⟨Nat.le_of_ble_eq_true hf.1, Nat.le_of_ble_eq_true hf.2⟩
theorem k_runSE (hEc : EX_ adK adV tA (Bf H.size) s H) (hX : K_X p s m args meth c cc nL Ts own D aC A) (hsz : ls.size = nL) (hM : ∀ sz : Nat, Met l y wl (R_m fr lc) (va_Pc As (C_inE adK adV tA (Bf sz) D aC wc sz)) (Qc sz) 0 0 (free sz)) (hg : GoodIn Ts (va_wsS own index y wl)) (hw : wl = Cond.code y bytes maxL ret :: wl') (hd : y.cls ≠ "java/lang/invoke/MethodHandle" ∧ y.cls ≠ "java/lang/invoke/VarHandle" ∧ (parseMethodDescriptor y.desc).map (fun d => d.parameters.length) = some n) (hR : Nat.ble (fr + 1) R.frames = true ∧ Nat.ble (8 + (maxL + 11) + lc) R.locals = true)
    (hP : va_P D vwCl wc H) (hD : va_D (fun _ => True) wc) (hn : As.length = n) (hst : st0 = As.reverse ++ rest) (hrm : Nat.ble (rest.map fun v => v.category).sum 8 = true) (hdg : decode cc pc = .ok (.invokestatic index, 3)) (hf : Nat.ble cells R.cells = true ∧ Nat.ble slots R.slots = true) :
    va_Run p l e R s m args below meth c H locs cells slots 0 0 (F0 m pc ls st0) rest (Qc H.size As.toArray) (free H.size) :=
  va_runS ⟨hX.1, hX.2.1, hX.2.2.1, hX.2.2.2.1, hX.2.2.2.2.1⟩ (hM H.size) (va_cwS n hX.2.2.2.2.1 hg hw rfl rfl hd ⟨Nat.le_of_ble_eq_true hR.1, Nat.le_of_ble_eq_true hR.2⟩) ⟨k_blindE, fun U hU hW => ⟨rfl, ⟨by rw [hU], by rw [hU]; exact hP, va_K.moved hW.alike hX.2.2.2.2.2.1, hD⟩, by rw [hU]; exact EX_.warm hW hEc⟩⟩ rfl hn hsz hst (lv_room (Nat.le_of_ble_eq_true hrm)) hdg ⟨Nat.le_of_ble_eq_true hf.1, Nat.le_of_ble_eq_true hf.2⟩
/-- a call on a word's string -/
theorem k_runTE {i : Nat} (hi : i < 8) (hS : va_S A s.heap H locs) (hE : EX_ adK adV tA A s s.heap) (hEc : EX_ adK adV tA (Bf H.size) s H) (hX : K_X p s m args meth c cc nL Ts own D aC A) (hsz : ls.size = nL) (hM : ∀ sz : Nat, Met l y wl (R_m fr lc) (va_Pc (.ref (adK i) :: As) (C_inE adK adV tA (Bf sz) D aC wc sz)) (Qc sz) 0 0 (free sz)) (hg : GoodIn Ts (wsV own index "java/lang/String" y wl)) (hw : wl = Cond.code y bytes maxL ret :: wl') (hd : y.cls = "java/lang/String" ∧ y.cls ≠ "java/lang/invoke/MethodHandle" ∧ y.cls ≠ "java/lang/invoke/VarHandle" ∧ (parseMethodDescriptor y.desc).map (fun d => d.parameters.length) = some n) (hR : Nat.ble (fr + 1) R.frames = true ∧ Nat.ble (8 + (maxL + 11) + lc) R.locals = true)
    (hP : va_P D vwCl wc H) (hD : va_D (fun _ => True) wc) (hn : As.length = n) (hst : st0 = As.reverse ++ .ref (adK i) :: rest) (hrm : Nat.ble (rest.map fun v => v.category).sum 8 = true) (hdg : decode cc pc = .ok (.invokevirtual index, 3)) (hf : Nat.ble cells R.cells = true ∧ Nat.ble slots R.slots = true) :
    va_Run p l e R s m args below meth c H locs cells slots 0 0 (F0 m pc ls st0) rest (Qc H.size (Value.ref (adK i) :: As).toArray) (free H.size) :=
  va_runV ⟨hX.1, hX.2.1, hX.2.2.1, hX.2.2.2.1, hX.2.2.2.2.1⟩ (hM H.size) (cwV n hX.2.2.2.2.1 hg hw rfl rfl hd ⟨Nat.le_of_ble_eq_true hR.1, Nat.le_of_ble_eq_true hR.2⟩) ⟨k_blindE, vk_recv hE.1 hi hS, fun U hU hW => ⟨rfl, ⟨by rw [hU], by rw [hU]; exact hP, va_K.moved hW.alike hX.2.2.2.2.2.1, hD⟩, by rw [hU]; exact EX_.warm hW hEc⟩⟩ rfl hn hsz hst (lv_room (Nat.le_of_ble_eq_true hrm)) hdg ⟨Nat.le_of_ble_eq_true hf.1, Nat.le_of_ble_eq_true hf.2⟩
end EKIT
