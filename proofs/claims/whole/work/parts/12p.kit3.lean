section EKIT3
variable {adK adV : Nat → Nat} {tA : Nat}
variable {cells slots : Nat} {p : Program} {l : Launch} {e : Env} {R : Room} {s : State} {m : MethodId} {args : Array Value} {below : List Frame} {meth : Method} {c : Code} {H : Heap} {locs : List Loc} {Q : State → Prop} {cc : ByteArray} {nL : Nat} {Ts : List Cond} {own : String} {D : va_G} {aC : Nat → ClassId} {A : Nat → Prop} {pc : Nat} {ls : Array Slot} {rest st0 st1 : List Value} {w0 wc w1 w' : va_W} {v : Option Value}
variable {y : MethodName} {wl wl' : List Cond} {fr lc maxL n index : Nat} {C : String} {bytes : ByteArray} {ret : Option FieldType} {b : Nat} {As : List Value} {T : u_T} {N : Nat} {fs : List Value}
theorem k_exWs (hE : EX_ adK adV tA A s s.heap) (hX : K_X p s m args meth c cc nL Ts own D aC A) (hZ : K_S D A s w0 H locs) : EX_ adK adV tA (va_A w0 H.size) s H := (hE.kept hZ.2.2.2.1).narrow (by
    intro q h
    rcases h with ⟨k, e, h⟩ | h
    · exact hZ.2.1.2 k _ h
    · exact hX.2.2.2.2.2.2.1 q (Nat.le_trans hZ.2.2.1 h))
theorem k_vWE (hE : EX_ adK adV tA A s s.heap) (hX : K_X p s m args meth c cc nL Ts own D aC A) (hsz : ls.size = nL) (hZ : K_S D A s w0 H locs) (hM : M_WE adK adV tA l y wl fr lc D aC (.ref b :: As) wc v w1) (hg : GoodIn Ts (wsV own index C y wl)) (hw : wl = Cond.code y bytes maxL ret :: wl') (hd : y.cls = C ∧ y.cls ≠ "java/lang/invoke/MethodHandle" ∧ y.cls ≠ "java/lang/invoke/VarHandle" ∧ (parseMethodDescriptor y.desc).map (fun d => d.parameters.length) = some n) (hR : Nat.ble (fr + 1) R.frames = true ∧ Nat.ble (8 + (maxL + 11) + lc) R.locals = true) (ci q0 : Nat) (hc : vwCl[ci]? = some (C, T, N)) (he : wc[q0]? = some (b, .inr (ci, fs))) (is : List Nat) (hs : is.map (fun i => w0[i]?) = wc.map some) (hnd : va_nd is = true) (hn : As.length = n) (hst : st0 = As.reverse ++ .ref b :: rest) (hrm : Nat.ble (rest.map fun v => v.category).sum 8 = true) (hdg : decode cc pc = .ok (.invokevirtual index, 3)) (hst1 : v.toList ++ rest = st1) (hf : Nat.ble cells R.cells = true ∧ Nat.ble slots R.slots = true) (hm : mg_ w0 is w1 = w') (hl : is.length = w1.length) (he1 : w'.map (·.1) = w0.map (·.1))
    (kk : ∀ (H1 : Heap) (locs1 : List Loc), K_S D A s w' H1 locs1 → W p l e R s m args below meth c H1 locs1 cells slots Q (F0 m (pc + 3) ls st1)) : W p l e R s m args below meth c H locs cells slots Q (F0 m pc ls st0) := by
  subst hst1
  exact k_cW (k_runVE (Bf := fun sz => va_A wc sz) (Qc := fun sz => Q_W v D (va_A wc sz) w1) (free := fun sz => va_A wc sz) (k_exW hE hX hZ is hs) hX hsz hM hg hw hd hR ci q0 hc he (k_P0 hZ.1 is hs) (k_D0 hZ.2.1 is hnd hs) hn hst hrm hdg hf) hX hZ is hs hm hl he1 kk
theorem k_vWsE (hE : EX_ adK adV tA A s s.heap) (hX : K_X p s m args meth c cc nL Ts own D aC A) (hsz : ls.size = nL) (hZ : K_S D A s w0 H locs) (hM : M_WE adK adV tA l y wl fr lc D aC (.ref b :: As) w0 v w1) (hg : GoodIn Ts (wsV own index C y wl)) (hw : wl = Cond.code y bytes maxL ret :: wl') (hd : y.cls = C ∧ y.cls ≠ "java/lang/invoke/MethodHandle" ∧ y.cls ≠ "java/lang/invoke/VarHandle" ∧ (parseMethodDescriptor y.desc).map (fun d => d.parameters.length) = some n) (hR : Nat.ble (fr + 1) R.frames = true ∧ Nat.ble (8 + (maxL + 11) + lc) R.locals = true) (ci q0 : Nat) (hc : vwCl[ci]? = some (C, T, N)) (he : w0[q0]? = some (b, .inr (ci, fs))) (hn : As.length = n) (hst : st0 = As.reverse ++ .ref b :: rest) (hrm : Nat.ble (rest.map fun v => v.category).sum 8 = true) (hdg : decode cc pc = .ok (.invokevirtual index, 3)) (hst1 : v.toList ++ rest = st1) (hf : Nat.ble cells R.cells = true ∧ Nat.ble slots R.slots = true) (he1 : w1.map (·.1) = w0.map (·.1))
    (kk : ∀ (H1 : Heap) (locs1 : List Loc), K_S D A s w1 H1 locs1 → W p l e R s m args below meth c H1 locs1 cells slots Q (F0 m (pc + 3) ls st1)) : W p l e R s m args below meth c H locs cells slots Q (F0 m pc ls st0) := by
  subst hst1
  refine k_go (k_runVE (Bf := fun sz => va_A w0 sz) (Qc := fun sz => Q_W v D (va_A w0 sz) w1) (free := fun sz => va_A w0 sz) (k_exWs hE hX hZ) hX hsz hM hg hw hd hR ci q0 hc he hZ.1 (hZ.2.1.weaken (fun _ _ _ _ => trivial)) hn hst hrm hdg hf) (fun v' st t L hst hL hq => ?_)
  obtain ⟨hP, hD, hS⟩ := hZ
  have hF : ∀ q, va_A w0 H.size q → A q := by
    intro q h
    rcases h with ⟨k, e, h⟩ | h
    · exact hD.2 k _ h
    · exact hX.2.2.2.2.2.2.1 q (Nat.le_trans hS.1 h)
  obtain ⟨hv, hP1, hz, hk⟩ := hq
  cases hv
  rw [hst] at hz hk
  refine kk _ _ ⟨hP1, d_addr hD he1, Nat.le_trans hS.1 hz, fun q h1 h2 => ?_, fun q hq => ?_⟩
  · rw [hk q (Nat.lt_of_lt_of_le h1 hS.1) (fun z => h2 (hF q z))]
    exact hS.2.1 q h1 h2
  · rcases List.mem_append.mp hq with h | h
    · exact hS.2.2 q h
    · exact hF _ (hL q h)
theorem k_vW3E (hE : EX_ adK adV tA A s s.heap) (hX : K_X p s m args meth c cc nL Ts own D aC A) (hsz : ls.size = nL) (hZ : K_S D A s w0 H locs) (hM : M_WE adK adV tA l y wl fr lc D aC (.ref b :: As) wc v w1) (hg : GoodIn Ts (wsV own index C y wl)) (hw : wl = Cond.code y bytes maxL ret :: wl') (hd : y.cls = C ∧ y.cls ≠ "java/lang/invoke/MethodHandle" ∧ y.cls ≠ "java/lang/invoke/VarHandle" ∧ (parseMethodDescriptor y.desc).map (fun d => d.parameters.length) = some n) (hR : Nat.ble (fr + 1) R.frames = true ∧ Nat.ble (8 + (maxL + 11) + lc) R.locals = true) (ci q0 : Nat) (hc : vwCl[ci]? = some (C, T, N)) (he : wc[q0]? = some (b, .inr (ci, fs))) (is : List Nat) (hn : As.length = n) (hst : st0 = As.reverse ++ .ref b :: rest) (hrm : Nat.ble (rest.map fun v => v.category).sum 8 = true) (hdg : decode cc pc = .ok (.invokevirtual index, 3)) (hst1 : v.toList ++ rest = st1) (hf : Nat.ble cells R.cells = true ∧ Nat.ble slots R.slots = true)
    (hnd : va_nd is = true) (cs : va_W) (hcs : wc = cs) (hpk : Pk_ w0 is cs) (cs1 : va_W) (hcs1 : w1 = cs1) (hpk1 : Pk_ w' is cs1) (isR : List Nat) (csR : va_W) (hr0 : Pk_ w0 isR csR) (hr1 : Pk_ w' isR csR) (len : Nat) (hlen : w'.length = len) (hcov : ((List.range len).all fun k => is.contains k || isR.contains k) = true) (hdis : (isR.all fun k => !is.contains k) = true) (ad : List Nat) (ha0 : w0.map (·.1) = ad) (ha1 : w'.map (·.1) = ad)
    (kk : ∀ (H1 : Heap) (locs1 : List Loc), K_S D A s w' H1 locs1 → W p l e R s m args below meth c H1 locs1 cells slots Q (F0 m (pc + 3) ls st1)) : W p l e R s m args below meth c H locs cells slots Q (F0 m pc ls st0) := by
  subst hst1
  subst hcs
  subst hcs1
  subst hlen
  have hs := pk_map _ _ hpk
  have hs1 := pk_map _ _ hpk1
  have hR1 := (pk_map _ _ hr1).trans (pk_map _ _ hr0).symm
  exact k_cW2 (k_runVE (Bf := fun sz => va_A wc sz) (Qc := fun sz => Q_W v D (va_A wc sz) w1) (free := fun sz => va_A wc sz) (k_exW hE hX hZ is hs) hX hsz hM hg hw hd hR ci q0 hc he (k_P0 hZ.1 is hs) (k_D0 hZ.2.1 is hnd hs) hn hst hrm hdg hf) hX hZ is hs isR hs1 hR1 hcov hdis (ha1.trans ha0.symm) kk
end EKIT3
