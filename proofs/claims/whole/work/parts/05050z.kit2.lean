/-- behind a call: what the callee's cells are now, in their places; all else as it was (each place looked up once) -/
theorem k_join2 {A : Nat → Prop} {D : va_G} {w0 wc w1 w' : va_W} {H H1 : Heap} (hP : va_P D vwCl w0 H) (hD : va_D A w0) (isC isR : List Nat) (hC : isC.map (fun i => w0[i]?) = wc.map some) (hC1 : isC.map (fun i => w'[i]?) = w1.map some) (hR : isR.map (fun i => w'[i]?) = isR.map (fun i => w0[i]?)) (hcov : ((List.range w'.length).all fun k => isC.contains k || isR.contains k) = true) (hdis : (isR.all fun k => !isC.contains k) = true) (he : w'.map (·.1) = w0.map (·.1))
    (hk : ∀ q : Nat, q < H.size → ¬ va_A wc H.size q → H1[q]? = H[q]?) (hP1 : va_P D vwCl w1 H1) : va_P D vwCl w' H1 ∧ va_D A w' := by
  refine ⟨fun k q hq => ?_, d_addr hD he⟩
  have hkl : k < w'.length := (List.getElem?_eq_some_iff.mp hq).1
  have hc := List.all_eq_true.mp hcov k (List.mem_range.mpr hkl)
  rw [Bool.or_eq_true] at hc
  by_cases hin : k ∈ isC
  · obtain ⟨j, hj⟩ := List.getElem?_of_mem hin
    have h1 : (isC.map (fun i => w'[i]?))[j]? = some (some q) := by rw [List.getElem?_map, hj, Option.map_some, hq]
    rw [hC1, List.getElem?_map] at h1
    cases hw : w1[j]? with
    | none => rw [hw] at h1; cases h1
    | some q1 =>
      rw [hw] at h1
      have e : q1 = q := Option.some.inj (Option.some.inj h1)
      exact hP1 j q (by rw [hw, e])
  · have hr : k ∈ isR := by
      rcases hc with h | h
      · exact absurd (by simpa using h) hin
      · simpa using h
    obtain ⟨j, hj⟩ := List.getElem?_of_mem hr
    have h1 : (isR.map (fun i => w'[i]?))[j]? = some (some q) := by rw [List.getElem?_map, hj, Option.map_some, hq]
    rw [hR, List.getElem?_map, hj, Option.map_some] at h1
    have h2 : w0[k]? = some q := Option.some.inj h1
    have hlt := (hP k q h2).lt
    refine (hP k q h2).kept (hk q.1 hlt (fun hA => ?_))
    rcases hA with ⟨k2, e, h3⟩ | h3
    · have h4 : (isC.map (fun i => w0[i]?))[k2]? = some (some (q.1, e)) := by rw [hC, List.getElem?_map, h3]; rfl
      rw [List.getElem?_map] at h4
      cases hi : isC[k2]? with
      | none => rw [hi] at h4; cases h4
      | some i =>
        rw [hi] at h4
        have h5 : w0[i]? = some (q.1, e) := Option.some.inj h4
        have h6 := hD.1 k i q (q.1, e) h2 h5 rfl
        subst h6
        exact hin (List.mem_of_getElem? hi)
    · omega
section CALLS2
variable {cells slots : Nat} {p : Program} {l : Launch} {e : Env} {R : Room} {s : State} {m : MethodId} {args : Array Value} {below : List Frame} {meth : Method} {c : Code} {H : Heap} {locs : List Loc} {Q : State → Prop} {cc : ByteArray} {nL : Nat} {Ts : List Cond} {own : String} {D : va_G} {aC : Nat → ClassId} {A : Nat → Prop} {pc : Nat} {ls : Array Slot} {rest st0 st1 : List Value} {w0 wc w1 w' : va_W} {v : Option Value}
variable {y : MethodName} {wl wl' : List Cond} {fr lc maxL n index : Nat} {C : String} {bytes : ByteArray} {ret : Option FieldType} {b : Nat} {As : List Value} {T : u_T} {N : Nat} {fs : List Value}
theorem k_cW2 {a : Array Value} (hr : va_Run p l e R s m args below meth c H locs cells slots 0 0 (F0 m pc ls st0) rest (Q_W v D (va_A wc H.size) w1 a) (va_A wc H.size)) (hX : K_X p s m args meth c cc nL Ts own D aC A) (hZ : K_S D A s w0 H locs) (isC : List Nat) (hC : isC.map (fun i => w0[i]?) = wc.map some) (isR : List Nat) (hC1 : isC.map (fun i => w'[i]?) = w1.map some) (hR : isR.map (fun i => w'[i]?) = isR.map (fun i => w0[i]?)) (hcov : ((List.range w'.length).all fun k => isC.contains k || isR.contains k) = true) (hdis : (isR.all fun k => !isC.contains k) = true) (he : w'.map (·.1) = w0.map (·.1))
    (kk : ∀ (H1 : Heap) (locs1 : List Loc), K_S D A s w' H1 locs1 → W p l e R s m args below meth c H1 locs1 cells slots Q (F0 m (pc + 3) ls (v.toList ++ rest))) : W p l e R s m args below meth c H locs cells slots Q (F0 m pc ls st0) := by
  obtain ⟨hP, hD, hS⟩ := hZ
  have hF := va_free hD hS hX.2.2.2.2.2.2.1 isC hC
  refine k_go hr (fun v' st t L hst hL hq => ?_)
  obtain ⟨hv, hP1, hz, hk⟩ := hq
  cases hv
  rw [hst] at hz hk
  obtain ⟨hP', hD'⟩ := k_join2 hP hD isC isR hC hC1 hR hcov hdis he hk hP1
  refine kk _ _ ⟨hP', hD', Nat.le_trans hS.1 hz, fun q h1 h2 => ?_, fun q hq => ?_⟩
  · rw [hk q (Nat.lt_of_lt_of_le h1 hS.1) (fun z => h2 (hF q z))]
    exact hS.2.1 q h1 h2
  · rcases List.mem_append.mp hq with h | h
    · exact hS.2.2 q h
    · exact hF _ (hL q h)
theorem k_vW2 (hX : K_X p s m args meth c cc nL Ts own D aC A) (hsz : ls.size = nL) (hZ : K_S D A s w0 H locs) (hM : M_W l y wl fr lc D aC (.ref b :: As) wc v w1) (hg : GoodIn Ts (wsV own index C y wl)) (hw : wl = Cond.code y bytes maxL ret :: wl') (hd : y.cls = C ∧ y.cls ≠ "java/lang/invoke/MethodHandle" ∧ y.cls ≠ "java/lang/invoke/VarHandle" ∧ (parseMethodDescriptor y.desc).map (fun d => d.parameters.length) = some n) (hR : Nat.ble (fr + 1) R.frames = true ∧ Nat.ble (8 + (maxL + 11) + lc) R.locals = true) (ci q0 : Nat) (hc : vwCl[ci]? = some (C, T, N)) (he : wc[q0]? = some (b, .inr (ci, fs))) (is : List Nat) (hs : is.map (fun i => w0[i]?) = wc.map some) (hnd : va_nd is = true) (hn : As.length = n) (hst : st0 = As.reverse ++ .ref b :: rest) (hrm : Nat.ble (rest.map fun v => v.category).sum 8 = true) (hdg : decode cc pc = .ok (.invokevirtual index, 3)) (hst1 : v.toList ++ rest = st1) (hf : Nat.ble cells R.cells = true ∧ Nat.ble slots R.slots = true) (isR : List Nat) (hC1 : is.map (fun i => w'[i]?) = w1.map some) (hR1 : isR.map (fun i => w'[i]?) = isR.map (fun i => w0[i]?)) (hcov : ((List.range w'.length).all fun k => is.contains k || isR.contains k) = true) (hdis : (isR.all fun k => !is.contains k) = true) (he1 : w'.map (·.1) = w0.map (·.1))
    (kk : ∀ (H1 : Heap) (locs1 : List Loc), K_S D A s w' H1 locs1 → W p l e R s m args below meth c H1 locs1 cells slots Q (F0 m (pc + 3) ls st1)) : W p l e R s m args below meth c H locs cells slots Q (F0 m pc ls st0) := by
  subst hst1
  exact k_cW2 (k_runV (Qc := fun sz => Q_W v D (va_A wc sz) w1) (free := fun sz => va_A wc sz) hX hsz hM hg hw hd hR ci q0 hc he (k_P0 hZ.1 is hs) (k_D0 hZ.2.1 is hnd hs) hn hst hrm hdg hf) hX hZ is hs isR hC1 hR1 hcov hdis he1 kk
/-- cells at places, one by one -/
def Pk_ (w : va_W) : List Nat → va_W → Prop
  | i :: is, c :: cs => w[i]? = some c ∧ Pk_ w is cs
  | [], [] => True
  | _, _ => False
theorem pk_map {w : va_W} : ∀ (is : List Nat) (cs : va_W), Pk_ w is cs → is.map (fun i => w[i]?) = cs.map some
  | [], [], _ => rfl
  | [], _ :: _, h => h.elim
  | _ :: _, [], h => h.elim
  | i :: is, c :: cs, h => by
    rw [List.map_cons, List.map_cons, h.1, pk_map is cs h.2]
theorem k_vW3 (hX : K_X p s m args meth c cc nL Ts own D aC A) (hsz : ls.size = nL) (hZ : K_S D A s w0 H locs) (hM : M_W l y wl fr lc D aC (.ref b :: As) wc v w1) (hg : GoodIn Ts (wsV own index C y wl)) (hw : wl = Cond.code y bytes maxL ret :: wl') (hd : y.cls = C ∧ y.cls ≠ "java/lang/invoke/MethodHandle" ∧ y.cls ≠ "java/lang/invoke/VarHandle" ∧ (parseMethodDescriptor y.desc).map (fun d => d.parameters.length) = some n) (hR : Nat.ble (fr + 1) R.frames = true ∧ Nat.ble (8 + (maxL + 11) + lc) R.locals = true) (ci q0 : Nat) (hc : vwCl[ci]? = some (C, T, N)) (he : wc[q0]? = some (b, .inr (ci, fs))) (is : List Nat) (hn : As.length = n) (hst : st0 = As.reverse ++ .ref b :: rest) (hrm : Nat.ble (rest.map fun v => v.category).sum 8 = true) (hdg : decode cc pc = .ok (.invokevirtual index, 3)) (hst1 : v.toList ++ rest = st1) (hf : Nat.ble cells R.cells = true ∧ Nat.ble slots R.slots = true)
    (hnd : va_nd is = true) (cs : va_W) (hcs : wc = cs) (hpk : Pk_ w0 is cs) (cs1 : va_W) (hcs1 : w1 = cs1) (hpk1 : Pk_ w' is cs1) (isR : List Nat) (csR : va_W) (hr0 : Pk_ w0 isR csR) (hr1 : Pk_ w' isR csR) (len : Nat) (hlen : w'.length = len) (hcov : ((List.range len).all fun k => is.contains k || isR.contains k) = true) (hdis : (isR.all fun k => !is.contains k) = true) (ad : List Nat) (ha0 : w0.map (·.1) = ad) (ha1 : w'.map (·.1) = ad)
    (kk : ∀ (H1 : Heap) (locs1 : List Loc), K_S D A s w' H1 locs1 → W p l e R s m args below meth c H1 locs1 cells slots Q (F0 m (pc + 3) ls st1)) : W p l e R s m args below meth c H locs cells slots Q (F0 m pc ls st0) := by
  subst hst1
  subst hcs
  subst hcs1
  subst hlen
  have hs := pk_map _ _ hpk
  have hs1 := pk_map _ _ hpk1
  have hR1 := (pk_map _ _ hr1).trans (pk_map _ _ hr0).symm
  exact k_cW2 (k_runV (Qc := fun sz => Q_W v D (va_A wc sz) w1) (free := fun sz => va_A wc sz) hX hsz hM hg hw hd hR ci q0 hc he (k_P0 hZ.1 is hs) (k_D0 hZ.2.1 is hnd hs) hn hst hrm hdg hf) hX hZ is hs isR hs1 hR1 hcov hdis (ha1.trans ha0.symm) kk
theorem k_vR3 (hX : K_X p s m args meth c cc nL Ts own D aC A) (hsz : ls.size = nL) (hZ : K_S D A s w0 H locs) (hM : M_R l y wl fr lc D aC (.ref b :: As) wc v) (hg : GoodIn Ts (wsV own index C y wl)) (hw : wl = Cond.code y bytes maxL ret :: wl') (hd : y.cls = C ∧ y.cls ≠ "java/lang/invoke/MethodHandle" ∧ y.cls ≠ "java/lang/invoke/VarHandle" ∧ (parseMethodDescriptor y.desc).map (fun d => d.parameters.length) = some n) (hR : Nat.ble (fr + 1) R.frames = true ∧ Nat.ble (8 + (maxL + 11) + lc) R.locals = true) (ci q0 : Nat) (hc : vwCl[ci]? = some (C, T, N)) (he : wc[q0]? = some (b, .inr (ci, fs))) (is : List Nat) (hn : As.length = n) (hst : st0 = As.reverse ++ .ref b :: rest) (hrm : Nat.ble (rest.map fun v => v.category).sum 8 = true) (hdg : decode cc pc = .ok (.invokevirtual index, 3)) (hst1 : v.toList ++ rest = st1) (hf : Nat.ble cells R.cells = true ∧ Nat.ble slots R.slots = true)
    (hnd : va_nd is = true) (cs : va_W) (hcs : wc = cs) (hpk : Pk_ w0 is cs)
    (kk : ∀ (locs1 : List Loc), K_S D A s w0 H locs1 → W p l e R s m args below meth c H locs1 cells slots Q (F0 m (pc + 3) ls st1)) : W p l e R s m args below meth c H locs cells slots Q (F0 m pc ls st0) := by
  subst hst1
  subst hcs
  have hs := pk_map _ _ hpk
  exact k_cR (k_runV (Qc := fun _ => Q_R v) (free := fun _ _ => False) hX hsz hM hg hw hd hR ci q0 hc he (k_P0 hZ.1 is hs) (k_D0 hZ.2.1 is hnd hs) hn hst hrm hdg hf) hZ kk
end CALLS2
