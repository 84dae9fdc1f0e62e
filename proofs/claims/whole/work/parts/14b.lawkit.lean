/-! the law's world: blocks, some of which a call takes -/
def FLc : (Nat → va_W) → List Nat → va_W
  | _, [] => []
  | B, [i] => B i
  | B, i :: j :: js => B i ++ FLc B (j :: js)
def FL (B : Nat → va_W) (is : List Nat) : va_W := (is.map B).flatten
theorem flc_eq (B : Nat → va_W) : ∀ is : List Nat, FLc B is = FL B is
  | [] => rfl
  | [i] => by simp [FLc, FL]
  | i :: j :: js => by
    have h := flc_eq B (j :: js)
    show B i ++ FLc B (j :: js) = _
    rw [h]
    simp [FL]
theorem fl_perm {B : Nat → va_W} {is js : List Nat} (h : is.Perm js) : (FL B is).Perm (FL B js) := (h.map B).flatten
theorem fl_app (B : Nat → va_W) (is js : List Nat) : FL B (is ++ js) = FL B is ++ FL B js := by simp [FL]
theorem P_sub {D : va_G} {w w' : va_W} {H : Heap} (hp : ∀ q ∈ w', q ∈ w) (h : va_P D vwCl w H) : va_P D vwCl w' H := by
  intro k q hk
  obtain ⟨i, hi⟩ := List.mem_iff_getElem?.mp (hp q (List.mem_of_getElem? hk))
  exact h i q hi
theorem P_app {D : va_G} {w w' : va_W} {H : Heap} (h : va_P D vwCl w H) (h' : va_P D vwCl w' H) : va_P D vwCl (w ++ w') H := by
  intro k q hk
  rcases List.mem_append.mp (List.mem_of_getElem? hk) with hm | hm
  · obtain ⟨i, hi⟩ := List.mem_iff_getElem?.mp hm
    exact h i q hi
  · obtain ⟨i, hi⟩ := List.mem_iff_getElem?.mp hm
    exact h' i q hi
section LKIT
variable {adK adV : Nat → Nat} {tA : Nat}
variable {cells slots : Nat} {p : Program} {l : Launch} {e : Env} {R : Room} {s : State} {m : MethodId} {args : Array Value} {below : List Frame} {meth : Method} {c : Code} {H : Heap} {locs : List Loc} {Q : State → Prop} {cc : ByteArray} {nL : Nat} {Ts : List Cond} {own : String} {D : va_G} {aC : Nat → ClassId} {A : Nat → Prop} {pc : Nat} {ls : Array Slot} {rest st0 st1 : List Value} {w0 wc wr w1 w' : va_W} {v : Option Value}
variable {y : MethodName} {wl wl' : List Cond} {fr lc maxL n index : Nat} {C : String} {bytes : ByteArray} {ret : Option FieldType} {b : Nat} {As : List Value} {T : u_T} {N : Nat} {fs : List Value} {B B' : Nat → va_W}
theorem A_left (hX : K_X p s m args meth c cc nL Ts own D aC A) (hZ : K_S D A s (wc ++ wr) H locs) : ∀ q, va_A wc H.size q → A q := by
  rintro q (⟨k, x, h⟩ | h)
  · exact (D_nd.mp hZ.2.1).2 (q, x) (List.mem_append_left _ (List.mem_of_getElem? h))
  · exact hX.2.2.2.2.2.2.1 q (Nat.le_trans hZ.2.2.1 h)
theorem P_left (hZ : K_S D A s (wc ++ wr) H locs) : va_P D vwCl wc H := P_sub (fun q hq => List.mem_append_left _ hq) hZ.1
theorem D_left (hZ : K_S D A s (wc ++ wr) H locs) : va_D (fun _ => True) wc := by
  have h := D_nd.mp hZ.2.1
  refine D_nd.mpr ⟨?_, fun _ _ => trivial⟩
  have h1 := h.1
  rw [List.map_append] at h1
  exact (List.nodup_append.mp h1).1
/-- behind a call that takes the first cells -/
theorem k_cL {ar : Array Value} (hr : va_Run p l e R s m args below meth c H locs cells slots 0 0 (F0 m pc ls st0) rest (Q_W v D (va_A wc H.size) w1 ar) (va_A wc H.size)) (hX : K_X p s m args meth c cc nL Ts own D aC A) (hZ : K_S D A s (wc ++ wr) H locs) (he : w1.map (·.1) = wc.map (·.1))
    (kk : ∀ (H1 : Heap) (locs1 : List Loc), K_S D A s (w1 ++ wr) H1 locs1 → W p l e R s m args below meth c H1 locs1 cells slots Q (F0 m (pc + 3) ls (v.toList ++ rest))) : W p l e R s m args below meth c H locs cells slots Q (F0 m pc ls st0) := by
  have hF := A_left hX hZ
  obtain ⟨hP, hD, hS⟩ := hZ
  refine k_go hr (fun v' st t L hst hL hq => ?_)
  obtain ⟨hv, hP1, hz, hk⟩ := hq
  cases hv
  rw [hst] at hz hk
  have hn := (D_nd.mp hD).1
  rw [List.map_append] at hn
  have hnd := (List.nodup_append.mp hn).2.2
  have hPr : va_P D vwCl wr t.heap := by
    refine (P_sub (fun q hq => List.mem_append_right _ hq) hP).kept (fun k x hx => ?_)
    have hm := List.mem_of_getElem? hx
    have hlt : x.1 < H.size := by
      obtain ⟨i, hi⟩ := List.mem_iff_getElem?.mp (List.mem_append_right wc hm)
      exact (hP i x hi).lt
    refine hk x.1 hlt ?_
    rintro (⟨j, z, hj⟩ | h)
    · exact hnd x.1 (List.mem_map.mpr ⟨_, List.mem_of_getElem? hj, rfl⟩) x.1 (List.mem_map.mpr ⟨_, hm, rfl⟩) rfl
    · omega
  refine kk _ _ ⟨P_app hP1 hPr, d_addr hD (by rw [List.map_append, List.map_append, he]), Nat.le_trans hS.1 hz, fun q h1 h2 => ?_, fun q hq => ?_⟩
  · rw [hk q (Nat.lt_of_lt_of_le h1 hS.1) (fun z => h2 (hF q z))]
    exact hS.2.1 q h1 h2
  · rcases List.mem_append.mp hq with h | h
    · exact hS.2.2 q h
    · exact hF _ (hL q h)
theorem S_in (ic ir all : List Nat) (hp : (ic ++ ir).Perm all) (hZ : K_S D A s (FL B all) H locs) : K_S D A s (FLc B ic ++ FL B ir) H locs := by
  rw [flc_eq, ← fl_app]
  exact S_perm (fl_perm hp).symm hZ
theorem S_out (ic ir all : List Nat) (hp : (ic ++ ir).Perm all) (hs : ir.map B' = ir.map B) (hZ : K_S D A s (FLc B' ic ++ FL B ir) H locs) : K_S D A s (FL B' all) H locs := by
  have e : FL B ir = FL B' ir := by unfold FL; rw [hs]
  rw [e, flc_eq, ← fl_app] at hZ
  exact S_perm (fl_perm hp) hZ
theorem fl_addr (ic : List Nat) (h : ic.map (fun k => (B' k).map (·.1)) = ic.map (fun k => (B k).map (·.1))) : (FLc B' ic).map (·.1) = (FLc B ic).map (·.1) := by
  rw [flc_eq, flc_eq]
  unfold FL
  rw [List.map_flatten, List.map_flatten, List.map_map, List.map_map]
  exact congrArg List.flatten h
theorem k_LW (hX : K_X p s m args meth c cc nL Ts own D aC A) (hsz : ls.size = nL) (ic ir all : List Nat) (hZ : K_S D A s (FL B all) H locs) (hp : (ic ++ ir).Perm all) (hM : M_W l y wl fr lc D aC (.ref b :: As) (FLc B ic) v (FLc B' ic)) (hs : ir.map B' = ir.map B) (ha : ic.map (fun k => (B' k).map (·.1)) = ic.map (fun k => (B k).map (·.1))) (hg : GoodIn Ts (wsV own index C y wl)) (hw : wl = Cond.code y bytes maxL ret :: wl') (hd : y.cls = C ∧ y.cls ≠ "java/lang/invoke/MethodHandle" ∧ y.cls ≠ "java/lang/invoke/VarHandle" ∧ (parseMethodDescriptor y.desc).map (fun d => d.parameters.length) = some n) (hR : Nat.ble (fr + 1) R.frames = true ∧ Nat.ble (8 + (maxL + 11) + lc) R.locals = true)
    (ci : Nat) (hc : vwCl[ci]? = some (C, T, N)) (he : (FLc B ic)[0]? = some (b, .inr (ci, fs))) (hn : As.length = n) (hst : st0 = As.reverse ++ .ref b :: rest) (hrm : Nat.ble (rest.map fun v => v.category).sum 8 = true) (hdg : decode cc pc = .ok (.invokevirtual index, 3)) (hst1 : v.toList ++ rest = st1) (hf : Nat.ble cells R.cells = true ∧ Nat.ble slots R.slots = true)
    (kk : ∀ (H1 : Heap) (locs1 : List Loc), K_S D A s (FL B' all) H1 locs1 → W p l e R s m args below meth c H1 locs1 cells slots Q (F0 m (pc + 3) ls st1)) : W p l e R s m args below meth c H locs cells slots Q (F0 m pc ls st0) := by
  subst hst1
  have hZ' := S_in ic ir all hp hZ
  exact k_cL (k_runV (Qc := fun sz => Q_W v D (va_A (FLc B ic) sz) (FLc B' ic)) (free := fun sz => va_A (FLc B ic) sz) hX hsz hM hg hw hd hR ci 0 hc he (P_left hZ') (D_left hZ') hn hst hrm hdg hf) hX hZ' (fl_addr ic ha) (fun H1 locs1 hZ => kk H1 locs1 (S_out ic ir all hp hs hZ))
theorem k_LWE (hE : EX_ adK adV tA A s s.heap) (hX : K_X p s m args meth c cc nL Ts own D aC A) (hsz : ls.size = nL) (ic ir all : List Nat) (hZ : K_S D A s (FL B all) H locs) (hp : (ic ++ ir).Perm all) (hM : M_WE adK adV tA l y wl fr lc D aC (.ref b :: As) (FLc B ic) v (FLc B' ic)) (hs : ir.map B' = ir.map B) (ha : ic.map (fun k => (B' k).map (·.1)) = ic.map (fun k => (B k).map (·.1))) (hg : GoodIn Ts (wsV own index C y wl)) (hw : wl = Cond.code y bytes maxL ret :: wl') (hd : y.cls = C ∧ y.cls ≠ "java/lang/invoke/MethodHandle" ∧ y.cls ≠ "java/lang/invoke/VarHandle" ∧ (parseMethodDescriptor y.desc).map (fun d => d.parameters.length) = some n) (hR : Nat.ble (fr + 1) R.frames = true ∧ Nat.ble (8 + (maxL + 11) + lc) R.locals = true)
    (ci : Nat) (hc : vwCl[ci]? = some (C, T, N)) (he : (FLc B ic)[0]? = some (b, .inr (ci, fs))) (hn : As.length = n) (hst : st0 = As.reverse ++ .ref b :: rest) (hrm : Nat.ble (rest.map fun v => v.category).sum 8 = true) (hdg : decode cc pc = .ok (.invokevirtual index, 3)) (hst1 : v.toList ++ rest = st1) (hf : Nat.ble cells R.cells = true ∧ Nat.ble slots R.slots = true)
    (kk : ∀ (H1 : Heap) (locs1 : List Loc), K_S D A s (FL B' all) H1 locs1 → W p l e R s m args below meth c H1 locs1 cells slots Q (F0 m (pc + 3) ls st1)) : W p l e R s m args below meth c H locs cells slots Q (F0 m pc ls st0) := by
  subst hst1
  have hZ' := S_in ic ir all hp hZ
  exact k_cL (k_runVE (Bf := fun sz => va_A (FLc B ic) sz) (Qc := fun sz => Q_W v D (va_A (FLc B ic) sz) (FLc B' ic)) (free := fun sz => va_A (FLc B ic) sz) ((hE.kept hZ'.2.2.2.1).narrow (A_left hX hZ')) hX hsz hM hg hw hd hR ci 0 hc he (P_left hZ') (D_left hZ') hn hst hrm hdg hf) hX hZ' (fl_addr ic ha) (fun H1 locs1 hZ => kk H1 locs1 (S_out ic ir all hp hs hZ))
theorem k_LR (hX : K_X p s m args meth c cc nL Ts own D aC A) (hsz : ls.size = nL) (ic ir all : List Nat) (hZ : K_S D A s (FL B all) H locs) (hp : (ic ++ ir).Perm all) (hM : M_R l y wl fr lc D aC (.ref b :: As) (FLc B ic) v) (hg : GoodIn Ts (wsV own index C y wl)) (hw : wl = Cond.code y bytes maxL ret :: wl') (hd : y.cls = C ∧ y.cls ≠ "java/lang/invoke/MethodHandle" ∧ y.cls ≠ "java/lang/invoke/VarHandle" ∧ (parseMethodDescriptor y.desc).map (fun d => d.parameters.length) = some n) (hR : Nat.ble (fr + 1) R.frames = true ∧ Nat.ble (8 + (maxL + 11) + lc) R.locals = true)
    (ci : Nat) (hc : vwCl[ci]? = some (C, T, N)) (he : (FLc B ic)[0]? = some (b, .inr (ci, fs))) (hn : As.length = n) (hst : st0 = As.reverse ++ .ref b :: rest) (hrm : Nat.ble (rest.map fun v => v.category).sum 8 = true) (hdg : decode cc pc = .ok (.invokevirtual index, 3)) (hst1 : v.toList ++ rest = st1) (hf : Nat.ble cells R.cells = true ∧ Nat.ble slots R.slots = true)
    (kk : ∀ (locs1 : List Loc), K_S D A s (FL B all) H locs1 → W p l e R s m args below meth c H locs1 cells slots Q (F0 m (pc + 3) ls st1)) : W p l e R s m args below meth c H locs cells slots Q (F0 m pc ls st0) := by
  subst hst1
  have hZ' := S_in ic ir all hp hZ
  exact k_cR (k_runV (Qc := fun _ => Q_R v) (free := fun _ _ => False) hX hsz hM hg hw hd hR ci 0 hc he (P_left hZ') (D_left hZ') hn hst hrm hdg hf) hZ kk
theorem k_LRE (hE : EX_ adK adV tA A s s.heap) (hX : K_X p s m args meth c cc nL Ts own D aC A) (hsz : ls.size = nL) (ic ir all : List Nat) (hZ : K_S D A s (FL B all) H locs) (hp : (ic ++ ir).Perm all) (hM : M_RE adK adV tA l y wl fr lc D aC (.ref b :: As) (FLc B ic) v) (hg : GoodIn Ts (wsV own index C y wl)) (hw : wl = Cond.code y bytes maxL ret :: wl') (hd : y.cls = C ∧ y.cls ≠ "java/lang/invoke/MethodHandle" ∧ y.cls ≠ "java/lang/invoke/VarHandle" ∧ (parseMethodDescriptor y.desc).map (fun d => d.parameters.length) = some n) (hR : Nat.ble (fr + 1) R.frames = true ∧ Nat.ble (8 + (maxL + 11) + lc) R.locals = true)
    (ci : Nat) (hc : vwCl[ci]? = some (C, T, N)) (he : (FLc B ic)[0]? = some (b, .inr (ci, fs))) (hn : As.length = n) (hst : st0 = As.reverse ++ .ref b :: rest) (hrm : Nat.ble (rest.map fun v => v.category).sum 8 = true) (hdg : decode cc pc = .ok (.invokevirtual index, 3)) (hst1 : v.toList ++ rest = st1) (hf : Nat.ble cells R.cells = true ∧ Nat.ble slots R.slots = true)
    (kk : ∀ (locs1 : List Loc), K_S D A s (FL B all) H locs1 → W p l e R s m args below meth c H locs1 cells slots Q (F0 m (pc + 3) ls st1)) : W p l e R s m args below meth c H locs cells slots Q (F0 m pc ls st0) := by
  subst hst1
  have hZ' := S_in ic ir all hp hZ
  exact k_cR (k_runVE (Bf := fun sz q => sz ≤ q) (Qc := fun _ => Q_R v) (free := fun _ _ => False) (k_exR hE hX hZ.2.2) hX hsz hM hg hw hd hR ci 0 hc he (P_left hZ') (D_left hZ') hn hst hrm hdg hf) hZ kk
end LKIT
/-- the blocks: the class's objects, and the reference -/
def BK_ (aC : Nat → ClassId) (a : Nat → Nat → Nat) (x t n n2 v d v2 d2 g w v3 d3 q r o : Ob_T) : Nat → va_W := fun k => match k with
  | 0 => wd_X8 aC (a 0) (a 1 0) (a 2 0) (a 3 0) (a 4 0) (a 6 0) (a 8 0) (a 9 0) (a 12 0) (a 13 0) x
  | 1 => wd_X6 aC (a 1) t
  | 2 => wd_X1 aC (a 2) n
  | 3 => wd_X1 aC (a 3) n2
  | 4 => wd_X5 aC (a 4) (a 2 0) (a 5 0) v
  | 5 => wd_X4 aC (a 5) d
  | 6 => wd_X5 aC (a 6) (a 3 0) (a 7 0) v2
  | 7 => wd_X4 aC (a 7) d2
  | 8 => wd_X0 aC (a 8) g
  | 9 => wd_X7 aC (a 9) (a 10 0) w
  | 10 => wd_X5 aC (a 10) (a 2 0) (a 11 0) v3
  | 11 => wd_X4 aC (a 11) d3
  | 12 => wd_X3 aC (a 12) q
  | 13 => wd_X2 aC (a 13) r
  | _ => wd_X9 aC (a 14) o
abbrev A15 : List Nat := [0, 1, 2, 3, 4, 5, 6, 7, 8, 9, 10, 11, 12, 13, 14]
