theorem w_start (aC : Nat → ClassId) (a : Nat → Nat → Nat) (am : Nat → Nat) : ([] ++ WX_ aC a ob_0 ob_0 ob_0 ob_0 ob_0 ob_0 ob_0 ob_0 (p_A ob_0 0 (fl_ (fun _ => 0) 0 4 (-1))) ob_0 ob_0 ob_0 ob_0 (p_A ob_0 1 (fl_ (fun _ => 0) 0 3 (-1)))) ++ wd_X9 aC am o9_ = FL (BK_ aC (fun k => if k = 14 then am else a k) ob_0 ob_0 ob_0 ob_0 ob_0 ob_0 ob_0 ob_0 (p_A ob_0 0 (fl_ (fun _ => 0) 0 4 (-1))) ob_0 ob_0 ob_0 ob_0 (p_A ob_0 1 (fl_ (fun _ => 0) 0 3 (-1))) o9_) A15 := by
  rw [← flc_eq, List.nil_append]
  unfold WX_
  simp only [List.append_assoc]
  rfl
set_option maxHeartbeats 4000000 in
set_option maxRecDepth 100000 in
/-- from the entry, for every script of at most 3072 ints, the law comes to its end with true -/
theorem whole_start {p : Program} {e : Env} {s : State} {m : MethodId} {below : List Frame} {meth : Method} {c : Code} (l : Launch) {b L : Nat} {xs : Nat → Int32} (hL : L ≤ 3072) (C0 : lw_At p s m meth c b L xs) : W p l e room_1 s m #[Value.ref b] below meth c s.heap [] 0 0 (lw_Z below #[Value.ref b] s) (entryFrame m ([Value.ref b] : List Value).toArray 4) := by
  obtain ⟨hx, hb, hr, hml, hown, hts, hSc, hbl, hlocks, hgv⟩ := id C0
  have htsW : ∀ w ∈ WL_, w.before #[Value.ref b] s = true := fun w hw => hts w (List.mem_filter.mp hw).1
  obtain ⟨D, aC, hK⟩ := k_start htsW
  obtain ⟨adK, adV, tA, hE⟩ := ex_start (A := fun q : Nat => s.heap.size ≤ q) hts hgv (fun a h1 h2 => Nat.not_le.mpr h1 h2)
  have hX : K_X p s m #[Value.ref b] meth c cL_law 4 WL_ RL D aC (fun q : Nat => s.heap.size ≤ q) := ⟨hx, hb, hml, hown, htsW, hK, fun _ h => h, hlocks⟩
  have hN : NW_ s := nw_start hts
  have hZ : K_S D (fun q : Nat => s.heap.size ≤ q) s [] s.heap [] := ⟨fun k q h => by simp at h, ⟨fun i j p q h => by simp at h, fun k q h => by simp at h⟩, va_S.rf⟩
  have hl := lv_entry ([.ref b]) (n := 4) (Nat.le_of_ble_eq_true rfl)
  rw [lg_entry_eq]
  generalize (lg_sl ([.ref b]) ++ List.replicate (4 - (lg_sl ([.ref b])).length) Slot.unset).toArray = ls at hl ⊢
  have hl : lv_has ls 4 [(0, .ref b)] := hl
  refine k_newI (ci := 8) (fs := blX8) (C := RX8) (T := TX8) (N := 11) hX hZ rfl iw_X8 tyX8 tyX8_ok (wl_in (tj_1 (List.mem_of_getElem? (i := 19) rfl)) rfl : Cond.classLink RL 7 RX8 ∈ WL_) (wl_in (tj_1 (List.mem_of_getElem? (i := 20) rfl)) rfl : Cond.instantiable RX8 11 ∈ WL_) (wl_in (tj_1 (List.mem_of_getElem? (i := 1) rfl)) rfl : Cond.initialized RX8 ∈ WL_) blX8_ok rfl rfl dL_law_0 (fun qx H hZ => ?_)
  refine lv_dup hx hb dL_law_3 rfl ?_
  refine k_cI (k_runI (Qc := fun sz => Q_I D (va_A [(qx, .inr (8, blX8))] sz) _) (free := fun sz => va_A [(qx, .inr (8, blX8))] sz) (As := []) (rest := [.ref qx]) hN hX hl.1 (c_X8_init (aC := aC) qx) (gi_ (wl_in (tj_1 (List.mem_of_getElem? (i := 23) rfl)) rfl : Cond.code yX8_init cX8_init 1 none ∈ WL_)) rfl (wl_in (tj_1 (List.mem_of_getElem? (i := 1) rfl)) rfl : Cond.initialized yX8_init.cls ∈ WL_) (wl_in (tj_1 (List.mem_of_getElem? (i := 21) rfl)) rfl : Cond.methodLink RL 9 yX8_init ∈ WL_) (wl_in (tj_1 (List.mem_of_getElem? (i := 22) rfl)) rfl : Cond.instanceMethod yX8_init ∈ WL_) rfl hdI_X8 ⟨rfl, rfl⟩ (k_PL hZ.1) (k_DL hZ.2.1) rfl rfl rfl dL_law_4 ⟨rfl, rfl⟩) hX hZ (fun w1 H2 locs2 hw hZ2 => ?_)
  clear hZ
  obtain ⟨a, ea, rfl⟩ := hw
  subst ea
  have hZ := hZ2
  clear hZ2
  refine lv_astore_n (lv' := [(1, .ref (a 0 0)), (0, .ref b)]) hx hb dL_law_7 rfl hl (by decide) rfl (fun ls hl => ?_)
  refine k_newI (ci := 9) (fs := blX9) (C := RX9) (T := TX9) (N := 44) hX hZ rfl iw_X9 tyX9 tyX9_ok (wl_in (tj_5 (List.mem_of_getElem? (i := 33) rfl)) rfl : Cond.classLink RL 10 RX9 ∈ WL_) (wl_in (tj_5 (List.mem_of_getElem? (i := 34) rfl)) rfl : Cond.instantiable RX9 44 ∈ WL_) (wl_in (tj_1 (List.mem_of_getElem? (i := 11) rfl)) rfl : Cond.initialized RX9 ∈ WL_) blX9_ok rfl rfl dL_law_8 (fun qm H hZ => ?_)
  refine lv_dup hx hb dL_law_11 rfl ?_
  refine k_cI (k_runI (Qc := fun sz => Q_I D (va_A [(qm, .inr (9, blX9))] sz) _) (free := fun sz => va_A [(qm, .inr (9, blX9))] sz) (As := []) (rest := [.ref qm]) hN hX hl.1 (c_X9_init (aC := aC) qm) (gi_ (wl_in (tj_5 (List.mem_of_getElem? (i := 37) rfl)) rfl : Cond.code yX9_init cX9_init 1 none ∈ WL_)) rfl (wl_in (tj_1 (List.mem_of_getElem? (i := 11) rfl)) rfl : Cond.initialized yX9_init.cls ∈ WL_) (wl_in (tj_5 (List.mem_of_getElem? (i := 35) rfl)) rfl : Cond.methodLink RL 12 yX9_init ∈ WL_) (wl_in (tj_5 (List.mem_of_getElem? (i := 36) rfl)) rfl : Cond.instanceMethod yX9_init ∈ WL_) rfl hdI_X9 ⟨rfl, rfl⟩ (k_PL hZ.1) (k_DL hZ.2.1) rfl rfl rfl dL_law_12 ⟨rfl, rfl⟩) hX hZ (fun w1 H2 locs2 hw hZ2 => ?_)
  clear hZ
  obtain ⟨am, ea, rfl⟩ := hw
  subst ea
  have hZ := hZ2
  clear hZ2
  refine lv_astore_n (lv' := [(2, .ref (am 0)), (1, .ref (a 0 0)), (0, .ref b)]) hx hb dL_law_15 rfl hl (by decide) rfl (fun ls hl => ?_)
  refine lv_iconst (v := 0) hx hb dL_law_16 (by decide) ?_
  refine lv_istore_n (lv' := [(3, .int 0), (2, .ref (am 0)), (1, .ref (a 0 0)), (0, .ref b)]) hx hb dL_law_17 rfl hl (by decide) rfl (fun ls hl => ?_)
  rw [w_start] at hZ
  exact law_loop (a := fun k => if k = 14 then am else a k) hE hX hr hSc hbl hL (L + 1) 0 (Nat.zero_le L) (by omega) _ _ _ _ _ _ _ _ _ _ _ _ _ _ _ _ _ ls (rr_start ob_0 ob_0) hZ (lv_sub hl [3, 2, 1, 0] rfl)
