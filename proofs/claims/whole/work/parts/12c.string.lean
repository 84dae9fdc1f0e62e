/-! String's own methods, on the words' strings -/
theorem dJ0_coder_7d493_0 : decode cJ0_coder_7d493 0 = .ok (.getstatic 38, 3) := by decide +kernel
theorem dJ0_coder_7d493_3 : decode cJ0_coder_7d493 3 = .ok (.ifCond .eq 10, 3) := by decide +kernel
theorem dJ0_coder_7d493_6 : decode cJ0_coder_7d493 6 = .ok (.aload_n 0, 1) := by decide +kernel
theorem dJ0_coder_7d493_7 : decode cJ0_coder_7d493 7 = .ok (.getfield 15, 3) := by decide +kernel
theorem dJ0_coder_7d493_10 : decode cJ0_coder_7d493 10 = .ok (.goto 4, 3) := by decide +kernel
theorem dJ0_coder_7d493_13 : decode cJ0_coder_7d493 13 = .ok (.iconst 1, 1) := by decide +kernel
theorem dJ0_coder_7d493_14 : decode cJ0_coder_7d493 14 = .ok (.ireturn, 1) := by decide +kernel
theorem dJ0_isLatin1_aae02_0 : decode cJ0_isLatin1_aae02 0 = .ok (.getstatic 38, 3) := by decide +kernel
theorem dJ0_isLatin1_aae02_3 : decode cJ0_isLatin1_aae02 3 = .ok (.ifCond .eq 14, 3) := by decide +kernel
theorem dJ0_isLatin1_aae02_6 : decode cJ0_isLatin1_aae02 6 = .ok (.aload_n 0, 1) := by decide +kernel
theorem dJ0_isLatin1_aae02_7 : decode cJ0_isLatin1_aae02 7 = .ok (.getfield 15, 3) := by decide +kernel
theorem dJ0_isLatin1_aae02_10 : decode cJ0_isLatin1_aae02 10 = .ok (.ifCond .ne 7, 3) := by decide +kernel
theorem dJ0_isLatin1_aae02_13 : decode cJ0_isLatin1_aae02 13 = .ok (.iconst 1, 1) := by decide +kernel
theorem dJ0_isLatin1_aae02_14 : decode cJ0_isLatin1_aae02 14 = .ok (.goto 4, 3) := by decide +kernel
theorem dJ0_isLatin1_aae02_17 : decode cJ0_isLatin1_aae02 17 = .ok (.iconst 0, 1) := by decide +kernel
theorem dJ0_isLatin1_aae02_18 : decode cJ0_isLatin1_aae02 18 = .ok (.ireturn, 1) := by decide +kernel
theorem wj_38 : Cond.fieldLink RJ0 38 "java/lang/String" "COMPACT_STRINGS" "Z" ∈ WL_ := wl_in (tj_2 (List.mem_of_getElem? (i := 99) rfl)) rfl
theorem wj_15 : Cond.fieldLink RJ0 15 "java/lang/String" "coder" "B" ∈ WL_ := wl_in (tj_7 (List.mem_of_getElem? (i := 53) rfl)) rfl
def wlJ0_coder : List Cond := .code yJ0_coder_7d493 cJ0_coder_7d493 1 (some .byte) :: WL_
def wlJ0_isLatin1 : List Cond := .code yJ0_isLatin1_aae02 cJ0_isLatin1_aae02 1 (some .boolean) :: WL_
section
variable {adK adV : Nat → Nat} {tA : Nat}
theorem k_nretR {p : Program} {l : Launch} {e : Env} {R : Room} {s : State} {m : MethodId} {args : Array Value} {below : List Frame} {meth : Method} {c : Code} {locs : List Loc} {cc : ByteArray} {nL : Nat} {Ts : List Cond} {own : String} {D : va_G} {aC : Nat → ClassId} {A : Nat → Prop} {pc : Nat} {ls : Array Slot} {v : Int32} {ty : FieldType} (hX : K_X p s m args meth c cc nL Ts own D aC A) (hr : meth.sig.returnType = some ty) (hn : narrow ty (.int v) = .int v) (hF : ∀ q ∈ locs, False) (hdg : decode cc pc = .ok (.ireturn, 1)) : W p l e R s m args below meth c s.heap locs 0 0 (MQ below (Q_R (some (.int v))) args s 0 0 (fun _ => False)) (F0 m pc ls [.int v]) :=
  W.zret hX.1 hX.2.1 hr hn (fun t ht _ => ⟨rfl, ht⟩) (fun q hq => (hF q hq).elim) hdg hX.2.2.2.2.2.2.2
theorem c_J0_coder {l : Launch} {D : va_G} {aC : Nat → ClassId} {w0 : va_W} {i : Nat} (hi : i < 8) : M_RE adK adV tA l yJ0_coder_7d493 wlJ0_coder 0 0 D aC [.ref (adK i)] w0 (some (.int 0)) := by
  refine k_entRE (cc := cJ0_coder_7d493) (ret := (some .byte)) (maxL := 1) (own := RJ0) (by decide) rfl rfl rfl ?_
  intro p e s m below meth c ls hE hX hr hZ hl
  have hl : lv_has ls 1 [(0, .ref (adK i))] := hl
  generalize ([.ref (adK i)] : List Value).toArray = args at hX ⊢
  obtain ⟨hx, hb, hml, hown, hts, hK, hA, hlk⟩ := id hX
  have hF : ∀ q ∈ ([] : List Loc), False := fun _ h => nomatch h
  refine va_gets hx hb hE.2.1 va_S.rf hown (hts _ wj_38) (fun _ h => h) dJ0_coder_7d493_0 ?_
  refine lv_if_eq (tgt := 13) hx hb dJ0_coder_7d493_3 (by decide) (fun cd => absurd cd (by decide)) (fun _ => ?_)
  refine lv_aload_n hx hb dJ0_coder_7d493_6 rfl (lv_at hl 0 rfl) ?_
  refine vk_getf hx hb (hE.1.1 i hi).2.1 va_S.rf hown (hts _ wj_15) (fun _ h => h) dJ0_coder_7d493_7 ?_
  refine lv_goto (tgt := 14) hx hb dJ0_coder_7d493_10 (by decide) ?_
  exact k_nretR hX hr rfl hF dJ0_coder_7d493_14
end
