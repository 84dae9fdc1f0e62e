theorem dX6_wordOf_0 : decode cX6_wordOf 0 = .ok (.iload_n 0, 1) := by decide +kernel
theorem dX6_wordOf_1 : decode cX6_wordOf 1 = .ok (.tableswitch 64 0 6 #[43, 46, 49, 52, 55, 58, 61], 43) := by decide +kernel
theorem dX6_wordOf_44 : decode cX6_wordOf 44 = .ok (.ldc 116, 2) := by decide +kernel
theorem dX6_wordOf_46 : decode cX6_wordOf 46 = .ok (.areturn, 1) := by decide +kernel
theorem dX6_wordOf_47 : decode cX6_wordOf 47 = .ok (.ldc 118, 2) := by decide +kernel
theorem dX6_wordOf_49 : decode cX6_wordOf 49 = .ok (.areturn, 1) := by decide +kernel
theorem dX6_wordOf_50 : decode cX6_wordOf 50 = .ok (.ldc 120, 2) := by decide +kernel
theorem dX6_wordOf_52 : decode cX6_wordOf 52 = .ok (.areturn, 1) := by decide +kernel
theorem dX6_wordOf_53 : decode cX6_wordOf 53 = .ok (.ldc 122, 2) := by decide +kernel
theorem dX6_wordOf_55 : decode cX6_wordOf 55 = .ok (.areturn, 1) := by decide +kernel
theorem dX6_wordOf_56 : decode cX6_wordOf 56 = .ok (.ldc 124, 2) := by decide +kernel
theorem dX6_wordOf_58 : decode cX6_wordOf 58 = .ok (.areturn, 1) := by decide +kernel
theorem dX6_wordOf_59 : decode cX6_wordOf 59 = .ok (.ldc 126, 2) := by decide +kernel
theorem dX6_wordOf_61 : decode cX6_wordOf 61 = .ok (.areturn, 1) := by decide +kernel
theorem dX6_wordOf_62 : decode cX6_wordOf 62 = .ok (.ldc 128, 2) := by decide +kernel
theorem dX6_wordOf_64 : decode cX6_wordOf 64 = .ok (.areturn, 1) := by decide +kernel
theorem dX6_wordOf_65 : decode cX6_wordOf 65 = .ok (.ldc 130, 2) := by decide +kernel
theorem dX6_wordOf_67 : decode cX6_wordOf 67 = .ok (.areturn, 1) := by decide +kernel
def wlX6_wordOf : List Cond := .code yX6_wordOf cX6_wordOf 1 (some (.object "java/lang/String")) :: WL_
section
variable {adK adV : Nat → Nat} {tA : Nat}
theorem c_X6_wordOf {l : Launch} {D : va_G} {aC : Nat → ClassId} {w0 : va_W} {k : Nat} (hk : k < 8) : M_RE adK adV tA l yX6_wordOf wlX6_wordOf 0 0 D aC [.int (nI k)] w0 (some (.ref (adK k))) := by
  refine k_entRE (cc := cX6_wordOf) (ret := (some (.object "java/lang/String"))) (maxL := 1) (own := RX6) (by decide) rfl rfl rfl ?_
  intro p e s m below meth c ls hE hX hr hZ hl
  have hl : lv_has ls 1 [(0, .int (nI k))] := hl
  generalize ([.int (nI k)] : List Value).toArray = args at hX ⊢
  obtain ⟨hx, hb, hml, hown, hts, hK, hA, hlk⟩ := id hX
  have hF : ∀ q ∈ ([] : List Loc), False := fun _ h => nomatch h
  refine lv_iload_n hx hb dX6_wordOf_0 rfl (lv_at hl 0 rfl) ?_
  rcases (show k = 0 ∨ k = 1 ∨ k = 2 ∨ k = 3 ∨ k = 4 ∨ k = 5 ∨ k = 6 ∨ k = 7 by omega) with rfl | rfl | rfl | rfl | rfl | rfl | rfl | rfl
  · refine lv_tableIn (tgt := 44) (off := 43) hx hb dX6_wordOf_1 (by decide) (by decide) rfl (by decide) ?_
    refine va_ldcS hx hb hown (hE.2.2.1 0 (by omega)) dX6_wordOf_44 ?_
    exact k_aretR hX hr (Or.inl ⟨_, rfl⟩) hF dX6_wordOf_46
  · refine lv_tableIn (tgt := 47) (off := 46) hx hb dX6_wordOf_1 (by decide) (by decide) rfl (by decide) ?_
    refine va_ldcS hx hb hown (hE.2.2.1 1 (by omega)) dX6_wordOf_47 ?_
    exact k_aretR hX hr (Or.inl ⟨_, rfl⟩) hF dX6_wordOf_49
  · refine lv_tableIn (tgt := 50) (off := 49) hx hb dX6_wordOf_1 (by decide) (by decide) rfl (by decide) ?_
    refine va_ldcS hx hb hown (hE.2.2.1 2 (by omega)) dX6_wordOf_50 ?_
    exact k_aretR hX hr (Or.inl ⟨_, rfl⟩) hF dX6_wordOf_52
  · refine lv_tableIn (tgt := 53) (off := 52) hx hb dX6_wordOf_1 (by decide) (by decide) rfl (by decide) ?_
    refine va_ldcS hx hb hown (hE.2.2.1 3 (by omega)) dX6_wordOf_53 ?_
    exact k_aretR hX hr (Or.inl ⟨_, rfl⟩) hF dX6_wordOf_55
  · refine lv_tableIn (tgt := 56) (off := 55) hx hb dX6_wordOf_1 (by decide) (by decide) rfl (by decide) ?_
    refine va_ldcS hx hb hown (hE.2.2.1 4 (by omega)) dX6_wordOf_56 ?_
    exact k_aretR hX hr (Or.inl ⟨_, rfl⟩) hF dX6_wordOf_58
  · refine lv_tableIn (tgt := 59) (off := 58) hx hb dX6_wordOf_1 (by decide) (by decide) rfl (by decide) ?_
    refine va_ldcS hx hb hown (hE.2.2.1 5 (by omega)) dX6_wordOf_59 ?_
    exact k_aretR hX hr (Or.inl ⟨_, rfl⟩) hF dX6_wordOf_61
  · refine lv_tableIn (tgt := 62) (off := 61) hx hb dX6_wordOf_1 (by decide) (by decide) rfl (by decide) ?_
    refine va_ldcS hx hb hown (hE.2.2.1 6 (by omega)) dX6_wordOf_62 ?_
    exact k_aretR hX hr (Or.inl ⟨_, rfl⟩) hF dX6_wordOf_64
  · refine lv_tableOut (tgt := 65) hx hb dX6_wordOf_1 (by decide) (by decide) ?_
    refine va_ldcS hx hb hown (hE.2.2.1 7 (by omega)) dX6_wordOf_65 ?_
    exact k_aretR hX hr (Or.inl ⟨_, rfl⟩) hF dX6_wordOf_67
end
