theorem dX8_isVerb_0 : decode cX8_isVerb 0 = .ok (.iload_n 0, 1) := by decide +kernel
theorem dX8_isVerb_1 : decode cX8_isVerb 1 = .ok (.ifCond .le 9, 3) := by decide +kernel
theorem dX8_isVerb_4 : decode cX8_isVerb 4 = .ok (.iload_n 0, 1) := by decide +kernel
theorem dX8_isVerb_5 : decode cX8_isVerb 5 = .ok (.bipush 6, 2) := by decide +kernel
theorem dX8_isVerb_7 : decode cX8_isVerb 7 = .ok (.if_icmp .lt 5, 3) := by decide +kernel
theorem dX8_isVerb_10 : decode cX8_isVerb 10 = .ok (.iconst 0, 1) := by decide +kernel
theorem dX8_isVerb_11 : decode cX8_isVerb 11 = .ok (.ireturn, 1) := by decide +kernel
theorem dX8_isVerb_12 : decode cX8_isVerb 12 = .ok (.iload_n 0, 1) := by decide +kernel
theorem dX8_isVerb_13 : decode cX8_isVerb 13 = .ok (.istore_n 2, 1) := by decide +kernel
theorem dX8_isVerb_14 : decode cX8_isVerb 14 = .ok (.iconst 0, 1) := by decide +kernel
theorem dX8_isVerb_15 : decode cX8_isVerb 15 = .ok (.istore_n 3, 1) := by decide +kernel
theorem dX8_isVerb_16 : decode cX8_isVerb 16 = .ok (.iload_n 3, 1) := by decide +kernel
theorem dX8_isVerb_17 : decode cX8_isVerb 17 = .ok (.iconst 5, 1) := by decide +kernel
theorem dX8_isVerb_18 : decode cX8_isVerb 18 = .ok (.if_icmp .gt 26, 3) := by decide +kernel
theorem dX8_isVerb_21 : decode cX8_isVerb 21 = .ok (.iload_n 2, 1) := by decide +kernel
theorem dX8_isVerb_22 : decode cX8_isVerb 22 = .ok (.ifCond .le 22, 3) := by decide +kernel
theorem dX8_isVerb_25 : decode cX8_isVerb 25 = .ok (.iload_n 2, 1) := by decide +kernel
theorem dX8_isVerb_26 : decode cX8_isVerb 26 = .ok (.iload_n 1, 1) := by decide +kernel
theorem dX8_isVerb_27 : decode cX8_isVerb 27 = .ok (.if_icmp .ne 5, 3) := by decide +kernel
theorem dX8_isVerb_30 : decode cX8_isVerb 30 = .ok (.iconst 1, 1) := by decide +kernel
theorem dX8_isVerb_31 : decode cX8_isVerb 31 = .ok (.ireturn, 1) := by decide +kernel
theorem dX8_isVerb_32 : decode cX8_isVerb 32 = .ok (.getstatic 282, 3) := by decide +kernel
theorem dX8_isVerb_35 : decode cX8_isVerb 35 = .ok (.iload_n 2, 1) := by decide +kernel
theorem dX8_isVerb_36 : decode cX8_isVerb 36 = .ok (.iaload, 1) := by decide +kernel
theorem dX8_isVerb_37 : decode cX8_isVerb 37 = .ok (.istore_n 2, 1) := by decide +kernel
theorem dX8_isVerb_38 : decode cX8_isVerb 38 = .ok (.iinc 3 1, 3) := by decide +kernel
theorem dX8_isVerb_41 : decode cX8_isVerb 41 = .ok (.goto (-25), 3) := by decide +kernel
theorem dX8_isVerb_44 : decode cX8_isVerb 44 = .ok (.iload_n 1, 1) := by decide +kernel
theorem dX8_isVerb_45 : decode cX8_isVerb 45 = .ok (.ifCond .ne 7, 3) := by decide +kernel
theorem dX8_isVerb_48 : decode cX8_isVerb 48 = .ok (.iconst 1, 1) := by decide +kernel
theorem dX8_isVerb_49 : decode cX8_isVerb 49 = .ok (.goto 4, 3) := by decide +kernel
theorem dX8_isVerb_52 : decode cX8_isVerb 52 = .ok (.iconst 0, 1) := by decide +kernel
theorem dX8_isVerb_53 : decode cX8_isVerb 53 = .ok (.ireturn, 1) := by decide +kernel
theorem wv_1 : Cond.fieldLink RX8 282 "ShapeFrames" "ABOVE" "[I" ∈ WL_ := wl_in (tj_3 (List.mem_of_getElem? (i := 169) rfl)) rfl
def wlX8_isVerb : List Cond := .code yX8_isVerb cX8_isVerb 4 (some .boolean) :: WL_
section
variable {adK adV : Nat → Nat} {tA : Nat}
theorem c_X8_isVerb {l : Launch} {D : va_G} {aC : Nat → ClassId} {w0 : va_W} (x0 x1 : Int32) {out : Int32} (h : f_X8_isVerb x0 x1 = some out) : M_RE adK adV tA l yX8_isVerb wlX8_isVerb 0 0 D aC [.int x0, .int x1] w0 (some (.int out)) := by
  refine k_entRE (cc := cX8_isVerb) (ret := (some .boolean)) (maxL := 4) (own := RX8) (by decide) rfl rfl rfl ?_
  intro p e s m below meth c ls hE hX hr hZ hl
  have hl : lv_has ls 4 [(0, .int x0), (1, .int x1)] := hl
  generalize ([.int x0, .int x1] : List Value).toArray = args at hX ⊢
  obtain ⟨hx, hb, hml, hown, hts, hK, hA, hlk⟩ := id hX
  unfold f_X8_isVerb at h
  have hF : ∀ q ∈ ([] : List Loc), False := fun _ h => nomatch h
  have tail : ∀ ls, lv_has ls 4 [(2, .int x0), (0, .int x0), (1, .int x1)] ∨ (∃ x2 x3, lv_has ls 4 [(3, .int x3), (2, .int x2), (0, .int x0), (1, .int x1)]) → f_X8_isVerb_J45 x1 = some out → W p l e (R_m 0 0) s m args below meth c s.heap [] 0 0 (MQ below (Q_R (some (.int out))) args s 0 0 (fun _ => False)) (F0 m 44 ls []) := by
    intro ls hl h
    have g1 : lv_has ls 4 [(1, .int x1)] := by
      rcases hl with hl | ⟨x2, x3, hl⟩
      · exact lv_sub hl [2] rfl
      · exact lv_sub hl [3] rfl
    unfold f_X8_isVerb_J45 at h
    refine lv_iload_n hx hb dX8_isVerb_44 rfl (lv_at g1 0 rfl) ?_
    refine lv_if_ne (tgt := 52) hx hb dX8_isVerb_45 (by decide) (fun cd => ?_) (fun cd => ?_)
    · replace h := k_f cd h
      refine lv_iconst (v := 0) hx hb dX8_isVerb_52 (by decide) ?_
      cases h
      exact k_zretR (v := (0 : Int32)) hX hr rfl hF dX8_isVerb_53
    · replace h := k_t cd h
      refine lv_iconst (v := 1) hx hb dX8_isVerb_48 (by decide) ?_
      refine lv_goto (tgt := 53) hx hb dX8_isVerb_49 (by decide) ?_
      cases h
      exact k_zretR (v := (1 : Int32)) hX hr rfl hF dX8_isVerb_53
  refine lv_iload_n hx hb dX8_isVerb_0 rfl (lv_at hl 0 rfl) ?_
  refine lv_if_le (tgt := 10) hx hb dX8_isVerb_1 (by decide) (fun cd => ?_) (fun cd => ?_)
  · replace h := k_t cd h
    refine lv_iconst (v := 0) hx hb dX8_isVerb_10 (by decide) ?_
    cases h
    exact k_zretR (v := (0 : Int32)) hX hr rfl hF dX8_isVerb_11
  · replace h := k_f cd h
    refine lv_iload_n hx hb dX8_isVerb_4 rfl (lv_at hl 0 rfl) ?_
    refine lv_bipush (v := 6) hx hb dX8_isVerb_5 (by decide) ?_
    refine lv_icmp_lt (tgt := 12) hx hb dX8_isVerb_7 (by decide) (fun cd => ?_) (fun cd => ?_)
    · replace h := k_f (Int32.not_le.mpr cd) h
      refine lv_iload_n hx hb dX8_isVerb_12 rfl (lv_at hl 0 rfl) ?_
      refine lv_istore_n (lv' := [(2, .int x0), (0, .int x0), (1, .int x1)]) hx hb dX8_isVerb_13 rfl hl (by decide) rfl (fun ls hl => ?_)
      refine lv_iconst (v := 0) hx hb dX8_isVerb_14 (by decide) ?_
      refine lv_istore_n (lv' := [(3, .int (0 : Int32)), (2, .int x0), (0, .int x0), (1, .int x1)]) hx hb dX8_isVerb_15 rfl hl (by decide) rfl (fun ls hl => ?_)
      refine Lp_ok (body := (fun (rec : (Int32 × Int32 × Int32) → Option Int32) x => f_X8_isVerb_L15 rec x.1 x.2.1 x.2.2)) (out := out) (fun x => x.1 = x1 → ∀ (ls : Array Slot), lv_has ls 4 [(3, .int x.2.2), (2, .int x.2.1), (0, .int x0), (1, .int x1)] → W p l e (R_m 0 0) s m args below meth c s.heap [] 0 0 (MQ below (Q_R (some (.int out))) args s 0 0 (fun _ => False)) (F0 m 16 ls [])) (fun rec hrec x h2 hx1 ls hl => ?_) FU_ (x1, x0, (0 : Int32)) h rfl ls hl
      clear h
      have h := h2
      clear h2
      obtain ⟨y1, x2, x3⟩ := x
      have hx1 : y1 = x1 := hx1
      subst hx1
      dsimp only at h hl
      unfold f_X8_isVerb_L15 at h
      refine lv_iload_n hx hb dX8_isVerb_16 rfl (lv_at hl 0 rfl) ?_
      refine lv_iconst (v := 5) hx hb dX8_isVerb_17 (by decide) ?_
      refine lv_icmp_gt (tgt := 44) hx hb dX8_isVerb_18 (by decide) (fun cd => ?_) (fun cd => ?_)
      · exact tail ls (Or.inr ⟨x2, x3, hl⟩) (k_t cd h)
      · replace h := k_f cd h
        refine lv_iload_n hx hb dX8_isVerb_21 rfl (lv_at hl 1 rfl) ?_
        refine lv_if_le (tgt := 44) hx hb dX8_isVerb_22 (by decide) (fun cd => ?_) (fun cd => ?_)
        · exact tail ls (Or.inr ⟨x2, x3, hl⟩) (k_t cd h)
        · replace h := k_f cd h
          refine lv_iload_n hx hb dX8_isVerb_25 rfl (lv_at hl 1 rfl) ?_
          refine lv_iload_n hx hb dX8_isVerb_26 rfl (lv_at hl 3 rfl) ?_
          refine lv_icmp_ne (tgt := 32) hx hb dX8_isVerb_27 (by decide) (fun cd => ?_) (fun cd => ?_)
          · replace h := k_f cd h
            obtain ⟨v1, hv1, h⟩ := k_bd h
            have hv2 : vp_in x2 7 ∧ ab_ x2.toNatClampNeg = v1 := by
              unfold ld_I at hv1
              by_cases hc : x2 < 0 ∨ 7 ≤ x2.toNatClampNeg
              · rw [if_pos hc] at hv1; cases hv1
              · rw [if_neg hc] at hv1; exact ⟨hc, Option.some.inj hv1⟩
            refine va_gets hx hb hE.2.2.2.1 va_S.rf hown (hts _ wv_1) (fun _ h => h) dX8_isVerb_32 ?_
            refine lv_iload_n hx hb dX8_isVerb_35 rfl (lv_at hl 1 rfl) ?_
            refine va_ti hx hb hE.2.2.2.2.1 va_S.rf hv2.1 (v := .int v1) (by rw [hv2.2]) dX8_isVerb_36 ?_
            refine lv_istore_n (lv' := [(2, .int v1), (3, .int x3), (0, .int x0), (1, .int y1)]) hx hb dX8_isVerb_37 rfl hl (by decide) rfl (fun ls hl => ?_)
            refine lv_iinc (v := (x3 + (1 : Int32))) (lv' := [(3, .int (x3 + (1 : Int32))), (2, .int v1), (0, .int x0), (1, .int y1)]) hx hb dX8_isVerb_38 hl (k := 1) rfl rfl (by decide) rfl (fun ls hl => ?_)
            refine lv_goto (tgt := 16) hx hb dX8_isVerb_41 (by decide) ?_
            exact hrec (y1, v1, (x3 + (1 : Int32))) h rfl ls hl
          · replace h := k_t cd h
            refine lv_iconst (v := 1) hx hb dX8_isVerb_30 (by decide) ?_
            cases h
            exact k_zretR (v := (1 : Int32)) hX hr rfl hF dX8_isVerb_31
    · replace h := k_t (Int32.not_lt.mp cd) h
      refine lv_iconst (v := 0) hx hb dX8_isVerb_10 (by decide) ?_
      cases h
      exact k_zretR (v := (0 : Int32)) hX hr rfl hF dX8_isVerb_11
end
