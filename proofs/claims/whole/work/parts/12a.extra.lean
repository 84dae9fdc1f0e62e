/-! what is known of cells outside the world: the words' strings, String's flag, the kinds above -/
def lenT_ : List Nat := [5, 4, 4, 4, 4, 5, 4, 7]
def bytT_ : List (List Int32) := [[115, 104, 97, 112, 101], [101, 97, 99, 104], [106, 111, 105, 110], [116, 117, 114, 110], [102, 111, 108, 100], [114, 97, 118, 101, 108], [102, 111, 114, 109], [112, 114, 111, 103, 114, 97, 109]]
def txT_ (i : Nat) : String := if i = 0 then "shape" else if i = 1 then "each" else if i = 2 then "join" else if i = 3 then "turn" else if i = 4 then "fold" else if i = 5 then "ravel" else if i = 6 then "form" else "program"
def ixT_ (i : Nat) : Nat := 116 + 2 * i
def EX_ (adK adV : Nat → Nat) (tA : Nat) (A : Nat → Prop) (U : State) (H : Heap) : Prop := vk_S 8 lenT_ bytT_ adK adV A U H ∧ va_Z "java/lang/String" "COMPACT_STRINGS" "Z" (.int 1) A U H ∧ (∀ i, i < 8 → vk_R "ShapeFrames$Text" (ixT_ i) (txT_ i) (adK i) U) ∧ va_Z "ShapeFrames" "ABOVE" "[I" (.ref tA) A U H ∧ va_T .int tA 7 (fun j => .int (ab_ j)) A U H ∧ ∃ fF : Value, (fF = .null ∨ ∃ a, fF = .ref a) ∧ va_Z "jdk/internal/util/Preconditions" "SIOOBE_FORMATTER" "Ljava/util/function/BiFunction;" fF A U H
section EXTRA
variable {adK adV : Nat → Nat} {tA : Nat} {A B : Nat → Prop} {s U : State} {H H1 : Heap}
theorem EX_.kept (h : EX_ adK adV tA A U H) (hq : ∀ a : Nat, a < H.size → ¬ A a → H1[a]? = H[a]?) : EX_ adK adV tA A U H1 := ⟨h.1.kept hq, h.2.1.kept hq, h.2.2.1, h.2.2.2.1.kept hq, h.2.2.2.2.1.kept hq, let ⟨f, hf0, hf⟩ := h.2.2.2.2.2; ⟨f, hf0, hf.kept hq⟩⟩
theorem EX_.narrow (h : EX_ adK adV tA A U H) (hAB : ∀ q, B q → A q) : EX_ adK adV tA B U H := ⟨h.1.narrow hAB, h.2.1.narrow hAB, h.2.2.1, h.2.2.2.1.narrow hAB, h.2.2.2.2.1.narrow hAB, let ⟨f, hf0, hf⟩ := h.2.2.2.2.2; ⟨f, hf0, hf.narrow hAB⟩⟩
theorem EX_.warm (hW : s.WarmedH U.vm) (h : EX_ adK adV tA A s H) : EX_ adK adV tA A U H := ⟨h.1.moved hW.alike, h.2.1.moved hW.alike, fun i hi => (h.2.2.1 i hi).warm hW, h.2.2.2.1.moved hW.alike, h.2.2.2.2.1.moved hW.alike, let ⟨f, hf0, hf⟩ := h.2.2.2.2.2; ⟨f, hf0, hf.moved hW.alike⟩⟩
theorem EX_.same (hv : U.vm = s.vm) (h : EX_ adK adV tA A s H) : EX_ adK adV tA A U H := ⟨h.1.moved (by rw [hv]; exact Vm.Alike.refl _), h.2.1.moved (by rw [hv]; exact Vm.Alike.refl _), fun i hi => (h.2.2.1 i hi).same hv, h.2.2.2.1.moved (by rw [hv]; exact Vm.Alike.refl _), h.2.2.2.2.1.moved (by rw [hv]; exact Vm.Alike.refl _), let ⟨f, hf0, hf⟩ := h.2.2.2.2.2; ⟨f, hf0, hf.moved (by rw [hv]; exact Vm.Alike.refl _)⟩⟩
end EXTRA
