def strL : List (Nat × String) := [(40, ";"), (46, "open"), (54, "settled"), (60, "asks"), (62, "for"), (68, "takes"), (70, "drops"), (72, "does"), (74, "says"), (80, "denies"), (89, "by"), (91, "as"), (99, "and")]
def okBy (v n : Nat) (f : Nat → Int32) (A : Nat → Prop) (U : State) (H : Heap) : Prop := va_T .byte v n (fun j => .int (f j)) A U H ∧ n < 2 ^ 31
def okStr (a v n : Nat) (f : Nat → Int32) (A : Nat → Prop) (U : State) (H : Heap) : Prop := va_O "java/lang/String" a A U H ∧ va_OF "java/lang/String" "coder" "B" (.int 0) a A U H ∧ va_OF "java/lang/String" "value" "[B" (.ref v) a A U H ∧ okBy v n f A U H
def okEnv (zo : Option Nat) (A : Nat → Prop) (U : State) (H : Heap) : Prop := va_Z "java/lang/String" "COMPACT_STRINGS" "Z" (.int 1) A U H ∧ va_Z "jdk/internal/util/Preconditions" "SIOOBE_FORMATTER" "Ljava/util/function/BiFunction;" (va_rf zo) A U H ∧ ∀ p ∈ strL, ∃ (a v n : Nat) (f : Nat → Int32), vk_R RX4 p.1 p.2 a U ∧ okStr a v n f A U H
theorem okBy.moved {v n : Nat} {f : Nat → Int32} {A : Nat → Prop} {u U : State} {H : Heap} (hvm : u.vm.Alike U.vm) (h : okBy v n f A u H) : okBy v n f A U H := ⟨va_T.moved hvm h.1, h.2⟩
theorem okBy.at {v n : Nat} {f : Nat → Int32} {A B : Nat → Prop} {U : State} {H0 H : Heap} {locs : List Loc} (h : okBy v n f A U H0) (hS : va_S A H0 H locs) (hB : ∀ a, B a → A a) : okBy v n f B U H := ⟨(h.1.kept hS.2.1).narrow hB, h.2⟩
theorem okBy.pass {v n : Nat} {f : Nat → Int32} {A B : Nat → Prop} {s U : State} {H : Heap} {locs : List Loc} (h : okBy v n f A s s.heap) (hW : s.WarmedH U.vm) (hS : va_S A s.heap H locs) (hB : ∀ a, B a → A a) : okBy v n f B U H := okBy.moved hW.alike (okBy.at h hS hB)
theorem okStr.moved {a v n : Nat} {f : Nat → Int32} {A : Nat → Prop} {u U : State} {H : Heap} (hvm : u.vm.Alike U.vm) (h : okStr a v n f A u H) : okStr a v n f A U H := ⟨va_O.moved hvm h.1, va_OF.moved hvm h.2.1, va_OF.moved hvm h.2.2.1, okBy.moved hvm h.2.2.2⟩
theorem okStr.at {a v n : Nat} {f : Nat → Int32} {A B : Nat → Prop} {U : State} {H0 H : Heap} {locs : List Loc} (h : okStr a v n f A U H0) (hS : va_S A H0 H locs) (hB : ∀ a, B a → A a) : okStr a v n f B U H := ⟨(h.1.kept hS.2.1).narrow hB, (h.2.1.kept hS.2.1).narrow hB, (h.2.2.1.kept hS.2.1).narrow hB, okBy.at h.2.2.2 hS hB⟩
theorem okStr.pass {a v n : Nat} {f : Nat → Int32} {A B : Nat → Prop} {s U : State} {H : Heap} {locs : List Loc} (h : okStr a v n f A s s.heap) (hW : s.WarmedH U.vm) (hS : va_S A s.heap H locs) (hB : ∀ a, B a → A a) : okStr a v n f B U H := okStr.moved hW.alike (okStr.at h hS hB)
theorem okStr.recv {a v n : Nat} {f : Nat → Int32} {A : Nat → Prop} {s : State} {H : Heap} {locs : List Loc} (h : okStr a v n f A s s.heap) (hS : va_S A s.heap H locs) : ∃ cell : Cell, H[a]? = some cell ∧ cell.vm.isStatics = false ∧ s.vm.findClass "java/lang/String" = some cell.cls := by
  obtain ⟨cell, h1, h2, h3, -⟩ := h.1.kept hS.2.1
  exact ⟨cell, h1, h2, h3⟩
theorem okEnv.same {zo : Option Nat} {A : Nat → Prop} {u U : State} {H : Heap} (hv : U.vm = u.vm) (h : okEnv zo A u H) : okEnv zo A U H := by
  have hvm : u.vm.Alike U.vm := by rw [hv]; exact Vm.Alike.refl u.vm
  refine ⟨va_Z.moved hvm h.1, va_Z.moved hvm h.2.1, fun p hp => ?_⟩
  obtain ⟨a, v, n, f, h1, h2⟩ := h.2.2 p hp
  exact ⟨a, v, n, f, vk_R.same hv h1, okStr.moved hvm h2⟩
theorem okEnv.pass {zo : Option Nat} {A B : Nat → Prop} {s U : State} {H : Heap} {locs : List Loc} (h : okEnv zo A s s.heap) (hW : s.WarmedH U.vm) (hS : va_S A s.heap H locs) (hB : ∀ a, B a → A a) : okEnv zo B U H := by
  refine ⟨va_Z.moved hW.alike ((h.1.kept hS.2.1).narrow hB), va_Z.moved hW.alike ((h.2.1.kept hS.2.1).narrow hB), fun p hp => ?_⟩
  obtain ⟨a, v, n, f, h1, h2⟩ := h.2.2 p hp
  exact ⟨a, v, n, f, vk_R.warm hW h1, okStr.pass h2 hW hS hB⟩
theorem shr0 (x : Int32) : x >>> ((0 : Int32) &&& 31) = x := by
  rw [show ((0 : Int32) &&& 31) = 0 by decide]
  exact Int32.shiftRight_zero

