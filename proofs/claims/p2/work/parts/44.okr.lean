def okRec (D : va_G) (cl : List vw_C) (ev : Value) (cO : ClassId) (n : Nat) (A : Nat → Prop) (H : Heap) : Prop := n = 0 ∨ ∃ (ad cap : Nat) (g : Nat → Option Nat), ev = .ref ad ∧ n ≤ cap ∧ cap < 2 ^ 31 ∧ okF D cl (ad, .inl (cO, cap, .inr (.inr (.inr (.inr g))))) A H ∧ ∀ j, j < n → ∃ (q mt lp : Nat) (mc : Int32) (al nl cl2 : Nat) (gl : Nat → Option Nat), g j = some q ∧ okF D cl (q, .inr (4, [.int (nI mt), .ref lp])) A H ∧ mt < 30 ∧ okF D cl (lp, .inr (0, [.int mc, .ref al, .int (nI nl)])) A H ∧ okF D cl (al, .inl (cO, cl2, .inr (.inr (.inr (.inr gl))))) A H ∧ nl ≤ 20 ∧ nl ≤ cl2 ∧ cl2 < 2 ^ 31 ∧ okLs D cl gl nl A H
theorem okRec.pass {D : va_G} {cl : List vw_C} {ev : Value} {cO : ClassId} {n : Nat} {A B : Nat → Prop} {H0 H : Heap} {locs : List Loc} (h : okRec D cl ev cO n A H0) (hS : va_S A H0 H locs) (hB : ∀ a, B a → A a) : okRec D cl ev cO n B H := by
  rcases h with h | ⟨ad, cap, g, h1, h2, h3, h4, h5⟩
  · exact Or.inl h
  · refine Or.inr ⟨ad, cap, g, h1, h2, h3, okF.pass h4 hS hB, fun j hj => ?_⟩
    obtain ⟨q, mt, lp, mc, al, nl, cl2, gl, k1, k2, k3, k4, k5, k6, k7, k8, k9⟩ := h5 j hj
    exact ⟨q, mt, lp, mc, al, nl, cl2, gl, k1, okF.pass k2 hS hB, k3, okF.pass k4 hS hB, okF.pass k5 hS hB, k6, k7, k8, okLs.pass k9 hS hB⟩

