def okLs (D : va_G) (cl : List vw_C) (g : Nat → Option Nat) (n : Nat) (A : Nat → Prop) (H : Heap) : Prop := ∀ j, j < n → ∃ (q tt : Nat) (kd pe ot dy : Int32) (gr : Int64), g j = some q ∧ okF D cl (q, .inr (3, [.int kd, .int pe, .int ot, .int (nI tt), .int dy, .long gr])) A H ∧ tt < 40 ∧ okLn kd pe ot
theorem okLs.pass {D : va_G} {cl : List vw_C} {g : Nat → Option Nat} {n : Nat} {A B : Nat → Prop} {H0 H : Heap} {locs : List Loc} (h : okLs D cl g n A H0) (hS : va_S A H0 H locs) (hB : ∀ a, B a → A a) : okLs D cl g n B H := fun j hj => by
  obtain ⟨q, tt, kd, pe, ot, dy, gr, h1, h2, h3, h4⟩ := h j hj
  exact ⟨q, tt, kd, pe, ot, dy, gr, h1, okF.pass h2 hS hB, h3, h4⟩

