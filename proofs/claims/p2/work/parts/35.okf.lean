def okF (D : va_G) (cl : List vw_C) (q : Nat × va_E) (A : Nat → Prop) (H : Heap) : Prop := va_at D cl q H ∧ ¬ A q.1
theorem okF.one {D : va_G} {cl : List vw_C} {q : Nat × va_E} {A : Nat → Prop} {H : Heap} (h : okF D cl q A H) : va_P D cl [q] H := fun k x hx => by
  match k, hx with
  | 0, hx => cases hx; exact h.1
  | k + 1, hx => simp at hx
theorem okF.kept {D : va_G} {cl : List vw_C} {q : Nat × va_E} {A : Nat → Prop} {H0 H : Heap} {locs : List Loc} (h : okF D cl q A H0) (hS : va_S A H0 H locs) : va_P D cl [q] H := (okF.one h).kept (fun k x hx => hS.2.1 x.1 ((okF.one h k x hx).lt) (by
  match k, hx with
  | 0, hx => cases hx; exact h.2
  | k + 1, hx => simp at hx))
theorem okF.pass {D : va_G} {cl : List vw_C} {q : Nat × va_E} {A B : Nat → Prop} {H0 H : Heap} {locs : List Loc} (h : okF D cl q A H0) (hS : va_S A H0 H locs) (hB : ∀ a, B a → A a) : okF D cl q B H := ⟨okF.kept h hS 0 q rfl, fun z => h.2 (hB _ z)⟩
def okLn (kd pe ot : Int32) : Prop := (kd = 0 → ∃ x, x < 12 ∧ ot = nI x) ∧ (kd = 1 ∨ kd = 2 ∨ kd = 4 ∨ kd = 5 → ∃ x, x < 12 ∧ pe = nI x)
theorem lk_out47 {x : Int32} (h4 : ¬ x = 4) (h5 : ¬ x = 5) (h6 : ¬ x = 6) (h7 : ¬ x = 7) : x.toInt < 4 ∨ 7 < x.toInt := by
  have a4 := lk_ne _ h4
  have a5 := lk_ne _ h5
  have a6 := lk_ne _ h6
  have a7 := lk_ne _ h7
  rw [show (4 : Int32).toInt = 4 by decide] at a4
  rw [show (5 : Int32).toInt = 5 by decide] at a5
  rw [show (6 : Int32).toInt = 6 by decide] at a6
  rw [show (7 : Int32).toInt = 7 by decide] at a7
  omega

