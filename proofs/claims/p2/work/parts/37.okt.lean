def okT (f : Nat → Int32) (a b : Nat) : Prop := okDi (f a) → ∀ j, a ≤ j → j < b → okDi (f j)
theorem okT_0 (f : Nat → Int32) (a : Nat) : okT f a a := fun _ j h1 h2 => absurd h2 (by omega)
theorem okT_1 (f : Nat → Int32) (a : Nat) : okT f a (a + 1) := fun h j h1 h2 => by
  have e : j = a := by omega
  rw [e]; exact h
theorem okT_s {f : Nat → Int32} {a b : Nat} {r : Int32} (h : okT f a b) (h1 : r = 1 ↔ okDi (f a)) (h2 : r = 1 ↔ okDi (f b)) : okT f a (b + 1) := fun g j j1 j2 => by
  rcases (show j < b ∨ j = b by omega) with q | q
  · exact h g j j1 q
  · rw [q]; exact h2.mp (h1.mpr g)
theorem kO {x : Int32} (h : okDi x) : 48 ≤ x ∧ x ≤ 57 := okR_no (a := 48) (b := 57) (by decide) (by decide) h
theorem kO0 {x : Int32} (h : ¬ x < 97) : (0 : Int32) = 1 ↔ okDi x := ⟨fun q => absurd q (by decide), fun q => by
  have h1 := (kO q).2
  rw [Int32.lt_iff_toInt_lt, show (97 : Int32).toInt = 97 by decide] at h
  rw [Int32.le_iff_toInt_le, show (57 : Int32).toInt = 57 by decide] at h1
  omega⟩
theorem kO2a {x : Int32} (h : x < 48) : (2 : Int32) = 1 ↔ okDi x := ⟨fun q => absurd q (by decide), fun q => absurd (kO q).1 (Int32.not_le.mpr h)⟩
theorem kO2b {x : Int32} (h : 57 < x) : (2 : Int32) = 1 ↔ okDi x := ⟨fun q => absurd q (by decide), fun q => absurd (kO q).2 (Int32.not_le.mpr h)⟩
theorem minN {w : Nat} (hw : w < 2 ^ 31) : ∃ n, n ≤ 1000 ∧ (if (1000 : Int32) < nI w then (1000 : Int32) else nI w) = nI n := by
  by_cases h : (1000 : Int32) < nI w
  · exact ⟨1000, by decide, by rw [if_pos h]; rfl⟩
  · exact ⟨w, Nat.le_of_not_lt fun q => h (nI_lt (a := 1000) q hw), by rw [if_neg h]⟩

