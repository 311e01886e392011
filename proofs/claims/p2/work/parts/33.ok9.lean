def lastD (f : Nat → Int32) (k : Nat) : Int32 := if k = 0 then 0 else f (k - 1)
theorem mt3 {x : Int32} {k : Nat} {f : Nat → Int32} (h0 : ¬ x < 0) (h : ¬ lastD f k ≤ x) : mtN x k f := by
  by_cases e : k = 0
  · rw [lastD, if_pos e] at h
    exact absurd (Int32.not_lt.mp h0) h
  · rw [lastD, if_neg e] at h
    exact Or.inr (Or.inr ⟨by omega, Int32.not_le.mp h⟩)
theorem mt_ok {x : Int32} {k : Nat} {f : Nat → Int32} (h0 : ¬ x < 0) (h1 : ¬ 1000 ≤ x) (h2 : lastD f k ≤ x) : ¬ mtN x k f := fun q => by
  rcases q with q | q | ⟨q1, q2⟩
  · exact h0 q
  · exact h1 q
  · rw [lastD, if_neg (by omega)] at h2
    exact absurd q2 (Int32.not_lt.mpr h2)

