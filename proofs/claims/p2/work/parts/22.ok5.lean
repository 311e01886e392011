theorem okN {f : Nat → Int32} {a b : Nat} {so : Int32} {wo v : Int64} (h : okS f a b so wo) (h2 : so = 2) (hv : ¬ v < wo) : ∃ n, n ≤ 10009 ∧ lN n ≤ v ∧ wo.toInt32 = nI n := by
  obtain ⟨W, h3, rfl⟩ := h.2.2 h2
  exact ⟨W, h3, Int64.not_lt.mp hv, lN_i W⟩

