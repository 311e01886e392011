theorem max0 (x : Int32) : ∃ n, n < 2 ^ 31 ∧ (if x < 0 then 0 else x) = nI n := by
  by_cases h : x < 0
  · exact ⟨0, by decide, by rw [if_pos h]; rfl⟩
  · obtain ⟨j, hj, e⟩ := nI_of h
    exact ⟨j, hj, by rw [if_neg h, e]⟩

