def okK (kd wv : Int32) : Prop := 4 ≤ kd → ¬ 6 ≤ kd → ∃ x, x < 12 ∧ wv = nI x
theorem okK_6 (w : Int32) : okK 6 w := fun _ h => absurd (by decide) h
theorem okK_7 (w : Int32) : okK 7 w := fun _ h => absurd (by decide) h
theorem okK_of {kd wv : Int32} (h : ∃ x, x < 12 ∧ wv = nI x) : okK kd wv := fun _ _ => h
theorem okS_p {f : Nat → Int32} {a b : Nat} {so : Int32} {wo : Int64} (h : okS f a b so wo) (h1 : so = 1) (h2 : ¬ (if wo < 1 ∨ 12 < wo then (0 : Int32) else 1) = 0) : a < b ∧ ∃ p, p < 12 ∧ f a - 97 = nI p := by
  have h3 := lk_of h2
  rw [Int64.le_iff_toInt_le, Int64.le_iff_toInt_le, show (1 : Int64).toInt = 1 by decide, show (12 : Int64).toInt = 12 by decide] at h3
  refine ⟨?_, h.2.1 h1 h3.1 h3.2⟩
  rcases h.1 with g | g
  · rw [h1] at g; exact absurd g (by decide)
  · exact g
theorem okN39 {r : Int32} (h : ∃ n, n ≤ 10009 ∧ lN n ≤ 39 ∧ r = nI n) : ∃ n, n < 40 ∧ r = nI n := by
  obtain ⟨n, h1, h2, h3⟩ := h
  exact ⟨n, by have := (lN_le (b := 39) (by omega) (by decide)).mp h2; omega, h3⟩
theorem ne01 {b : Int32} (h : b = 0 ∨ b = 1) (h2 : ¬ b = 0) : b = 1 := h.resolve_left h2
theorem okP_up {kd pe : Nat → Int32} {m j : Nat} {a b : Int32} (h : okP kd pe m) (hk : okK a b) : okP (upd kd j a) (upd pe j b) m := fun i hi h4 h6 => by
  by_cases e : i = j
  · subst e
    rw [pk_us] at h4 h6 ⊢
    exact hk h4 h6
  · rw [pk_un e] at h4 h6 ⊢
    exact h i hi h4 h6

