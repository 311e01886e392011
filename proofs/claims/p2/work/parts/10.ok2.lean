theorem lk_of {x lo hi : Int64} (h : ¬ (if x < lo ∨ hi < x then (0 : Int32) else 1) = 0) : lo ≤ x ∧ x ≤ hi := by
  by_cases q : x < lo ∨ hi < x
  · exact absurd (if_pos q) h
  · exact ⟨Int64.not_lt.mp fun z => q (Or.inl z), Int64.not_lt.mp fun z => q (Or.inr z)⟩
theorem lk_b (x lo hi : Int64) : (if x < lo ∨ hi < x then (0 : Int32) else 1) = 0 ∨ (if x < lo ∨ hi < x then (0 : Int32) else 1) = 1 := by
  by_cases q : x < lo ∨ hi < x
  · exact Or.inl (if_pos q)
  · exact Or.inr (if_neg q)
theorem lk_rng {x : Int32} {hi : Int64} {k : Nat} (hk : hi.toInt < k) (h1 : (0 : Int64) ≤ x.toInt64) (h2 : x.toInt64 ≤ hi) : ∃ n, n < k ∧ x = nI n := by
  rw [Int64.le_iff_toInt_le, Int32.toInt_toInt64] at h1 h2
  rw [show (0 : Int64).toInt = 0 by decide] at h1
  have h0 : ¬ x < 0 := fun h => by
    rw [Int32.lt_iff_toInt_lt, show (0 : Int32).toInt = 0 by decide] at h
    omega
  obtain ⟨j, hj, rfl⟩ := nI_of h0
  rw [nI_toInt hj] at h2
  exact ⟨j, by omega, rfl⟩
theorem lk_hi {k : Nat} (hk : k < 2 ^ 31) : ((nI k).toInt64 - 1).toInt < k := by
  rw [nI_l hk]
  rcases Nat.eq_zero_or_pos k with h | h
  · subst h; decide
  · rw [show (1 : Int64) = lN 1 from rfl, lN_sub h, lN_toInt (by omega)]
    omega
theorem lk_isN {x : Int32} {hi : Int64} {k : Nat} (hk : hi.toInt < k) : (if x.toInt64 < 0 ∨ hi < x.toInt64 then (0 : Int32) else 1) = 0 ∨ ((if x.toInt64 < 0 ∨ hi < x.toInt64 then (0 : Int32) else 1) = 1 ∧ ∃ n, n < k ∧ x = nI n) := by
  rcases lk_b x.toInt64 0 hi with h | h
  · exact Or.inl h
  · have h2 := lk_of (x := x.toInt64) (lo := 0) (hi := hi) (by rw [h]; decide)
    exact Or.inr ⟨h, lk_rng hk h2.1 h2.2⟩
theorem nI_m1 {n : Nat} (h : n < 2 ^ 31) : ¬ nI n = -1 := fun q => by
  have h2 := nI_toInt h
  rw [q, show (-1 : Int32).toInt = -1 by decide] at h2
  omega
theorem lk_ne {x : Int32} (k : Int32) (h : ¬ x = k) : x.toInt ≠ k.toInt := fun q => h (Int32.toInt_inj.mp q)
theorem lk_out2 {x : Int32} (h0 : ¬ x = 0) (h1 : ¬ x = 1) (h2 : ¬ x = 2) : x.toInt < 0 ∨ 2 < x.toInt := by
  have a0 := lk_ne _ h0
  have a1 := lk_ne _ h1
  have a2 := lk_ne _ h2
  rw [show (0 : Int32).toInt = 0 by decide] at a0
  rw [show (1 : Int32).toInt = 1 by decide] at a1
  rw [show (2 : Int32).toInt = 2 by decide] at a2
  omega
theorem lk_out3 {x : Int32} (h0 : ¬ x = 0) (h1 : ¬ x = 1) (h2 : ¬ x = 2) (h3 : ¬ x = 3) : x.toInt < 0 ∨ 3 < x.toInt := by
  have a := lk_out2 h0 h1 h2
  have a3 := lk_ne _ h3
  rw [show (3 : Int32).toInt = 3 by decide] at a3
  omega
theorem nI_dec {k : Nat} (h : 0 < k) : nI k + Int32.ofInt (-1) = nI (k - 1) := by
  obtain ⟨z, rfl⟩ : ∃ z, k = z + 1 := ⟨k - 1, by omega⟩
  exact pk_m1 z
theorem okC_up {f : Nat → Int32} {k r r' j n : Nat} (h : okC f k r) (hr : r ≤ r') (hn : n < r') : okC (upd f j (nI n)) k r' := fun i hi => by
  by_cases e : i = j
  · rw [e, pk_us]; exact Or.inr ⟨n, hn, rfl⟩
  · rw [pk_un e]
    rcases h i hi with g | ⟨m, g1, g2⟩
    · exact Or.inl g
    · exact Or.inr ⟨m, by omega, g2⟩
theorem okC_new {f : Nat → Int32} {k r : Nat} (h : okC f k r) : okC (upd f k (-1)) (k + 1) r := fun i hi => by
  by_cases e : i = k
  · rw [e, pk_us]; exact Or.inl rfl
  · rw [pk_un e]; exact h i (by omega)
theorem okC_wide {f : Nat → Int32} {k r r' : Nat} (h : okC f k r) (hr : r ≤ r') : okC f k r' := fun i hi => by
  rcases h i hi with g | ⟨m, g1, g2⟩
  · exact Or.inl g
  · exact Or.inr ⟨m, by omega, g2⟩
theorem okC_m1 {f : Nat → Int32} {k r j : Nat} (h : okC f k r) : okC (upd f j (-1)) k r := fun i hi => by
  by_cases e : i = j
  · rw [e, pk_us]; exact Or.inl rfl
  · rw [pk_un e]; exact h i hi
theorem okB_up {f : Nat → Int32} {m n j x : Nat} (h : okB f m n) (hx : x < n) : okB (upd f j (nI x)) m n := fun i hi => by
  by_cases e : i = j
  · rw [e, pk_us]; exact ⟨x, hx, rfl⟩
  · rw [pk_un e]; exact h i hi
theorem okB_new {f : Nat → Int32} {m n x : Nat} (h : okB f m n) (hx : x < n) : okB (upd f m (nI x)) (m + 1) n := fun i hi => by
  by_cases e : i = m
  · rw [e, pk_us]; exact ⟨x, hx, rfl⟩
  · rw [pk_un e]; exact h i (by omega)

