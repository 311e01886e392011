theorem lk_in0 (v : Int64) : (if v < 0 ∨ (-1) < v then (0 : Int32) else 1) = 0 := by
  apply if_pos
  rw [Int64.lt_iff_toInt_lt, Int64.lt_iff_toInt_lt, show (0 : Int64).toInt = 0 by decide, show (-1 : Int64).toInt = -1 by decide]
  omega
theorem lk_ne {x : Int32} (k : Int32) (h : ¬ x = k) : x.toInt ≠ k.toInt := fun q => h (Int32.toInt_inj.mp q)
theorem lk_out3 {x : Int32} (h0 : ¬ x = 0) (h1 : ¬ x = 1) (h2 : ¬ x = 2) (h3 : ¬ x = 3) : x.toInt < 0 ∨ 3 < x.toInt := by
  have a0 := lk_ne _ h0
  have a1 := lk_ne _ h1
  have a2 := lk_ne _ h2
  have a3 := lk_ne _ h3
  rw [show (0 : Int32).toInt = 0 by decide] at a0
  rw [show (1 : Int32).toInt = 1 by decide] at a1
  rw [show (2 : Int32).toInt = 2 by decide] at a2
  rw [show (3 : Int32).toInt = 3 by decide] at a3
  omega
theorem lk_day (x : Int32) : (x.toInt64 < 0 ∨ 999 < x.toInt64) ↔ (x < 0 ∨ 1000 ≤ x) := by
  rw [Int64.lt_iff_toInt_lt, Int64.lt_iff_toInt_lt, Int32.lt_iff_toInt_lt, Int32.le_iff_toInt_le, Int32.toInt_toInt64, show (0 : Int64).toInt = 0 by decide, show (999 : Int64).toInt = 999 by decide, show (0 : Int32).toInt = 0 by decide, show (1000 : Int32).toInt = 1000 by decide]
  omega
theorem lk_mt0 {x : Int32} (c : (if x.toInt64 < 0 ∨ 999 < x.toInt64 then (0 : Int32) else 1) = 0) : (-1 : Int32) = if x < 0 ∨ 1000 ≤ x then -1 else 0 := by
  by_cases h : x < 0 ∨ 1000 ≤ x
  · rw [if_pos h]
  · rw [if_neg (fun q => h ((lk_day x).mp q))] at c
    exact absurd c (by decide)
theorem lk_mt1 {x : Int32} (c : ¬ (if x.toInt64 < 0 ∨ 999 < x.toInt64 then (0 : Int32) else 1) = 0) : (0 : Int32) = if x < 0 ∨ 1000 ≤ x then -1 else 0 := by
  by_cases h : x < 0 ∨ 1000 ≤ x
  · exact absurd (if_pos ((lk_day x).mpr h)) c
  · rw [if_neg h]
theorem lk_end1 {x : Int32} (c : x < 0) : (-1 : Int32) = if x = 0 then 0 else -1 := by
  rw [if_neg (fun q => by rw [q] at c; exact absurd c (by decide))]
theorem lk_end2 {x : Int32} (_ : ¬ x < 0) (c : ¬ x ≤ 0) : (-1 : Int32) = if x = 0 then 0 else -1 := by
  rw [if_neg (fun q => by rw [q] at c; exact absurd c (by decide))]
theorem lk_end3 {x : Int32} (c : ¬ x < 0) (d : x ≤ 0) : x = if x = 0 then 0 else -1 := by
  have h : x = 0 := Int32.le_antisymm d (Int32.not_lt.mp c)
  rw [h]
  decide
theorem lk_out19 {x : Int32} (h0 : ¬ x = 0) (h1 : ¬ x = 1) (h2 : ¬ x = 2) (h3 : ¬ x = 3) (h4 : ¬ x = 4) (h5 : ¬ x = 5) (h6 : ¬ x = 6) (h7 : ¬ x = 7) (h8 : ¬ x = 8) (h9 : ¬ x = 9) (h10 : ¬ x = 10) (h11 : ¬ x = 11) (h12 : ¬ x = 12) (h13 : ¬ x = 13) (h14 : ¬ x = 14) (h15 : ¬ x = 15) (h16 : ¬ x = 16) (h17 : ¬ x = 17) (h18 : ¬ x = 18) (h19 : ¬ x = 19) : x.toInt < 0 ∨ 19 < x.toInt := by
  have a0 := lk_ne _ h0
  rw [show (0 : Int32).toInt = 0 by decide] at a0
  have a1 := lk_ne _ h1
  rw [show (1 : Int32).toInt = 1 by decide] at a1
  have a2 := lk_ne _ h2
  rw [show (2 : Int32).toInt = 2 by decide] at a2
  have a3 := lk_ne _ h3
  rw [show (3 : Int32).toInt = 3 by decide] at a3
  have a4 := lk_ne _ h4
  rw [show (4 : Int32).toInt = 4 by decide] at a4
  have a5 := lk_ne _ h5
  rw [show (5 : Int32).toInt = 5 by decide] at a5
  have a6 := lk_ne _ h6
  rw [show (6 : Int32).toInt = 6 by decide] at a6
  have a7 := lk_ne _ h7
  rw [show (7 : Int32).toInt = 7 by decide] at a7
  have a8 := lk_ne _ h8
  rw [show (8 : Int32).toInt = 8 by decide] at a8
  have a9 := lk_ne _ h9
  rw [show (9 : Int32).toInt = 9 by decide] at a9
  have a10 := lk_ne _ h10
  rw [show (10 : Int32).toInt = 10 by decide] at a10
  have a11 := lk_ne _ h11
  rw [show (11 : Int32).toInt = 11 by decide] at a11
  have a12 := lk_ne _ h12
  rw [show (12 : Int32).toInt = 12 by decide] at a12
  have a13 := lk_ne _ h13
  rw [show (13 : Int32).toInt = 13 by decide] at a13
  have a14 := lk_ne _ h14
  rw [show (14 : Int32).toInt = 14 by decide] at a14
  have a15 := lk_ne _ h15
  rw [show (15 : Int32).toInt = 15 by decide] at a15
  have a16 := lk_ne _ h16
  rw [show (16 : Int32).toInt = 16 by decide] at a16
  have a17 := lk_ne _ h17
  rw [show (17 : Int32).toInt = 17 by decide] at a17
  have a18 := lk_ne _ h18
  rw [show (18 : Int32).toInt = 18 by decide] at a18
  have a19 := lk_ne _ h19
  rw [show (19 : Int32).toInt = 19 by decide] at a19
  omega
