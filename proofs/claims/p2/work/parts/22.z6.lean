theorem mtN_m {x : Int32} {k : Nat} {f : Nat → Int32} (hf : okD f k) (hk : k < 2 ^ 31) (lo : Int64) (hlo : lo = if k = 0 then 0 else (f (k - 1)).toInt64) : (x.toInt64 < lo ∨ 999 < x.toInt64) ↔ mtN x k f := by
  rw [Int64.lt_iff_toInt_lt, Int64.lt_iff_toInt_lt, Int32.toInt_toInt64, show (999 : Int64).toInt = 999 by decide]
  unfold mtN
  rw [Int32.lt_iff_toInt_lt, Int32.le_iff_toInt_le, Int32.lt_iff_toInt_lt, show (0 : Int32).toInt = 0 by decide, show (1000 : Int32).toInt = 1000 by decide]
  by_cases h : k = 0
  · rw [hlo, if_pos h, show (0 : Int64).toInt = 0 by decide]
    omega
  · obtain ⟨n, h1, h2⟩ := hf (k - 1) (by omega)
    rw [hlo, if_neg h, Int32.toInt_toInt64, h2, nI_toInt (by omega)]
    omega
theorem mt_no {x : Int32} {k : Nat} {f : Nat → Int32} {lo : Int64} (hi : (x.toInt64 < lo ∨ 999 < x.toInt64) ↔ mtN x k f) (h : (if x.toInt64 < lo ∨ 999 < x.toInt64 then (0 : Int32) else 1) = 0) : mtN x k f := by
  by_cases q : x.toInt64 < lo ∨ 999 < x.toInt64
  · exact hi.mp q
  · rw [if_neg q] at h
    exact absurd h (by decide)
theorem mt_yes {x : Int32} {k : Nat} {f : Nat → Int32} {lo : Int64} (hi : (x.toInt64 < lo ∨ 999 < x.toInt64) ↔ mtN x k f) (h : ¬ (if x.toInt64 < lo ∨ 999 < x.toInt64 then (0 : Int32) else 1) = 0) : ¬ mtN x k f := fun q => h (if_pos (hi.mpr q))
theorem okD_new {f : Nat → Int32} {k : Nat} {x : Int32} (h : okD f k) (hx : ¬ mtN x k f) : okD (upd f k x) (k + 1) := fun i hi => by
  by_cases e : i = k
  · rw [e, pk_us]
    have h0 : ¬ x < 0 := fun q => hx (Or.inl q)
    obtain ⟨j, hj, rfl⟩ := nI_of h0
    refine ⟨j, Nat.lt_of_not_le fun q => hx (Or.inr (Or.inl (nI_le (a := 1000) q hj))), rfl⟩
  · rw [pk_un e]; exact h i (by omega)
theorem okM_new {fm fc : Nat → Int32} {r k : Nat} (h : okM fm fc r k) : okM fm (upd fc k (-1)) r (k + 1) := fun j hj => by
  obtain ⟨n, h1, h2, q, h3, h4⟩ := h j hj
  exact ⟨n, by omega, h2, q, h3, by rw [pk_un (show n ≠ k by omega)]; exact h4⟩

