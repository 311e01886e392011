def okPD (D : va_G) (cl : List vw_C) (A : Nat → Prop) (ws : va_W) (H : Heap) : Prop := va_P D cl ws H ∧ va_D A ws
def okC (f : Nat → Int32) (k r : Nat) : Prop := ∀ j, j < k → f j = -1 ∨ ∃ n, n < r ∧ f j = nI n
def okB (f : Nat → Int32) (m n : Nat) : Prop := ∀ j, j < m → ∃ x, x < n ∧ f j = nI x
def okP (kd pe : Nat → Int32) (m : Nat) : Prop := ∀ j, j < m → 4 ≤ kd j → ¬ 6 ≤ kd j → ∃ x, x < 12 ∧ pe j = nI x
def okSm (x : Int32) : Prop := ∃ b, 97 ≤ b ∧ b ≤ 122 ∧ x = nI b
def okDi (x : Int32) : Prop := ∃ b, 48 ≤ b ∧ b ≤ 57 ∧ x = nI b
theorem okR {x : Int32} {a b : Nat} (ha : a < 2 ^ 31) (hb : b < 2 ^ 31) (h1 : nI a ≤ x) (h2 : x ≤ nI b) : ∃ j, a ≤ j ∧ j ≤ b ∧ x = nI j := by
  have h0 : ¬ x < 0 := fun h => by
    rw [Int32.lt_iff_toInt_lt] at h
    rw [Int32.le_iff_toInt_le, nI_toInt ha] at h1
    rw [show (0 : Int32).toInt = 0 by decide] at h
    omega
  obtain ⟨j, hj, rfl⟩ := nI_of h0
  exact ⟨j, (nI_leI ha hj).mp h1, (nI_leI hj hb).mp h2, rfl⟩
theorem okR_no {x : Int32} {a b : Nat} (ha : a < 2 ^ 31) (hb : b < 2 ^ 31) (h : ∃ j, a ≤ j ∧ j ≤ b ∧ x = nI j) : nI a ≤ x ∧ x ≤ nI b := by
  obtain ⟨j, h1, h2, rfl⟩ := h
  exact ⟨nI_le h1 (by omega), nI_le h2 hb⟩
def okWd (f : Nat → Int32) (fr d : Nat) (wv : Int64) : Prop := (d = 0 → wv = 0) ∧ (d = 1 → ∃ b, 97 ≤ b ∧ b ≤ 122 ∧ f fr = nI b ∧ wv = lN (b - 96)) ∧ (2 ≤ d → (8 < d ∧ wv = -1) ∨ ∃ W, 33 ≤ W ∧ W < 32 ^ d ∧ d ≤ 8 ∧ wv = lN W)
theorem okWd_0 (f : Nat → Int32) (fr : Nat) : okWd f fr 0 0 := ⟨fun _ => rfl, fun h => absurd h (by decide), fun h => absurd h (by decide)⟩
theorem okWd_step {f : Nat → Int32} {fr d : Nat} {wv : Int64} (h : okWd f fr d wv) (hc : okSm (f (fr + d))) (hd : d < 8) : okWd f fr (d + 1) (wv * 32 + (f (fr + d)).toInt64 - 96) := by
  obtain ⟨c, h1, h2, hc⟩ := hc
  have hl : (f (fr + d)).toInt64 = lN c := by rw [hc]; exact nI_l (by omega)
  rw [hl]
  refine ⟨fun q => absurd q (by omega), fun q => ?_, fun q => ?_⟩
  · have e : d = 0 := by omega
    subst e
    rw [h.1 rfl]
    refine ⟨c, h1, h2, hc, ?_⟩
    rw [show (0 : Int64) * 32 + lN c = lN c by rw [show (0 : Int64) * 32 = 0 by decide, show (0 : Int64) = lN 0 from rfl, lN_add, Nat.zero_add]]
    exact lN_sub (b := 96) (by omega)
  · refine Or.inr ?_
    rcases (show d = 1 ∨ 2 ≤ d by omega) with e | e
    · obtain ⟨b, g1, g2, g3, g4⟩ := h.2.1 e
      subst e
      refine ⟨(b - 96) * 32 + c - 96, by omega, by omega, by omega, ?_⟩
      rw [g4, show (32 : Int64) = lN 32 from rfl, lN_mul, lN_add]
      exact lN_sub (b := 96) (by omega)
    · rcases h.2.2 e with ⟨g, _⟩ | ⟨W, g1, g2, g3, g4⟩
      · exact absurd g (by omega)
      · refine ⟨W * 32 + c - 96, by omega, by rw [Nat.pow_succ]; omega, by omega, ?_⟩
        rw [g4, show (32 : Int64) = lN 32 from rfl, lN_mul, lN_add]
        exact lN_sub (b := 96) (by omega)
theorem okWd_m1 (f : Nat → Int32) (fr : Nat) {d : Nat} (hd : 8 ≤ d) : okWd f fr (d + 1) (-1) := ⟨fun h => absurd h (by omega), fun h => absurd h (by omega), fun _ => Or.inl ⟨by omega, rfl⟩⟩
theorem okWd_end {f : Nat → Int32} {fr d : Nat} {wv : Int64} (h : okWd f fr d wv) (hd : 1 ≤ d) (h1 : 1 ≤ wv.toInt) (h2 : wv.toInt ≤ 12) : ∃ p, p < 12 ∧ f fr - 97 = nI p := by
  rcases (show d = 1 ∨ 2 ≤ d by omega) with e | e
  · obtain ⟨b, g1, g2, g3, g4⟩ := h.2.1 e
    rw [g4, lN_toInt (by omega)] at h1 h2
    exact ⟨b - 97, by omega, by rw [g3]; exact pk_sub (b := 97) (by omega)⟩
  · rcases h.2.2 e with ⟨_, g⟩ | ⟨W, g1, g2, g3, g4⟩
    · rw [g, show (-1 : Int64).toInt = -1 by decide] at h1
      omega
    · have h3 : 32 ^ d ≤ 32 ^ 8 := Nat.pow_le_pow_right (by decide) g3
      rw [show (32 : Nat) ^ 8 = 1099511627776 by decide] at h3
      rw [g4, pk_lT (by omega)] at h2
      omega
def okDg (wv : Int64) : Prop := ∃ W, W ≤ 10009 ∧ wv = lN W
theorem okDg_0 : okDg 0 := ⟨0, by decide, rfl⟩
theorem okDg_step {wv : Int64} {x : Int32} (h : okDg wv) (hx : okDi x) (hle : wv ≤ 1000) : okDg (wv * 10 + x.toInt64 - 48) := by
  obtain ⟨W, h1, rfl⟩ := h
  obtain ⟨c, g1, g2, rfl⟩ := hx
  have h3 : W ≤ 1000 := (lN_le (b := 1000) (by omega) (by decide)).mp hle
  refine ⟨W * 10 + c - 48, by omega, ?_⟩
  rw [nI_l (by omega), show (10 : Int64) = lN 10 from rfl, lN_mul, lN_add]
  exact lN_sub (b := 48) (by omega)
def okS (f : Nat → Int32) (a b : Nat) (so : Int32) (wo : Int64) : Prop := (so = 0 ∨ a < b) ∧ (so = 1 → 1 ≤ wo.toInt → wo.toInt ≤ 12 → ∃ p, p < 12 ∧ f a - 97 = nI p) ∧ (so = 2 → okDg wo)
theorem okS_0 (f : Nat → Int32) (a b : Nat) (w : Int64) : okS f a b 0 w := ⟨Or.inl rfl, fun h => absurd h (by decide), fun h => absurd h (by decide)⟩
theorem okS_3 (f : Nat → Int32) {a b : Nat} (h : a < b) (w : Int64) : okS f a b 3 w := ⟨Or.inr h, fun h => absurd h (by decide), fun h => absurd h (by decide)⟩
theorem okS_w {f : Nat → Int32} {a b : Nat} {w : Int64} (h : okWd f a (b - a) w) (hl : a < b) : okS f a b 1 w := ⟨Or.inr hl, fun _ h1 h2 => okWd_end h (by omega) h1 h2, fun h => absurd h (by decide)⟩
theorem okS_d (f : Nat → Int32) {a b : Nat} {w : Int64} (h : okDg w) (hl : a < b) : okS f a b 2 w := ⟨Or.inr hl, fun h => absurd h (by decide), fun _ => h⟩

