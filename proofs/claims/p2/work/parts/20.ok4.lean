def okM (fm fc : Nat → Int32) (r k : Nat) : Prop := ∀ j, j < r → ∃ n, n < k ∧ fm j = nI n ∧ ∃ q, q < r ∧ fc n = nI q
def okD (f : Nat → Int32) (k : Nat) : Prop := ∀ j, j < k → ∃ n, n < 1000 ∧ f j = nI n
def mtN (x : Int32) (k : Nat) (f : Nat → Int32) : Prop := x < 0 ∨ 1000 ≤ x ∨ (0 < k ∧ x < f (k - 1))
def mtR (x : Int32) (k : Nat) (f : Nat → Int32) (r : Int32) : Prop := (mtN x k f ∧ r = -1) ∨ (¬ mtN x k f ∧ k = 30 ∧ r = -5) ∨ (¬ mtN x k f ∧ k < 30 ∧ r = nI k)
def mtS (x : Int32) (k : Nat) (f : Nat → Int32) (k2 : Nat) (f2 : Nat → Int32) : Prop := ((mtN x k f ∨ k = 30) ∧ k2 = k ∧ f2 = f) ∨ (¬ mtN x k f ∧ k < 30 ∧ k2 = k + 1 ∧ f2 = upd f k x)

