def zs (f : Nat → Int32) : Nat → Nat
  | 0 => 0
  | n + 1 => zs f n + (if f n = 0 then 1 else 0)
theorem zs_out {f : Nat → Int32} {c : Nat} {x : Int32} : ∀ (n : Nat), n ≤ c → zs (upd f c x) n = zs f n
  | 0, _ => rfl
  | n + 1, h => by
    rw [zs, zs, zs_out n (by omega), pk_un (show n ≠ c by omega)]
theorem zs_up {f : Nat → Int32} {c : Nat} {x : Int32} (h0 : f c = 0) (hx : ¬ x = 0) : ∀ (n : Nat), c < n → zs (upd f c x) n + 1 = zs f n
  | 0, h => absurd h (Nat.not_lt_zero c)
  | n + 1, h => by
    rcases Nat.lt_or_ge c n with q | q
    · rw [zs, zs, pk_un (show n ≠ c by omega), ← zs_up h0 hx n q]
      omega
    · have e : c = n := by omega
      subst e
      rw [zs, zs, zs_out c (Nat.le_refl c), pk_us, if_neg hx, if_pos h0]

