def lnP (sz : Nat) (r : Option Nat) (u : va_W) : Prop := (r = none ∧ u = []) ∨ ∃ (q tt : Nat) (kd pe ot dy : Int32) (gr : Int64), r = some q ∧ u = [(q, .inr (3, [.int kd, .int pe, .int ot, .int (nI tt), .int dy, .long gr]))] ∧ tt < 40 ∧ okLn kd pe ot ∧ sz ≤ q
theorem okNew {A : Nat → Prop} {ws cells : va_W} {sz : Nat} (hAe : va_A cells sz = A) (hD : va_D A ws) (k : Nat) {q : Nat × va_E} (hk : ws[k]? = some q) (is : List Nat) (hs : is.map (fun i => (ws[i]?).map Prod.fst) = cells.map (fun c => some c.1)) (hn : k ∉ is) : sz ≤ q.1 := by
  have h := hD.2 k q hk
  rw [← hAe] at h
  rcases h with ⟨j, e, hj⟩ | h
  · exfalso
    have h1 : (is.map (fun i => (ws[i]?).map Prod.fst))[j]? = (cells.map (fun c => some c.1))[j]? := by rw [hs]
    rw [List.getElem?_map, List.getElem?_map, hj] at h1
    cases hi : is[j]? with
    | none => rw [hi] at h1; simp at h1
    | some i =>
      rw [hi] at h1
      have h2 : (ws[i]?).map Prod.fst = some q.1 := by simpa using h1
      cases hw : ws[i]? with
      | none => rw [hw] at h2; simp at h2
      | some p =>
        rw [hw] at h2
        have h3 : p.1 = q.1 := by simpa using h2
        have h4 : i = k := hD.1 i k p q hw hk h3
        exact hn (h4 ▸ List.mem_of_getElem? hi)
  · exact h
theorem okLn_a {kd pe ot : Int32} (hk : ¬ kd = 0) (hp : ∃ x, x < 12 ∧ pe = nI x) : okLn kd pe ot := ⟨fun h => absurd h hk, fun _ => hp⟩
theorem okLn_0 {pe ot : Int32} (ho : ∃ x, x < 12 ∧ ot = nI x) : okLn 0 pe ot := ⟨fun _ => ho, fun h => absurd h (by decide)⟩
theorem okLn_6 (pe ot : Int32) : okLn 6 pe ot := ⟨fun h => absurd h (by decide), fun h => absurd h (by decide)⟩
theorem okLn_7 (pe ot : Int32) : okLn 7 pe ot := ⟨fun h => absurd h (by decide), fun h => absurd h (by decide)⟩

