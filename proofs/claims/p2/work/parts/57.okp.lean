def okLp (g : Nat → Option Nat) (n : Nat) (pl : va_W) (sz : Nat) : Prop := ∀ j, j < n → ∃ (q tt : Nat) (kd pe ot dy : Int32) (gr : Int64), g j = some q ∧ (q, .inr (3, [.int kd, .int pe, .int ot, .int (nI tt), .int dy, .long gr])) ∈ pl ∧ tt < 40 ∧ okLn kd pe ot ∧ sz ≤ q
theorem okLp.one {g : Nat → Option Nat} {sz q tt : Nat} {kd pe ot dy : Int32} {gr : Int64} (h0 : g 0 = some q) (h1 : tt < 40) (h2 : okLn kd pe ot) (h3 : sz ≤ q) : okLp g 1 ((q, .inr (3, [.int kd, .int pe, .int ot, .int (nI tt), .int dy, .long gr])) :: []) sz := fun j hj => by
  have e : j = 0 := by omega
  subst e
  exact ⟨q, tt, kd, pe, ot, dy, gr, h0, List.mem_cons_self, h1, h2, h3⟩
theorem okLp.push {g g1 : Nat → Option Nat} {n sz q tt : Nat} {pl : va_W} {kd pe ot dy : Int32} {gr : Int64} (h : okLp g n pl sz) (h0 : g1 n = some q) (hg : ∀ j, j < n → g1 j = g j) (h1 : tt < 40) (h2 : okLn kd pe ot) (h3 : sz ≤ q) : okLp g1 (n + 1) ((q, .inr (3, [.int kd, .int pe, .int ot, .int (nI tt), .int dy, .long gr])) :: pl) sz := fun j hj => by
  rcases Nat.lt_or_ge j n with e | e
  · obtain ⟨q2, tt2, kd2, pe2, ot2, dy2, gr2, k1, k2, k3, k4, k5⟩ := h j e
    exact ⟨q2, tt2, kd2, pe2, ot2, dy2, gr2, by rw [hg j e]; exact k1, List.mem_cons_of_mem _ k2, k3, k4, k5⟩
  · have e : j = n := by omega
    subst e
    exact ⟨q, tt, kd, pe, ot, dy, gr, h0, List.mem_cons_self, h1, h2, h3⟩
theorem okF.mem {D : va_G} {cl : List vw_C} {X pl wc : va_W} {A0 : Nat → Prop} {H : Heap} (hP : va_P D cl (X ++ pl) H) (hD : va_D A0 (X ++ pl)) {q : Nat × va_E} (hq : q ∈ pl) (isC : List Nat) (hC : isC.map (fun i => (X ++ pl)[i]?) = wc.map some) (hn : ∀ i ∈ isC, i < X.length) : okF D cl q (va_A wc H.size) H := by
  obtain ⟨i, hi⟩ := List.mem_iff_getElem?.mp hq
  have hk : (X ++ pl)[X.length + i]? = some q := by
    rw [List.getElem?_append_right (Nat.le_add_right _ _), Nat.add_sub_cancel_left]
    exact hi
  exact okF.of hP hD (X.length + i) hk isC hC (fun h => absurd (hn _ h) (by omega))
theorem okLp.ans {D : va_G} {cl : List vw_C} {X pl wc : va_W} {A0 : Nat → Prop} {H : Heap} {g : Nat → Option Nat} {n sz : Nat} (h : okLp g n pl sz) (hP : va_P D cl (X ++ pl) H) (hD : va_D A0 (X ++ pl)) (isC : List Nat) (hC : isC.map (fun i => (X ++ pl)[i]?) = wc.map some) (hn : ∀ i ∈ isC, i < X.length) : okAns D cl g n (va_A wc H.size) H := fun j hj y hy => by
  obtain ⟨q, tt, kd, pe, ot, dy, gr, k1, k2, -⟩ := h j hj
  have e : y = q := Option.some.inj (hy.symm.trans k1)
  subst e
  exact ⟨3, _, Or.inl rfl, okF.mem hP hD k2 isC hC hn⟩
def rlP (sz h1 : Nat) (cO : ClassId) (r : Int32) (u : va_W) : Prop := (r = 0 ∧ u = []) ∨ ∃ (mc : Int32) (ad cap n : Nat) (g : Nat → Option Nat) (pl : va_W), r = 1 ∧ u = (h1, .inr (0, [.int mc, .ref ad, .int (nI n)])) :: (ad, .inl (cO, cap, .inr (.inr (.inr (.inr g))))) :: pl ∧ 1 ≤ n ∧ n ≤ 20 ∧ n ≤ cap ∧ cap ≤ 64 ∧ sz ≤ ad ∧ okLp g n pl sz

