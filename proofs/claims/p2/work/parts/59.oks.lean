def okRecs (D : va_G) (cl : List vw_C) (cO : ClassId) (g : Nat → Option Nat) (n : Nat) (A : Nat → Prop) (H : Heap) : Prop := ∀ j, j < n → ∃ (q mt lp : Nat) (mc : Int32) (al nl cl2 : Nat) (gl : Nat → Option Nat), g j = some q ∧ okF D cl (q, .inr (4, [.int (nI mt), .ref lp])) A H ∧ mt < 30 ∧ okF D cl (lp, .inr (0, [.int mc, .ref al, .int (nI nl)])) A H ∧ okF D cl (al, .inl (cO, cl2, .inr (.inr (.inr (.inr gl))))) A H ∧ nl ≤ 20 ∧ nl ≤ cl2 ∧ cl2 < 2 ^ 31 ∧ okLs D cl gl nl A H
def okRc (D : va_G) (cl : List vw_C) (ze : Nat) (cO : ClassId) (ev : Value) (n : Nat) (B P : Nat → Prop) (H : Heap) : Prop := (n = 0 ∧ ev = .ref ze) ∨ (0 < n ∧ ∃ (ad cap : Nat) (g : Nat → Option Nat), ev = .ref ad ∧ B ad ∧ n ≤ cap ∧ cap ≤ 64 ∧ okF D cl (ad, .inl (cO, cap, .inr (.inr (.inr (.inr g))))) P H ∧ okRecs D cl cO g n (fun a => P a ∨ a = ad) H)
def xA (L : List Nat) (n sz : Nat) (X : Nat → Prop) : Nat → Prop := fun a => a ∈ L ∨ n ≤ a ∨ (a < sz ∧ X a)
theorem okF.go {D : va_G} {cl : List vw_C} {q : Nat × va_E} {A Q : Nat → Prop} {H0 H : Heap} (h : okF D cl q A H0) (hk : ∀ a : Nat, a < H0.size → ¬ A a → H[a]? = H0[a]?) (hQ : ∀ a, a < H0.size → Q a → A a) : okF D cl q Q H := by
  have h0 := okF.one h
  have hl : q.1 < H0.size := (h0 0 q rfl).lt
  refine ⟨(h0.kept (fun k x hx => ?_)) 0 q rfl, fun z => h.2 (hQ _ hl z)⟩
  match k, hx with
  | 0, hx => cases hx; exact hk _ hl h.2
  | k + 1, hx => simp at hx
theorem okLs.go {D : va_G} {cl : List vw_C} {g : Nat → Option Nat} {n : Nat} {A Q : Nat → Prop} {H0 H : Heap} (h : okLs D cl g n A H0) (hk : ∀ a : Nat, a < H0.size → ¬ A a → H[a]? = H0[a]?) (hQ : ∀ a, a < H0.size → Q a → A a) : okLs D cl g n Q H := fun j hj => by
  obtain ⟨q, tt, kd, pe, ot, dy, gr, h1, h2, h3, h4⟩ := h j hj
  exact ⟨q, tt, kd, pe, ot, dy, gr, h1, okF.go h2 hk hQ, h3, h4⟩
theorem okRecs.go {D : va_G} {cl : List vw_C} {cO : ClassId} {g : Nat → Option Nat} {n : Nat} {A Q : Nat → Prop} {H0 H : Heap} (h : okRecs D cl cO g n A H0) (hk : ∀ a : Nat, a < H0.size → ¬ A a → H[a]? = H0[a]?) (hQ : ∀ a, a < H0.size → Q a → A a) : okRecs D cl cO g n Q H := fun j hj => by
  obtain ⟨q, mt, lp, mc, al, nl, cl2, gl, k1, k2, k3, k4, k5, k6, k7, k8, k9⟩ := h j hj
  exact ⟨q, mt, lp, mc, al, nl, cl2, gl, k1, okF.go k2 hk hQ, k3, okF.go k4 hk hQ, okF.go k5 hk hQ, k6, k7, k8, okLs.go k9 hk hQ⟩
theorem okRecs.ans {D : va_G} {cl : List vw_C} {cO : ClassId} {g : Nat → Option Nat} {n : Nat} {A : Nat → Prop} {H : Heap} (h : okRecs D cl cO g n A H) : okAns D cl g n A H := fun j hj y hy => by
  obtain ⟨q, mt, lp, mc, al, nl, cl2, gl, k1, k2, -⟩ := h j hj
  have e : y = q := Option.some.inj (hy.symm.trans k1)
  subst e
  exact ⟨4, _, Or.inr rfl, k2⟩
theorem okRecs.push {D : va_G} {cl : List vw_C} {cO : ClassId} {g g1 : Nat → Option Nat} {n : Nat} {Q : Nat → Prop} {H : Heap} (h : okRecs D cl cO g n Q H) (hg : ∀ j, j < n → g1 j = g j) {q mt lp : Nat} {mc : Int32} {al nl cl2 : Nat} {gl : Nat → Option Nat} (k1 : g1 n = some q) (k2 : okF D cl (q, .inr (4, [.int (nI mt), .ref lp])) Q H) (k3 : mt < 30) (k4 : okF D cl (lp, .inr (0, [.int mc, .ref al, .int (nI nl)])) Q H) (k5 : okF D cl (al, .inl (cO, cl2, .inr (.inr (.inr (.inr gl))))) Q H) (k6 : nl ≤ 20) (k7 : nl ≤ cl2) (k8 : cl2 < 2 ^ 31) (k9 : okLs D cl gl nl Q H) : okRecs D cl cO g1 (n + 1) Q H := fun j hj => by
  rcases Nat.lt_or_ge j n with e | e
  · rw [hg j e]; exact h j e
  · have e : j = n := by omega
    subst e
    exact ⟨q, mt, lp, mc, al, nl, cl2, gl, k1, k2, k3, k4, k5, k6, k7, k8, k9⟩
theorem okRecs.none {D : va_G} {cl : List vw_C} {cO : ClassId} {g : Nat → Option Nat} {Q : Nat → Prop} {H : Heap} : okRecs D cl cO g 0 Q H := fun j hj => absurd hj (Nat.not_lt_zero j)
theorem okOut {A : Nat → Prop} {ws : va_W} (hD : va_D A ws) {k : Nat} {q : Nat × va_E} (hk : ws[k]? = some q) {L : List Nat} (isL : List Nat) (hL : isL.map (fun i => (ws[i]?).map Prod.fst) = L.map some) (hn : k ∉ isL) : q.1 ∉ L := fun h => by
  obtain ⟨j, hj⟩ := List.mem_iff_getElem?.mp h
  have h1 : (isL.map (fun i => (ws[i]?).map Prod.fst))[j]? = (L.map some)[j]? := by rw [hL]
  rw [List.getElem?_map, List.getElem?_map, hj] at h1
  cases hi : isL[j]? with
  | none => rw [hi] at h1; simp at h1
  | some i =>
    rw [hi] at h1
    have h2 : (ws[i]?).map Prod.fst = some q.1 := by simpa using h1
    cases hw : ws[i]? with
    | none => rw [hw] at h2; simp at h2
    | some p =>
      rw [hw] at h2
      have h3 : p.1 = q.1 := by simpa using h2
      exact hn (hD.1 i k p q hw hk h3 ▸ List.mem_of_getElem? hi)
theorem okIn {A : Nat → Prop} {ws : va_W} (hD : va_D A ws) {L : List Nat} (isL : List Nat) (hL : isL.map (fun i => (ws[i]?).map Prod.fst) = L.map some) : ∀ a ∈ L, A a := fun a h => by
  obtain ⟨j, hj⟩ := List.mem_iff_getElem?.mp h
  have h1 : (isL.map (fun i => (ws[i]?).map Prod.fst))[j]? = (L.map some)[j]? := by rw [hL]
  rw [List.getElem?_map, List.getElem?_map, hj] at h1
  cases hi : isL[j]? with
  | none => rw [hi] at h1; simp at h1
  | some i =>
    rw [hi] at h1
    have h2 : (ws[i]?).map Prod.fst = some a := by simpa using h1
    cases hw : ws[i]? with
    | none => rw [hw] at h2; simp at h2
    | some p =>
      rw [hw] at h2
      have h3 : p.1 = a := by simpa using h2
      exact h3 ▸ hD.2 i p hw
theorem okW1 {D : va_G} {cl : List vw_C} {A X : Nat → Prop} {ws : va_W} {H : Heap} {L : List Nat} {sz : Nat} (hP : va_P D cl ws H) (hD : va_D A ws) (k : Nat) {q : Nat × va_E} (hk : ws[k]? = some q) (isL : List Nat) (hL : isL.map (fun i => (ws[i]?).map Prod.fst) = L.map some) (hn : k ∉ isL) (hX : ¬ (q.1 < sz ∧ X q.1)) : okF D cl q (xA L H.size sz X) H := ⟨hP k q hk, fun z => by
  rcases z with z | z | z
  · exact okOut hD hk isL hL hn z
  · exact absurd (hP k q hk).lt (Nat.not_lt.mpr z)
  · exact hX z⟩
theorem okW2 {D : va_G} {cl : List vw_C} {A X : Nat → Prop} {ws : va_W} {H : Heap} {L : List Nat} {sz ad : Nat} (hP : va_P D cl ws H) (hD : va_D A ws) (k : Nat) {q : Nat × va_E} (hk : ws[k]? = some q) (isL : List Nat) (hL : isL.map (fun i => (ws[i]?).map Prod.fst) = (ad :: L).map some) (hn : k ∉ isL) (hq : sz ≤ q.1) : okF D cl q (fun a => xA L H.size sz X a ∨ a = ad) H := ⟨hP k q hk, fun z => by
  have h0 := okOut hD hk isL hL hn
  rcases z with (z | z | z) | z
  · exact h0 (List.mem_cons_of_mem _ z)
  · exact absurd (hP k q hk).lt (Nat.not_lt.mpr z)
  · exact absurd z.1 (Nat.not_lt.mpr hq)
  · exact h0 (by rw [z]; exact List.mem_cons_self)⟩
theorem okLp.ls {D : va_G} {cl : List vw_C} {A X : Nat → Prop} {Xs pl : va_W} {H : Heap} {L : List Nat} {sz ad : Nat} {g : Nat → Option Nat} {n : Nat} (h : okLp g n pl sz) (hP : va_P D cl (Xs ++ pl) H) (hD : va_D A (Xs ++ pl)) (isL : List Nat) (hL : isL.map (fun i => ((Xs ++ pl)[i]?).map Prod.fst) = (ad :: L).map some) (hn : ∀ i ∈ isL, i < Xs.length) : okLs D cl g n (fun a => xA L H.size sz X a ∨ a = ad) H := fun j hj => by
  obtain ⟨q, tt, kd, pe, ot, dy, gr, k1, k2, k3, k4, k5⟩ := h j hj
  obtain ⟨i, hi⟩ := List.mem_iff_getElem?.mp k2
  have hk : (Xs ++ pl)[Xs.length + i]? = some (q, .inr (3, [.int kd, .int pe, .int ot, .int (nI tt), .int dy, .long gr])) := by
    rw [List.getElem?_append_right (Nat.le_add_right _ _), Nat.add_sub_cancel_left]
    exact hi
  exact ⟨q, tt, kd, pe, ot, dy, gr, k1, okW2 hP hD _ hk isL hL (fun z => absurd (hn _ z) (by omega)) k5, k3, k4⟩
theorem okRecs.old {D : va_G} {cl : List vw_C} {cO : ClassId} {g : Nat → Option Nat} {n : Nat} {A X : Nat → Prop} {H0 H : Heap} {locs : List Loc} {L : List Nat} {ad : Nat} (h : okRecs D cl cO g n (fun a => A a ∨ X a) H0) (hS : va_S A H0 H locs) (hL : ∀ a ∈ L, A a) (had : A ad) : okRecs D cl cO g n (fun a => xA L H.size H0.size X a ∨ a = ad) H := okRecs.go h (fun a h1 h2 => hS.2.1 a h1 (fun z => h2 (Or.inl z))) (fun a h1 h2 => by
  rcases h2 with (z | z | z) | z
  · exact Or.inl (hL a z)
  · exact absurd (Nat.lt_of_lt_of_le h1 hS.1) (Nat.not_lt.mpr z)
  · exact Or.inr z.2
  · rw [z]; exact Or.inl had)
theorem okLp.wide {g : Nat → Option Nat} {n : Nat} {pl : va_W} {s1 s2 : Nat} (h : okLp g n pl s2) (hs : s1 ≤ s2) : okLp g n pl s1 := fun j hj => by
  obtain ⟨q, tt, kd, pe, ot, dy, gr, k1, k2, k3, k4, k5⟩ := h j hj
  exact ⟨q, tt, kd, pe, ot, dy, gr, k1, k2, k3, k4, Nat.le_trans hs k5⟩

