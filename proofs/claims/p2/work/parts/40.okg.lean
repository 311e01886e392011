theorem okF.of {D : va_G} {cl : List vw_C} {ws wc : va_W} {A0 : Nat → Prop} {H : Heap} (hP : va_P D cl ws H) (hD : va_D A0 ws) (k : Nat) {q : Nat × va_E} (hk : ws[k]? = some q) (isC : List Nat) (hC : isC.map (fun i => ws[i]?) = wc.map some) (hn : k ∉ isC) : okF D cl q (va_A wc H.size) H := ⟨hP k q hk, fun z => by
  rcases z with ⟨j, e, hj⟩ | hz
  · have h1 : (isC.map (fun i => ws[i]?))[j]? = (wc.map some)[j]? := by rw [hC]
    rw [List.getElem?_map, List.getElem?_map, hj] at h1
    cases hi : isC[j]? with
    | none => rw [hi] at h1; simp at h1
    | some i =>
      rw [hi] at h1
      have h2 : ws[i]? = some (q.1, e) := by simpa using h1
      have h3 : i = k := hD.1 i k _ _ h2 hk rfl
      exact hn (h3 ▸ List.mem_of_getElem? hi)
  · exact absurd (hP k q hk).lt (Nat.not_lt.mpr hz)⟩

