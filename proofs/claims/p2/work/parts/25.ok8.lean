theorem okM_add {fm fc : Nat → Int32} {r k mm v : Nat} (h : okM fm fc r k) (hm : mm < k) (hv : v < r + 1) : okM (upd fm r (nI mm)) (upd fc mm (nI v)) (r + 1) k := fun j hj => by
  by_cases e : j = r
  · rw [e, pk_us]
    exact ⟨mm, hm, rfl, v, hv, pk_us⟩
  · rw [pk_un e]
    obtain ⟨n, h1, h2, q, h3, h4⟩ := h j (by omega)
    by_cases g : n = mm
    · exact ⟨n, h1, h2, v, hv, by rw [g, pk_us]⟩
    · exact ⟨n, h1, h2, q, by omega, by rw [pk_un g]; exact h4⟩

