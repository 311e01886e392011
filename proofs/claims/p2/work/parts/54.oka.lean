def okAL (ze mi : Nat) (A : Nat → Prop) (U : State) (H : Heap) : Prop := va_Z "java/util/ArrayList" "DEFAULTCAPACITY_EMPTY_ELEMENTDATA" "[Ljava/lang/Object;" (.ref ze) A U H ∧ va_T (.object "java/lang/Object") ze 0 (fun _ => .null) A U H ∧ va_AO "java/lang/Object" U ∧ va_Mi "[Ljava/lang/Object;" mi U ∧ va_Dc U ∧ va_Nw (.castable RX2 "java/lang/Object") U ∧ va_Nw (.castable RX3 "java/lang/Object") U
theorem okNc {C T : String} {u U : State} (hvm : u.vm.Alike U.vm) (h : va_Nw (.castable C T) u) : va_Nw (.castable C T) U := va_tabs rfl (rfl : (u.setVm U.vm).vm = U.vm) (by rw [Cond.castable_setVm hvm]; exact h)
theorem okAL.moved {ze mi : Nat} {A : Nat → Prop} {u U : State} {H : Heap} (hvm : u.vm.Alike U.vm) (h : okAL ze mi A u H) : okAL ze mi A U H := ⟨va_Z.moved hvm h.1, va_T.moved hvm h.2.1, va_AO.moved hvm h.2.2.1, va_Mi.moved hvm h.2.2.2.1, va_Dc.moved hvm h.2.2.2.2.1, okNc hvm h.2.2.2.2.2.1, okNc hvm h.2.2.2.2.2.2⟩
theorem okAL.pass {ze mi : Nat} {A B : Nat → Prop} {s U : State} {H : Heap} {locs : List Loc} (h : okAL ze mi A s s.heap) (hW : s.WarmedH U.vm) (hS : va_S A s.heap H locs) (hB : ∀ a, B a → A a) : okAL ze mi B U H := okAL.moved hW.alike ⟨(h.1.kept hS.2.1).narrow hB, (h.2.1.kept hS.2.1).narrow hB, h.2.2⟩
def okAn (D : va_G) (cl : List vw_C) (v : Nat) (A : Nat → Prop) (H : Heap) : Prop := ∃ (ci : Nat) (fs : List Value), (ci = 3 ∨ ci = 4) ∧ okF D cl (v, .inr (ci, fs)) A H
def okAns (D : va_G) (cl : List vw_C) (g : Nat → Option Nat) (n : Nat) (A : Nat → Prop) (H : Heap) : Prop := ∀ j, j < n → ∀ y, g j = some y → okAn D cl y A H
theorem okAn.pass {D : va_G} {cl : List vw_C} {v : Nat} {A B : Nat → Prop} {H0 H : Heap} {locs : List Loc} (h : okAn D cl v A H0) (hS : va_S A H0 H locs) (hB : ∀ a, B a → A a) : okAn D cl v B H := by
  obtain ⟨ci, fs, h1, h2⟩ := h
  exact ⟨ci, fs, h1, okF.pass h2 hS hB⟩
theorem okAns.pass {D : va_G} {cl : List vw_C} {g : Nat → Option Nat} {n : Nat} {A B : Nat → Prop} {H0 H : Heap} {locs : List Loc} (h : okAns D cl g n A H0) (hS : va_S A H0 H locs) (hB : ∀ a, B a → A a) : okAns D cl g n B H := fun j hj y hy => okAn.pass (h j hj y hy) hS hB
theorem okAn.any {D : va_G} {tys : List (ClassId × FieldType)} {s : State} {v : Nat} {A : Nat → Prop} {H0 H : Heap} {locs : List Loc} (hK : va_K D vwCl tys s) (h : okAn D vwCl v A H0) (hS : va_S A H0 H locs) (hc2 : va_Nw (.castable RX2 "java/lang/Object") s ∧ va_Nw (.castable RX3 "java/lang/Object") s) : va_Any "java/lang/Object" s H v := by
  obtain ⟨ci, fs, hc, h⟩ := h
  have hP := okF.kept h hS
  rcases hc with rfl | rfl
  · exact va_rAny hK hP (q0 := 0) rfl (r := (RX2, TX2, 6)) rfl (vb_asgC hc2.1)
  · exact va_rAny hK hP (q0 := 0) rfl (r := (RX3, TX3, 2)) rfl (vb_asgC hc2.2)
theorem okSame {D : va_G} {cl : List vw_C} {tys : List (ClassId × FieldType)} {s : State} {c1 c2 : ClassId} {C : String} (hK : va_K D cl tys s) (i j : Nat) (hi : tys[i]? = some (c1, .object C)) (hj : tys[j]? = some (c2, .object C)) : c1 = c2 := by
  have h1 := va_nmO (nm := "[" ++ (FieldType.object C).toString) (hK.2 i _ hi).2 rfl
  have h2 := va_nmO (nm := "[" ++ (FieldType.object C).toString) (hK.2 j _ hj).2 rfl
  exact Option.some.inj (h1.symm.trans h2)
theorem okS1 (n : Nat) : nI (n + 1) - nI n = 1 := by
  rw [pk_sub (by omega), show n + 1 - n = 1 by omega]
  rfl
theorem okHalf {n : Nat} (h : n < 2 ^ 31) : nI n >>> ((1 : Int32) &&& 31) = nI (n / 2) := by
  rw [show ((1 : Int32) &&& 31) = 1 by decide]
  exact pk_shrN h 1 1 (by decide)
theorem maxN {w : Nat} (hw : w < 2 ^ 31) : ∃ n, 1 ≤ n ∧ n ≤ w + 1 ∧ (if (1 : Int32) < nI w then nI w else 1) = nI n := by
  by_cases h : (1 : Int32) < nI w
  · exact ⟨w, Nat.le_of_not_lt fun q => by
      have e : w = 0 := by omega
      subst e
      exact absurd h (by decide), by omega, by rw [if_pos h]⟩
  · exact ⟨1, by decide, by omega, by rw [if_neg h]; rfl⟩
theorem minE {a b : Nat} (h : a ≤ b) (hb : b < 2 ^ 31) : (if nI b < nI a then nI b else nI a) = nI a := if_neg (nI_nlt h hb)

