def wp_X7_in : List Cond := .code yX7_in cX7_in 6 (some .boolean) :: (([] : List Cond))
set_option maxRecDepth 20000 in
theorem gi_X7_in : GoodIn lw_tbl wp_X7_in := (goodIn_r (.code yX7_in cX7_in 6 (some .boolean) :: ([] : List Cond)) [808] (by decide +kernel) (by decide +kernel))
set_option maxHeartbeats 4000000 in
set_option maxRecDepth 100000 in
/-- in -/
theorem c_X7_in (l : Launch) (dC : Nat → ClassId) (dI : Nat → Nat → Nat) (sz : Nat) (v0 : Int64) (v1 : Int64) (v2 : Int64) : Met l yX7_in wp_X7_in ({ frames := 0, cells := 0, slots := 0, locals := 0 }) (va_Pc [.long v0, .long v1, .long v2] (fun U => U.heap.size = sz ∧ va_P (dC, dI) vwCl [] U.heap ∧ va_K (dC, dI) vwCl [] U ∧ va_D (fun _ => True) [])) (va_Qi (fun (r : Int32) (_ : Unit) => r = (if v0 < v1 ∨ v2 < v0 then 0 else 1)) (fun (_ : Unit) (t : State) => va_P (dC, dI) vwCl [] t.heap ∧ va_K (dC, dI) vwCl [] t ∧ va_D (va_A [] sz) []) (va_A [] sz)) 0 0 (va_A [] sz) := by
  refine Met.ofW (cc := cX7_in) (maxL := 6) (ret := (some .boolean)) (by decide) rfl ?_
  intro p e s m args below meth c s₁ B hml hv
  obtain ⟨rfl, hsz, hP, hK, hD0⟩ := hv
  have hx := B.exec
  have hb := B.bytes
  have hr := B.returns
  have hts := atoms_spec (ws := wp_X7_in) B.pre
  have hown : s.vm.findClass RX7 = some m.cls := findClass_of_methodNamed B.named
  have hlocks := B.notSynchronized
  subst hsz
  have hD := hD0.self (sz := s.heap.size)
  generalize hAe : va_A [] s.heap.size = A at hD ⊢
  have hA : ∀ q : Nat, s.heap.size ≤ q → A q := fun q h => by rw [← hAe]; exact Or.inr h
  have hS : va_S A s.heap s.heap [] := va_S.rf
  have hP : va_P (dC, dI) vwCl [] s.heap := hP
  have hl := lv_entry ([.long v0, .long v1, .long v2]) (n := 6) (Nat.le_of_ble_eq_true rfl)
  rw [lg_entry_eq]
  generalize (lg_sl ([.long v0, .long v1, .long v2]) ++ List.replicate (6 - (lg_sl ([.long v0, .long v1, .long v2])).length) Slot.unset).toArray = ls at hl ⊢
  have hl : lv_has ls 6 [(0, .long v0), (2, .long v1), (4, .long v2)] := hl
  refine lv_lload_n hx hb dX7_in_0 rfl (lv_at hl 0 rfl) ?_
  refine lv_lload_n hx hb dX7_in_1 rfl (lv_at hl 1 rfl) ?_
  refine W.lcmp hx hb dX7_in_2 ?_
  refine lv_if_lt (tgt := 17) hx hb dX7_in_3 (by decide) (fun c_1 => ?_) (fun c_1 => ?_)
  · have c_1 : v0 < v1 := (lg_cmp_lt _ _).mp c_1
    refine lv_iconst (v := 0) hx hb dX7_in_17 (by decide) ?_
    have hP9 := hP.sub (ws' := []) [] rfl
    have hD9 := hD.sub (ws' := []) [] (by decide) rfl
    have hK9 := hK.sub (tys' := []) [] rfl
    exact W.zret (v := 0) (ty := .boolean) hx hb hr rfl (fun t ht hW => ⟨⟨0, (), rfl, by simp [c_1], by rw [ht]; exact hP9, va_K.moved hW.alike hK9, hD9⟩, hS.F ht⟩) hS.2.2 dX7_in_18
  · have c_1 : ¬ (v0 < v1) := fun h => c_1 ((lg_cmp_lt _ _).mpr h)
    refine lv_lload_n hx hb dX7_in_6 rfl (lv_at hl 0 rfl) ?_
    refine lv_lload hx hb dX7_in_7 (lv_at hl 2 rfl) ?_
    refine W.lcmp hx hb dX7_in_9 ?_
    refine lv_if_gt (tgt := 17) hx hb dX7_in_10 (by decide) (fun c_2 => ?_) (fun c_2 => ?_)
    · have c_2 : v2 < v0 := (lg_cmp_gt _ _).mp c_2
      refine lv_iconst (v := 0) hx hb dX7_in_17 (by decide) ?_
      have hP9 := hP.sub (ws' := []) [] rfl
      have hD9 := hD.sub (ws' := []) [] (by decide) rfl
      have hK9 := hK.sub (tys' := []) [] rfl
      exact W.zret (v := 0) (ty := .boolean) hx hb hr rfl (fun t ht hW => ⟨⟨0, (), rfl, by simp [c_1, c_2], by rw [ht]; exact hP9, va_K.moved hW.alike hK9, hD9⟩, hS.F ht⟩) hS.2.2 dX7_in_18
    · have c_2 : ¬ (v2 < v0) := fun h => c_2 ((lg_cmp_gt _ _).mpr h)
      refine lv_iconst (v := 1) hx hb dX7_in_13 (by decide) ?_
      refine lv_goto (tgt := 18) hx hb dX7_in_14 (by decide) ?_
      have hP9 := hP.sub (ws' := []) [] rfl
      have hD9 := hD.sub (ws' := []) [] (by decide) rfl
      have hK9 := hK.sub (tys' := []) [] rfl
      exact W.zret (v := 1) (ty := .boolean) hx hb hr rfl (fun t ht hW => ⟨⟨1, (), rfl, by simp [c_1, c_2], by rw [ht]; exact hP9, va_K.moved hW.alike hK9, hD9⟩, hS.F ht⟩) hS.2.2 dX7_in_18
def wp_X7_told : List Cond := .code yX7_told cX7_told 2 (some .int) :: (([.fieldLink RX7 91 "AgreedTalksModel" "status" "I"] : List Cond) ++ wsX70)
set_option maxRecDepth 20000 in
theorem gi_X7_told : GoodIn lw_tbl wp_X7_told := (goodIn_ca (goodIn_r (.code yX7_told cX7_told 2 (some .int) :: ([.fieldLink RX7 91 "AgreedTalksModel" "status" "I"] : List Cond)) [812, 674] (by decide +kernel) (by decide +kernel)) wi_wsX7)
set_option maxHeartbeats 4000000 in
set_option maxRecDepth 100000 in
/-- told(v): the status, and v itself -/
theorem c_X7_told (l : Launch) (dC : Nat → ClassId) (dI : Nat → Nat → Nat) (sz : Nat) (h0 : Nat) (b3 : Nat) (b4 : Nat) (b6 : Nat) (b7 : Nat) (b8 : Nat) (b9 : Nat) (b10 : Nat) (b11 : Nat) (b12 : Nat) (b13 : Nat) (b15 : Nat) (b16 : Nat) (b17 : Nat) (b18 : Nat) (b19 : Nat) (b20 : Nat) (b21 : Nat) (b34 : Nat) (b35 : Nat) (b37 : Nat) (b38 : Nat) (b39 : Nat) (b40 : Nat) (b41 : Nat) (p0 : Int32) (tp : Int32) (mt : Int32) : Met l yX7_told wp_X7_told ({ frames := 0, cells := 0, slots := 0, locals := 0 }) (va_Pc [.ref h0, .int p0] (fun U => U.heap.size = sz ∧ va_P (dC, dI) vwCl [(h0, .inr (8, [.int 0, .int 0, .int mt, .ref b3, .ref b4, .int 0, .ref b6, .ref b7, .ref b8, .ref b9, .ref b10, .ref b11, .ref b12, .ref b13, .int 0, .ref b15, .ref b16, .ref b17, .ref b18, .ref b19, .ref b20, .ref b21, .int tp, .int 0, .int 0, .int 0, .long 0, .int (-1), .int 0, .int 0, .int 0, .int 0, .int 0, .int 0, .ref b34, .ref b35, .int 0, .ref b37, .ref b38, .ref b39, .ref b40, .ref b41]))] U.heap ∧ va_K (dC, dI) vwCl [] U ∧ va_D (fun _ => True) [(h0, .inr (8, [.int 0, .int 0, .int mt, .ref b3, .ref b4, .int 0, .ref b6, .ref b7, .ref b8, .ref b9, .ref b10, .ref b11, .ref b12, .ref b13, .int 0, .ref b15, .ref b16, .ref b17, .ref b18, .ref b19, .ref b20, .ref b21, .int tp, .int 0, .int 0, .int 0, .long 0, .int (-1), .int 0, .int 0, .int 0, .int 0, .int 0, .int 0, .ref b34, .ref b35, .int 0, .ref b37, .ref b38, .ref b39, .ref b40, .ref b41]))])) (va_Qi (fun (r : Int32) (_ : Unit) => r = p0) (fun (_ : Unit) (t : State) => ∃ (sv : Int32), (sv = if 0 ≤ p0 then 0 else p0) ∧ va_P (dC, dI) vwCl [(h0, .inr (8, [.int 0, .int sv, .int mt, .ref b3, .ref b4, .int 0, .ref b6, .ref b7, .ref b8, .ref b9, .ref b10, .ref b11, .ref b12, .ref b13, .int 0, .ref b15, .ref b16, .ref b17, .ref b18, .ref b19, .ref b20, .ref b21, .int tp, .int 0, .int 0, .int 0, .long 0, .int (-1), .int 0, .int 0, .int 0, .int 0, .int 0, .int 0, .ref b34, .ref b35, .int 0, .ref b37, .ref b38, .ref b39, .ref b40, .ref b41]))] t.heap ∧ va_K (dC, dI) vwCl [] t ∧ va_D (va_A [(h0, .inr (8, [.int 0, .int 0, .int mt, .ref b3, .ref b4, .int 0, .ref b6, .ref b7, .ref b8, .ref b9, .ref b10, .ref b11, .ref b12, .ref b13, .int 0, .ref b15, .ref b16, .ref b17, .ref b18, .ref b19, .ref b20, .ref b21, .int tp, .int 0, .int 0, .int 0, .long 0, .int (-1), .int 0, .int 0, .int 0, .int 0, .int 0, .int 0, .ref b34, .ref b35, .int 0, .ref b37, .ref b38, .ref b39, .ref b40, .ref b41]))] sz) [(h0, .inr (8, [.int 0, .int sv, .int mt, .ref b3, .ref b4, .int 0, .ref b6, .ref b7, .ref b8, .ref b9, .ref b10, .ref b11, .ref b12, .ref b13, .int 0, .ref b15, .ref b16, .ref b17, .ref b18, .ref b19, .ref b20, .ref b21, .int tp, .int 0, .int 0, .int 0, .long 0, .int (-1), .int 0, .int 0, .int 0, .int 0, .int 0, .int 0, .ref b34, .ref b35, .int 0, .ref b37, .ref b38, .ref b39, .ref b40, .ref b41]))]) (va_A [(h0, .inr (8, [.int 0, .int 0, .int mt, .ref b3, .ref b4, .int 0, .ref b6, .ref b7, .ref b8, .ref b9, .ref b10, .ref b11, .ref b12, .ref b13, .int 0, .ref b15, .ref b16, .ref b17, .ref b18, .ref b19, .ref b20, .ref b21, .int tp, .int 0, .int 0, .int 0, .long 0, .int (-1), .int 0, .int 0, .int 0, .int 0, .int 0, .int 0, .ref b34, .ref b35, .int 0, .ref b37, .ref b38, .ref b39, .ref b40, .ref b41]))] sz)) 0 0 (va_A [(h0, .inr (8, [.int 0, .int 0, .int mt, .ref b3, .ref b4, .int 0, .ref b6, .ref b7, .ref b8, .ref b9, .ref b10, .ref b11, .ref b12, .ref b13, .int 0, .ref b15, .ref b16, .ref b17, .ref b18, .ref b19, .ref b20, .ref b21, .int tp, .int 0, .int 0, .int 0, .long 0, .int (-1), .int 0, .int 0, .int 0, .int 0, .int 0, .int 0, .ref b34, .ref b35, .int 0, .ref b37, .ref b38, .ref b39, .ref b40, .ref b41]))] sz) := by
  refine Met.ofW (cc := cX7_told) (maxL := 2) (ret := (some .int)) (by decide) rfl ?_
  intro p e s m args below meth c s₁ B hml hv
  obtain ⟨rfl, hsz, hP, hK, hD0⟩ := hv
  have hx := B.exec
  have hb := B.bytes
  have hr := B.returns
  have hts := atoms_spec (ws := wp_X7_told) B.pre
  have hown : s.vm.findClass RX7 = some m.cls := findClass_of_methodNamed B.named
  have hlocks := B.notSynchronized
  subst hsz
  have hD := hD0.self (sz := s.heap.size)
  generalize hAe : va_A [(h0, .inr (8, [.int 0, .int 0, .int mt, .ref b3, .ref b4, .int 0, .ref b6, .ref b7, .ref b8, .ref b9, .ref b10, .ref b11, .ref b12, .ref b13, .int 0, .ref b15, .ref b16, .ref b17, .ref b18, .ref b19, .ref b20, .ref b21, .int tp, .int 0, .int 0, .int 0, .long 0, .int (-1), .int 0, .int 0, .int 0, .int 0, .int 0, .int 0, .ref b34, .ref b35, .int 0, .ref b37, .ref b38, .ref b39, .ref b40, .ref b41]))] s.heap.size = A at hD ⊢
  have hA : ∀ q : Nat, s.heap.size ≤ q → A q := fun q h => by rw [← hAe]; exact Or.inr h
  have hS : va_S A s.heap s.heap [] := va_S.rf
  have hP : va_P (dC, dI) vwCl [(h0, .inr (8, [.int 0, .int 0, .int mt, .ref b3, .ref b4, .int 0, .ref b6, .ref b7, .ref b8, .ref b9, .ref b10, .ref b11, .ref b12, .ref b13, .int 0, .ref b15, .ref b16, .ref b17, .ref b18, .ref b19, .ref b20, .ref b21, .int tp, .int 0, .int 0, .int 0, .long 0, .int (-1), .int 0, .int 0, .int 0, .int 0, .int 0, .int 0, .ref b34, .ref b35, .int 0, .ref b37, .ref b38, .ref b39, .ref b40, .ref b41]))] s.heap := hP
  have hl := lv_entry ([.ref h0, .int p0]) (n := 2) (Nat.le_of_ble_eq_true rfl)
  rw [lg_entry_eq]
  generalize (lg_sl ([.ref h0, .int p0]) ++ List.replicate (2 - (lg_sl ([.ref h0, .int p0])).length) Slot.unset).toArray = ls at hl ⊢
  have hl : lv_has ls 2 [(0, .ref h0), (1, .int p0)] := hl
  have hinX7 : ∀ w ∈ u_ws RX7 TX7 42, w ∈ wp_X7_told := fun _ h => List.mem_cons_of_mem _ (List.mem_append_right _ h)
  refine lv_aload_n hx hb dX7_told_0 rfl (lv_at hl 0 rfl) ?_
  refine lv_iload_n hx hb dX7_told_1 rfl (lv_at hl 1 rfl) ?_
  refine lv_if_ge (tgt := 9) hx hb dX7_told_2 (by decide) (fun c_1 => ?_) (fun c_1 => ?_)
  · refine lv_iconst (v := 0) hx hb dX7_told_9 (by decide) ?_
    refine va_put (D := (dC, dI)) (ci := 8) (v := .int 0) (ty := .int) (C := RX7) (T := TX7) (N := 42) hx hb hts hinX7 tyX7 tyX7_ok nmX7 hown hK hP hD hS 0 rfl rfl 1 (by decide) (hts (.fieldLink RX7 91 "AgreedTalksModel" "status" "I") (by decide +kernel)) (fun _ h9 => h9) rfl (by decide +kernel) rfl rfl (Nat.le_of_ble_eq_true rfl) dX7_told_10 (fun H locs hP hD hS => ?_)
    have hP : va_P (dC, dI) vwCl [(h0, .inr (8, [.int 0, .int 0, .int mt, .ref b3, .ref b4, .int 0, .ref b6, .ref b7, .ref b8, .ref b9, .ref b10, .ref b11, .ref b12, .ref b13, .int 0, .ref b15, .ref b16, .ref b17, .ref b18, .ref b19, .ref b20, .ref b21, .int tp, .int 0, .int 0, .int 0, .long 0, .int (-1), .int 0, .int 0, .int 0, .int 0, .int 0, .int 0, .ref b34, .ref b35, .int 0, .ref b37, .ref b38, .ref b39, .ref b40, .ref b41]))] H := hP
    have hD : va_D A [(h0, .inr (8, [.int 0, .int 0, .int mt, .ref b3, .ref b4, .int 0, .ref b6, .ref b7, .ref b8, .ref b9, .ref b10, .ref b11, .ref b12, .ref b13, .int 0, .ref b15, .ref b16, .ref b17, .ref b18, .ref b19, .ref b20, .ref b21, .int tp, .int 0, .int 0, .int 0, .long 0, .int (-1), .int 0, .int 0, .int 0, .int 0, .int 0, .int 0, .ref b34, .ref b35, .int 0, .ref b37, .ref b38, .ref b39, .ref b40, .ref b41]))] := hD
    refine lv_iload_n hx hb dX7_told_13 rfl (lv_at hl 1 rfl) ?_
    have hP9 := hP.sub (ws' := [(h0, .inr (8, [.int 0, .int 0, .int mt, .ref b3, .ref b4, .int 0, .ref b6, .ref b7, .ref b8, .ref b9, .ref b10, .ref b11, .ref b12, .ref b13, .int 0, .ref b15, .ref b16, .ref b17, .ref b18, .ref b19, .ref b20, .ref b21, .int tp, .int 0, .int 0, .int 0, .long 0, .int (-1), .int 0, .int 0, .int 0, .int 0, .int 0, .int 0, .ref b34, .ref b35, .int 0, .ref b37, .ref b38, .ref b39, .ref b40, .ref b41]))]) [0] rfl
    have hD9 := hD.sub (ws' := [(h0, .inr (8, [.int 0, .int 0, .int mt, .ref b3, .ref b4, .int 0, .ref b6, .ref b7, .ref b8, .ref b9, .ref b10, .ref b11, .ref b12, .ref b13, .int 0, .ref b15, .ref b16, .ref b17, .ref b18, .ref b19, .ref b20, .ref b21, .int tp, .int 0, .int 0, .int 0, .long 0, .int (-1), .int 0, .int 0, .int 0, .int 0, .int 0, .int 0, .ref b34, .ref b35, .int 0, .ref b37, .ref b38, .ref b39, .ref b40, .ref b41]))]) [0] (by decide) rfl
    have hK9 := hK.sub (tys' := []) [] rfl
    exact W.iret (v := p0) hx hb hr (fun t ht hW => ⟨⟨p0, (), rfl, rfl, 0, by simp [c_1], by rw [ht]; exact hP9, va_K.moved hW.alike hK9, hD9⟩, hS.F ht⟩) hS.2.2 dX7_told_14
  · refine lv_iload_n hx hb dX7_told_5 rfl (lv_at hl 1 rfl) ?_
    refine lv_goto (tgt := 10) hx hb dX7_told_6 (by decide) ?_
    refine va_put (D := (dC, dI)) (ci := 8) (v := .int p0) (ty := .int) (C := RX7) (T := TX7) (N := 42) hx hb hts hinX7 tyX7 tyX7_ok nmX7 hown hK hP hD hS 0 rfl rfl 1 (by decide) (hts (.fieldLink RX7 91 "AgreedTalksModel" "status" "I") (by decide +kernel)) (fun _ h9 => h9) rfl (by decide +kernel) rfl rfl (Nat.le_of_ble_eq_true rfl) dX7_told_10 (fun H locs hP hD hS => ?_)
    have hP : va_P (dC, dI) vwCl [(h0, .inr (8, [.int 0, .int p0, .int mt, .ref b3, .ref b4, .int 0, .ref b6, .ref b7, .ref b8, .ref b9, .ref b10, .ref b11, .ref b12, .ref b13, .int 0, .ref b15, .ref b16, .ref b17, .ref b18, .ref b19, .ref b20, .ref b21, .int tp, .int 0, .int 0, .int 0, .long 0, .int (-1), .int 0, .int 0, .int 0, .int 0, .int 0, .int 0, .ref b34, .ref b35, .int 0, .ref b37, .ref b38, .ref b39, .ref b40, .ref b41]))] H := hP
    have hD : va_D A [(h0, .inr (8, [.int 0, .int p0, .int mt, .ref b3, .ref b4, .int 0, .ref b6, .ref b7, .ref b8, .ref b9, .ref b10, .ref b11, .ref b12, .ref b13, .int 0, .ref b15, .ref b16, .ref b17, .ref b18, .ref b19, .ref b20, .ref b21, .int tp, .int 0, .int 0, .int 0, .long 0, .int (-1), .int 0, .int 0, .int 0, .int 0, .int 0, .int 0, .ref b34, .ref b35, .int 0, .ref b37, .ref b38, .ref b39, .ref b40, .ref b41]))] := hD
    refine lv_iload_n hx hb dX7_told_13 rfl (lv_at hl 1 rfl) ?_
    have hP9 := hP.sub (ws' := [(h0, .inr (8, [.int 0, .int p0, .int mt, .ref b3, .ref b4, .int 0, .ref b6, .ref b7, .ref b8, .ref b9, .ref b10, .ref b11, .ref b12, .ref b13, .int 0, .ref b15, .ref b16, .ref b17, .ref b18, .ref b19, .ref b20, .ref b21, .int tp, .int 0, .int 0, .int 0, .long 0, .int (-1), .int 0, .int 0, .int 0, .int 0, .int 0, .int 0, .ref b34, .ref b35, .int 0, .ref b37, .ref b38, .ref b39, .ref b40, .ref b41]))]) [0] rfl
    have hD9 := hD.sub (ws' := [(h0, .inr (8, [.int 0, .int p0, .int mt, .ref b3, .ref b4, .int 0, .ref b6, .ref b7, .ref b8, .ref b9, .ref b10, .ref b11, .ref b12, .ref b13, .int 0, .ref b15, .ref b16, .ref b17, .ref b18, .ref b19, .ref b20, .ref b21, .int tp, .int 0, .int 0, .int 0, .long 0, .int (-1), .int 0, .int 0, .int 0, .int 0, .int 0, .int 0, .ref b34, .ref b35, .int 0, .ref b37, .ref b38, .ref b39, .ref b40, .ref b41]))]) [0] (by decide) rfl
    have hK9 := hK.sub (tys' := []) [] rfl
    exact W.iret (v := p0) hx hb hr (fun t ht hW => ⟨⟨p0, (), rfl, rfl, p0, by simp [c_1], by rw [ht]; exact hP9, va_K.moved hW.alike hK9, hD9⟩, hS.F ht⟩) hS.2.2 dX7_told_14
def wp_X7_isMeeting : List Cond := .code yX7_isMeeting cX7_isMeeting 2 (some .boolean) :: (([.fieldLink RX7 94 "AgreedTalksModel" "meetings" "I"] : List Cond) ++ wsX70 ++ (va_wsS RX7 99 yX7_in wp_X7_in))
theorem gc_X7_isMeeting_X7_in : GoodIn wp_X7_isMeeting (va_wsS RX7 99 yX7_in wp_X7_in) := goodIn_sub (fun _ h => List.mem_cons_of_mem _ (List.mem_append_right _ h)) (by decide +kernel)
set_option maxRecDepth 20000 in
theorem gi_X7_isMeeting : GoodIn lw_tbl wp_X7_isMeeting := (goodIn_ca (goodIn_ca (goodIn_r (.code yX7_isMeeting cX7_isMeeting 2 (some .boolean) :: ([.fieldLink RX7 94 "AgreedTalksModel" "meetings" "I"] : List Cond)) [832, 675] (by decide +kernel) (by decide +kernel)) wi_wsX7) (goodIn_app (goodIn_r _ [806, 807, 57] (by decide +kernel) (by decide +kernel)) gi_X7_in))
set_option maxHeartbeats 4000000 in
set_option maxRecDepth 100000 in
/-- isMeeting without a meeting -/
theorem c_X7_isMeeting (l : Launch) (dC : Nat → ClassId) (dI : Nat → Nat → Nat) (sz : Nat) (h0 : Nat) (b3 : Nat) (b4 : Nat) (b6 : Nat) (b7 : Nat) (b8 : Nat) (b9 : Nat) (b10 : Nat) (b11 : Nat) (b12 : Nat) (b13 : Nat) (b15 : Nat) (b16 : Nat) (b17 : Nat) (b18 : Nat) (b19 : Nat) (b20 : Nat) (b21 : Nat) (b34 : Nat) (b35 : Nat) (b37 : Nat) (b38 : Nat) (b39 : Nat) (b40 : Nat) (b41 : Nat) (p0 : Int32) (tp : Int32) : Met l yX7_isMeeting wp_X7_isMeeting ({ frames := 1, cells := 0, slots := 0, locals := 30 }) (va_Pc [.ref h0, .int p0] (fun U => U.heap.size = sz ∧ va_P (dC, dI) vwCl [(h0, .inr (8, [.int 0, .int 0, .int 0, .ref b3, .ref b4, .int 0, .ref b6, .ref b7, .ref b8, .ref b9, .ref b10, .ref b11, .ref b12, .ref b13, .int 0, .ref b15, .ref b16, .ref b17, .ref b18, .ref b19, .ref b20, .ref b21, .int tp, .int 0, .int 0, .int 0, .long 0, .int (-1), .int 0, .int 0, .int 0, .int 0, .int 0, .int 0, .ref b34, .ref b35, .int 0, .ref b37, .ref b38, .ref b39, .ref b40, .ref b41]))] U.heap ∧ va_K (dC, dI) vwCl [] U ∧ va_D (fun _ => True) [(h0, .inr (8, [.int 0, .int 0, .int 0, .ref b3, .ref b4, .int 0, .ref b6, .ref b7, .ref b8, .ref b9, .ref b10, .ref b11, .ref b12, .ref b13, .int 0, .ref b15, .ref b16, .ref b17, .ref b18, .ref b19, .ref b20, .ref b21, .int tp, .int 0, .int 0, .int 0, .long 0, .int (-1), .int 0, .int 0, .int 0, .int 0, .int 0, .int 0, .ref b34, .ref b35, .int 0, .ref b37, .ref b38, .ref b39, .ref b40, .ref b41]))])) (va_Qi (fun (r : Int32) (_ : Unit) => r = 0) (fun (_ : Unit) (t : State) => va_P (dC, dI) vwCl [(h0, .inr (8, [.int 0, .int 0, .int 0, .ref b3, .ref b4, .int 0, .ref b6, .ref b7, .ref b8, .ref b9, .ref b10, .ref b11, .ref b12, .ref b13, .int 0, .ref b15, .ref b16, .ref b17, .ref b18, .ref b19, .ref b20, .ref b21, .int tp, .int 0, .int 0, .int 0, .long 0, .int (-1), .int 0, .int 0, .int 0, .int 0, .int 0, .int 0, .ref b34, .ref b35, .int 0, .ref b37, .ref b38, .ref b39, .ref b40, .ref b41]))] t.heap ∧ va_K (dC, dI) vwCl [] t ∧ va_D (va_A [(h0, .inr (8, [.int 0, .int 0, .int 0, .ref b3, .ref b4, .int 0, .ref b6, .ref b7, .ref b8, .ref b9, .ref b10, .ref b11, .ref b12, .ref b13, .int 0, .ref b15, .ref b16, .ref b17, .ref b18, .ref b19, .ref b20, .ref b21, .int tp, .int 0, .int 0, .int 0, .long 0, .int (-1), .int 0, .int 0, .int 0, .int 0, .int 0, .int 0, .ref b34, .ref b35, .int 0, .ref b37, .ref b38, .ref b39, .ref b40, .ref b41]))] sz) [(h0, .inr (8, [.int 0, .int 0, .int 0, .ref b3, .ref b4, .int 0, .ref b6, .ref b7, .ref b8, .ref b9, .ref b10, .ref b11, .ref b12, .ref b13, .int 0, .ref b15, .ref b16, .ref b17, .ref b18, .ref b19, .ref b20, .ref b21, .int tp, .int 0, .int 0, .int 0, .long 0, .int (-1), .int 0, .int 0, .int 0, .int 0, .int 0, .int 0, .ref b34, .ref b35, .int 0, .ref b37, .ref b38, .ref b39, .ref b40, .ref b41]))]) (va_A [(h0, .inr (8, [.int 0, .int 0, .int 0, .ref b3, .ref b4, .int 0, .ref b6, .ref b7, .ref b8, .ref b9, .ref b10, .ref b11, .ref b12, .ref b13, .int 0, .ref b15, .ref b16, .ref b17, .ref b18, .ref b19, .ref b20, .ref b21, .int tp, .int 0, .int 0, .int 0, .long 0, .int (-1), .int 0, .int 0, .int 0, .int 0, .int 0, .int 0, .ref b34, .ref b35, .int 0, .ref b37, .ref b38, .ref b39, .ref b40, .ref b41]))] sz)) 0 0 (va_A [(h0, .inr (8, [.int 0, .int 0, .int 0, .ref b3, .ref b4, .int 0, .ref b6, .ref b7, .ref b8, .ref b9, .ref b10, .ref b11, .ref b12, .ref b13, .int 0, .ref b15, .ref b16, .ref b17, .ref b18, .ref b19, .ref b20, .ref b21, .int tp, .int 0, .int 0, .int 0, .long 0, .int (-1), .int 0, .int 0, .int 0, .int 0, .int 0, .int 0, .ref b34, .ref b35, .int 0, .ref b37, .ref b38, .ref b39, .ref b40, .ref b41]))] sz) := by
  refine Met.ofW (cc := cX7_isMeeting) (maxL := 2) (ret := (some .boolean)) (by decide) rfl ?_
  intro p e s m args below meth c s₁ B hml hv
  obtain ⟨rfl, hsz, hP, hK, hD0⟩ := hv
  have hx := B.exec
  have hb := B.bytes
  have hr := B.returns
  have hts := atoms_spec (ws := wp_X7_isMeeting) B.pre
  have hown : s.vm.findClass RX7 = some m.cls := findClass_of_methodNamed B.named
  have hlocks := B.notSynchronized
  subst hsz
  have hD := hD0.self (sz := s.heap.size)
  generalize hAe : va_A [(h0, .inr (8, [.int 0, .int 0, .int 0, .ref b3, .ref b4, .int 0, .ref b6, .ref b7, .ref b8, .ref b9, .ref b10, .ref b11, .ref b12, .ref b13, .int 0, .ref b15, .ref b16, .ref b17, .ref b18, .ref b19, .ref b20, .ref b21, .int tp, .int 0, .int 0, .int 0, .long 0, .int (-1), .int 0, .int 0, .int 0, .int 0, .int 0, .int 0, .ref b34, .ref b35, .int 0, .ref b37, .ref b38, .ref b39, .ref b40, .ref b41]))] s.heap.size = A at hD ⊢
  have hA : ∀ q : Nat, s.heap.size ≤ q → A q := fun q h => by rw [← hAe]; exact Or.inr h
  have hS : va_S A s.heap s.heap [] := va_S.rf
  have hP : va_P (dC, dI) vwCl [(h0, .inr (8, [.int 0, .int 0, .int 0, .ref b3, .ref b4, .int 0, .ref b6, .ref b7, .ref b8, .ref b9, .ref b10, .ref b11, .ref b12, .ref b13, .int 0, .ref b15, .ref b16, .ref b17, .ref b18, .ref b19, .ref b20, .ref b21, .int tp, .int 0, .int 0, .int 0, .long 0, .int (-1), .int 0, .int 0, .int 0, .int 0, .int 0, .int 0, .ref b34, .ref b35, .int 0, .ref b37, .ref b38, .ref b39, .ref b40, .ref b41]))] s.heap := hP
  have hl := lv_entry ([.ref h0, .int p0]) (n := 2) (Nat.le_of_ble_eq_true rfl)
  rw [lg_entry_eq]
  generalize (lg_sl ([.ref h0, .int p0]) ++ List.replicate (2 - (lg_sl ([.ref h0, .int p0])).length) Slot.unset).toArray = ls at hl ⊢
  have hl : lv_has ls 2 [(0, .ref h0), (1, .int p0)] := hl
  have hinX7 : ∀ w ∈ u_ws RX7 TX7 42, w ∈ wp_X7_isMeeting := fun _ h => List.mem_cons_of_mem _ (List.mem_append_left _ (List.mem_append_right _ h))
  refine lv_iload_n hx hb dX7_isMeeting_0 rfl (lv_at hl 1 rfl) ?_
  refine lv_i2l hx hb dX7_isMeeting_1 rfl ?_
  refine lv_lconst (v := 0) hx hb dX7_isMeeting_2 (by decide) ?_
  refine lv_aload_n hx hb dX7_isMeeting_3 rfl (lv_at hl 0 rfl) ?_
  refine va_get (D := (dC, dI)) (ci := 8) (v := .int 0) (C := RX7) (T := TX7) (N := 42) hx hb hts hinX7 hown hK hP 0 rfl rfl 2 (by decide) (hts (.fieldLink RX7 94 "AgreedTalksModel" "meetings" "I") (by decide +kernel)) (fun _ h9 => h9) rfl dX7_isMeeting_4 ?_
  refine lv_i2l (v := 0) hx hb dX7_isMeeting_7 (by decide) ?_
  refine lv_lconst (v := 1) hx hb dX7_isMeeting_8 (by decide) ?_
  refine lv_lsub hx hb dX7_isMeeting_9 ?_
  refine lv_topl (fun x_1 ex_1 => ?_)
  obtain rfl : x_1 = (-1) := by rw [ex_1]; decide
  have hPc := hP.sub (ws' := []) [] rfl
  have hDc := hD.sub (ws' := []) [] (by decide) rfl
  have hKc := hK.sub (tys' := []) [] rfl
  have hFc := va_free (wc := []) hD hS hA [] rfl
  refine va_calli (va_runS (As := [.long ((p0).toInt64), .long 0, .long (-1)]) (rest := []) ⟨hx, hb, hml, hown, hts⟩ (c_X7_in l dC dI _ ((p0).toInt64) 0 (-1)) (va_cwS 3 hts gc_X7_isMeeting_X7_in rfl rfl rfl (by decide +kernel) ⟨Nat.le_of_ble_eq_true rfl, Nat.le_of_ble_eq_true rfl⟩) ⟨fun a U g mk q => by obtain ⟨q0, q1, qP, qK, qD⟩ := q; exact ⟨q0, q1, qP, va_K.moved (u := U) (U := U.calling g mk a) (Vm.Alike.refl U.vm) qK, qD⟩, fun U hU hW => ⟨rfl, by rw [hU], by rw [hU]; exact hPc, va_K.moved hW.alike hKc, hDc.weaken (fun _ _ _ _ => trivial)⟩⟩ rfl rfl hl.1 rfl (lv_room (Nat.le_of_ble_eq_true rfl)) dX7_isMeeting_10 ⟨Nat.zero_le _, Nat.zero_le _⟩) hS (fun q _ h => hFc q h) hFc (fun r_2 u t H1 locs ht hvm hw hB hz1 hk1 hS => ?_)
  obtain ⟨hP1, hK1, hD1⟩ := hB
  rw [ht] at hP1
  obtain ⟨hP, hD⟩ := va_join (wr := [(h0, .inr (8, [.int 0, .int 0, .int 0, .ref b3, .ref b4, .int 0, .ref b6, .ref b7, .ref b8, .ref b9, .ref b10, .ref b11, .ref b12, .ref b13, .int 0, .ref b15, .ref b16, .ref b17, .ref b18, .ref b19, .ref b20, .ref b21, .int tp, .int 0, .int 0, .int 0, .long 0, .int (-1), .int 0, .int 0, .int 0, .int 0, .int 0, .int 0, .ref b34, .ref b35, .int 0, .ref b37, .ref b38, .ref b39, .ref b40, .ref b41]))]) (w1 := []) hP hD [] [0] rfl rfl (by decide) (by decide) hk1 hFc hP1 hD1
  generalize H1 = H at hP hS ⊢
  have hP : va_P (dC, dI) vwCl [(h0, .inr (8, [.int 0, .int 0, .int 0, .ref b3, .ref b4, .int 0, .ref b6, .ref b7, .ref b8, .ref b9, .ref b10, .ref b11, .ref b12, .ref b13, .int 0, .ref b15, .ref b16, .ref b17, .ref b18, .ref b19, .ref b20, .ref b21, .int tp, .int 0, .int 0, .int 0, .long 0, .int (-1), .int 0, .int 0, .int 0, .int 0, .int 0, .int 0, .ref b34, .ref b35, .int 0, .ref b37, .ref b38, .ref b39, .ref b40, .ref b41]))] H := hP
  have hD : va_D A [(h0, .inr (8, [.int 0, .int 0, .int 0, .ref b3, .ref b4, .int 0, .ref b6, .ref b7, .ref b8, .ref b9, .ref b10, .ref b11, .ref b12, .ref b13, .int 0, .ref b15, .ref b16, .ref b17, .ref b18, .ref b19, .ref b20, .ref b21, .int tp, .int 0, .int 0, .int 0, .long 0, .int (-1), .int 0, .int 0, .int 0, .int 0, .int 0, .int 0, .ref b34, .ref b35, .int 0, .ref b37, .ref b38, .ref b39, .ref b40, .ref b41]))] := hD
  obtain rfl : r_2 = (if (p0).toInt64 < 0 ∨ (-1) < (p0).toInt64 then 0 else 1) := hw
  refine W.eq (g2 := F0 m 13 ls [.int 0]) (by rw [lk_in0]) ?_
  have hP9 := hP.sub (ws' := [(h0, .inr (8, [.int 0, .int 0, .int 0, .ref b3, .ref b4, .int 0, .ref b6, .ref b7, .ref b8, .ref b9, .ref b10, .ref b11, .ref b12, .ref b13, .int 0, .ref b15, .ref b16, .ref b17, .ref b18, .ref b19, .ref b20, .ref b21, .int tp, .int 0, .int 0, .int 0, .long 0, .int (-1), .int 0, .int 0, .int 0, .int 0, .int 0, .int 0, .ref b34, .ref b35, .int 0, .ref b37, .ref b38, .ref b39, .ref b40, .ref b41]))]) [0] rfl
  have hD9 := hD.sub (ws' := [(h0, .inr (8, [.int 0, .int 0, .int 0, .ref b3, .ref b4, .int 0, .ref b6, .ref b7, .ref b8, .ref b9, .ref b10, .ref b11, .ref b12, .ref b13, .int 0, .ref b15, .ref b16, .ref b17, .ref b18, .ref b19, .ref b20, .ref b21, .int tp, .int 0, .int 0, .int 0, .long 0, .int (-1), .int 0, .int 0, .int 0, .int 0, .int 0, .int 0, .ref b34, .ref b35, .int 0, .ref b37, .ref b38, .ref b39, .ref b40, .ref b41]))]) [0] (by decide) rfl
  have hK9 := hK.sub (tys' := []) [] rfl
  exact W.zret (v := 0) (ty := .boolean) hx hb hr rfl (fun t ht hW => ⟨⟨0, (), rfl, rfl, by rw [ht]; exact hP9, va_K.moved hW.alike hK9, hD9⟩, hS.F ht⟩) hS.2.2 dX7_isMeeting_13
def wp_X7_isRecord : List Cond := .code yX7_isRecord cX7_isRecord 2 (some .boolean) :: (([.fieldLink RX7 193 "AgreedTalksModel" "records" "I"] : List Cond) ++ wsX70 ++ (va_wsS RX7 99 yX7_in wp_X7_in))
theorem gc_X7_isRecord_X7_in : GoodIn wp_X7_isRecord (va_wsS RX7 99 yX7_in wp_X7_in) := goodIn_sub (fun _ h => List.mem_cons_of_mem _ (List.mem_append_right _ h)) (by decide +kernel)
set_option maxRecDepth 20000 in
theorem gi_X7_isRecord : GoodIn lw_tbl wp_X7_isRecord := (goodIn_ca (goodIn_ca (goodIn_r (.code yX7_isRecord cX7_isRecord 2 (some .boolean) :: ([.fieldLink RX7 193 "AgreedTalksModel" "records" "I"] : List Cond)) [895, 678] (by decide +kernel) (by decide +kernel)) wi_wsX7) (goodIn_app (goodIn_r _ [806, 807, 57] (by decide +kernel) (by decide +kernel)) gi_X7_in))
set_option maxHeartbeats 4000000 in
set_option maxRecDepth 100000 in
/-- isRecord without a record -/
theorem c_X7_isRecord (l : Launch) (dC : Nat → ClassId) (dI : Nat → Nat → Nat) (sz : Nat) (h0 : Nat) (b3 : Nat) (b4 : Nat) (b6 : Nat) (b7 : Nat) (b8 : Nat) (b9 : Nat) (b10 : Nat) (b11 : Nat) (b12 : Nat) (b13 : Nat) (b15 : Nat) (b16 : Nat) (b17 : Nat) (b18 : Nat) (b19 : Nat) (b20 : Nat) (b21 : Nat) (b34 : Nat) (b35 : Nat) (b37 : Nat) (b38 : Nat) (b39 : Nat) (b40 : Nat) (b41 : Nat) (p0 : Int32) (tp : Int32) : Met l yX7_isRecord wp_X7_isRecord ({ frames := 1, cells := 0, slots := 0, locals := 30 }) (va_Pc [.ref h0, .int p0] (fun U => U.heap.size = sz ∧ va_P (dC, dI) vwCl [(h0, .inr (8, [.int 0, .int 0, .int 0, .ref b3, .ref b4, .int 0, .ref b6, .ref b7, .ref b8, .ref b9, .ref b10, .ref b11, .ref b12, .ref b13, .int 0, .ref b15, .ref b16, .ref b17, .ref b18, .ref b19, .ref b20, .ref b21, .int tp, .int 0, .int 0, .int 0, .long 0, .int (-1), .int 0, .int 0, .int 0, .int 0, .int 0, .int 0, .ref b34, .ref b35, .int 0, .ref b37, .ref b38, .ref b39, .ref b40, .ref b41]))] U.heap ∧ va_K (dC, dI) vwCl [] U ∧ va_D (fun _ => True) [(h0, .inr (8, [.int 0, .int 0, .int 0, .ref b3, .ref b4, .int 0, .ref b6, .ref b7, .ref b8, .ref b9, .ref b10, .ref b11, .ref b12, .ref b13, .int 0, .ref b15, .ref b16, .ref b17, .ref b18, .ref b19, .ref b20, .ref b21, .int tp, .int 0, .int 0, .int 0, .long 0, .int (-1), .int 0, .int 0, .int 0, .int 0, .int 0, .int 0, .ref b34, .ref b35, .int 0, .ref b37, .ref b38, .ref b39, .ref b40, .ref b41]))])) (va_Qi (fun (r : Int32) (_ : Unit) => r = 0) (fun (_ : Unit) (t : State) => va_P (dC, dI) vwCl [(h0, .inr (8, [.int 0, .int 0, .int 0, .ref b3, .ref b4, .int 0, .ref b6, .ref b7, .ref b8, .ref b9, .ref b10, .ref b11, .ref b12, .ref b13, .int 0, .ref b15, .ref b16, .ref b17, .ref b18, .ref b19, .ref b20, .ref b21, .int tp, .int 0, .int 0, .int 0, .long 0, .int (-1), .int 0, .int 0, .int 0, .int 0, .int 0, .int 0, .ref b34, .ref b35, .int 0, .ref b37, .ref b38, .ref b39, .ref b40, .ref b41]))] t.heap ∧ va_K (dC, dI) vwCl [] t ∧ va_D (va_A [(h0, .inr (8, [.int 0, .int 0, .int 0, .ref b3, .ref b4, .int 0, .ref b6, .ref b7, .ref b8, .ref b9, .ref b10, .ref b11, .ref b12, .ref b13, .int 0, .ref b15, .ref b16, .ref b17, .ref b18, .ref b19, .ref b20, .ref b21, .int tp, .int 0, .int 0, .int 0, .long 0, .int (-1), .int 0, .int 0, .int 0, .int 0, .int 0, .int 0, .ref b34, .ref b35, .int 0, .ref b37, .ref b38, .ref b39, .ref b40, .ref b41]))] sz) [(h0, .inr (8, [.int 0, .int 0, .int 0, .ref b3, .ref b4, .int 0, .ref b6, .ref b7, .ref b8, .ref b9, .ref b10, .ref b11, .ref b12, .ref b13, .int 0, .ref b15, .ref b16, .ref b17, .ref b18, .ref b19, .ref b20, .ref b21, .int tp, .int 0, .int 0, .int 0, .long 0, .int (-1), .int 0, .int 0, .int 0, .int 0, .int 0, .int 0, .ref b34, .ref b35, .int 0, .ref b37, .ref b38, .ref b39, .ref b40, .ref b41]))]) (va_A [(h0, .inr (8, [.int 0, .int 0, .int 0, .ref b3, .ref b4, .int 0, .ref b6, .ref b7, .ref b8, .ref b9, .ref b10, .ref b11, .ref b12, .ref b13, .int 0, .ref b15, .ref b16, .ref b17, .ref b18, .ref b19, .ref b20, .ref b21, .int tp, .int 0, .int 0, .int 0, .long 0, .int (-1), .int 0, .int 0, .int 0, .int 0, .int 0, .int 0, .ref b34, .ref b35, .int 0, .ref b37, .ref b38, .ref b39, .ref b40, .ref b41]))] sz)) 0 0 (va_A [(h0, .inr (8, [.int 0, .int 0, .int 0, .ref b3, .ref b4, .int 0, .ref b6, .ref b7, .ref b8, .ref b9, .ref b10, .ref b11, .ref b12, .ref b13, .int 0, .ref b15, .ref b16, .ref b17, .ref b18, .ref b19, .ref b20, .ref b21, .int tp, .int 0, .int 0, .int 0, .long 0, .int (-1), .int 0, .int 0, .int 0, .int 0, .int 0, .int 0, .ref b34, .ref b35, .int 0, .ref b37, .ref b38, .ref b39, .ref b40, .ref b41]))] sz) := by
  refine Met.ofW (cc := cX7_isRecord) (maxL := 2) (ret := (some .boolean)) (by decide) rfl ?_
  intro p e s m args below meth c s₁ B hml hv
  obtain ⟨rfl, hsz, hP, hK, hD0⟩ := hv
  have hx := B.exec
  have hb := B.bytes
  have hr := B.returns
  have hts := atoms_spec (ws := wp_X7_isRecord) B.pre
  have hown : s.vm.findClass RX7 = some m.cls := findClass_of_methodNamed B.named
  have hlocks := B.notSynchronized
  subst hsz
  have hD := hD0.self (sz := s.heap.size)
  generalize hAe : va_A [(h0, .inr (8, [.int 0, .int 0, .int 0, .ref b3, .ref b4, .int 0, .ref b6, .ref b7, .ref b8, .ref b9, .ref b10, .ref b11, .ref b12, .ref b13, .int 0, .ref b15, .ref b16, .ref b17, .ref b18, .ref b19, .ref b20, .ref b21, .int tp, .int 0, .int 0, .int 0, .long 0, .int (-1), .int 0, .int 0, .int 0, .int 0, .int 0, .int 0, .ref b34, .ref b35, .int 0, .ref b37, .ref b38, .ref b39, .ref b40, .ref b41]))] s.heap.size = A at hD ⊢
  have hA : ∀ q : Nat, s.heap.size ≤ q → A q := fun q h => by rw [← hAe]; exact Or.inr h
  have hS : va_S A s.heap s.heap [] := va_S.rf
  have hP : va_P (dC, dI) vwCl [(h0, .inr (8, [.int 0, .int 0, .int 0, .ref b3, .ref b4, .int 0, .ref b6, .ref b7, .ref b8, .ref b9, .ref b10, .ref b11, .ref b12, .ref b13, .int 0, .ref b15, .ref b16, .ref b17, .ref b18, .ref b19, .ref b20, .ref b21, .int tp, .int 0, .int 0, .int 0, .long 0, .int (-1), .int 0, .int 0, .int 0, .int 0, .int 0, .int 0, .ref b34, .ref b35, .int 0, .ref b37, .ref b38, .ref b39, .ref b40, .ref b41]))] s.heap := hP
  have hl := lv_entry ([.ref h0, .int p0]) (n := 2) (Nat.le_of_ble_eq_true rfl)
  rw [lg_entry_eq]
  generalize (lg_sl ([.ref h0, .int p0]) ++ List.replicate (2 - (lg_sl ([.ref h0, .int p0])).length) Slot.unset).toArray = ls at hl ⊢
  have hl : lv_has ls 2 [(0, .ref h0), (1, .int p0)] := hl
  have hinX7 : ∀ w ∈ u_ws RX7 TX7 42, w ∈ wp_X7_isRecord := fun _ h => List.mem_cons_of_mem _ (List.mem_append_left _ (List.mem_append_right _ h))
  refine lv_iload_n hx hb dX7_isRecord_0 rfl (lv_at hl 1 rfl) ?_
  refine lv_i2l hx hb dX7_isRecord_1 rfl ?_
  refine lv_lconst (v := 0) hx hb dX7_isRecord_2 (by decide) ?_
  refine lv_aload_n hx hb dX7_isRecord_3 rfl (lv_at hl 0 rfl) ?_
  refine va_get (D := (dC, dI)) (ci := 8) (v := .int 0) (C := RX7) (T := TX7) (N := 42) hx hb hts hinX7 hown hK hP 0 rfl rfl 5 (by decide) (hts (.fieldLink RX7 193 "AgreedTalksModel" "records" "I") (by decide +kernel)) (fun _ h9 => h9) rfl dX7_isRecord_4 ?_
  refine lv_i2l (v := 0) hx hb dX7_isRecord_7 (by decide) ?_
  refine lv_lconst (v := 1) hx hb dX7_isRecord_8 (by decide) ?_
  refine lv_lsub hx hb dX7_isRecord_9 ?_
  refine lv_topl (fun x_1 ex_1 => ?_)
  obtain rfl : x_1 = (-1) := by rw [ex_1]; decide
  have hPc := hP.sub (ws' := []) [] rfl
  have hDc := hD.sub (ws' := []) [] (by decide) rfl
  have hKc := hK.sub (tys' := []) [] rfl
  have hFc := va_free (wc := []) hD hS hA [] rfl
  refine va_calli (va_runS (As := [.long ((p0).toInt64), .long 0, .long (-1)]) (rest := []) ⟨hx, hb, hml, hown, hts⟩ (c_X7_in l dC dI _ ((p0).toInt64) 0 (-1)) (va_cwS 3 hts gc_X7_isRecord_X7_in rfl rfl rfl (by decide +kernel) ⟨Nat.le_of_ble_eq_true rfl, Nat.le_of_ble_eq_true rfl⟩) ⟨fun a U g mk q => by obtain ⟨q0, q1, qP, qK, qD⟩ := q; exact ⟨q0, q1, qP, va_K.moved (u := U) (U := U.calling g mk a) (Vm.Alike.refl U.vm) qK, qD⟩, fun U hU hW => ⟨rfl, by rw [hU], by rw [hU]; exact hPc, va_K.moved hW.alike hKc, hDc.weaken (fun _ _ _ _ => trivial)⟩⟩ rfl rfl hl.1 rfl (lv_room (Nat.le_of_ble_eq_true rfl)) dX7_isRecord_10 ⟨Nat.zero_le _, Nat.zero_le _⟩) hS (fun q _ h => hFc q h) hFc (fun r_2 u t H1 locs ht hvm hw hB hz1 hk1 hS => ?_)
  obtain ⟨hP1, hK1, hD1⟩ := hB
  rw [ht] at hP1
  obtain ⟨hP, hD⟩ := va_join (wr := [(h0, .inr (8, [.int 0, .int 0, .int 0, .ref b3, .ref b4, .int 0, .ref b6, .ref b7, .ref b8, .ref b9, .ref b10, .ref b11, .ref b12, .ref b13, .int 0, .ref b15, .ref b16, .ref b17, .ref b18, .ref b19, .ref b20, .ref b21, .int tp, .int 0, .int 0, .int 0, .long 0, .int (-1), .int 0, .int 0, .int 0, .int 0, .int 0, .int 0, .ref b34, .ref b35, .int 0, .ref b37, .ref b38, .ref b39, .ref b40, .ref b41]))]) (w1 := []) hP hD [] [0] rfl rfl (by decide) (by decide) hk1 hFc hP1 hD1
  generalize H1 = H at hP hS ⊢
  have hP : va_P (dC, dI) vwCl [(h0, .inr (8, [.int 0, .int 0, .int 0, .ref b3, .ref b4, .int 0, .ref b6, .ref b7, .ref b8, .ref b9, .ref b10, .ref b11, .ref b12, .ref b13, .int 0, .ref b15, .ref b16, .ref b17, .ref b18, .ref b19, .ref b20, .ref b21, .int tp, .int 0, .int 0, .int 0, .long 0, .int (-1), .int 0, .int 0, .int 0, .int 0, .int 0, .int 0, .ref b34, .ref b35, .int 0, .ref b37, .ref b38, .ref b39, .ref b40, .ref b41]))] H := hP
  have hD : va_D A [(h0, .inr (8, [.int 0, .int 0, .int 0, .ref b3, .ref b4, .int 0, .ref b6, .ref b7, .ref b8, .ref b9, .ref b10, .ref b11, .ref b12, .ref b13, .int 0, .ref b15, .ref b16, .ref b17, .ref b18, .ref b19, .ref b20, .ref b21, .int tp, .int 0, .int 0, .int 0, .long 0, .int (-1), .int 0, .int 0, .int 0, .int 0, .int 0, .int 0, .ref b34, .ref b35, .int 0, .ref b37, .ref b38, .ref b39, .ref b40, .ref b41]))] := hD
  obtain rfl : r_2 = (if (p0).toInt64 < 0 ∨ (-1) < (p0).toInt64 then 0 else 1) := hw
  refine W.eq (g2 := F0 m 13 ls [.int 0]) (by rw [lk_in0]) ?_
  have hP9 := hP.sub (ws' := [(h0, .inr (8, [.int 0, .int 0, .int 0, .ref b3, .ref b4, .int 0, .ref b6, .ref b7, .ref b8, .ref b9, .ref b10, .ref b11, .ref b12, .ref b13, .int 0, .ref b15, .ref b16, .ref b17, .ref b18, .ref b19, .ref b20, .ref b21, .int tp, .int 0, .int 0, .int 0, .long 0, .int (-1), .int 0, .int 0, .int 0, .int 0, .int 0, .int 0, .ref b34, .ref b35, .int 0, .ref b37, .ref b38, .ref b39, .ref b40, .ref b41]))]) [0] rfl
  have hD9 := hD.sub (ws' := [(h0, .inr (8, [.int 0, .int 0, .int 0, .ref b3, .ref b4, .int 0, .ref b6, .ref b7, .ref b8, .ref b9, .ref b10, .ref b11, .ref b12, .ref b13, .int 0, .ref b15, .ref b16, .ref b17, .ref b18, .ref b19, .ref b20, .ref b21, .int tp, .int 0, .int 0, .int 0, .long 0, .int (-1), .int 0, .int 0, .int 0, .int 0, .int 0, .int 0, .ref b34, .ref b35, .int 0, .ref b37, .ref b38, .ref b39, .ref b40, .ref b41]))]) [0] (by decide) rfl
  have hK9 := hK.sub (tys' := []) [] rfl
  exact W.zret (v := 0) (ty := .boolean) hx hb hr rfl (fun t ht hW => ⟨⟨0, (), rfl, rfl, by rw [ht]; exact hP9, va_K.moved hW.alike hK9, hD9⟩, hS.F ht⟩) hS.2.2 dX7_isRecord_13
def wp_X7_isNumber : List Cond := .code yX7_isNumber cX7_isNumber 1 (some .boolean) :: (([.constantLong RX7 107 (39)] : List Cond) ++ (va_wsS RX7 99 yX7_in wp_X7_in))
theorem gc_X7_isNumber_X7_in : GoodIn wp_X7_isNumber (va_wsS RX7 99 yX7_in wp_X7_in) := goodIn_sub (fun _ h => List.mem_cons_of_mem _ (List.mem_append_right _ h)) (by decide +kernel)
set_option maxRecDepth 20000 in
theorem gi_X7_isNumber : GoodIn lw_tbl wp_X7_isNumber := (goodIn_ca (goodIn_r (.code yX7_isNumber cX7_isNumber 1 (some .boolean) :: ([.constantLong RX7 107 (39)] : List Cond)) [902, 878] (by decide +kernel) (by decide +kernel)) (goodIn_app (goodIn_r _ [806, 807, 57] (by decide +kernel) (by decide +kernel)) gi_X7_in))
set_option maxHeartbeats 4000000 in
set_option maxRecDepth 100000 in
/-- isNumber -/
theorem c_X7_isNumber (l : Launch) (dC : Nat → ClassId) (dI : Nat → Nat → Nat) (sz : Nat) (p0 : Int32) : Met l yX7_isNumber wp_X7_isNumber ({ frames := 1, cells := 0, slots := 0, locals := 30 }) (va_Pc [.int p0] (fun U => U.heap.size = sz ∧ va_P (dC, dI) vwCl [] U.heap ∧ va_K (dC, dI) vwCl [] U ∧ va_D (fun _ => True) [])) (va_Qi (fun (r : Int32) (_ : Unit) => r = (if (p0).toInt64 < 0 ∨ 39 < (p0).toInt64 then 0 else 1)) (fun (_ : Unit) (t : State) => va_P (dC, dI) vwCl [] t.heap ∧ va_K (dC, dI) vwCl [] t ∧ va_D (va_A [] sz) []) (va_A [] sz)) 0 0 (va_A [] sz) := by
  refine Met.ofW (cc := cX7_isNumber) (maxL := 1) (ret := (some .boolean)) (by decide) rfl ?_
  intro p e s m args below meth c s₁ B hml hv
  obtain ⟨rfl, hsz, hP, hK, hD0⟩ := hv
  have hx := B.exec
  have hb := B.bytes
  have hr := B.returns
  have hts := atoms_spec (ws := wp_X7_isNumber) B.pre
  have hown : s.vm.findClass RX7 = some m.cls := findClass_of_methodNamed B.named
  have hlocks := B.notSynchronized
  subst hsz
  have hD := hD0.self (sz := s.heap.size)
  generalize hAe : va_A [] s.heap.size = A at hD ⊢
  have hA : ∀ q : Nat, s.heap.size ≤ q → A q := fun q h => by rw [← hAe]; exact Or.inr h
  have hS : va_S A s.heap s.heap [] := va_S.rf
  have hP : va_P (dC, dI) vwCl [] s.heap := hP
  have hl := lv_entry ([.int p0]) (n := 1) (Nat.le_of_ble_eq_true rfl)
  rw [lg_entry_eq]
  generalize (lg_sl ([.int p0]) ++ List.replicate (1 - (lg_sl ([.int p0])).length) Slot.unset).toArray = ls at hl ⊢
  have hl : lv_has ls 1 [(0, .int p0)] := hl
  refine lv_iload_n hx hb dX7_isNumber_0 rfl (lv_at hl 0 rfl) ?_
  refine lv_i2l hx hb dX7_isNumber_1 rfl ?_
  refine lv_lconst (v := 0) hx hb dX7_isNumber_2 (by decide) ?_
  refine lv_ldc2 (v := 39) hx hb hown (hts (.constantLong RX7 107 (39)) (by decide +kernel)) dX7_isNumber_3 ?_
  have hPc := hP.sub (ws' := []) [] rfl
  have hDc := hD.sub (ws' := []) [] (by decide) rfl
  have hKc := hK.sub (tys' := []) [] rfl
  have hFc := va_free (wc := []) hD hS hA [] rfl
  refine va_calli (va_runS (As := [.long ((p0).toInt64), .long 0, .long 39]) (rest := []) ⟨hx, hb, hml, hown, hts⟩ (c_X7_in l dC dI _ ((p0).toInt64) 0 39) (va_cwS 3 hts gc_X7_isNumber_X7_in rfl rfl rfl (by decide +kernel) ⟨Nat.le_of_ble_eq_true rfl, Nat.le_of_ble_eq_true rfl⟩) ⟨fun a U g mk q => by obtain ⟨q0, q1, qP, qK, qD⟩ := q; exact ⟨q0, q1, qP, va_K.moved (u := U) (U := U.calling g mk a) (Vm.Alike.refl U.vm) qK, qD⟩, fun U hU hW => ⟨rfl, by rw [hU], by rw [hU]; exact hPc, va_K.moved hW.alike hKc, hDc.weaken (fun _ _ _ _ => trivial)⟩⟩ rfl rfl hl.1 rfl (lv_room (Nat.le_of_ble_eq_true rfl)) dX7_isNumber_6 ⟨Nat.zero_le _, Nat.zero_le _⟩) hS (fun q _ h => hFc q h) hFc (fun r_1 u t H1 locs ht hvm hw hB hz1 hk1 hS => ?_)
  obtain ⟨hP1, hK1, hD1⟩ := hB
  rw [ht] at hP1
  obtain ⟨hP, hD⟩ := va_join (wr := []) (w1 := []) hP hD [] [] rfl rfl (by decide) (by decide) hk1 hFc hP1 hD1
  generalize H1 = H at hP hS ⊢
  have hP : va_P (dC, dI) vwCl [] H := hP
  have hD : va_D A [] := hD
  obtain rfl : r_1 = (if (p0).toInt64 < 0 ∨ 39 < (p0).toInt64 then 0 else 1) := hw
  have hP9 := hP.sub (ws' := []) [] rfl
  have hD9 := hD.sub (ws' := []) [] (by decide) rfl
  have hK9 := hK.sub (tys' := []) [] rfl
  exact W.zret (v := (if (p0).toInt64 < 0 ∨ 39 < (p0).toInt64 then 0 else 1)) (ty := .boolean) hx hb hr (by split <;> rfl) (fun t ht hW => ⟨⟨(if (p0).toInt64 < 0 ∨ 39 < (p0).toInt64 then 0 else 1), (), rfl, rfl, by rw [ht]; exact hP9, va_K.moved hW.alike hK9, hD9⟩, hS.F ht⟩) hS.2.2 dX7_isNumber_9
def wp_X7_isPerson : List Cond := .code yX7_isPerson cX7_isPerson 1 (some .boolean) :: (([.constantLong RX7 109 (11)] : List Cond) ++ (va_wsS RX7 99 yX7_in wp_X7_in))
theorem gc_X7_isPerson_X7_in : GoodIn wp_X7_isPerson (va_wsS RX7 99 yX7_in wp_X7_in) := goodIn_sub (fun _ h => List.mem_cons_of_mem _ (List.mem_append_right _ h)) (by decide +kernel)
set_option maxRecDepth 20000 in
theorem gi_X7_isPerson : GoodIn lw_tbl wp_X7_isPerson := (goodIn_ca (goodIn_r (.code yX7_isPerson cX7_isPerson 1 (some .boolean) :: ([.constantLong RX7 109 (11)] : List Cond)) [925, 926] (by decide +kernel) (by decide +kernel)) (goodIn_app (goodIn_r _ [806, 807, 57] (by decide +kernel) (by decide +kernel)) gi_X7_in))
set_option maxHeartbeats 4000000 in
set_option maxRecDepth 100000 in
/-- isPerson -/
theorem c_X7_isPerson (l : Launch) (dC : Nat → ClassId) (dI : Nat → Nat → Nat) (sz : Nat) (p0 : Int32) : Met l yX7_isPerson wp_X7_isPerson ({ frames := 1, cells := 0, slots := 0, locals := 30 }) (va_Pc [.int p0] (fun U => U.heap.size = sz ∧ va_P (dC, dI) vwCl [] U.heap ∧ va_K (dC, dI) vwCl [] U ∧ va_D (fun _ => True) [])) (va_Qi (fun (r : Int32) (_ : Unit) => r = (if (p0).toInt64 < 0 ∨ 11 < (p0).toInt64 then 0 else 1)) (fun (_ : Unit) (t : State) => va_P (dC, dI) vwCl [] t.heap ∧ va_K (dC, dI) vwCl [] t ∧ va_D (va_A [] sz) []) (va_A [] sz)) 0 0 (va_A [] sz) := by
  refine Met.ofW (cc := cX7_isPerson) (maxL := 1) (ret := (some .boolean)) (by decide) rfl ?_
  intro p e s m args below meth c s₁ B hml hv
  obtain ⟨rfl, hsz, hP, hK, hD0⟩ := hv
  have hx := B.exec
  have hb := B.bytes
  have hr := B.returns
  have hts := atoms_spec (ws := wp_X7_isPerson) B.pre
  have hown : s.vm.findClass RX7 = some m.cls := findClass_of_methodNamed B.named
  have hlocks := B.notSynchronized
  subst hsz
  have hD := hD0.self (sz := s.heap.size)
  generalize hAe : va_A [] s.heap.size = A at hD ⊢
  have hA : ∀ q : Nat, s.heap.size ≤ q → A q := fun q h => by rw [← hAe]; exact Or.inr h
  have hS : va_S A s.heap s.heap [] := va_S.rf
  have hP : va_P (dC, dI) vwCl [] s.heap := hP
  have hl := lv_entry ([.int p0]) (n := 1) (Nat.le_of_ble_eq_true rfl)
  rw [lg_entry_eq]
  generalize (lg_sl ([.int p0]) ++ List.replicate (1 - (lg_sl ([.int p0])).length) Slot.unset).toArray = ls at hl ⊢
  have hl : lv_has ls 1 [(0, .int p0)] := hl
  refine lv_iload_n hx hb dX7_isPerson_0 rfl (lv_at hl 0 rfl) ?_
  refine lv_i2l hx hb dX7_isPerson_1 rfl ?_
  refine lv_lconst (v := 0) hx hb dX7_isPerson_2 (by decide) ?_
  refine lv_ldc2 (v := 11) hx hb hown (hts (.constantLong RX7 109 (11)) (by decide +kernel)) dX7_isPerson_3 ?_
  have hPc := hP.sub (ws' := []) [] rfl
  have hDc := hD.sub (ws' := []) [] (by decide) rfl
  have hKc := hK.sub (tys' := []) [] rfl
  have hFc := va_free (wc := []) hD hS hA [] rfl
  refine va_calli (va_runS (As := [.long ((p0).toInt64), .long 0, .long 11]) (rest := []) ⟨hx, hb, hml, hown, hts⟩ (c_X7_in l dC dI _ ((p0).toInt64) 0 11) (va_cwS 3 hts gc_X7_isPerson_X7_in rfl rfl rfl (by decide +kernel) ⟨Nat.le_of_ble_eq_true rfl, Nat.le_of_ble_eq_true rfl⟩) ⟨fun a U g mk q => by obtain ⟨q0, q1, qP, qK, qD⟩ := q; exact ⟨q0, q1, qP, va_K.moved (u := U) (U := U.calling g mk a) (Vm.Alike.refl U.vm) qK, qD⟩, fun U hU hW => ⟨rfl, by rw [hU], by rw [hU]; exact hPc, va_K.moved hW.alike hKc, hDc.weaken (fun _ _ _ _ => trivial)⟩⟩ rfl rfl hl.1 rfl (lv_room (Nat.le_of_ble_eq_true rfl)) dX7_isPerson_6 ⟨Nat.zero_le _, Nat.zero_le _⟩) hS (fun q _ h => hFc q h) hFc (fun r_1 u t H1 locs ht hvm hw hB hz1 hk1 hS => ?_)
  obtain ⟨hP1, hK1, hD1⟩ := hB
  rw [ht] at hP1
  obtain ⟨hP, hD⟩ := va_join (wr := []) (w1 := []) hP hD [] [] rfl rfl (by decide) (by decide) hk1 hFc hP1 hD1
  generalize H1 = H at hP hS ⊢
  have hP : va_P (dC, dI) vwCl [] H := hP
  have hD : va_D A [] := hD
  obtain rfl : r_1 = (if (p0).toInt64 < 0 ∨ 11 < (p0).toInt64 then 0 else 1) := hw
  have hP9 := hP.sub (ws' := []) [] rfl
  have hD9 := hD.sub (ws' := []) [] (by decide) rfl
  have hK9 := hK.sub (tys' := []) [] rfl
  exact W.zret (v := (if (p0).toInt64 < 0 ∨ 11 < (p0).toInt64 then 0 else 1)) (ty := .boolean) hx hb hr (by split <;> rfl) (fun t ht hW => ⟨⟨(if (p0).toInt64 < 0 ∨ 11 < (p0).toInt64 then 0 else 1), (), rfl, rfl, by rw [ht]; exact hP9, va_K.moved hW.alike hK9, hD9⟩, hS.F ht⟩) hS.2.2 dX7_isPerson_9
def wp_X7_four : List Cond := .code yX7_four cX7_four 3 none :: (([.fieldLink RX7 59 "AgreedTalksModel" "tape" "[I", .fieldLink RX7 111 "AgreedTalksModel" "taped" "I"] : List Cond) ++ wsX70)
set_option maxRecDepth 20000 in
theorem gi_X7_four : GoodIn lw_tbl wp_X7_four := (goodIn_ca (goodIn_r (.code yX7_four cX7_four 3 none :: ([.fieldLink RX7 59 "AgreedTalksModel" "tape" "[I", .fieldLink RX7 111 "AgreedTalksModel" "taped" "I"] : List Cond)) [820, 694, 695] (by decide +kernel) (by decide +kernel)) wi_wsX7)
set_option maxHeartbeats 4000000 in
set_option maxRecDepth 100000 in
/-- four(v): four bytes more -/
theorem c_X7_four (l : Launch) (dC : Nat → ClassId) (dI : Nat → Nat → Nat) (sz : Nat) (h0 : Nat) (b3 : Nat) (b4 : Nat) (b6 : Nat) (b7 : Nat) (b8 : Nat) (b9 : Nat) (b10 : Nat) (b11 : Nat) (b12 : Nat) (b13 : Nat) (b15 : Nat) (b16 : Nat) (b17 : Nat) (b18 : Nat) (b19 : Nat) (b20 : Nat) (b21 : Nat) (b34 : Nat) (b35 : Nat) (b37 : Nat) (b38 : Nat) (b39 : Nat) (b40 : Nat) (b41 : Nat) (k : Nat) (p0 : Int32) (cT : ClassId) (ft : Nat → Int32) (hk : k ≤ 296) : Met l yX7_four wp_X7_four ({ frames := 0, cells := 0, slots := 0, locals := 0 }) (va_Pc [.ref h0, .int p0] (fun U => U.heap.size = sz ∧ va_P (dC, dI) vwCl [(h0, .inr (8, [.int 0, .int 0, .int 0, .ref b3, .ref b4, .int 0, .ref b6, .ref b7, .ref b8, .ref b9, .ref b10, .ref b11, .ref b12, .ref b13, .int 0, .ref b15, .ref b16, .ref b17, .ref b18, .ref b19, .ref b20, .ref b21, .int (nI k), .int 0, .int 0, .int 0, .long 0, .int (-1), .int 0, .int 0, .int 0, .int 0, .int 0, .int 0, .ref b34, .ref b35, .int 0, .ref b37, .ref b38, .ref b39, .ref b40, .ref b41])), (b21, .inl (cT, 300, .inl ft))] U.heap ∧ va_K (dC, dI) vwCl [(cT, .int)] U ∧ va_D (fun _ => True) [(h0, .inr (8, [.int 0, .int 0, .int 0, .ref b3, .ref b4, .int 0, .ref b6, .ref b7, .ref b8, .ref b9, .ref b10, .ref b11, .ref b12, .ref b13, .int 0, .ref b15, .ref b16, .ref b17, .ref b18, .ref b19, .ref b20, .ref b21, .int (nI k), .int 0, .int 0, .int 0, .long 0, .int (-1), .int 0, .int 0, .int 0, .int 0, .int 0, .int 0, .ref b34, .ref b35, .int 0, .ref b37, .ref b38, .ref b39, .ref b40, .ref b41])), (b21, .inl (cT, 300, .inl ft))])) (va_Qv (fun (_ : Unit) => True) (fun (_ : Unit) (t : State) => ∃ (gt : Nat → Int32), va_P (dC, dI) vwCl [(h0, .inr (8, [.int 0, .int 0, .int 0, .ref b3, .ref b4, .int 0, .ref b6, .ref b7, .ref b8, .ref b9, .ref b10, .ref b11, .ref b12, .ref b13, .int 0, .ref b15, .ref b16, .ref b17, .ref b18, .ref b19, .ref b20, .ref b21, .int (nI (k + 4)), .int 0, .int 0, .int 0, .long 0, .int (-1), .int 0, .int 0, .int 0, .int 0, .int 0, .int 0, .ref b34, .ref b35, .int 0, .ref b37, .ref b38, .ref b39, .ref b40, .ref b41])), (b21, .inl (cT, 300, .inl gt))] t.heap ∧ va_K (dC, dI) vwCl [(cT, .int)] t ∧ va_D (va_A [(h0, .inr (8, [.int 0, .int 0, .int 0, .ref b3, .ref b4, .int 0, .ref b6, .ref b7, .ref b8, .ref b9, .ref b10, .ref b11, .ref b12, .ref b13, .int 0, .ref b15, .ref b16, .ref b17, .ref b18, .ref b19, .ref b20, .ref b21, .int (nI k), .int 0, .int 0, .int 0, .long 0, .int (-1), .int 0, .int 0, .int 0, .int 0, .int 0, .int 0, .ref b34, .ref b35, .int 0, .ref b37, .ref b38, .ref b39, .ref b40, .ref b41])), (b21, .inl (cT, 300, .inl ft))] sz) [(h0, .inr (8, [.int 0, .int 0, .int 0, .ref b3, .ref b4, .int 0, .ref b6, .ref b7, .ref b8, .ref b9, .ref b10, .ref b11, .ref b12, .ref b13, .int 0, .ref b15, .ref b16, .ref b17, .ref b18, .ref b19, .ref b20, .ref b21, .int (nI (k + 4)), .int 0, .int 0, .int 0, .long 0, .int (-1), .int 0, .int 0, .int 0, .int 0, .int 0, .int 0, .ref b34, .ref b35, .int 0, .ref b37, .ref b38, .ref b39, .ref b40, .ref b41])), (b21, .inl (cT, 300, .inl gt))]) (va_A [(h0, .inr (8, [.int 0, .int 0, .int 0, .ref b3, .ref b4, .int 0, .ref b6, .ref b7, .ref b8, .ref b9, .ref b10, .ref b11, .ref b12, .ref b13, .int 0, .ref b15, .ref b16, .ref b17, .ref b18, .ref b19, .ref b20, .ref b21, .int (nI k), .int 0, .int 0, .int 0, .long 0, .int (-1), .int 0, .int 0, .int 0, .int 0, .int 0, .int 0, .ref b34, .ref b35, .int 0, .ref b37, .ref b38, .ref b39, .ref b40, .ref b41])), (b21, .inl (cT, 300, .inl ft))] sz)) 0 0 (va_A [(h0, .inr (8, [.int 0, .int 0, .int 0, .ref b3, .ref b4, .int 0, .ref b6, .ref b7, .ref b8, .ref b9, .ref b10, .ref b11, .ref b12, .ref b13, .int 0, .ref b15, .ref b16, .ref b17, .ref b18, .ref b19, .ref b20, .ref b21, .int (nI k), .int 0, .int 0, .int 0, .long 0, .int (-1), .int 0, .int 0, .int 0, .int 0, .int 0, .int 0, .ref b34, .ref b35, .int 0, .ref b37, .ref b38, .ref b39, .ref b40, .ref b41])), (b21, .inl (cT, 300, .inl ft))] sz) := by
  refine Met.ofW (cc := cX7_four) (maxL := 3) (ret := none) (by decide) rfl ?_
  intro p e s m args below meth c s₁ B hml hv
  obtain ⟨rfl, hsz, hP, hK, hD0⟩ := hv
  have hx := B.exec
  have hb := B.bytes
  have hr := B.returns
  have hts := atoms_spec (ws := wp_X7_four) B.pre
  have hown : s.vm.findClass RX7 = some m.cls := findClass_of_methodNamed B.named
  have hlocks := B.notSynchronized
  subst hsz
  have hD := hD0.self (sz := s.heap.size)
  generalize hAe : va_A [(h0, .inr (8, [.int 0, .int 0, .int 0, .ref b3, .ref b4, .int 0, .ref b6, .ref b7, .ref b8, .ref b9, .ref b10, .ref b11, .ref b12, .ref b13, .int 0, .ref b15, .ref b16, .ref b17, .ref b18, .ref b19, .ref b20, .ref b21, .int (nI k), .int 0, .int 0, .int 0, .long 0, .int (-1), .int 0, .int 0, .int 0, .int 0, .int 0, .int 0, .ref b34, .ref b35, .int 0, .ref b37, .ref b38, .ref b39, .ref b40, .ref b41])), (b21, .inl (cT, 300, .inl ft))] s.heap.size = A at hD ⊢
  have hA : ∀ q : Nat, s.heap.size ≤ q → A q := fun q h => by rw [← hAe]; exact Or.inr h
  have hS : va_S A s.heap s.heap [] := va_S.rf
  have hP : va_P (dC, dI) vwCl [(h0, .inr (8, [.int 0, .int 0, .int 0, .ref b3, .ref b4, .int 0, .ref b6, .ref b7, .ref b8, .ref b9, .ref b10, .ref b11, .ref b12, .ref b13, .int 0, .ref b15, .ref b16, .ref b17, .ref b18, .ref b19, .ref b20, .ref b21, .int (nI k), .int 0, .int 0, .int 0, .long 0, .int (-1), .int 0, .int 0, .int 0, .int 0, .int 0, .int 0, .ref b34, .ref b35, .int 0, .ref b37, .ref b38, .ref b39, .ref b40, .ref b41])), (b21, .inl (cT, 300, .inl ft))] s.heap := hP
  have hl := lv_entry ([.ref h0, .int p0]) (n := 3) (Nat.le_of_ble_eq_true rfl)
  rw [lg_entry_eq]
  generalize (lg_sl ([.ref h0, .int p0]) ++ List.replicate (3 - (lg_sl ([.ref h0, .int p0])).length) Slot.unset).toArray = ls at hl ⊢
  have hl : lv_has ls 3 [(0, .ref h0), (1, .int p0)] := hl
  have hinX7 : ∀ w ∈ u_ws RX7 TX7 42, w ∈ wp_X7_four := fun _ h => List.mem_cons_of_mem _ (List.mem_append_right _ h)
  refine lv_bipush (v := 24) hx hb dX7_four_0 (by decide) ?_
  refine lv_istore_n (lv' := [(2, .int 24), (0, .ref h0), (1, .int p0)]) hx hb dX7_four_2 rfl hl (by decide) rfl (fun ls hl => ?_)
  refine lv_iload_n hx hb dX7_four_3 rfl (lv_at hl 0 rfl) ?_
  refine lv_if_lt (tgt := 39) hx hb dX7_four_4 (by decide) (fun c_1 => ?_) (fun c_1 => ?_)
  · exact absurd c_1 (by decide)
  · refine lv_aload_n hx hb dX7_four_7 rfl (lv_at hl 1 rfl) ?_
    refine va_get (D := (dC, dI)) (ci := 8) (v := .ref b21) (C := RX7) (T := TX7) (N := 42) hx hb hts hinX7 hown hK hP 0 rfl rfl 21 (by decide) (hts (.fieldLink RX7 59 "AgreedTalksModel" "tape" "[I") (by decide +kernel)) (fun _ h9 => h9) rfl dX7_four_8 ?_
    refine lv_aload_n hx hb dX7_four_11 rfl (lv_at hl 1 rfl) ?_
    refine va_get (D := (dC, dI)) (ci := 8) (v := .int (nI k)) (C := RX7) (T := TX7) (N := 42) hx hb hts hinX7 hown hK hP 0 rfl rfl 22 (by decide) (hts (.fieldLink RX7 111 "AgreedTalksModel" "taped" "I") (by decide +kernel)) (fun _ h9 => h9) rfl dX7_four_12 ?_
    refine lv_iload_n hx hb dX7_four_15 rfl (lv_at hl 2 rfl) ?_
    refine lv_iload_n hx hb dX7_four_16 rfl (lv_at hl 0 rfl) ?_
    refine lv_ishr hx hb dX7_four_17 ?_
    refine lv_topi (fun x_2 ex_2 => ?_)
    refine lv_sipush (v := 255) hx hb dX7_four_18 (by decide) ?_
    refine lv_iand hx hb dX7_four_21 ?_
    refine lv_topi (fun x_3 ex_3 => ?_)
    refine va_iast hx hb hK hP hD hS 1 0 rfl rfl (vp_in_nI (by omega) (by decide)) dX7_four_22 (fun H locs hP hD hS => ?_)
    have hP : va_P (dC, dI) vwCl [(h0, .inr (8, [.int 0, .int 0, .int 0, .ref b3, .ref b4, .int 0, .ref b6, .ref b7, .ref b8, .ref b9, .ref b10, .ref b11, .ref b12, .ref b13, .int 0, .ref b15, .ref b16, .ref b17, .ref b18, .ref b19, .ref b20, .ref b21, .int (nI k), .int 0, .int 0, .int 0, .long 0, .int (-1), .int 0, .int 0, .int 0, .int 0, .int 0, .int 0, .ref b34, .ref b35, .int 0, .ref b37, .ref b38, .ref b39, .ref b40, .ref b41])), (b21, .inl (cT, 300, .inl (upd ft (Int32.toNatClampNeg (nI k)) x_3)))] H := hP
    have hD : va_D A [(h0, .inr (8, [.int 0, .int 0, .int 0, .ref b3, .ref b4, .int 0, .ref b6, .ref b7, .ref b8, .ref b9, .ref b10, .ref b11, .ref b12, .ref b13, .int 0, .ref b15, .ref b16, .ref b17, .ref b18, .ref b19, .ref b20, .ref b21, .int (nI k), .int 0, .int 0, .int 0, .long 0, .int (-1), .int 0, .int 0, .int 0, .int 0, .int 0, .int 0, .ref b34, .ref b35, .int 0, .ref b37, .ref b38, .ref b39, .ref b40, .ref b41])), (b21, .inl (cT, 300, .inl (upd ft (Int32.toNatClampNeg (nI k)) x_3)))] := hD
    generalize ef_4 : upd ft (Int32.toNatClampNeg (nI k)) x_3 = f_4 at hP hD
    refine lv_aload_n hx hb dX7_four_23 rfl (lv_at hl 1 rfl) ?_
    refine lv_dup hx hb dX7_four_24 rfl ?_
    refine va_get (D := (dC, dI)) (ci := 8) (v := .int (nI k)) (C := RX7) (T := TX7) (N := 42) hx hb hts hinX7 hown hK hP 0 rfl rfl 22 (by decide) (hts (.fieldLink RX7 111 "AgreedTalksModel" "taped" "I") (by decide +kernel)) (fun _ h9 => h9) rfl dX7_four_25 ?_
    refine lv_iconst (v := 1) hx hb dX7_four_28 (by decide) ?_
    refine lv_iadd hx hb dX7_four_29 ?_
    refine lv_topi (fun x_5 ex_5 => ?_)
    obtain rfl : x_5 = (nI (k + 1)) := by rw [ex_5]; exact nI_1 _
    refine va_put (D := (dC, dI)) (ci := 8) (v := .int (nI (k + 1))) (ty := .int) (C := RX7) (T := TX7) (N := 42) hx hb hts hinX7 tyX7 tyX7_ok nmX7 hown hK hP hD hS 0 rfl rfl 22 (by decide) (hts (.fieldLink RX7 111 "AgreedTalksModel" "taped" "I") (by decide +kernel)) (fun _ h9 => h9) rfl (by decide +kernel) rfl rfl (Nat.le_of_ble_eq_true rfl) dX7_four_30 (fun H locs hP hD hS => ?_)
    have hP : va_P (dC, dI) vwCl [(h0, .inr (8, [.int 0, .int 0, .int 0, .ref b3, .ref b4, .int 0, .ref b6, .ref b7, .ref b8, .ref b9, .ref b10, .ref b11, .ref b12, .ref b13, .int 0, .ref b15, .ref b16, .ref b17, .ref b18, .ref b19, .ref b20, .ref b21, .int (nI (k + 1)), .int 0, .int 0, .int 0, .long 0, .int (-1), .int 0, .int 0, .int 0, .int 0, .int 0, .int 0, .ref b34, .ref b35, .int 0, .ref b37, .ref b38, .ref b39, .ref b40, .ref b41])), (b21, .inl (cT, 300, .inl f_4))] H := hP
    have hD : va_D A [(h0, .inr (8, [.int 0, .int 0, .int 0, .ref b3, .ref b4, .int 0, .ref b6, .ref b7, .ref b8, .ref b9, .ref b10, .ref b11, .ref b12, .ref b13, .int 0, .ref b15, .ref b16, .ref b17, .ref b18, .ref b19, .ref b20, .ref b21, .int (nI (k + 1)), .int 0, .int 0, .int 0, .long 0, .int (-1), .int 0, .int 0, .int 0, .int 0, .int 0, .int 0, .ref b34, .ref b35, .int 0, .ref b37, .ref b38, .ref b39, .ref b40, .ref b41])), (b21, .inl (cT, 300, .inl f_4))] := hD
    refine lv_iinc (v := 16) (lv' := [(2, .int 16), (0, .ref h0), (1, .int p0)]) hx hb dX7_four_33 hl (k := 0) rfl (by decide) (by decide) rfl (fun ls hl => ?_)
    refine lv_goto (tgt := 3) hx hb dX7_four_36 (by decide) ?_
    refine lv_iload_n hx hb dX7_four_3 rfl (lv_at hl 0 rfl) ?_
    refine lv_if_lt (tgt := 39) hx hb dX7_four_4 (by decide) (fun c_6 => ?_) (fun c_6 => ?_)
    · exact absurd c_6 (by decide)
    · refine lv_aload_n hx hb dX7_four_7 rfl (lv_at hl 1 rfl) ?_
      refine va_get (D := (dC, dI)) (ci := 8) (v := .ref b21) (C := RX7) (T := TX7) (N := 42) hx hb hts hinX7 hown hK hP 0 rfl rfl 21 (by decide) (hts (.fieldLink RX7 59 "AgreedTalksModel" "tape" "[I") (by decide +kernel)) (fun _ h9 => h9) rfl dX7_four_8 ?_
      refine lv_aload_n hx hb dX7_four_11 rfl (lv_at hl 1 rfl) ?_
      refine va_get (D := (dC, dI)) (ci := 8) (v := .int (nI (k + 1))) (C := RX7) (T := TX7) (N := 42) hx hb hts hinX7 hown hK hP 0 rfl rfl 22 (by decide) (hts (.fieldLink RX7 111 "AgreedTalksModel" "taped" "I") (by decide +kernel)) (fun _ h9 => h9) rfl dX7_four_12 ?_
      refine lv_iload_n hx hb dX7_four_15 rfl (lv_at hl 2 rfl) ?_
      refine lv_iload_n hx hb dX7_four_16 rfl (lv_at hl 0 rfl) ?_
      refine lv_ishr hx hb dX7_four_17 ?_
      refine lv_topi (fun x_7 ex_7 => ?_)
      refine lv_sipush (v := 255) hx hb dX7_four_18 (by decide) ?_
      refine lv_iand hx hb dX7_four_21 ?_
      refine lv_topi (fun x_8 ex_8 => ?_)
      refine va_iast hx hb hK hP hD hS 1 0 rfl rfl (vp_in_nI (by omega) (by decide)) dX7_four_22 (fun H locs hP hD hS => ?_)
      have hP : va_P (dC, dI) vwCl [(h0, .inr (8, [.int 0, .int 0, .int 0, .ref b3, .ref b4, .int 0, .ref b6, .ref b7, .ref b8, .ref b9, .ref b10, .ref b11, .ref b12, .ref b13, .int 0, .ref b15, .ref b16, .ref b17, .ref b18, .ref b19, .ref b20, .ref b21, .int (nI (k + 1)), .int 0, .int 0, .int 0, .long 0, .int (-1), .int 0, .int 0, .int 0, .int 0, .int 0, .int 0, .ref b34, .ref b35, .int 0, .ref b37, .ref b38, .ref b39, .ref b40, .ref b41])), (b21, .inl (cT, 300, .inl (upd f_4 (Int32.toNatClampNeg (nI (k + 1))) x_8)))] H := hP
      have hD : va_D A [(h0, .inr (8, [.int 0, .int 0, .int 0, .ref b3, .ref b4, .int 0, .ref b6, .ref b7, .ref b8, .ref b9, .ref b10, .ref b11, .ref b12, .ref b13, .int 0, .ref b15, .ref b16, .ref b17, .ref b18, .ref b19, .ref b20, .ref b21, .int (nI (k + 1)), .int 0, .int 0, .int 0, .long 0, .int (-1), .int 0, .int 0, .int 0, .int 0, .int 0, .int 0, .ref b34, .ref b35, .int 0, .ref b37, .ref b38, .ref b39, .ref b40, .ref b41])), (b21, .inl (cT, 300, .inl (upd f_4 (Int32.toNatClampNeg (nI (k + 1))) x_8)))] := hD
      generalize ef_9 : upd f_4 (Int32.toNatClampNeg (nI (k + 1))) x_8 = f_9 at hP hD
      refine lv_aload_n hx hb dX7_four_23 rfl (lv_at hl 1 rfl) ?_
      refine lv_dup hx hb dX7_four_24 rfl ?_
      refine va_get (D := (dC, dI)) (ci := 8) (v := .int (nI (k + 1))) (C := RX7) (T := TX7) (N := 42) hx hb hts hinX7 hown hK hP 0 rfl rfl 22 (by decide) (hts (.fieldLink RX7 111 "AgreedTalksModel" "taped" "I") (by decide +kernel)) (fun _ h9 => h9) rfl dX7_four_25 ?_
      refine lv_iconst (v := 1) hx hb dX7_four_28 (by decide) ?_
      refine lv_iadd hx hb dX7_four_29 ?_
      refine lv_topi (fun x_10 ex_10 => ?_)
      obtain rfl : x_10 = (nI (k + 2)) := by rw [ex_10]; exact nI_1 _
      refine va_put (D := (dC, dI)) (ci := 8) (v := .int (nI (k + 2))) (ty := .int) (C := RX7) (T := TX7) (N := 42) hx hb hts hinX7 tyX7 tyX7_ok nmX7 hown hK hP hD hS 0 rfl rfl 22 (by decide) (hts (.fieldLink RX7 111 "AgreedTalksModel" "taped" "I") (by decide +kernel)) (fun _ h9 => h9) rfl (by decide +kernel) rfl rfl (Nat.le_of_ble_eq_true rfl) dX7_four_30 (fun H locs hP hD hS => ?_)
      have hP : va_P (dC, dI) vwCl [(h0, .inr (8, [.int 0, .int 0, .int 0, .ref b3, .ref b4, .int 0, .ref b6, .ref b7, .ref b8, .ref b9, .ref b10, .ref b11, .ref b12, .ref b13, .int 0, .ref b15, .ref b16, .ref b17, .ref b18, .ref b19, .ref b20, .ref b21, .int (nI (k + 2)), .int 0, .int 0, .int 0, .long 0, .int (-1), .int 0, .int 0, .int 0, .int 0, .int 0, .int 0, .ref b34, .ref b35, .int 0, .ref b37, .ref b38, .ref b39, .ref b40, .ref b41])), (b21, .inl (cT, 300, .inl f_9))] H := hP
      have hD : va_D A [(h0, .inr (8, [.int 0, .int 0, .int 0, .ref b3, .ref b4, .int 0, .ref b6, .ref b7, .ref b8, .ref b9, .ref b10, .ref b11, .ref b12, .ref b13, .int 0, .ref b15, .ref b16, .ref b17, .ref b18, .ref b19, .ref b20, .ref b21, .int (nI (k + 2)), .int 0, .int 0, .int 0, .long 0, .int (-1), .int 0, .int 0, .int 0, .int 0, .int 0, .int 0, .ref b34, .ref b35, .int 0, .ref b37, .ref b38, .ref b39, .ref b40, .ref b41])), (b21, .inl (cT, 300, .inl f_9))] := hD
      refine lv_iinc (v := 8) (lv' := [(2, .int 8), (0, .ref h0), (1, .int p0)]) hx hb dX7_four_33 hl (k := 0) rfl (by decide) (by decide) rfl (fun ls hl => ?_)
      refine lv_goto (tgt := 3) hx hb dX7_four_36 (by decide) ?_
      refine lv_iload_n hx hb dX7_four_3 rfl (lv_at hl 0 rfl) ?_
      refine lv_if_lt (tgt := 39) hx hb dX7_four_4 (by decide) (fun c_11 => ?_) (fun c_11 => ?_)
      · exact absurd c_11 (by decide)
      · refine lv_aload_n hx hb dX7_four_7 rfl (lv_at hl 1 rfl) ?_
        refine va_get (D := (dC, dI)) (ci := 8) (v := .ref b21) (C := RX7) (T := TX7) (N := 42) hx hb hts hinX7 hown hK hP 0 rfl rfl 21 (by decide) (hts (.fieldLink RX7 59 "AgreedTalksModel" "tape" "[I") (by decide +kernel)) (fun _ h9 => h9) rfl dX7_four_8 ?_
        refine lv_aload_n hx hb dX7_four_11 rfl (lv_at hl 1 rfl) ?_
        refine va_get (D := (dC, dI)) (ci := 8) (v := .int (nI (k + 2))) (C := RX7) (T := TX7) (N := 42) hx hb hts hinX7 hown hK hP 0 rfl rfl 22 (by decide) (hts (.fieldLink RX7 111 "AgreedTalksModel" "taped" "I") (by decide +kernel)) (fun _ h9 => h9) rfl dX7_four_12 ?_
        refine lv_iload_n hx hb dX7_four_15 rfl (lv_at hl 2 rfl) ?_
        refine lv_iload_n hx hb dX7_four_16 rfl (lv_at hl 0 rfl) ?_
        refine lv_ishr hx hb dX7_four_17 ?_
        refine lv_topi (fun x_12 ex_12 => ?_)
        refine lv_sipush (v := 255) hx hb dX7_four_18 (by decide) ?_
        refine lv_iand hx hb dX7_four_21 ?_
        refine lv_topi (fun x_13 ex_13 => ?_)
        refine va_iast hx hb hK hP hD hS 1 0 rfl rfl (vp_in_nI (by omega) (by decide)) dX7_four_22 (fun H locs hP hD hS => ?_)
        have hP : va_P (dC, dI) vwCl [(h0, .inr (8, [.int 0, .int 0, .int 0, .ref b3, .ref b4, .int 0, .ref b6, .ref b7, .ref b8, .ref b9, .ref b10, .ref b11, .ref b12, .ref b13, .int 0, .ref b15, .ref b16, .ref b17, .ref b18, .ref b19, .ref b20, .ref b21, .int (nI (k + 2)), .int 0, .int 0, .int 0, .long 0, .int (-1), .int 0, .int 0, .int 0, .int 0, .int 0, .int 0, .ref b34, .ref b35, .int 0, .ref b37, .ref b38, .ref b39, .ref b40, .ref b41])), (b21, .inl (cT, 300, .inl (upd f_9 (Int32.toNatClampNeg (nI (k + 2))) x_13)))] H := hP
        have hD : va_D A [(h0, .inr (8, [.int 0, .int 0, .int 0, .ref b3, .ref b4, .int 0, .ref b6, .ref b7, .ref b8, .ref b9, .ref b10, .ref b11, .ref b12, .ref b13, .int 0, .ref b15, .ref b16, .ref b17, .ref b18, .ref b19, .ref b20, .ref b21, .int (nI (k + 2)), .int 0, .int 0, .int 0, .long 0, .int (-1), .int 0, .int 0, .int 0, .int 0, .int 0, .int 0, .ref b34, .ref b35, .int 0, .ref b37, .ref b38, .ref b39, .ref b40, .ref b41])), (b21, .inl (cT, 300, .inl (upd f_9 (Int32.toNatClampNeg (nI (k + 2))) x_13)))] := hD
        generalize ef_14 : upd f_9 (Int32.toNatClampNeg (nI (k + 2))) x_13 = f_14 at hP hD
        refine lv_aload_n hx hb dX7_four_23 rfl (lv_at hl 1 rfl) ?_
        refine lv_dup hx hb dX7_four_24 rfl ?_
        refine va_get (D := (dC, dI)) (ci := 8) (v := .int (nI (k + 2))) (C := RX7) (T := TX7) (N := 42) hx hb hts hinX7 hown hK hP 0 rfl rfl 22 (by decide) (hts (.fieldLink RX7 111 "AgreedTalksModel" "taped" "I") (by decide +kernel)) (fun _ h9 => h9) rfl dX7_four_25 ?_
        refine lv_iconst (v := 1) hx hb dX7_four_28 (by decide) ?_
        refine lv_iadd hx hb dX7_four_29 ?_
        refine lv_topi (fun x_15 ex_15 => ?_)
        obtain rfl : x_15 = (nI (k + 3)) := by rw [ex_15]; exact nI_1 _
        refine va_put (D := (dC, dI)) (ci := 8) (v := .int (nI (k + 3))) (ty := .int) (C := RX7) (T := TX7) (N := 42) hx hb hts hinX7 tyX7 tyX7_ok nmX7 hown hK hP hD hS 0 rfl rfl 22 (by decide) (hts (.fieldLink RX7 111 "AgreedTalksModel" "taped" "I") (by decide +kernel)) (fun _ h9 => h9) rfl (by decide +kernel) rfl rfl (Nat.le_of_ble_eq_true rfl) dX7_four_30 (fun H locs hP hD hS => ?_)
        have hP : va_P (dC, dI) vwCl [(h0, .inr (8, [.int 0, .int 0, .int 0, .ref b3, .ref b4, .int 0, .ref b6, .ref b7, .ref b8, .ref b9, .ref b10, .ref b11, .ref b12, .ref b13, .int 0, .ref b15, .ref b16, .ref b17, .ref b18, .ref b19, .ref b20, .ref b21, .int (nI (k + 3)), .int 0, .int 0, .int 0, .long 0, .int (-1), .int 0, .int 0, .int 0, .int 0, .int 0, .int 0, .ref b34, .ref b35, .int 0, .ref b37, .ref b38, .ref b39, .ref b40, .ref b41])), (b21, .inl (cT, 300, .inl f_14))] H := hP
        have hD : va_D A [(h0, .inr (8, [.int 0, .int 0, .int 0, .ref b3, .ref b4, .int 0, .ref b6, .ref b7, .ref b8, .ref b9, .ref b10, .ref b11, .ref b12, .ref b13, .int 0, .ref b15, .ref b16, .ref b17, .ref b18, .ref b19, .ref b20, .ref b21, .int (nI (k + 3)), .int 0, .int 0, .int 0, .long 0, .int (-1), .int 0, .int 0, .int 0, .int 0, .int 0, .int 0, .ref b34, .ref b35, .int 0, .ref b37, .ref b38, .ref b39, .ref b40, .ref b41])), (b21, .inl (cT, 300, .inl f_14))] := hD
        refine lv_iinc (v := 0) (lv' := [(2, .int 0), (0, .ref h0), (1, .int p0)]) hx hb dX7_four_33 hl (k := 0) rfl (by decide) (by decide) rfl (fun ls hl => ?_)
        refine lv_goto (tgt := 3) hx hb dX7_four_36 (by decide) ?_
        refine lv_iload_n hx hb dX7_four_3 rfl (lv_at hl 0 rfl) ?_
        refine lv_if_lt (tgt := 39) hx hb dX7_four_4 (by decide) (fun c_16 => ?_) (fun c_16 => ?_)
        · exact absurd c_16 (by decide)
        · refine lv_aload_n hx hb dX7_four_7 rfl (lv_at hl 1 rfl) ?_
          refine va_get (D := (dC, dI)) (ci := 8) (v := .ref b21) (C := RX7) (T := TX7) (N := 42) hx hb hts hinX7 hown hK hP 0 rfl rfl 21 (by decide) (hts (.fieldLink RX7 59 "AgreedTalksModel" "tape" "[I") (by decide +kernel)) (fun _ h9 => h9) rfl dX7_four_8 ?_
          refine lv_aload_n hx hb dX7_four_11 rfl (lv_at hl 1 rfl) ?_
          refine va_get (D := (dC, dI)) (ci := 8) (v := .int (nI (k + 3))) (C := RX7) (T := TX7) (N := 42) hx hb hts hinX7 hown hK hP 0 rfl rfl 22 (by decide) (hts (.fieldLink RX7 111 "AgreedTalksModel" "taped" "I") (by decide +kernel)) (fun _ h9 => h9) rfl dX7_four_12 ?_
          refine lv_iload_n hx hb dX7_four_15 rfl (lv_at hl 2 rfl) ?_
          refine lv_iload_n hx hb dX7_four_16 rfl (lv_at hl 0 rfl) ?_
          refine lv_ishr hx hb dX7_four_17 ?_
          refine lv_topi (fun x_17 ex_17 => ?_)
          refine lv_sipush (v := 255) hx hb dX7_four_18 (by decide) ?_
          refine lv_iand hx hb dX7_four_21 ?_
          refine lv_topi (fun x_18 ex_18 => ?_)
          refine va_iast hx hb hK hP hD hS 1 0 rfl rfl (vp_in_nI (by omega) (by decide)) dX7_four_22 (fun H locs hP hD hS => ?_)
          have hP : va_P (dC, dI) vwCl [(h0, .inr (8, [.int 0, .int 0, .int 0, .ref b3, .ref b4, .int 0, .ref b6, .ref b7, .ref b8, .ref b9, .ref b10, .ref b11, .ref b12, .ref b13, .int 0, .ref b15, .ref b16, .ref b17, .ref b18, .ref b19, .ref b20, .ref b21, .int (nI (k + 3)), .int 0, .int 0, .int 0, .long 0, .int (-1), .int 0, .int 0, .int 0, .int 0, .int 0, .int 0, .ref b34, .ref b35, .int 0, .ref b37, .ref b38, .ref b39, .ref b40, .ref b41])), (b21, .inl (cT, 300, .inl (upd f_14 (Int32.toNatClampNeg (nI (k + 3))) x_18)))] H := hP
          have hD : va_D A [(h0, .inr (8, [.int 0, .int 0, .int 0, .ref b3, .ref b4, .int 0, .ref b6, .ref b7, .ref b8, .ref b9, .ref b10, .ref b11, .ref b12, .ref b13, .int 0, .ref b15, .ref b16, .ref b17, .ref b18, .ref b19, .ref b20, .ref b21, .int (nI (k + 3)), .int 0, .int 0, .int 0, .long 0, .int (-1), .int 0, .int 0, .int 0, .int 0, .int 0, .int 0, .ref b34, .ref b35, .int 0, .ref b37, .ref b38, .ref b39, .ref b40, .ref b41])), (b21, .inl (cT, 300, .inl (upd f_14 (Int32.toNatClampNeg (nI (k + 3))) x_18)))] := hD
          generalize ef_19 : upd f_14 (Int32.toNatClampNeg (nI (k + 3))) x_18 = f_19 at hP hD
          refine lv_aload_n hx hb dX7_four_23 rfl (lv_at hl 1 rfl) ?_
          refine lv_dup hx hb dX7_four_24 rfl ?_
          refine va_get (D := (dC, dI)) (ci := 8) (v := .int (nI (k + 3))) (C := RX7) (T := TX7) (N := 42) hx hb hts hinX7 hown hK hP 0 rfl rfl 22 (by decide) (hts (.fieldLink RX7 111 "AgreedTalksModel" "taped" "I") (by decide +kernel)) (fun _ h9 => h9) rfl dX7_four_25 ?_
          refine lv_iconst (v := 1) hx hb dX7_four_28 (by decide) ?_
          refine lv_iadd hx hb dX7_four_29 ?_
          refine lv_topi (fun x_20 ex_20 => ?_)
          obtain rfl : x_20 = (nI (k + 4)) := by rw [ex_20]; exact nI_1 _
          refine va_put (D := (dC, dI)) (ci := 8) (v := .int (nI (k + 4))) (ty := .int) (C := RX7) (T := TX7) (N := 42) hx hb hts hinX7 tyX7 tyX7_ok nmX7 hown hK hP hD hS 0 rfl rfl 22 (by decide) (hts (.fieldLink RX7 111 "AgreedTalksModel" "taped" "I") (by decide +kernel)) (fun _ h9 => h9) rfl (by decide +kernel) rfl rfl (Nat.le_of_ble_eq_true rfl) dX7_four_30 (fun H locs hP hD hS => ?_)
          have hP : va_P (dC, dI) vwCl [(h0, .inr (8, [.int 0, .int 0, .int 0, .ref b3, .ref b4, .int 0, .ref b6, .ref b7, .ref b8, .ref b9, .ref b10, .ref b11, .ref b12, .ref b13, .int 0, .ref b15, .ref b16, .ref b17, .ref b18, .ref b19, .ref b20, .ref b21, .int (nI (k + 4)), .int 0, .int 0, .int 0, .long 0, .int (-1), .int 0, .int 0, .int 0, .int 0, .int 0, .int 0, .ref b34, .ref b35, .int 0, .ref b37, .ref b38, .ref b39, .ref b40, .ref b41])), (b21, .inl (cT, 300, .inl f_19))] H := hP
          have hD : va_D A [(h0, .inr (8, [.int 0, .int 0, .int 0, .ref b3, .ref b4, .int 0, .ref b6, .ref b7, .ref b8, .ref b9, .ref b10, .ref b11, .ref b12, .ref b13, .int 0, .ref b15, .ref b16, .ref b17, .ref b18, .ref b19, .ref b20, .ref b21, .int (nI (k + 4)), .int 0, .int 0, .int 0, .long 0, .int (-1), .int 0, .int 0, .int 0, .int 0, .int 0, .int 0, .ref b34, .ref b35, .int 0, .ref b37, .ref b38, .ref b39, .ref b40, .ref b41])), (b21, .inl (cT, 300, .inl f_19))] := hD
          refine lv_iinc (v := (-8)) (lv' := [(2, .int (-8)), (0, .ref h0), (1, .int p0)]) hx hb dX7_four_33 hl (k := 0) rfl (by decide) (by decide) rfl (fun ls hl => ?_)
          refine lv_goto (tgt := 3) hx hb dX7_four_36 (by decide) ?_
          refine lv_iload_n hx hb dX7_four_3 rfl (lv_at hl 0 rfl) ?_
          refine lv_if_lt (tgt := 39) hx hb dX7_four_4 (by decide) (fun c_21 => ?_) (fun c_21 => ?_)
          · have hP9 := hP.sub (ws' := [(h0, .inr (8, [.int 0, .int 0, .int 0, .ref b3, .ref b4, .int 0, .ref b6, .ref b7, .ref b8, .ref b9, .ref b10, .ref b11, .ref b12, .ref b13, .int 0, .ref b15, .ref b16, .ref b17, .ref b18, .ref b19, .ref b20, .ref b21, .int (nI (k + 4)), .int 0, .int 0, .int 0, .long 0, .int (-1), .int 0, .int 0, .int 0, .int 0, .int 0, .int 0, .ref b34, .ref b35, .int 0, .ref b37, .ref b38, .ref b39, .ref b40, .ref b41])), (b21, .inl (cT, 300, .inl f_19))]) [0, 1] rfl
            have hD9 := hD.sub (ws' := [(h0, .inr (8, [.int 0, .int 0, .int 0, .ref b3, .ref b4, .int 0, .ref b6, .ref b7, .ref b8, .ref b9, .ref b10, .ref b11, .ref b12, .ref b13, .int 0, .ref b15, .ref b16, .ref b17, .ref b18, .ref b19, .ref b20, .ref b21, .int (nI (k + 4)), .int 0, .int 0, .int 0, .long 0, .int (-1), .int 0, .int 0, .int 0, .int 0, .int 0, .int 0, .ref b34, .ref b35, .int 0, .ref b37, .ref b38, .ref b39, .ref b40, .ref b41])), (b21, .inl (cT, 300, .inl f_19))]) [0, 1] (by decide) rfl
            have hK9 := hK.sub (tys' := [(cT, .int)]) [0] rfl
            exact W.vret hx hb hr (fun t ht hW => ⟨⟨(), rfl, trivial, f_19, by rw [ht]; exact hP9, va_K.moved hW.alike hK9, hD9⟩, hS.F ht⟩) hS.2.2 dX7_four_39
          · exact absurd c_21 (by decide)
def wp_X7_meeting : List Cond := .code yX7_meeting cX7_meeting 2 (some .int) :: (([.fieldLink RX7 88 "AgreedTalksModel" "thrown" "I", .fieldLink RX7 94 "AgreedTalksModel" "meetings" "I", .constantLong RX7 97 (999), .fieldLink RX7 7 "AgreedTalksModel" "days" "[I", .fieldLink RX7 13 "AgreedTalksModel" "counting" "[I"] : List Cond) ++ wsX70 ++ (va_wsS RX7 99 yX7_in wp_X7_in) ++ (wsV RX7 103 RX7 yX7_told wp_X7_told))
theorem gc_X7_meeting_X7_in : GoodIn wp_X7_meeting (va_wsS RX7 99 yX7_in wp_X7_in) := goodIn_sub (fun _ h => List.mem_cons_of_mem _ (List.mem_append_left _ (List.mem_append_right _ h))) (by decide +kernel)
theorem gc_X7_meeting_X7_told : GoodIn wp_X7_meeting (wsV RX7 103 RX7 yX7_told wp_X7_told) := goodIn_sub (fun _ h => List.mem_cons_of_mem _ (List.mem_append_right _ h)) (by decide +kernel)
set_option maxRecDepth 20000 in
theorem gi_X7_meeting : GoodIn lw_tbl wp_X7_meeting := (goodIn_ca (goodIn_ca (goodIn_ca (goodIn_r (.code yX7_meeting cX7_meeting 2 (some .int) :: ([.fieldLink RX7 88 "AgreedTalksModel" "thrown" "I", .fieldLink RX7 94 "AgreedTalksModel" "meetings" "I", .constantLong RX7 97 (999), .fieldLink RX7 7 "AgreedTalksModel" "days" "[I", .fieldLink RX7 13 "AgreedTalksModel" "counting" "[I"] : List Cond)) [804, 673, 675, 805, 676, 677] (by decide +kernel) (by decide +kernel)) wi_wsX7) (goodIn_app (goodIn_r _ [806, 807, 57] (by decide +kernel) (by decide +kernel)) gi_X7_in)) (goodIn_app (goodIn_r _ [809, 811, 26, 57] (by decide +kernel) (by decide +kernel)) gi_X7_told))
set_option maxHeartbeats 4000000 in
set_option maxRecDepth 100000 in
/-- meeting of the reference, on a fresh object -/
theorem c_X7_meeting (l : Launch) (dC : Nat → ClassId) (dI : Nat → Nat → Nat) (sz : Nat) (h0 : Nat) (b3 : Nat) (b4 : Nat) (b6 : Nat) (b7 : Nat) (b8 : Nat) (b9 : Nat) (b10 : Nat) (b11 : Nat) (b12 : Nat) (b13 : Nat) (b15 : Nat) (b16 : Nat) (b17 : Nat) (b18 : Nat) (b19 : Nat) (b20 : Nat) (b21 : Nat) (b34 : Nat) (b35 : Nat) (b37 : Nat) (b38 : Nat) (b39 : Nat) (b40 : Nat) (b41 : Nat) (p0 : Int32) (cD : ClassId) (cC : ClassId) (fd : Nat → Int32) (fc : Nat → Int32) : Met l yX7_meeting wp_X7_meeting ({ frames := 2, cells := 0, slots := 0, locals := 60 }) (va_Pc [.ref h0, .int p0] (fun U => U.heap.size = sz ∧ va_P (dC, dI) vwCl [(h0, .inr (8, [.int 0, .int 0, .int 0, .ref b3, .ref b4, .int 0, .ref b6, .ref b7, .ref b8, .ref b9, .ref b10, .ref b11, .ref b12, .ref b13, .int 0, .ref b15, .ref b16, .ref b17, .ref b18, .ref b19, .ref b20, .ref b21, .int 0, .int 0, .int 0, .int 0, .long 0, .int (-1), .int 0, .int 0, .int 0, .int 0, .int 0, .int 0, .ref b34, .ref b35, .int 0, .ref b37, .ref b38, .ref b39, .ref b40, .ref b41])), (b3, .inl (cD, 30, .inl fd)), (b4, .inl (cC, 30, .inl fc))] U.heap ∧ va_K (dC, dI) vwCl [(cD, .int), (cC, .int)] U ∧ va_D (fun _ => True) [(h0, .inr (8, [.int 0, .int 0, .int 0, .ref b3, .ref b4, .int 0, .ref b6, .ref b7, .ref b8, .ref b9, .ref b10, .ref b11, .ref b12, .ref b13, .int 0, .ref b15, .ref b16, .ref b17, .ref b18, .ref b19, .ref b20, .ref b21, .int 0, .int 0, .int 0, .int 0, .long 0, .int (-1), .int 0, .int 0, .int 0, .int 0, .int 0, .int 0, .ref b34, .ref b35, .int 0, .ref b37, .ref b38, .ref b39, .ref b40, .ref b41])), (b3, .inl (cD, 30, .inl fd)), (b4, .inl (cC, 30, .inl fc))])) (va_Qi (fun (r : Int32) (_ : Unit) => r = (if p0 < 0 ∨ 1000 ≤ p0 then (-1) else 0)) (fun (_ : Unit) (t : State) => va_P (dC, dI) vwCl [] t.heap ∧ va_K (dC, dI) vwCl [] t ∧ va_D (va_A [(h0, .inr (8, [.int 0, .int 0, .int 0, .ref b3, .ref b4, .int 0, .ref b6, .ref b7, .ref b8, .ref b9, .ref b10, .ref b11, .ref b12, .ref b13, .int 0, .ref b15, .ref b16, .ref b17, .ref b18, .ref b19, .ref b20, .ref b21, .int 0, .int 0, .int 0, .int 0, .long 0, .int (-1), .int 0, .int 0, .int 0, .int 0, .int 0, .int 0, .ref b34, .ref b35, .int 0, .ref b37, .ref b38, .ref b39, .ref b40, .ref b41])), (b3, .inl (cD, 30, .inl fd)), (b4, .inl (cC, 30, .inl fc))] sz) []) (va_A [(h0, .inr (8, [.int 0, .int 0, .int 0, .ref b3, .ref b4, .int 0, .ref b6, .ref b7, .ref b8, .ref b9, .ref b10, .ref b11, .ref b12, .ref b13, .int 0, .ref b15, .ref b16, .ref b17, .ref b18, .ref b19, .ref b20, .ref b21, .int 0, .int 0, .int 0, .int 0, .long 0, .int (-1), .int 0, .int 0, .int 0, .int 0, .int 0, .int 0, .ref b34, .ref b35, .int 0, .ref b37, .ref b38, .ref b39, .ref b40, .ref b41])), (b3, .inl (cD, 30, .inl fd)), (b4, .inl (cC, 30, .inl fc))] sz)) 0 0 (va_A [(h0, .inr (8, [.int 0, .int 0, .int 0, .ref b3, .ref b4, .int 0, .ref b6, .ref b7, .ref b8, .ref b9, .ref b10, .ref b11, .ref b12, .ref b13, .int 0, .ref b15, .ref b16, .ref b17, .ref b18, .ref b19, .ref b20, .ref b21, .int 0, .int 0, .int 0, .int 0, .long 0, .int (-1), .int 0, .int 0, .int 0, .int 0, .int 0, .int 0, .ref b34, .ref b35, .int 0, .ref b37, .ref b38, .ref b39, .ref b40, .ref b41])), (b3, .inl (cD, 30, .inl fd)), (b4, .inl (cC, 30, .inl fc))] sz) := by
  refine Met.ofW (cc := cX7_meeting) (maxL := 2) (ret := (some .int)) (by decide) rfl ?_
  intro p e s m args below meth c s₁ B hml hv
  obtain ⟨rfl, hsz, hP, hK, hD0⟩ := hv
  have hx := B.exec
  have hb := B.bytes
  have hr := B.returns
  have hts := atoms_spec (ws := wp_X7_meeting) B.pre
  have hown : s.vm.findClass RX7 = some m.cls := findClass_of_methodNamed B.named
  have hlocks := B.notSynchronized
  subst hsz
  have hD := hD0.self (sz := s.heap.size)
  generalize hAe : va_A [(h0, .inr (8, [.int 0, .int 0, .int 0, .ref b3, .ref b4, .int 0, .ref b6, .ref b7, .ref b8, .ref b9, .ref b10, .ref b11, .ref b12, .ref b13, .int 0, .ref b15, .ref b16, .ref b17, .ref b18, .ref b19, .ref b20, .ref b21, .int 0, .int 0, .int 0, .int 0, .long 0, .int (-1), .int 0, .int 0, .int 0, .int 0, .int 0, .int 0, .ref b34, .ref b35, .int 0, .ref b37, .ref b38, .ref b39, .ref b40, .ref b41])), (b3, .inl (cD, 30, .inl fd)), (b4, .inl (cC, 30, .inl fc))] s.heap.size = A at hD ⊢
  have hA : ∀ q : Nat, s.heap.size ≤ q → A q := fun q h => by rw [← hAe]; exact Or.inr h
  have hS : va_S A s.heap s.heap [] := va_S.rf
  have hP : va_P (dC, dI) vwCl [(h0, .inr (8, [.int 0, .int 0, .int 0, .ref b3, .ref b4, .int 0, .ref b6, .ref b7, .ref b8, .ref b9, .ref b10, .ref b11, .ref b12, .ref b13, .int 0, .ref b15, .ref b16, .ref b17, .ref b18, .ref b19, .ref b20, .ref b21, .int 0, .int 0, .int 0, .int 0, .long 0, .int (-1), .int 0, .int 0, .int 0, .int 0, .int 0, .int 0, .ref b34, .ref b35, .int 0, .ref b37, .ref b38, .ref b39, .ref b40, .ref b41])), (b3, .inl (cD, 30, .inl fd)), (b4, .inl (cC, 30, .inl fc))] s.heap := hP
  have hl := lv_entry ([.ref h0, .int p0]) (n := 2) (Nat.le_of_ble_eq_true rfl)
  rw [lg_entry_eq]
  generalize (lg_sl ([.ref h0, .int p0]) ++ List.replicate (2 - (lg_sl ([.ref h0, .int p0])).length) Slot.unset).toArray = ls at hl ⊢
  have hl : lv_has ls 2 [(0, .ref h0), (1, .int p0)] := hl
  have hinX7 : ∀ w ∈ u_ws RX7 TX7 42, w ∈ wp_X7_meeting := fun _ h => List.mem_cons_of_mem _ (List.mem_append_left _ (List.mem_append_left _ (List.mem_append_right _ h)))
  refine lv_aload_n hx hb dX7_meeting_0 rfl (lv_at hl 0 rfl) ?_
  refine lv_iconst (v := 0) hx hb dX7_meeting_1 (by decide) ?_
  refine va_put (D := (dC, dI)) (ci := 8) (v := .int 0) (ty := .int) (C := RX7) (T := TX7) (N := 42) hx hb hts hinX7 tyX7 tyX7_ok nmX7 hown hK hP hD hS 0 rfl rfl 0 (by decide) (hts (.fieldLink RX7 88 "AgreedTalksModel" "thrown" "I") (by decide +kernel)) (fun _ h9 => h9) rfl (by decide +kernel) rfl rfl (Nat.le_of_ble_eq_true rfl) dX7_meeting_2 (fun H locs hP hD hS => ?_)
  have hP : va_P (dC, dI) vwCl [(h0, .inr (8, [.int 0, .int 0, .int 0, .ref b3, .ref b4, .int 0, .ref b6, .ref b7, .ref b8, .ref b9, .ref b10, .ref b11, .ref b12, .ref b13, .int 0, .ref b15, .ref b16, .ref b17, .ref b18, .ref b19, .ref b20, .ref b21, .int 0, .int 0, .int 0, .int 0, .long 0, .int (-1), .int 0, .int 0, .int 0, .int 0, .int 0, .int 0, .ref b34, .ref b35, .int 0, .ref b37, .ref b38, .ref b39, .ref b40, .ref b41])), (b3, .inl (cD, 30, .inl fd)), (b4, .inl (cC, 30, .inl fc))] H := hP
  have hD : va_D A [(h0, .inr (8, [.int 0, .int 0, .int 0, .ref b3, .ref b4, .int 0, .ref b6, .ref b7, .ref b8, .ref b9, .ref b10, .ref b11, .ref b12, .ref b13, .int 0, .ref b15, .ref b16, .ref b17, .ref b18, .ref b19, .ref b20, .ref b21, .int 0, .int 0, .int 0, .int 0, .long 0, .int (-1), .int 0, .int 0, .int 0, .int 0, .int 0, .int 0, .ref b34, .ref b35, .int 0, .ref b37, .ref b38, .ref b39, .ref b40, .ref b41])), (b3, .inl (cD, 30, .inl fd)), (b4, .inl (cC, 30, .inl fc))] := hD
  refine lv_iload_n hx hb dX7_meeting_5 rfl (lv_at hl 1 rfl) ?_
  refine lv_i2l hx hb dX7_meeting_6 rfl ?_
  refine lv_aload_n hx hb dX7_meeting_7 rfl (lv_at hl 0 rfl) ?_
  refine va_get (D := (dC, dI)) (ci := 8) (v := .int 0) (C := RX7) (T := TX7) (N := 42) hx hb hts hinX7 hown hK hP 0 rfl rfl 2 (by decide) (hts (.fieldLink RX7 94 "AgreedTalksModel" "meetings" "I") (by decide +kernel)) (fun _ h9 => h9) rfl dX7_meeting_8 ?_
  refine lv_if_ne (tgt := 18) hx hb dX7_meeting_11 (by decide) (fun c_1 => ?_) (fun c_1 => ?_)
  · exact absurd c_1 (by decide)
  · refine lv_lconst (v := 0) hx hb dX7_meeting_14 (by decide) ?_
    refine lv_goto (tgt := 30) hx hb dX7_meeting_15 (by decide) ?_
    refine lv_ldc2 (v := 999) hx hb hown (hts (.constantLong RX7 97 (999)) (by decide +kernel)) dX7_meeting_30 ?_
    have hPc := hP.sub (ws' := []) [] rfl
    have hDc := hD.sub (ws' := []) [] (by decide) rfl
    have hKc := hK.sub (tys' := []) [] rfl
    have hFc := va_free (wc := []) hD hS hA [] rfl
    refine va_calli (va_runS (As := [.long ((p0).toInt64), .long 0, .long 999]) (rest := []) ⟨hx, hb, hml, hown, hts⟩ (c_X7_in l dC dI _ ((p0).toInt64) 0 999) (va_cwS 3 hts gc_X7_meeting_X7_in rfl rfl rfl (by decide +kernel) ⟨Nat.le_of_ble_eq_true rfl, Nat.le_of_ble_eq_true rfl⟩) ⟨fun a U g mk q => by obtain ⟨q0, q1, qP, qK, qD⟩ := q; exact ⟨q0, q1, qP, va_K.moved (u := U) (U := U.calling g mk a) (Vm.Alike.refl U.vm) qK, qD⟩, fun U hU hW => ⟨rfl, by rw [hU], by rw [hU]; exact hPc, va_K.moved hW.alike hKc, hDc.weaken (fun _ _ _ _ => trivial)⟩⟩ rfl rfl hl.1 rfl (lv_room (Nat.le_of_ble_eq_true rfl)) dX7_meeting_33 ⟨Nat.zero_le _, Nat.zero_le _⟩) hS (fun q _ h => hFc q h) hFc (fun r_2 u t H1 locs ht hvm hw hB hz1 hk1 hS => ?_)
    obtain ⟨hP1, hK1, hD1⟩ := hB
    rw [ht] at hP1
    obtain ⟨hP, hD⟩ := va_join (wr := [(h0, .inr (8, [.int 0, .int 0, .int 0, .ref b3, .ref b4, .int 0, .ref b6, .ref b7, .ref b8, .ref b9, .ref b10, .ref b11, .ref b12, .ref b13, .int 0, .ref b15, .ref b16, .ref b17, .ref b18, .ref b19, .ref b20, .ref b21, .int 0, .int 0, .int 0, .int 0, .long 0, .int (-1), .int 0, .int 0, .int 0, .int 0, .int 0, .int 0, .ref b34, .ref b35, .int 0, .ref b37, .ref b38, .ref b39, .ref b40, .ref b41])), (b3, .inl (cD, 30, .inl fd)), (b4, .inl (cC, 30, .inl fc))]) (w1 := []) hP hD [] [0, 1, 2] rfl rfl (by decide) (by decide) hk1 hFc hP1 hD1
    generalize H1 = H at hP hS ⊢
    have hP : va_P (dC, dI) vwCl [(h0, .inr (8, [.int 0, .int 0, .int 0, .ref b3, .ref b4, .int 0, .ref b6, .ref b7, .ref b8, .ref b9, .ref b10, .ref b11, .ref b12, .ref b13, .int 0, .ref b15, .ref b16, .ref b17, .ref b18, .ref b19, .ref b20, .ref b21, .int 0, .int 0, .int 0, .int 0, .long 0, .int (-1), .int 0, .int 0, .int 0, .int 0, .int 0, .int 0, .ref b34, .ref b35, .int 0, .ref b37, .ref b38, .ref b39, .ref b40, .ref b41])), (b3, .inl (cD, 30, .inl fd)), (b4, .inl (cC, 30, .inl fc))] H := hP
    have hD : va_D A [(h0, .inr (8, [.int 0, .int 0, .int 0, .ref b3, .ref b4, .int 0, .ref b6, .ref b7, .ref b8, .ref b9, .ref b10, .ref b11, .ref b12, .ref b13, .int 0, .ref b15, .ref b16, .ref b17, .ref b18, .ref b19, .ref b20, .ref b21, .int 0, .int 0, .int 0, .int 0, .long 0, .int (-1), .int 0, .int 0, .int 0, .int 0, .int 0, .int 0, .ref b34, .ref b35, .int 0, .ref b37, .ref b38, .ref b39, .ref b40, .ref b41])), (b3, .inl (cD, 30, .inl fd)), (b4, .inl (cC, 30, .inl fc))] := hD
    obtain rfl : r_2 = (if (p0).toInt64 < 0 ∨ 999 < (p0).toInt64 then 0 else 1) := hw
    refine lv_if_ne (tgt := 45) hx hb dX7_meeting_36 (by decide) (fun c_3 => ?_) (fun c_3 => ?_)
    · refine lv_aload_n hx hb dX7_meeting_45 rfl (lv_at hl 0 rfl) ?_
      refine va_get (D := (dC, dI)) (ci := 8) (v := .int 0) (C := RX7) (T := TX7) (N := 42) hx hb hts hinX7 hown hK hP 0 rfl rfl 2 (by decide) (hts (.fieldLink RX7 94 "AgreedTalksModel" "meetings" "I") (by decide +kernel)) (fun _ h9 => h9) rfl dX7_meeting_46 ?_
      refine lv_bipush (v := 30) hx hb dX7_meeting_49 (by decide) ?_
      refine lv_icmp_ne (tgt := 61) hx hb dX7_meeting_51 (by decide) (fun c_4 => ?_) (fun c_4 => ?_)
      · refine lv_aload_n hx hb dX7_meeting_61 rfl (lv_at hl 0 rfl) ?_
        refine va_get (D := (dC, dI)) (ci := 8) (v := .ref b3) (C := RX7) (T := TX7) (N := 42) hx hb hts hinX7 hown hK hP 0 rfl rfl 3 (by decide) (hts (.fieldLink RX7 7 "AgreedTalksModel" "days" "[I") (by decide +kernel)) (fun _ h9 => h9) rfl dX7_meeting_62 ?_
        refine lv_aload_n hx hb dX7_meeting_65 rfl (lv_at hl 0 rfl) ?_
        refine va_get (D := (dC, dI)) (ci := 8) (v := .int 0) (C := RX7) (T := TX7) (N := 42) hx hb hts hinX7 hown hK hP 0 rfl rfl 2 (by decide) (hts (.fieldLink RX7 94 "AgreedTalksModel" "meetings" "I") (by decide +kernel)) (fun _ h9 => h9) rfl dX7_meeting_66 ?_
        refine lv_iload_n hx hb dX7_meeting_69 rfl (lv_at hl 1 rfl) ?_
        refine va_iast hx hb hK hP hD hS 1 0 rfl rfl (show vp_in (nI 0) 30 from vp_in_nI (by decide) (by decide)) dX7_meeting_70 (fun H locs hP hD hS => ?_)
        have hP : va_P (dC, dI) vwCl [(h0, .inr (8, [.int 0, .int 0, .int 0, .ref b3, .ref b4, .int 0, .ref b6, .ref b7, .ref b8, .ref b9, .ref b10, .ref b11, .ref b12, .ref b13, .int 0, .ref b15, .ref b16, .ref b17, .ref b18, .ref b19, .ref b20, .ref b21, .int 0, .int 0, .int 0, .int 0, .long 0, .int (-1), .int 0, .int 0, .int 0, .int 0, .int 0, .int 0, .ref b34, .ref b35, .int 0, .ref b37, .ref b38, .ref b39, .ref b40, .ref b41])), (b3, .inl (cD, 30, .inl (upd fd (Int32.toNatClampNeg 0) p0))), (b4, .inl (cC, 30, .inl fc))] H := hP
        have hD : va_D A [(h0, .inr (8, [.int 0, .int 0, .int 0, .ref b3, .ref b4, .int 0, .ref b6, .ref b7, .ref b8, .ref b9, .ref b10, .ref b11, .ref b12, .ref b13, .int 0, .ref b15, .ref b16, .ref b17, .ref b18, .ref b19, .ref b20, .ref b21, .int 0, .int 0, .int 0, .int 0, .long 0, .int (-1), .int 0, .int 0, .int 0, .int 0, .int 0, .int 0, .ref b34, .ref b35, .int 0, .ref b37, .ref b38, .ref b39, .ref b40, .ref b41])), (b3, .inl (cD, 30, .inl (upd fd (Int32.toNatClampNeg 0) p0))), (b4, .inl (cC, 30, .inl fc))] := hD
        generalize ef_5 : upd fd (Int32.toNatClampNeg 0) p0 = f_5 at hP hD
        refine lv_aload_n hx hb dX7_meeting_71 rfl (lv_at hl 0 rfl) ?_
        refine va_get (D := (dC, dI)) (ci := 8) (v := .ref b4) (C := RX7) (T := TX7) (N := 42) hx hb hts hinX7 hown hK hP 0 rfl rfl 4 (by decide) (hts (.fieldLink RX7 13 "AgreedTalksModel" "counting" "[I") (by decide +kernel)) (fun _ h9 => h9) rfl dX7_meeting_72 ?_
        refine lv_aload_n hx hb dX7_meeting_75 rfl (lv_at hl 0 rfl) ?_
        refine va_get (D := (dC, dI)) (ci := 8) (v := .int 0) (C := RX7) (T := TX7) (N := 42) hx hb hts hinX7 hown hK hP 0 rfl rfl 2 (by decide) (hts (.fieldLink RX7 94 "AgreedTalksModel" "meetings" "I") (by decide +kernel)) (fun _ h9 => h9) rfl dX7_meeting_76 ?_
        refine lv_iconst (v := (-1)) hx hb dX7_meeting_79 (by decide) ?_
        refine va_iast hx hb hK hP hD hS 2 1 rfl rfl (show vp_in (nI 0) 30 from vp_in_nI (by decide) (by decide)) dX7_meeting_80 (fun H locs hP hD hS => ?_)
        have hP : va_P (dC, dI) vwCl [(h0, .inr (8, [.int 0, .int 0, .int 0, .ref b3, .ref b4, .int 0, .ref b6, .ref b7, .ref b8, .ref b9, .ref b10, .ref b11, .ref b12, .ref b13, .int 0, .ref b15, .ref b16, .ref b17, .ref b18, .ref b19, .ref b20, .ref b21, .int 0, .int 0, .int 0, .int 0, .long 0, .int (-1), .int 0, .int 0, .int 0, .int 0, .int 0, .int 0, .ref b34, .ref b35, .int 0, .ref b37, .ref b38, .ref b39, .ref b40, .ref b41])), (b3, .inl (cD, 30, .inl f_5)), (b4, .inl (cC, 30, .inl (upd fc (Int32.toNatClampNeg 0) (-1))))] H := hP
        have hD : va_D A [(h0, .inr (8, [.int 0, .int 0, .int 0, .ref b3, .ref b4, .int 0, .ref b6, .ref b7, .ref b8, .ref b9, .ref b10, .ref b11, .ref b12, .ref b13, .int 0, .ref b15, .ref b16, .ref b17, .ref b18, .ref b19, .ref b20, .ref b21, .int 0, .int 0, .int 0, .int 0, .long 0, .int (-1), .int 0, .int 0, .int 0, .int 0, .int 0, .int 0, .ref b34, .ref b35, .int 0, .ref b37, .ref b38, .ref b39, .ref b40, .ref b41])), (b3, .inl (cD, 30, .inl f_5)), (b4, .inl (cC, 30, .inl (upd fc (Int32.toNatClampNeg 0) (-1))))] := hD
        generalize ef_6 : upd fc (Int32.toNatClampNeg 0) (-1) = f_6 at hP hD
        refine lv_aload_n hx hb dX7_meeting_81 rfl (lv_at hl 0 rfl) ?_
        refine lv_dup hx hb dX7_meeting_82 rfl ?_
        refine va_get (D := (dC, dI)) (ci := 8) (v := .int 0) (C := RX7) (T := TX7) (N := 42) hx hb hts hinX7 hown hK hP 0 rfl rfl 2 (by decide) (hts (.fieldLink RX7 94 "AgreedTalksModel" "meetings" "I") (by decide +kernel)) (fun _ h9 => h9) rfl dX7_meeting_83 ?_
        refine lv_iconst (v := 1) hx hb dX7_meeting_86 (by decide) ?_
        refine lv_iadd hx hb dX7_meeting_87 ?_
        refine lv_topi (fun x_7 ex_7 => ?_)
        obtain rfl : x_7 = 1 := by rw [ex_7]; decide
        refine va_put (D := (dC, dI)) (ci := 8) (v := .int 1) (ty := .int) (C := RX7) (T := TX7) (N := 42) hx hb hts hinX7 tyX7 tyX7_ok nmX7 hown hK hP hD hS 0 rfl rfl 2 (by decide) (hts (.fieldLink RX7 94 "AgreedTalksModel" "meetings" "I") (by decide +kernel)) (fun _ h9 => h9) rfl (by decide +kernel) rfl rfl (Nat.le_of_ble_eq_true rfl) dX7_meeting_88 (fun H locs hP hD hS => ?_)
        have hP : va_P (dC, dI) vwCl [(h0, .inr (8, [.int 0, .int 0, .int 1, .ref b3, .ref b4, .int 0, .ref b6, .ref b7, .ref b8, .ref b9, .ref b10, .ref b11, .ref b12, .ref b13, .int 0, .ref b15, .ref b16, .ref b17, .ref b18, .ref b19, .ref b20, .ref b21, .int 0, .int 0, .int 0, .int 0, .long 0, .int (-1), .int 0, .int 0, .int 0, .int 0, .int 0, .int 0, .ref b34, .ref b35, .int 0, .ref b37, .ref b38, .ref b39, .ref b40, .ref b41])), (b3, .inl (cD, 30, .inl f_5)), (b4, .inl (cC, 30, .inl f_6))] H := hP
        have hD : va_D A [(h0, .inr (8, [.int 0, .int 0, .int 1, .ref b3, .ref b4, .int 0, .ref b6, .ref b7, .ref b8, .ref b9, .ref b10, .ref b11, .ref b12, .ref b13, .int 0, .ref b15, .ref b16, .ref b17, .ref b18, .ref b19, .ref b20, .ref b21, .int 0, .int 0, .int 0, .int 0, .long 0, .int (-1), .int 0, .int 0, .int 0, .int 0, .int 0, .int 0, .ref b34, .ref b35, .int 0, .ref b37, .ref b38, .ref b39, .ref b40, .ref b41])), (b3, .inl (cD, 30, .inl f_5)), (b4, .inl (cC, 30, .inl f_6))] := hD
        refine lv_aload_n hx hb dX7_meeting_91 rfl (lv_at hl 0 rfl) ?_
        refine lv_aload_n hx hb dX7_meeting_92 rfl (lv_at hl 0 rfl) ?_
        refine va_get (D := (dC, dI)) (ci := 8) (v := .int 1) (C := RX7) (T := TX7) (N := 42) hx hb hts hinX7 hown hK hP 0 rfl rfl 2 (by decide) (hts (.fieldLink RX7 94 "AgreedTalksModel" "meetings" "I") (by decide +kernel)) (fun _ h9 => h9) rfl dX7_meeting_93 ?_
        refine lv_iconst (v := 1) hx hb dX7_meeting_96 (by decide) ?_
        refine lv_isub hx hb dX7_meeting_97 ?_
        refine lv_topi (fun x_8 ex_8 => ?_)
        obtain rfl : x_8 = 0 := by rw [ex_8]; decide
        have hPc := hP.sub (ws' := [(h0, .inr (8, [.int 0, .int 0, .int 1, .ref b3, .ref b4, .int 0, .ref b6, .ref b7, .ref b8, .ref b9, .ref b10, .ref b11, .ref b12, .ref b13, .int 0, .ref b15, .ref b16, .ref b17, .ref b18, .ref b19, .ref b20, .ref b21, .int 0, .int 0, .int 0, .int 0, .long 0, .int (-1), .int 0, .int 0, .int 0, .int 0, .int 0, .int 0, .ref b34, .ref b35, .int 0, .ref b37, .ref b38, .ref b39, .ref b40, .ref b41]))]) [0] rfl
        have hDc := hD.sub (ws' := [(h0, .inr (8, [.int 0, .int 0, .int 1, .ref b3, .ref b4, .int 0, .ref b6, .ref b7, .ref b8, .ref b9, .ref b10, .ref b11, .ref b12, .ref b13, .int 0, .ref b15, .ref b16, .ref b17, .ref b18, .ref b19, .ref b20, .ref b21, .int 0, .int 0, .int 0, .int 0, .long 0, .int (-1), .int 0, .int 0, .int 0, .int 0, .int 0, .int 0, .ref b34, .ref b35, .int 0, .ref b37, .ref b38, .ref b39, .ref b40, .ref b41]))]) [0] (by decide) rfl
        have hKc := hK.sub (tys' := []) [] rfl
        have hFc := va_free (wc := [(h0, .inr (8, [.int 0, .int 0, .int 1, .ref b3, .ref b4, .int 0, .ref b6, .ref b7, .ref b8, .ref b9, .ref b10, .ref b11, .ref b12, .ref b13, .int 0, .ref b15, .ref b16, .ref b17, .ref b18, .ref b19, .ref b20, .ref b21, .int 0, .int 0, .int 0, .int 0, .long 0, .int (-1), .int 0, .int 0, .int 0, .int 0, .int 0, .int 0, .ref b34, .ref b35, .int 0, .ref b37, .ref b38, .ref b39, .ref b40, .ref b41]))]) hD hS hA [0] rfl
        refine va_calli (va_runV (As := [.int 0]) (rest := []) ⟨hx, hb, hml, hown, hts⟩ (c_X7_told l dC dI _ h0 b3 b4 b6 b7 b8 b9 b10 b11 b12 b13 b15 b16 b17 b18 b19 b20 b21 b34 b35 b37 b38 b39 b40 b41 0 0 1) (cwV 1 hts gc_X7_meeting_X7_told rfl rfl rfl (by decide +kernel) ⟨Nat.le_of_ble_eq_true rfl, Nat.le_of_ble_eq_true rfl⟩) ⟨fun a U g mk q => by obtain ⟨q0, q1, qP, qK, qD⟩ := q; exact ⟨q0, q1, qP, va_K.moved (u := U) (U := U.calling g mk a) (Vm.Alike.refl U.vm) qK, qD⟩, va_recv hKc hPc (ci := 8) (q0 := 0) rfl rfl, fun U hU hW => ⟨rfl, by rw [hU], by rw [hU]; exact hPc, va_K.moved hW.alike hKc, hDc.weaken (fun _ _ _ _ => trivial)⟩⟩ rfl rfl hl.1 rfl (lv_room (Nat.le_of_ble_eq_true rfl)) dX7_meeting_98 ⟨Nat.zero_le _, Nat.zero_le _⟩) hS (fun q _ h => hFc q h) hFc (fun r_9 u t H1 locs ht hvm hw hB hz1 hk1 hS => ?_)
        obtain ⟨sv_10, hf_11, hP1, hK1, hD1⟩ := hB
        rw [ht] at hP1
        obtain ⟨hP, hD⟩ := va_join (wr := [(b3, .inl (cD, 30, .inl f_5)), (b4, .inl (cC, 30, .inl f_6))]) (w1 := [(h0, .inr (8, [.int 0, .int sv_10, .int 1, .ref b3, .ref b4, .int 0, .ref b6, .ref b7, .ref b8, .ref b9, .ref b10, .ref b11, .ref b12, .ref b13, .int 0, .ref b15, .ref b16, .ref b17, .ref b18, .ref b19, .ref b20, .ref b21, .int 0, .int 0, .int 0, .int 0, .long 0, .int (-1), .int 0, .int 0, .int 0, .int 0, .int 0, .int 0, .ref b34, .ref b35, .int 0, .ref b37, .ref b38, .ref b39, .ref b40, .ref b41]))]) hP hD [0] [1, 2] rfl rfl (by decide) (by decide) hk1 hFc hP1 hD1
        generalize H1 = H at hP hS ⊢
        have hP : va_P (dC, dI) vwCl [(b3, .inl (cD, 30, .inl f_5)), (b4, .inl (cC, 30, .inl f_6)), (h0, .inr (8, [.int 0, .int sv_10, .int 1, .ref b3, .ref b4, .int 0, .ref b6, .ref b7, .ref b8, .ref b9, .ref b10, .ref b11, .ref b12, .ref b13, .int 0, .ref b15, .ref b16, .ref b17, .ref b18, .ref b19, .ref b20, .ref b21, .int 0, .int 0, .int 0, .int 0, .long 0, .int (-1), .int 0, .int 0, .int 0, .int 0, .int 0, .int 0, .ref b34, .ref b35, .int 0, .ref b37, .ref b38, .ref b39, .ref b40, .ref b41]))] H := hP
        have hD : va_D A [(b3, .inl (cD, 30, .inl f_5)), (b4, .inl (cC, 30, .inl f_6)), (h0, .inr (8, [.int 0, .int sv_10, .int 1, .ref b3, .ref b4, .int 0, .ref b6, .ref b7, .ref b8, .ref b9, .ref b10, .ref b11, .ref b12, .ref b13, .int 0, .ref b15, .ref b16, .ref b17, .ref b18, .ref b19, .ref b20, .ref b21, .int 0, .int 0, .int 0, .int 0, .long 0, .int (-1), .int 0, .int 0, .int 0, .int 0, .int 0, .int 0, .ref b34, .ref b35, .int 0, .ref b37, .ref b38, .ref b39, .ref b40, .ref b41]))] := hD
        obtain rfl : r_9 = 0 := hw
        have hP9 := hP.sub (ws' := []) [] rfl
        have hD9 := hD.sub (ws' := []) [] (by decide) rfl
        have hK9 := hK.sub (tys' := []) [] rfl
        exact W.iret (v := 0) hx hb hr (fun t ht hW => ⟨⟨0, (), rfl, lk_mt1 c_3, by rw [ht]; exact hP9, va_K.moved hW.alike hK9, hD9⟩, hS.F ht⟩) hS.2.2 dX7_meeting_101
      · exact absurd c_4 (by decide)
    · refine lv_aload_n hx hb dX7_meeting_39 rfl (lv_at hl 0 rfl) ?_
      refine lv_iconst (v := (-1)) hx hb dX7_meeting_40 (by decide) ?_
      have hPc := hP.sub (ws' := [(h0, .inr (8, [.int 0, .int 0, .int 0, .ref b3, .ref b4, .int 0, .ref b6, .ref b7, .ref b8, .ref b9, .ref b10, .ref b11, .ref b12, .ref b13, .int 0, .ref b15, .ref b16, .ref b17, .ref b18, .ref b19, .ref b20, .ref b21, .int 0, .int 0, .int 0, .int 0, .long 0, .int (-1), .int 0, .int 0, .int 0, .int 0, .int 0, .int 0, .ref b34, .ref b35, .int 0, .ref b37, .ref b38, .ref b39, .ref b40, .ref b41]))]) [0] rfl
      have hDc := hD.sub (ws' := [(h0, .inr (8, [.int 0, .int 0, .int 0, .ref b3, .ref b4, .int 0, .ref b6, .ref b7, .ref b8, .ref b9, .ref b10, .ref b11, .ref b12, .ref b13, .int 0, .ref b15, .ref b16, .ref b17, .ref b18, .ref b19, .ref b20, .ref b21, .int 0, .int 0, .int 0, .int 0, .long 0, .int (-1), .int 0, .int 0, .int 0, .int 0, .int 0, .int 0, .ref b34, .ref b35, .int 0, .ref b37, .ref b38, .ref b39, .ref b40, .ref b41]))]) [0] (by decide) rfl
      have hKc := hK.sub (tys' := []) [] rfl
      have hFc := va_free (wc := [(h0, .inr (8, [.int 0, .int 0, .int 0, .ref b3, .ref b4, .int 0, .ref b6, .ref b7, .ref b8, .ref b9, .ref b10, .ref b11, .ref b12, .ref b13, .int 0, .ref b15, .ref b16, .ref b17, .ref b18, .ref b19, .ref b20, .ref b21, .int 0, .int 0, .int 0, .int 0, .long 0, .int (-1), .int 0, .int 0, .int 0, .int 0, .int 0, .int 0, .ref b34, .ref b35, .int 0, .ref b37, .ref b38, .ref b39, .ref b40, .ref b41]))]) hD hS hA [0] rfl
      refine va_calli (va_runV (As := [.int (-1)]) (rest := []) ⟨hx, hb, hml, hown, hts⟩ (c_X7_told l dC dI _ h0 b3 b4 b6 b7 b8 b9 b10 b11 b12 b13 b15 b16 b17 b18 b19 b20 b21 b34 b35 b37 b38 b39 b40 b41 (-1) 0 0) (cwV 1 hts gc_X7_meeting_X7_told rfl rfl rfl (by decide +kernel) ⟨Nat.le_of_ble_eq_true rfl, Nat.le_of_ble_eq_true rfl⟩) ⟨fun a U g mk q => by obtain ⟨q0, q1, qP, qK, qD⟩ := q; exact ⟨q0, q1, qP, va_K.moved (u := U) (U := U.calling g mk a) (Vm.Alike.refl U.vm) qK, qD⟩, va_recv hKc hPc (ci := 8) (q0 := 0) rfl rfl, fun U hU hW => ⟨rfl, by rw [hU], by rw [hU]; exact hPc, va_K.moved hW.alike hKc, hDc.weaken (fun _ _ _ _ => trivial)⟩⟩ rfl rfl hl.1 rfl (lv_room (Nat.le_of_ble_eq_true rfl)) dX7_meeting_41 ⟨Nat.zero_le _, Nat.zero_le _⟩) hS (fun q _ h => hFc q h) hFc (fun r_12 u t H1 locs ht hvm hw hB hz1 hk1 hS => ?_)
      obtain ⟨sv_13, hf_14, hP1, hK1, hD1⟩ := hB
      rw [ht] at hP1
      obtain ⟨hP, hD⟩ := va_join (wr := [(b3, .inl (cD, 30, .inl fd)), (b4, .inl (cC, 30, .inl fc))]) (w1 := [(h0, .inr (8, [.int 0, .int sv_13, .int 0, .ref b3, .ref b4, .int 0, .ref b6, .ref b7, .ref b8, .ref b9, .ref b10, .ref b11, .ref b12, .ref b13, .int 0, .ref b15, .ref b16, .ref b17, .ref b18, .ref b19, .ref b20, .ref b21, .int 0, .int 0, .int 0, .int 0, .long 0, .int (-1), .int 0, .int 0, .int 0, .int 0, .int 0, .int 0, .ref b34, .ref b35, .int 0, .ref b37, .ref b38, .ref b39, .ref b40, .ref b41]))]) hP hD [0] [1, 2] rfl rfl (by decide) (by decide) hk1 hFc hP1 hD1
      generalize H1 = H at hP hS ⊢
      have hP : va_P (dC, dI) vwCl [(b3, .inl (cD, 30, .inl fd)), (b4, .inl (cC, 30, .inl fc)), (h0, .inr (8, [.int 0, .int sv_13, .int 0, .ref b3, .ref b4, .int 0, .ref b6, .ref b7, .ref b8, .ref b9, .ref b10, .ref b11, .ref b12, .ref b13, .int 0, .ref b15, .ref b16, .ref b17, .ref b18, .ref b19, .ref b20, .ref b21, .int 0, .int 0, .int 0, .int 0, .long 0, .int (-1), .int 0, .int 0, .int 0, .int 0, .int 0, .int 0, .ref b34, .ref b35, .int 0, .ref b37, .ref b38, .ref b39, .ref b40, .ref b41]))] H := hP
      have hD : va_D A [(b3, .inl (cD, 30, .inl fd)), (b4, .inl (cC, 30, .inl fc)), (h0, .inr (8, [.int 0, .int sv_13, .int 0, .ref b3, .ref b4, .int 0, .ref b6, .ref b7, .ref b8, .ref b9, .ref b10, .ref b11, .ref b12, .ref b13, .int 0, .ref b15, .ref b16, .ref b17, .ref b18, .ref b19, .ref b20, .ref b21, .int 0, .int 0, .int 0, .int 0, .long 0, .int (-1), .int 0, .int 0, .int 0, .int 0, .int 0, .int 0, .ref b34, .ref b35, .int 0, .ref b37, .ref b38, .ref b39, .ref b40, .ref b41]))] := hD
      obtain rfl : r_12 = (-1) := hw
      have hP9 := hP.sub (ws' := []) [] rfl
      have hD9 := hD.sub (ws' := []) [] (by decide) rfl
      have hK9 := hK.sub (tys' := []) [] rfl
      exact W.iret (v := (-1)) hx hb hr (fun t ht hW => ⟨⟨(-1), (), rfl, lk_mt0 c_3, by rw [ht]; exact hP9, va_K.moved hW.alike hK9, hD9⟩, hS.F ht⟩) hS.2.2 dX7_meeting_44
def wp_X7_feed : List Cond := .code yX7_feed cX7_feed 6 (some .int) :: (([.fieldLink RX7 88 "AgreedTalksModel" "thrown" "I", .fieldLink RX7 111 "AgreedTalksModel" "taped" "I"] : List Cond) ++ wsX70 ++ (wsV RX7 114 RX7 yX7_four wp_X7_four))
theorem gc_X7_feed_X7_four : GoodIn wp_X7_feed (wsV RX7 114 RX7 yX7_four wp_X7_four) := goodIn_sub (fun _ h => List.mem_cons_of_mem _ (List.mem_append_right _ h)) (by decide +kernel)
set_option maxRecDepth 20000 in
theorem gi_X7_feed : GoodIn lw_tbl wp_X7_feed := (goodIn_ca (goodIn_ca (goodIn_r (.code yX7_feed cX7_feed 6 (some .int) :: ([.fieldLink RX7 88 "AgreedTalksModel" "thrown" "I", .fieldLink RX7 111 "AgreedTalksModel" "taped" "I"] : List Cond)) [816, 673, 695] (by decide +kernel) (by decide +kernel)) wi_wsX7) (goodIn_app (goodIn_r _ [817, 819, 27, 57] (by decide +kernel) (by decide +kernel)) gi_X7_four))
set_option maxHeartbeats 4000000 in
set_option maxRecDepth 100000 in
/-- feed of the reference, on a fresh object -/
theorem c_X7_feed (l : Launch) (dC : Nat → ClassId) (dI : Nat → Nat → Nat) (sz : Nat) (h0 : Nat) (b3 : Nat) (b4 : Nat) (b6 : Nat) (b7 : Nat) (b8 : Nat) (b9 : Nat) (b10 : Nat) (b11 : Nat) (b12 : Nat) (b13 : Nat) (b15 : Nat) (b16 : Nat) (b17 : Nat) (b18 : Nat) (b19 : Nat) (b20 : Nat) (b21 : Nat) (b34 : Nat) (b35 : Nat) (b37 : Nat) (b38 : Nat) (b39 : Nat) (b40 : Nat) (b41 : Nat) (p0 : Int32) (p1 : Int32) (p2 : Int32) (p3 : Int32) (p4 : Int32) (cT : ClassId) (ft : Nat → Int32) : Met l yX7_feed wp_X7_feed ({ frames := 2, cells := 0, slots := 0, locals := 60 }) (va_Pc [.ref h0, .int p0, .int p1, .int p2, .int p3, .int p4] (fun U => U.heap.size = sz ∧ va_P (dC, dI) vwCl [(h0, .inr (8, [.int 0, .int 0, .int 0, .ref b3, .ref b4, .int 0, .ref b6, .ref b7, .ref b8, .ref b9, .ref b10, .ref b11, .ref b12, .ref b13, .int 0, .ref b15, .ref b16, .ref b17, .ref b18, .ref b19, .ref b20, .ref b21, .int 0, .int 0, .int 0, .int 0, .long 0, .int (-1), .int 0, .int 0, .int 0, .int 0, .int 0, .int 0, .ref b34, .ref b35, .int 0, .ref b37, .ref b38, .ref b39, .ref b40, .ref b41])), (b21, .inl (cT, 300, .inl ft))] U.heap ∧ va_K (dC, dI) vwCl [(cT, .int)] U ∧ va_D (fun _ => True) [(h0, .inr (8, [.int 0, .int 0, .int 0, .ref b3, .ref b4, .int 0, .ref b6, .ref b7, .ref b8, .ref b9, .ref b10, .ref b11, .ref b12, .ref b13, .int 0, .ref b15, .ref b16, .ref b17, .ref b18, .ref b19, .ref b20, .ref b21, .int 0, .int 0, .int 0, .int 0, .long 0, .int (-1), .int 0, .int 0, .int 0, .int 0, .int 0, .int 0, .ref b34, .ref b35, .int 0, .ref b37, .ref b38, .ref b39, .ref b40, .ref b41])), (b21, .inl (cT, 300, .inl ft))])) (va_Qi (fun (r : Int32) (_ : Unit) => r = 20) (fun (_ : Unit) (t : State) => va_P (dC, dI) vwCl [] t.heap ∧ va_K (dC, dI) vwCl [] t ∧ va_D (va_A [(h0, .inr (8, [.int 0, .int 0, .int 0, .ref b3, .ref b4, .int 0, .ref b6, .ref b7, .ref b8, .ref b9, .ref b10, .ref b11, .ref b12, .ref b13, .int 0, .ref b15, .ref b16, .ref b17, .ref b18, .ref b19, .ref b20, .ref b21, .int 0, .int 0, .int 0, .int 0, .long 0, .int (-1), .int 0, .int 0, .int 0, .int 0, .int 0, .int 0, .ref b34, .ref b35, .int 0, .ref b37, .ref b38, .ref b39, .ref b40, .ref b41])), (b21, .inl (cT, 300, .inl ft))] sz) []) (va_A [(h0, .inr (8, [.int 0, .int 0, .int 0, .ref b3, .ref b4, .int 0, .ref b6, .ref b7, .ref b8, .ref b9, .ref b10, .ref b11, .ref b12, .ref b13, .int 0, .ref b15, .ref b16, .ref b17, .ref b18, .ref b19, .ref b20, .ref b21, .int 0, .int 0, .int 0, .int 0, .long 0, .int (-1), .int 0, .int 0, .int 0, .int 0, .int 0, .int 0, .ref b34, .ref b35, .int 0, .ref b37, .ref b38, .ref b39, .ref b40, .ref b41])), (b21, .inl (cT, 300, .inl ft))] sz)) 0 0 (va_A [(h0, .inr (8, [.int 0, .int 0, .int 0, .ref b3, .ref b4, .int 0, .ref b6, .ref b7, .ref b8, .ref b9, .ref b10, .ref b11, .ref b12, .ref b13, .int 0, .ref b15, .ref b16, .ref b17, .ref b18, .ref b19, .ref b20, .ref b21, .int 0, .int 0, .int 0, .int 0, .long 0, .int (-1), .int 0, .int 0, .int 0, .int 0, .int 0, .int 0, .ref b34, .ref b35, .int 0, .ref b37, .ref b38, .ref b39, .ref b40, .ref b41])), (b21, .inl (cT, 300, .inl ft))] sz) := by
  refine Met.ofW (cc := cX7_feed) (maxL := 6) (ret := (some .int)) (by decide) rfl ?_
  intro p e s m args below meth c s₁ B hml hv
  obtain ⟨rfl, hsz, hP, hK, hD0⟩ := hv
  have hx := B.exec
  have hb := B.bytes
  have hr := B.returns
  have hts := atoms_spec (ws := wp_X7_feed) B.pre
  have hown : s.vm.findClass RX7 = some m.cls := findClass_of_methodNamed B.named
  have hlocks := B.notSynchronized
  subst hsz
  have hD := hD0.self (sz := s.heap.size)
  generalize hAe : va_A [(h0, .inr (8, [.int 0, .int 0, .int 0, .ref b3, .ref b4, .int 0, .ref b6, .ref b7, .ref b8, .ref b9, .ref b10, .ref b11, .ref b12, .ref b13, .int 0, .ref b15, .ref b16, .ref b17, .ref b18, .ref b19, .ref b20, .ref b21, .int 0, .int 0, .int 0, .int 0, .long 0, .int (-1), .int 0, .int 0, .int 0, .int 0, .int 0, .int 0, .ref b34, .ref b35, .int 0, .ref b37, .ref b38, .ref b39, .ref b40, .ref b41])), (b21, .inl (cT, 300, .inl ft))] s.heap.size = A at hD ⊢
  have hA : ∀ q : Nat, s.heap.size ≤ q → A q := fun q h => by rw [← hAe]; exact Or.inr h
  have hS : va_S A s.heap s.heap [] := va_S.rf
  have hP : va_P (dC, dI) vwCl [(h0, .inr (8, [.int 0, .int 0, .int 0, .ref b3, .ref b4, .int 0, .ref b6, .ref b7, .ref b8, .ref b9, .ref b10, .ref b11, .ref b12, .ref b13, .int 0, .ref b15, .ref b16, .ref b17, .ref b18, .ref b19, .ref b20, .ref b21, .int 0, .int 0, .int 0, .int 0, .long 0, .int (-1), .int 0, .int 0, .int 0, .int 0, .int 0, .int 0, .ref b34, .ref b35, .int 0, .ref b37, .ref b38, .ref b39, .ref b40, .ref b41])), (b21, .inl (cT, 300, .inl ft))] s.heap := hP
  have hl := lv_entry ([.ref h0, .int p0, .int p1, .int p2, .int p3, .int p4]) (n := 6) (Nat.le_of_ble_eq_true rfl)
  rw [lg_entry_eq]
  generalize (lg_sl ([.ref h0, .int p0, .int p1, .int p2, .int p3, .int p4]) ++ List.replicate (6 - (lg_sl ([.ref h0, .int p0, .int p1, .int p2, .int p3, .int p4])).length) Slot.unset).toArray = ls at hl ⊢
  have hl : lv_has ls 6 [(0, .ref h0), (1, .int p0), (2, .int p1), (3, .int p2), (4, .int p3), (5, .int p4)] := hl
  have hinX7 : ∀ w ∈ u_ws RX7 TX7 42, w ∈ wp_X7_feed := fun _ h => List.mem_cons_of_mem _ (List.mem_append_left _ (List.mem_append_right _ h))
  refine lv_aload_n hx hb dX7_feed_0 rfl (lv_at hl 0 rfl) ?_
  refine lv_iconst (v := 0) hx hb dX7_feed_1 (by decide) ?_
  refine va_put (D := (dC, dI)) (ci := 8) (v := .int 0) (ty := .int) (C := RX7) (T := TX7) (N := 42) hx hb hts hinX7 tyX7 tyX7_ok nmX7 hown hK hP hD hS 0 rfl rfl 0 (by decide) (hts (.fieldLink RX7 88 "AgreedTalksModel" "thrown" "I") (by decide +kernel)) (fun _ h9 => h9) rfl (by decide +kernel) rfl rfl (Nat.le_of_ble_eq_true rfl) dX7_feed_2 (fun H locs hP hD hS => ?_)
  have hP : va_P (dC, dI) vwCl [(h0, .inr (8, [.int 0, .int 0, .int 0, .ref b3, .ref b4, .int 0, .ref b6, .ref b7, .ref b8, .ref b9, .ref b10, .ref b11, .ref b12, .ref b13, .int 0, .ref b15, .ref b16, .ref b17, .ref b18, .ref b19, .ref b20, .ref b21, .int 0, .int 0, .int 0, .int 0, .long 0, .int (-1), .int 0, .int 0, .int 0, .int 0, .int 0, .int 0, .ref b34, .ref b35, .int 0, .ref b37, .ref b38, .ref b39, .ref b40, .ref b41])), (b21, .inl (cT, 300, .inl ft))] H := hP
  have hD : va_D A [(h0, .inr (8, [.int 0, .int 0, .int 0, .ref b3, .ref b4, .int 0, .ref b6, .ref b7, .ref b8, .ref b9, .ref b10, .ref b11, .ref b12, .ref b13, .int 0, .ref b15, .ref b16, .ref b17, .ref b18, .ref b19, .ref b20, .ref b21, .int 0, .int 0, .int 0, .int 0, .long 0, .int (-1), .int 0, .int 0, .int 0, .int 0, .int 0, .int 0, .ref b34, .ref b35, .int 0, .ref b37, .ref b38, .ref b39, .ref b40, .ref b41])), (b21, .inl (cT, 300, .inl ft))] := hD
  refine lv_aload_n hx hb dX7_feed_5 rfl (lv_at hl 0 rfl) ?_
  refine va_get (D := (dC, dI)) (ci := 8) (v := .int 0) (C := RX7) (T := TX7) (N := 42) hx hb hts hinX7 hown hK hP 0 rfl rfl 22 (by decide) (hts (.fieldLink RX7 111 "AgreedTalksModel" "taped" "I") (by decide +kernel)) (fun _ h9 => h9) rfl dX7_feed_6 ?_
  refine lv_bipush (v := 20) hx hb dX7_feed_9 (by decide) ?_
  refine lv_iadd hx hb dX7_feed_11 ?_
  refine lv_topi (fun x_1 ex_1 => ?_)
  obtain rfl : x_1 = 20 := by rw [ex_1]; decide
  refine lv_sipush (v := 300) hx hb dX7_feed_12 (by decide) ?_
  refine lv_icmp_le (tgt := 20) hx hb dX7_feed_15 (by decide) (fun c_2 => ?_) (fun c_2 => ?_)
  · refine lv_aload_n hx hb dX7_feed_20 rfl (lv_at hl 0 rfl) ?_
    refine lv_iload_n hx hb dX7_feed_21 rfl (lv_at hl 1 rfl) ?_
    have hPc := hP.sub (ws' := [(h0, .inr (8, [.int 0, .int 0, .int 0, .ref b3, .ref b4, .int 0, .ref b6, .ref b7, .ref b8, .ref b9, .ref b10, .ref b11, .ref b12, .ref b13, .int 0, .ref b15, .ref b16, .ref b17, .ref b18, .ref b19, .ref b20, .ref b21, .int 0, .int 0, .int 0, .int 0, .long 0, .int (-1), .int 0, .int 0, .int 0, .int 0, .int 0, .int 0, .ref b34, .ref b35, .int 0, .ref b37, .ref b38, .ref b39, .ref b40, .ref b41])), (b21, .inl (cT, 300, .inl ft))]) [0, 1] rfl
    have hDc := hD.sub (ws' := [(h0, .inr (8, [.int 0, .int 0, .int 0, .ref b3, .ref b4, .int 0, .ref b6, .ref b7, .ref b8, .ref b9, .ref b10, .ref b11, .ref b12, .ref b13, .int 0, .ref b15, .ref b16, .ref b17, .ref b18, .ref b19, .ref b20, .ref b21, .int 0, .int 0, .int 0, .int 0, .long 0, .int (-1), .int 0, .int 0, .int 0, .int 0, .int 0, .int 0, .ref b34, .ref b35, .int 0, .ref b37, .ref b38, .ref b39, .ref b40, .ref b41])), (b21, .inl (cT, 300, .inl ft))]) [0, 1] (by decide) rfl
    have hKc := hK.sub (tys' := [(cT, .int)]) [0] rfl
    have hFc := va_free (wc := [(h0, .inr (8, [.int 0, .int 0, .int 0, .ref b3, .ref b4, .int 0, .ref b6, .ref b7, .ref b8, .ref b9, .ref b10, .ref b11, .ref b12, .ref b13, .int 0, .ref b15, .ref b16, .ref b17, .ref b18, .ref b19, .ref b20, .ref b21, .int 0, .int 0, .int 0, .int 0, .long 0, .int (-1), .int 0, .int 0, .int 0, .int 0, .int 0, .int 0, .ref b34, .ref b35, .int 0, .ref b37, .ref b38, .ref b39, .ref b40, .ref b41])), (b21, .inl (cT, 300, .inl ft))]) hD hS hA [0, 1] rfl
    refine va_callv (va_runV (As := [.int p0]) (rest := []) ⟨hx, hb, hml, hown, hts⟩ (c_X7_four l dC dI _ h0 b3 b4 b6 b7 b8 b9 b10 b11 b12 b13 b15 b16 b17 b18 b19 b20 b21 b34 b35 b37 b38 b39 b40 b41 0 p0 cT ft (by decide)) (cwV 1 hts gc_X7_feed_X7_four rfl rfl rfl (by decide +kernel) ⟨Nat.le_of_ble_eq_true rfl, Nat.le_of_ble_eq_true rfl⟩) ⟨fun a U g mk q => by obtain ⟨q0, q1, qP, qK, qD⟩ := q; exact ⟨q0, q1, qP, va_K.moved (u := U) (U := U.calling g mk a) (Vm.Alike.refl U.vm) qK, qD⟩, va_recv hKc hPc (ci := 8) (q0 := 0) rfl rfl, fun U hU hW => ⟨rfl, by rw [hU], by rw [hU]; exact hPc, va_K.moved hW.alike hKc, hDc.weaken (fun _ _ _ _ => trivial)⟩⟩ rfl rfl hl.1 rfl (lv_room (Nat.le_of_ble_eq_true rfl)) dX7_feed_22 ⟨Nat.zero_le _, Nat.zero_le _⟩) hS (fun q _ h => hFc q h) hFc (fun u t H1 locs ht hvm hw hB hz1 hk1 hS => ?_)
    obtain ⟨gt_3, hP1, hK1, hD1⟩ := hB
    rw [ht] at hP1
    obtain ⟨hP, hD⟩ := va_join (wr := []) (w1 := [(h0, .inr (8, [.int 0, .int 0, .int 0, .ref b3, .ref b4, .int 0, .ref b6, .ref b7, .ref b8, .ref b9, .ref b10, .ref b11, .ref b12, .ref b13, .int 0, .ref b15, .ref b16, .ref b17, .ref b18, .ref b19, .ref b20, .ref b21, .int 4, .int 0, .int 0, .int 0, .long 0, .int (-1), .int 0, .int 0, .int 0, .int 0, .int 0, .int 0, .ref b34, .ref b35, .int 0, .ref b37, .ref b38, .ref b39, .ref b40, .ref b41])), (b21, .inl (cT, 300, .inl gt_3))]) hP hD [0, 1] [] rfl rfl (by decide) (by decide) hk1 hFc hP1 hD1
    generalize H1 = H at hP hS ⊢
    have hP : va_P (dC, dI) vwCl [(h0, .inr (8, [.int 0, .int 0, .int 0, .ref b3, .ref b4, .int 0, .ref b6, .ref b7, .ref b8, .ref b9, .ref b10, .ref b11, .ref b12, .ref b13, .int 0, .ref b15, .ref b16, .ref b17, .ref b18, .ref b19, .ref b20, .ref b21, .int 4, .int 0, .int 0, .int 0, .long 0, .int (-1), .int 0, .int 0, .int 0, .int 0, .int 0, .int 0, .ref b34, .ref b35, .int 0, .ref b37, .ref b38, .ref b39, .ref b40, .ref b41])), (b21, .inl (cT, 300, .inl gt_3))] H := hP
    have hD : va_D A [(h0, .inr (8, [.int 0, .int 0, .int 0, .ref b3, .ref b4, .int 0, .ref b6, .ref b7, .ref b8, .ref b9, .ref b10, .ref b11, .ref b12, .ref b13, .int 0, .ref b15, .ref b16, .ref b17, .ref b18, .ref b19, .ref b20, .ref b21, .int 4, .int 0, .int 0, .int 0, .long 0, .int (-1), .int 0, .int 0, .int 0, .int 0, .int 0, .int 0, .ref b34, .ref b35, .int 0, .ref b37, .ref b38, .ref b39, .ref b40, .ref b41])), (b21, .inl (cT, 300, .inl gt_3))] := hD
    refine lv_aload_n hx hb dX7_feed_25 rfl (lv_at hl 0 rfl) ?_
    refine lv_iload_n hx hb dX7_feed_26 rfl (lv_at hl 2 rfl) ?_
    have hPc := hP.sub (ws' := [(h0, .inr (8, [.int 0, .int 0, .int 0, .ref b3, .ref b4, .int 0, .ref b6, .ref b7, .ref b8, .ref b9, .ref b10, .ref b11, .ref b12, .ref b13, .int 0, .ref b15, .ref b16, .ref b17, .ref b18, .ref b19, .ref b20, .ref b21, .int 4, .int 0, .int 0, .int 0, .long 0, .int (-1), .int 0, .int 0, .int 0, .int 0, .int 0, .int 0, .ref b34, .ref b35, .int 0, .ref b37, .ref b38, .ref b39, .ref b40, .ref b41])), (b21, .inl (cT, 300, .inl gt_3))]) [0, 1] rfl
    have hDc := hD.sub (ws' := [(h0, .inr (8, [.int 0, .int 0, .int 0, .ref b3, .ref b4, .int 0, .ref b6, .ref b7, .ref b8, .ref b9, .ref b10, .ref b11, .ref b12, .ref b13, .int 0, .ref b15, .ref b16, .ref b17, .ref b18, .ref b19, .ref b20, .ref b21, .int 4, .int 0, .int 0, .int 0, .long 0, .int (-1), .int 0, .int 0, .int 0, .int 0, .int 0, .int 0, .ref b34, .ref b35, .int 0, .ref b37, .ref b38, .ref b39, .ref b40, .ref b41])), (b21, .inl (cT, 300, .inl gt_3))]) [0, 1] (by decide) rfl
    have hKc := hK.sub (tys' := [(cT, .int)]) [0] rfl
    have hFc := va_free (wc := [(h0, .inr (8, [.int 0, .int 0, .int 0, .ref b3, .ref b4, .int 0, .ref b6, .ref b7, .ref b8, .ref b9, .ref b10, .ref b11, .ref b12, .ref b13, .int 0, .ref b15, .ref b16, .ref b17, .ref b18, .ref b19, .ref b20, .ref b21, .int 4, .int 0, .int 0, .int 0, .long 0, .int (-1), .int 0, .int 0, .int 0, .int 0, .int 0, .int 0, .ref b34, .ref b35, .int 0, .ref b37, .ref b38, .ref b39, .ref b40, .ref b41])), (b21, .inl (cT, 300, .inl gt_3))]) hD hS hA [0, 1] rfl
    refine va_callv (va_runV (As := [.int p1]) (rest := []) ⟨hx, hb, hml, hown, hts⟩ (c_X7_four l dC dI _ h0 b3 b4 b6 b7 b8 b9 b10 b11 b12 b13 b15 b16 b17 b18 b19 b20 b21 b34 b35 b37 b38 b39 b40 b41 4 p1 cT gt_3 (by decide)) (cwV 1 hts gc_X7_feed_X7_four rfl rfl rfl (by decide +kernel) ⟨Nat.le_of_ble_eq_true rfl, Nat.le_of_ble_eq_true rfl⟩) ⟨fun a U g mk q => by obtain ⟨q0, q1, qP, qK, qD⟩ := q; exact ⟨q0, q1, qP, va_K.moved (u := U) (U := U.calling g mk a) (Vm.Alike.refl U.vm) qK, qD⟩, va_recv hKc hPc (ci := 8) (q0 := 0) rfl rfl, fun U hU hW => ⟨rfl, by rw [hU], by rw [hU]; exact hPc, va_K.moved hW.alike hKc, hDc.weaken (fun _ _ _ _ => trivial)⟩⟩ rfl rfl hl.1 rfl (lv_room (Nat.le_of_ble_eq_true rfl)) dX7_feed_27 ⟨Nat.zero_le _, Nat.zero_le _⟩) hS (fun q _ h => hFc q h) hFc (fun u t H1 locs ht hvm hw hB hz1 hk1 hS => ?_)
    obtain ⟨gt_4, hP1, hK1, hD1⟩ := hB
    rw [ht] at hP1
    obtain ⟨hP, hD⟩ := va_join (wr := []) (w1 := [(h0, .inr (8, [.int 0, .int 0, .int 0, .ref b3, .ref b4, .int 0, .ref b6, .ref b7, .ref b8, .ref b9, .ref b10, .ref b11, .ref b12, .ref b13, .int 0, .ref b15, .ref b16, .ref b17, .ref b18, .ref b19, .ref b20, .ref b21, .int 8, .int 0, .int 0, .int 0, .long 0, .int (-1), .int 0, .int 0, .int 0, .int 0, .int 0, .int 0, .ref b34, .ref b35, .int 0, .ref b37, .ref b38, .ref b39, .ref b40, .ref b41])), (b21, .inl (cT, 300, .inl gt_4))]) hP hD [0, 1] [] rfl rfl (by decide) (by decide) hk1 hFc hP1 hD1
    generalize H1 = H at hP hS ⊢
    have hP : va_P (dC, dI) vwCl [(h0, .inr (8, [.int 0, .int 0, .int 0, .ref b3, .ref b4, .int 0, .ref b6, .ref b7, .ref b8, .ref b9, .ref b10, .ref b11, .ref b12, .ref b13, .int 0, .ref b15, .ref b16, .ref b17, .ref b18, .ref b19, .ref b20, .ref b21, .int 8, .int 0, .int 0, .int 0, .long 0, .int (-1), .int 0, .int 0, .int 0, .int 0, .int 0, .int 0, .ref b34, .ref b35, .int 0, .ref b37, .ref b38, .ref b39, .ref b40, .ref b41])), (b21, .inl (cT, 300, .inl gt_4))] H := hP
    have hD : va_D A [(h0, .inr (8, [.int 0, .int 0, .int 0, .ref b3, .ref b4, .int 0, .ref b6, .ref b7, .ref b8, .ref b9, .ref b10, .ref b11, .ref b12, .ref b13, .int 0, .ref b15, .ref b16, .ref b17, .ref b18, .ref b19, .ref b20, .ref b21, .int 8, .int 0, .int 0, .int 0, .long 0, .int (-1), .int 0, .int 0, .int 0, .int 0, .int 0, .int 0, .ref b34, .ref b35, .int 0, .ref b37, .ref b38, .ref b39, .ref b40, .ref b41])), (b21, .inl (cT, 300, .inl gt_4))] := hD
    refine lv_aload_n hx hb dX7_feed_30 rfl (lv_at hl 0 rfl) ?_
    refine lv_iload_n hx hb dX7_feed_31 rfl (lv_at hl 3 rfl) ?_
    have hPc := hP.sub (ws' := [(h0, .inr (8, [.int 0, .int 0, .int 0, .ref b3, .ref b4, .int 0, .ref b6, .ref b7, .ref b8, .ref b9, .ref b10, .ref b11, .ref b12, .ref b13, .int 0, .ref b15, .ref b16, .ref b17, .ref b18, .ref b19, .ref b20, .ref b21, .int 8, .int 0, .int 0, .int 0, .long 0, .int (-1), .int 0, .int 0, .int 0, .int 0, .int 0, .int 0, .ref b34, .ref b35, .int 0, .ref b37, .ref b38, .ref b39, .ref b40, .ref b41])), (b21, .inl (cT, 300, .inl gt_4))]) [0, 1] rfl
    have hDc := hD.sub (ws' := [(h0, .inr (8, [.int 0, .int 0, .int 0, .ref b3, .ref b4, .int 0, .ref b6, .ref b7, .ref b8, .ref b9, .ref b10, .ref b11, .ref b12, .ref b13, .int 0, .ref b15, .ref b16, .ref b17, .ref b18, .ref b19, .ref b20, .ref b21, .int 8, .int 0, .int 0, .int 0, .long 0, .int (-1), .int 0, .int 0, .int 0, .int 0, .int 0, .int 0, .ref b34, .ref b35, .int 0, .ref b37, .ref b38, .ref b39, .ref b40, .ref b41])), (b21, .inl (cT, 300, .inl gt_4))]) [0, 1] (by decide) rfl
    have hKc := hK.sub (tys' := [(cT, .int)]) [0] rfl
    have hFc := va_free (wc := [(h0, .inr (8, [.int 0, .int 0, .int 0, .ref b3, .ref b4, .int 0, .ref b6, .ref b7, .ref b8, .ref b9, .ref b10, .ref b11, .ref b12, .ref b13, .int 0, .ref b15, .ref b16, .ref b17, .ref b18, .ref b19, .ref b20, .ref b21, .int 8, .int 0, .int 0, .int 0, .long 0, .int (-1), .int 0, .int 0, .int 0, .int 0, .int 0, .int 0, .ref b34, .ref b35, .int 0, .ref b37, .ref b38, .ref b39, .ref b40, .ref b41])), (b21, .inl (cT, 300, .inl gt_4))]) hD hS hA [0, 1] rfl
    refine va_callv (va_runV (As := [.int p2]) (rest := []) ⟨hx, hb, hml, hown, hts⟩ (c_X7_four l dC dI _ h0 b3 b4 b6 b7 b8 b9 b10 b11 b12 b13 b15 b16 b17 b18 b19 b20 b21 b34 b35 b37 b38 b39 b40 b41 8 p2 cT gt_4 (by decide)) (cwV 1 hts gc_X7_feed_X7_four rfl rfl rfl (by decide +kernel) ⟨Nat.le_of_ble_eq_true rfl, Nat.le_of_ble_eq_true rfl⟩) ⟨fun a U g mk q => by obtain ⟨q0, q1, qP, qK, qD⟩ := q; exact ⟨q0, q1, qP, va_K.moved (u := U) (U := U.calling g mk a) (Vm.Alike.refl U.vm) qK, qD⟩, va_recv hKc hPc (ci := 8) (q0 := 0) rfl rfl, fun U hU hW => ⟨rfl, by rw [hU], by rw [hU]; exact hPc, va_K.moved hW.alike hKc, hDc.weaken (fun _ _ _ _ => trivial)⟩⟩ rfl rfl hl.1 rfl (lv_room (Nat.le_of_ble_eq_true rfl)) dX7_feed_32 ⟨Nat.zero_le _, Nat.zero_le _⟩) hS (fun q _ h => hFc q h) hFc (fun u t H1 locs ht hvm hw hB hz1 hk1 hS => ?_)
    obtain ⟨gt_5, hP1, hK1, hD1⟩ := hB
    rw [ht] at hP1
    obtain ⟨hP, hD⟩ := va_join (wr := []) (w1 := [(h0, .inr (8, [.int 0, .int 0, .int 0, .ref b3, .ref b4, .int 0, .ref b6, .ref b7, .ref b8, .ref b9, .ref b10, .ref b11, .ref b12, .ref b13, .int 0, .ref b15, .ref b16, .ref b17, .ref b18, .ref b19, .ref b20, .ref b21, .int 12, .int 0, .int 0, .int 0, .long 0, .int (-1), .int 0, .int 0, .int 0, .int 0, .int 0, .int 0, .ref b34, .ref b35, .int 0, .ref b37, .ref b38, .ref b39, .ref b40, .ref b41])), (b21, .inl (cT, 300, .inl gt_5))]) hP hD [0, 1] [] rfl rfl (by decide) (by decide) hk1 hFc hP1 hD1
    generalize H1 = H at hP hS ⊢
    have hP : va_P (dC, dI) vwCl [(h0, .inr (8, [.int 0, .int 0, .int 0, .ref b3, .ref b4, .int 0, .ref b6, .ref b7, .ref b8, .ref b9, .ref b10, .ref b11, .ref b12, .ref b13, .int 0, .ref b15, .ref b16, .ref b17, .ref b18, .ref b19, .ref b20, .ref b21, .int 12, .int 0, .int 0, .int 0, .long 0, .int (-1), .int 0, .int 0, .int 0, .int 0, .int 0, .int 0, .ref b34, .ref b35, .int 0, .ref b37, .ref b38, .ref b39, .ref b40, .ref b41])), (b21, .inl (cT, 300, .inl gt_5))] H := hP
    have hD : va_D A [(h0, .inr (8, [.int 0, .int 0, .int 0, .ref b3, .ref b4, .int 0, .ref b6, .ref b7, .ref b8, .ref b9, .ref b10, .ref b11, .ref b12, .ref b13, .int 0, .ref b15, .ref b16, .ref b17, .ref b18, .ref b19, .ref b20, .ref b21, .int 12, .int 0, .int 0, .int 0, .long 0, .int (-1), .int 0, .int 0, .int 0, .int 0, .int 0, .int 0, .ref b34, .ref b35, .int 0, .ref b37, .ref b38, .ref b39, .ref b40, .ref b41])), (b21, .inl (cT, 300, .inl gt_5))] := hD
    refine lv_aload_n hx hb dX7_feed_35 rfl (lv_at hl 0 rfl) ?_
    refine lv_iload hx hb dX7_feed_36 (lv_at hl 4 rfl) ?_
    have hPc := hP.sub (ws' := [(h0, .inr (8, [.int 0, .int 0, .int 0, .ref b3, .ref b4, .int 0, .ref b6, .ref b7, .ref b8, .ref b9, .ref b10, .ref b11, .ref b12, .ref b13, .int 0, .ref b15, .ref b16, .ref b17, .ref b18, .ref b19, .ref b20, .ref b21, .int 12, .int 0, .int 0, .int 0, .long 0, .int (-1), .int 0, .int 0, .int 0, .int 0, .int 0, .int 0, .ref b34, .ref b35, .int 0, .ref b37, .ref b38, .ref b39, .ref b40, .ref b41])), (b21, .inl (cT, 300, .inl gt_5))]) [0, 1] rfl
    have hDc := hD.sub (ws' := [(h0, .inr (8, [.int 0, .int 0, .int 0, .ref b3, .ref b4, .int 0, .ref b6, .ref b7, .ref b8, .ref b9, .ref b10, .ref b11, .ref b12, .ref b13, .int 0, .ref b15, .ref b16, .ref b17, .ref b18, .ref b19, .ref b20, .ref b21, .int 12, .int 0, .int 0, .int 0, .long 0, .int (-1), .int 0, .int 0, .int 0, .int 0, .int 0, .int 0, .ref b34, .ref b35, .int 0, .ref b37, .ref b38, .ref b39, .ref b40, .ref b41])), (b21, .inl (cT, 300, .inl gt_5))]) [0, 1] (by decide) rfl
    have hKc := hK.sub (tys' := [(cT, .int)]) [0] rfl
    have hFc := va_free (wc := [(h0, .inr (8, [.int 0, .int 0, .int 0, .ref b3, .ref b4, .int 0, .ref b6, .ref b7, .ref b8, .ref b9, .ref b10, .ref b11, .ref b12, .ref b13, .int 0, .ref b15, .ref b16, .ref b17, .ref b18, .ref b19, .ref b20, .ref b21, .int 12, .int 0, .int 0, .int 0, .long 0, .int (-1), .int 0, .int 0, .int 0, .int 0, .int 0, .int 0, .ref b34, .ref b35, .int 0, .ref b37, .ref b38, .ref b39, .ref b40, .ref b41])), (b21, .inl (cT, 300, .inl gt_5))]) hD hS hA [0, 1] rfl
    refine va_callv (va_runV (As := [.int p3]) (rest := []) ⟨hx, hb, hml, hown, hts⟩ (c_X7_four l dC dI _ h0 b3 b4 b6 b7 b8 b9 b10 b11 b12 b13 b15 b16 b17 b18 b19 b20 b21 b34 b35 b37 b38 b39 b40 b41 12 p3 cT gt_5 (by decide)) (cwV 1 hts gc_X7_feed_X7_four rfl rfl rfl (by decide +kernel) ⟨Nat.le_of_ble_eq_true rfl, Nat.le_of_ble_eq_true rfl⟩) ⟨fun a U g mk q => by obtain ⟨q0, q1, qP, qK, qD⟩ := q; exact ⟨q0, q1, qP, va_K.moved (u := U) (U := U.calling g mk a) (Vm.Alike.refl U.vm) qK, qD⟩, va_recv hKc hPc (ci := 8) (q0 := 0) rfl rfl, fun U hU hW => ⟨rfl, by rw [hU], by rw [hU]; exact hPc, va_K.moved hW.alike hKc, hDc.weaken (fun _ _ _ _ => trivial)⟩⟩ rfl rfl hl.1 rfl (lv_room (Nat.le_of_ble_eq_true rfl)) dX7_feed_38 ⟨Nat.zero_le _, Nat.zero_le _⟩) hS (fun q _ h => hFc q h) hFc (fun u t H1 locs ht hvm hw hB hz1 hk1 hS => ?_)
    obtain ⟨gt_6, hP1, hK1, hD1⟩ := hB
    rw [ht] at hP1
    obtain ⟨hP, hD⟩ := va_join (wr := []) (w1 := [(h0, .inr (8, [.int 0, .int 0, .int 0, .ref b3, .ref b4, .int 0, .ref b6, .ref b7, .ref b8, .ref b9, .ref b10, .ref b11, .ref b12, .ref b13, .int 0, .ref b15, .ref b16, .ref b17, .ref b18, .ref b19, .ref b20, .ref b21, .int 16, .int 0, .int 0, .int 0, .long 0, .int (-1), .int 0, .int 0, .int 0, .int 0, .int 0, .int 0, .ref b34, .ref b35, .int 0, .ref b37, .ref b38, .ref b39, .ref b40, .ref b41])), (b21, .inl (cT, 300, .inl gt_6))]) hP hD [0, 1] [] rfl rfl (by decide) (by decide) hk1 hFc hP1 hD1
    generalize H1 = H at hP hS ⊢
    have hP : va_P (dC, dI) vwCl [(h0, .inr (8, [.int 0, .int 0, .int 0, .ref b3, .ref b4, .int 0, .ref b6, .ref b7, .ref b8, .ref b9, .ref b10, .ref b11, .ref b12, .ref b13, .int 0, .ref b15, .ref b16, .ref b17, .ref b18, .ref b19, .ref b20, .ref b21, .int 16, .int 0, .int 0, .int 0, .long 0, .int (-1), .int 0, .int 0, .int 0, .int 0, .int 0, .int 0, .ref b34, .ref b35, .int 0, .ref b37, .ref b38, .ref b39, .ref b40, .ref b41])), (b21, .inl (cT, 300, .inl gt_6))] H := hP
    have hD : va_D A [(h0, .inr (8, [.int 0, .int 0, .int 0, .ref b3, .ref b4, .int 0, .ref b6, .ref b7, .ref b8, .ref b9, .ref b10, .ref b11, .ref b12, .ref b13, .int 0, .ref b15, .ref b16, .ref b17, .ref b18, .ref b19, .ref b20, .ref b21, .int 16, .int 0, .int 0, .int 0, .long 0, .int (-1), .int 0, .int 0, .int 0, .int 0, .int 0, .int 0, .ref b34, .ref b35, .int 0, .ref b37, .ref b38, .ref b39, .ref b40, .ref b41])), (b21, .inl (cT, 300, .inl gt_6))] := hD
    refine lv_aload_n hx hb dX7_feed_41 rfl (lv_at hl 0 rfl) ?_
    refine lv_iload hx hb dX7_feed_42 (lv_at hl 5 rfl) ?_
    have hPc := hP.sub (ws' := [(h0, .inr (8, [.int 0, .int 0, .int 0, .ref b3, .ref b4, .int 0, .ref b6, .ref b7, .ref b8, .ref b9, .ref b10, .ref b11, .ref b12, .ref b13, .int 0, .ref b15, .ref b16, .ref b17, .ref b18, .ref b19, .ref b20, .ref b21, .int 16, .int 0, .int 0, .int 0, .long 0, .int (-1), .int 0, .int 0, .int 0, .int 0, .int 0, .int 0, .ref b34, .ref b35, .int 0, .ref b37, .ref b38, .ref b39, .ref b40, .ref b41])), (b21, .inl (cT, 300, .inl gt_6))]) [0, 1] rfl
    have hDc := hD.sub (ws' := [(h0, .inr (8, [.int 0, .int 0, .int 0, .ref b3, .ref b4, .int 0, .ref b6, .ref b7, .ref b8, .ref b9, .ref b10, .ref b11, .ref b12, .ref b13, .int 0, .ref b15, .ref b16, .ref b17, .ref b18, .ref b19, .ref b20, .ref b21, .int 16, .int 0, .int 0, .int 0, .long 0, .int (-1), .int 0, .int 0, .int 0, .int 0, .int 0, .int 0, .ref b34, .ref b35, .int 0, .ref b37, .ref b38, .ref b39, .ref b40, .ref b41])), (b21, .inl (cT, 300, .inl gt_6))]) [0, 1] (by decide) rfl
    have hKc := hK.sub (tys' := [(cT, .int)]) [0] rfl
    have hFc := va_free (wc := [(h0, .inr (8, [.int 0, .int 0, .int 0, .ref b3, .ref b4, .int 0, .ref b6, .ref b7, .ref b8, .ref b9, .ref b10, .ref b11, .ref b12, .ref b13, .int 0, .ref b15, .ref b16, .ref b17, .ref b18, .ref b19, .ref b20, .ref b21, .int 16, .int 0, .int 0, .int 0, .long 0, .int (-1), .int 0, .int 0, .int 0, .int 0, .int 0, .int 0, .ref b34, .ref b35, .int 0, .ref b37, .ref b38, .ref b39, .ref b40, .ref b41])), (b21, .inl (cT, 300, .inl gt_6))]) hD hS hA [0, 1] rfl
    refine va_callv (va_runV (As := [.int p4]) (rest := []) ⟨hx, hb, hml, hown, hts⟩ (c_X7_four l dC dI _ h0 b3 b4 b6 b7 b8 b9 b10 b11 b12 b13 b15 b16 b17 b18 b19 b20 b21 b34 b35 b37 b38 b39 b40 b41 16 p4 cT gt_6 (by decide)) (cwV 1 hts gc_X7_feed_X7_four rfl rfl rfl (by decide +kernel) ⟨Nat.le_of_ble_eq_true rfl, Nat.le_of_ble_eq_true rfl⟩) ⟨fun a U g mk q => by obtain ⟨q0, q1, qP, qK, qD⟩ := q; exact ⟨q0, q1, qP, va_K.moved (u := U) (U := U.calling g mk a) (Vm.Alike.refl U.vm) qK, qD⟩, va_recv hKc hPc (ci := 8) (q0 := 0) rfl rfl, fun U hU hW => ⟨rfl, by rw [hU], by rw [hU]; exact hPc, va_K.moved hW.alike hKc, hDc.weaken (fun _ _ _ _ => trivial)⟩⟩ rfl rfl hl.1 rfl (lv_room (Nat.le_of_ble_eq_true rfl)) dX7_feed_44 ⟨Nat.zero_le _, Nat.zero_le _⟩) hS (fun q _ h => hFc q h) hFc (fun u t H1 locs ht hvm hw hB hz1 hk1 hS => ?_)
    obtain ⟨gt_7, hP1, hK1, hD1⟩ := hB
    rw [ht] at hP1
    obtain ⟨hP, hD⟩ := va_join (wr := []) (w1 := [(h0, .inr (8, [.int 0, .int 0, .int 0, .ref b3, .ref b4, .int 0, .ref b6, .ref b7, .ref b8, .ref b9, .ref b10, .ref b11, .ref b12, .ref b13, .int 0, .ref b15, .ref b16, .ref b17, .ref b18, .ref b19, .ref b20, .ref b21, .int 20, .int 0, .int 0, .int 0, .long 0, .int (-1), .int 0, .int 0, .int 0, .int 0, .int 0, .int 0, .ref b34, .ref b35, .int 0, .ref b37, .ref b38, .ref b39, .ref b40, .ref b41])), (b21, .inl (cT, 300, .inl gt_7))]) hP hD [0, 1] [] rfl rfl (by decide) (by decide) hk1 hFc hP1 hD1
    generalize H1 = H at hP hS ⊢
    have hP : va_P (dC, dI) vwCl [(h0, .inr (8, [.int 0, .int 0, .int 0, .ref b3, .ref b4, .int 0, .ref b6, .ref b7, .ref b8, .ref b9, .ref b10, .ref b11, .ref b12, .ref b13, .int 0, .ref b15, .ref b16, .ref b17, .ref b18, .ref b19, .ref b20, .ref b21, .int 20, .int 0, .int 0, .int 0, .long 0, .int (-1), .int 0, .int 0, .int 0, .int 0, .int 0, .int 0, .ref b34, .ref b35, .int 0, .ref b37, .ref b38, .ref b39, .ref b40, .ref b41])), (b21, .inl (cT, 300, .inl gt_7))] H := hP
    have hD : va_D A [(h0, .inr (8, [.int 0, .int 0, .int 0, .ref b3, .ref b4, .int 0, .ref b6, .ref b7, .ref b8, .ref b9, .ref b10, .ref b11, .ref b12, .ref b13, .int 0, .ref b15, .ref b16, .ref b17, .ref b18, .ref b19, .ref b20, .ref b21, .int 20, .int 0, .int 0, .int 0, .long 0, .int (-1), .int 0, .int 0, .int 0, .int 0, .int 0, .int 0, .ref b34, .ref b35, .int 0, .ref b37, .ref b38, .ref b39, .ref b40, .ref b41])), (b21, .inl (cT, 300, .inl gt_7))] := hD
    refine lv_aload_n hx hb dX7_feed_47 rfl (lv_at hl 0 rfl) ?_
    refine va_get (D := (dC, dI)) (ci := 8) (v := .int 20) (C := RX7) (T := TX7) (N := 42) hx hb hts hinX7 hown hK hP 0 rfl rfl 22 (by decide) (hts (.fieldLink RX7 111 "AgreedTalksModel" "taped" "I") (by decide +kernel)) (fun _ h9 => h9) rfl dX7_feed_48 ?_
    have hP9 := hP.sub (ws' := []) [] rfl
    have hD9 := hD.sub (ws' := []) [] (by decide) rfl
    have hK9 := hK.sub (tys' := []) [] rfl
    exact W.iret (v := 20) hx hb hr (fun t ht hW => ⟨⟨20, (), rfl, rfl, by rw [ht]; exact hP9, va_K.moved hW.alike hK9, hD9⟩, hS.F ht⟩) hS.2.2 dX7_feed_51
  · exact absurd c_2 (by decide)
def wp_X7_end : List Cond := .code yX7_end cX7_end 2 (some .int) :: (([.fieldLink RX7 88 "AgreedTalksModel" "thrown" "I", .fieldLink RX7 111 "AgreedTalksModel" "taped" "I"] : List Cond) ++ wsX70)
set_option maxRecDepth 20000 in
theorem gi_X7_end : GoodIn lw_tbl wp_X7_end := (goodIn_ca (goodIn_r (.code yX7_end cX7_end 2 (some .int) :: ([.fieldLink RX7 88 "AgreedTalksModel" "thrown" "I", .fieldLink RX7 111 "AgreedTalksModel" "taped" "I"] : List Cond)) [824, 673, 695] (by decide +kernel) (by decide +kernel)) wi_wsX7)
set_option maxHeartbeats 4000000 in
set_option maxRecDepth 100000 in
/-- end of the reference, on a fresh object -/
theorem c_X7_end (l : Launch) (dC : Nat → ClassId) (dI : Nat → Nat → Nat) (sz : Nat) (h0 : Nat) (b3 : Nat) (b4 : Nat) (b6 : Nat) (b7 : Nat) (b8 : Nat) (b9 : Nat) (b10 : Nat) (b11 : Nat) (b12 : Nat) (b13 : Nat) (b15 : Nat) (b16 : Nat) (b17 : Nat) (b18 : Nat) (b19 : Nat) (b20 : Nat) (b21 : Nat) (b34 : Nat) (b35 : Nat) (b37 : Nat) (b38 : Nat) (b39 : Nat) (b40 : Nat) (b41 : Nat) (p0 : Int32) : Met l yX7_end wp_X7_end ({ frames := 2, cells := 0, slots := 0, locals := 60 }) (va_Pc [.ref h0, .int p0] (fun U => U.heap.size = sz ∧ va_P (dC, dI) vwCl [(h0, .inr (8, [.int 0, .int 0, .int 0, .ref b3, .ref b4, .int 0, .ref b6, .ref b7, .ref b8, .ref b9, .ref b10, .ref b11, .ref b12, .ref b13, .int 0, .ref b15, .ref b16, .ref b17, .ref b18, .ref b19, .ref b20, .ref b21, .int 0, .int 0, .int 0, .int 0, .long 0, .int (-1), .int 0, .int 0, .int 0, .int 0, .int 0, .int 0, .ref b34, .ref b35, .int 0, .ref b37, .ref b38, .ref b39, .ref b40, .ref b41]))] U.heap ∧ va_K (dC, dI) vwCl [] U ∧ va_D (fun _ => True) [(h0, .inr (8, [.int 0, .int 0, .int 0, .ref b3, .ref b4, .int 0, .ref b6, .ref b7, .ref b8, .ref b9, .ref b10, .ref b11, .ref b12, .ref b13, .int 0, .ref b15, .ref b16, .ref b17, .ref b18, .ref b19, .ref b20, .ref b21, .int 0, .int 0, .int 0, .int 0, .long 0, .int (-1), .int 0, .int 0, .int 0, .int 0, .int 0, .int 0, .ref b34, .ref b35, .int 0, .ref b37, .ref b38, .ref b39, .ref b40, .ref b41]))])) (va_Qi (fun (r : Int32) (_ : Unit) => r = (if p0 = 0 then 0 else (-1))) (fun (_ : Unit) (t : State) => va_P (dC, dI) vwCl [] t.heap ∧ va_K (dC, dI) vwCl [] t ∧ va_D (va_A [(h0, .inr (8, [.int 0, .int 0, .int 0, .ref b3, .ref b4, .int 0, .ref b6, .ref b7, .ref b8, .ref b9, .ref b10, .ref b11, .ref b12, .ref b13, .int 0, .ref b15, .ref b16, .ref b17, .ref b18, .ref b19, .ref b20, .ref b21, .int 0, .int 0, .int 0, .int 0, .long 0, .int (-1), .int 0, .int 0, .int 0, .int 0, .int 0, .int 0, .ref b34, .ref b35, .int 0, .ref b37, .ref b38, .ref b39, .ref b40, .ref b41]))] sz) []) (va_A [(h0, .inr (8, [.int 0, .int 0, .int 0, .ref b3, .ref b4, .int 0, .ref b6, .ref b7, .ref b8, .ref b9, .ref b10, .ref b11, .ref b12, .ref b13, .int 0, .ref b15, .ref b16, .ref b17, .ref b18, .ref b19, .ref b20, .ref b21, .int 0, .int 0, .int 0, .int 0, .long 0, .int (-1), .int 0, .int 0, .int 0, .int 0, .int 0, .int 0, .ref b34, .ref b35, .int 0, .ref b37, .ref b38, .ref b39, .ref b40, .ref b41]))] sz)) 0 0 (va_A [(h0, .inr (8, [.int 0, .int 0, .int 0, .ref b3, .ref b4, .int 0, .ref b6, .ref b7, .ref b8, .ref b9, .ref b10, .ref b11, .ref b12, .ref b13, .int 0, .ref b15, .ref b16, .ref b17, .ref b18, .ref b19, .ref b20, .ref b21, .int 0, .int 0, .int 0, .int 0, .long 0, .int (-1), .int 0, .int 0, .int 0, .int 0, .int 0, .int 0, .ref b34, .ref b35, .int 0, .ref b37, .ref b38, .ref b39, .ref b40, .ref b41]))] sz) := by
  refine Met.ofW (cc := cX7_end) (maxL := 2) (ret := (some .int)) (by decide) rfl ?_
  intro p e s m args below meth c s₁ B hml hv
  obtain ⟨rfl, hsz, hP, hK, hD0⟩ := hv
  have hx := B.exec
  have hb := B.bytes
  have hr := B.returns
  have hts := atoms_spec (ws := wp_X7_end) B.pre
  have hown : s.vm.findClass RX7 = some m.cls := findClass_of_methodNamed B.named
  have hlocks := B.notSynchronized
  subst hsz
  have hD := hD0.self (sz := s.heap.size)
  generalize hAe : va_A [(h0, .inr (8, [.int 0, .int 0, .int 0, .ref b3, .ref b4, .int 0, .ref b6, .ref b7, .ref b8, .ref b9, .ref b10, .ref b11, .ref b12, .ref b13, .int 0, .ref b15, .ref b16, .ref b17, .ref b18, .ref b19, .ref b20, .ref b21, .int 0, .int 0, .int 0, .int 0, .long 0, .int (-1), .int 0, .int 0, .int 0, .int 0, .int 0, .int 0, .ref b34, .ref b35, .int 0, .ref b37, .ref b38, .ref b39, .ref b40, .ref b41]))] s.heap.size = A at hD ⊢
  have hA : ∀ q : Nat, s.heap.size ≤ q → A q := fun q h => by rw [← hAe]; exact Or.inr h
  have hS : va_S A s.heap s.heap [] := va_S.rf
  have hP : va_P (dC, dI) vwCl [(h0, .inr (8, [.int 0, .int 0, .int 0, .ref b3, .ref b4, .int 0, .ref b6, .ref b7, .ref b8, .ref b9, .ref b10, .ref b11, .ref b12, .ref b13, .int 0, .ref b15, .ref b16, .ref b17, .ref b18, .ref b19, .ref b20, .ref b21, .int 0, .int 0, .int 0, .int 0, .long 0, .int (-1), .int 0, .int 0, .int 0, .int 0, .int 0, .int 0, .ref b34, .ref b35, .int 0, .ref b37, .ref b38, .ref b39, .ref b40, .ref b41]))] s.heap := hP
  have hl := lv_entry ([.ref h0, .int p0]) (n := 2) (Nat.le_of_ble_eq_true rfl)
  rw [lg_entry_eq]
  generalize (lg_sl ([.ref h0, .int p0]) ++ List.replicate (2 - (lg_sl ([.ref h0, .int p0])).length) Slot.unset).toArray = ls at hl ⊢
  have hl : lv_has ls 2 [(0, .ref h0), (1, .int p0)] := hl
  have hinX7 : ∀ w ∈ u_ws RX7 TX7 42, w ∈ wp_X7_end := fun _ h => List.mem_cons_of_mem _ (List.mem_append_right _ h)
  refine lv_aload_n hx hb dX7_end_0 rfl (lv_at hl 0 rfl) ?_
  refine lv_iconst (v := 0) hx hb dX7_end_1 (by decide) ?_
  refine va_put (D := (dC, dI)) (ci := 8) (v := .int 0) (ty := .int) (C := RX7) (T := TX7) (N := 42) hx hb hts hinX7 tyX7 tyX7_ok nmX7 hown hK hP hD hS 0 rfl rfl 0 (by decide) (hts (.fieldLink RX7 88 "AgreedTalksModel" "thrown" "I") (by decide +kernel)) (fun _ h9 => h9) rfl (by decide +kernel) rfl rfl (Nat.le_of_ble_eq_true rfl) dX7_end_2 (fun H locs hP hD hS => ?_)
  have hP : va_P (dC, dI) vwCl [(h0, .inr (8, [.int 0, .int 0, .int 0, .ref b3, .ref b4, .int 0, .ref b6, .ref b7, .ref b8, .ref b9, .ref b10, .ref b11, .ref b12, .ref b13, .int 0, .ref b15, .ref b16, .ref b17, .ref b18, .ref b19, .ref b20, .ref b21, .int 0, .int 0, .int 0, .int 0, .long 0, .int (-1), .int 0, .int 0, .int 0, .int 0, .int 0, .int 0, .ref b34, .ref b35, .int 0, .ref b37, .ref b38, .ref b39, .ref b40, .ref b41]))] H := hP
  have hD : va_D A [(h0, .inr (8, [.int 0, .int 0, .int 0, .ref b3, .ref b4, .int 0, .ref b6, .ref b7, .ref b8, .ref b9, .ref b10, .ref b11, .ref b12, .ref b13, .int 0, .ref b15, .ref b16, .ref b17, .ref b18, .ref b19, .ref b20, .ref b21, .int 0, .int 0, .int 0, .int 0, .long 0, .int (-1), .int 0, .int 0, .int 0, .int 0, .int 0, .int 0, .ref b34, .ref b35, .int 0, .ref b37, .ref b38, .ref b39, .ref b40, .ref b41]))] := hD
  refine lv_iload_n hx hb dX7_end_5 rfl (lv_at hl 1 rfl) ?_
  refine lv_if_lt (tgt := 17) hx hb dX7_end_6 (by decide) (fun c_1 => ?_) (fun c_1 => ?_)
  · refine lv_iconst (v := (-1)) hx hb dX7_end_17 (by decide) ?_
    have hP9 := hP.sub (ws' := []) [] rfl
    have hD9 := hD.sub (ws' := []) [] (by decide) rfl
    have hK9 := hK.sub (tys' := []) [] rfl
    exact W.iret (v := (-1)) hx hb hr (fun t ht hW => ⟨⟨(-1), (), rfl, lk_end1 c_1, by rw [ht]; exact hP9, va_K.moved hW.alike hK9, hD9⟩, hS.F ht⟩) hS.2.2 dX7_end_18
  · refine lv_iload_n hx hb dX7_end_9 rfl (lv_at hl 1 rfl) ?_
    refine lv_aload_n hx hb dX7_end_10 rfl (lv_at hl 0 rfl) ?_
    refine va_get (D := (dC, dI)) (ci := 8) (v := .int 0) (C := RX7) (T := TX7) (N := 42) hx hb hts hinX7 hown hK hP 0 rfl rfl 22 (by decide) (hts (.fieldLink RX7 111 "AgreedTalksModel" "taped" "I") (by decide +kernel)) (fun _ h9 => h9) rfl dX7_end_11 ?_
    refine lv_icmp_le (tgt := 19) hx hb dX7_end_14 (by decide) (fun c_2 => ?_) (fun c_2 => ?_)
    · refine lv_aload_n hx hb dX7_end_19 rfl (lv_at hl 0 rfl) ?_
      refine lv_iload_n hx hb dX7_end_20 rfl (lv_at hl 1 rfl) ?_
      refine va_put (D := (dC, dI)) (ci := 8) (v := .int p0) (ty := .int) (C := RX7) (T := TX7) (N := 42) hx hb hts hinX7 tyX7 tyX7_ok nmX7 hown hK hP hD hS 0 rfl rfl 22 (by decide) (hts (.fieldLink RX7 111 "AgreedTalksModel" "taped" "I") (by decide +kernel)) (fun _ h9 => h9) rfl (by decide +kernel) rfl rfl (Nat.le_of_ble_eq_true rfl) dX7_end_21 (fun H locs hP hD hS => ?_)
      have hP : va_P (dC, dI) vwCl [(h0, .inr (8, [.int 0, .int 0, .int 0, .ref b3, .ref b4, .int 0, .ref b6, .ref b7, .ref b8, .ref b9, .ref b10, .ref b11, .ref b12, .ref b13, .int 0, .ref b15, .ref b16, .ref b17, .ref b18, .ref b19, .ref b20, .ref b21, .int p0, .int 0, .int 0, .int 0, .long 0, .int (-1), .int 0, .int 0, .int 0, .int 0, .int 0, .int 0, .ref b34, .ref b35, .int 0, .ref b37, .ref b38, .ref b39, .ref b40, .ref b41]))] H := hP
      have hD : va_D A [(h0, .inr (8, [.int 0, .int 0, .int 0, .ref b3, .ref b4, .int 0, .ref b6, .ref b7, .ref b8, .ref b9, .ref b10, .ref b11, .ref b12, .ref b13, .int 0, .ref b15, .ref b16, .ref b17, .ref b18, .ref b19, .ref b20, .ref b21, .int p0, .int 0, .int 0, .int 0, .long 0, .int (-1), .int 0, .int 0, .int 0, .int 0, .int 0, .int 0, .ref b34, .ref b35, .int 0, .ref b37, .ref b38, .ref b39, .ref b40, .ref b41]))] := hD
      refine lv_iload_n hx hb dX7_end_24 rfl (lv_at hl 1 rfl) ?_
      have hP9 := hP.sub (ws' := []) [] rfl
      have hD9 := hD.sub (ws' := []) [] (by decide) rfl
      have hK9 := hK.sub (tys' := []) [] rfl
      exact W.iret (v := p0) hx hb hr (fun t ht hW => ⟨⟨p0, (), rfl, lk_end3 c_1 c_2, by rw [ht]; exact hP9, va_K.moved hW.alike hK9, hD9⟩, hS.F ht⟩) hS.2.2 dX7_end_25
    · refine lv_iconst (v := (-1)) hx hb dX7_end_17 (by decide) ?_
      have hP9 := hP.sub (ws' := []) [] rfl
      have hD9 := hD.sub (ws' := []) [] (by decide) rfl
      have hK9 := hK.sub (tys' := []) [] rfl
      exact W.iret (v := (-1)) hx hb hr (fun t ht hW => ⟨⟨(-1), (), rfl, lk_end2 c_1 c_2, by rw [ht]; exact hP9, va_K.moved hW.alike hK9, hD9⟩, hS.F ht⟩) hS.2.2 dX7_end_18
def wp_X7_record : List Cond := .code yX7_record cX7_record 4 (some .int) :: (([.fieldLink RX7 88 "AgreedTalksModel" "thrown" "I", .fieldLink RX7 111 "AgreedTalksModel" "taped" "I"] : List Cond) ++ wsX70 ++ (wsV RX7 190 RX7 yX7_isMeeting wp_X7_isMeeting) ++ (wsV RX7 103 RX7 yX7_told wp_X7_told))
theorem gc_X7_record_X7_isMeeting : GoodIn wp_X7_record (wsV RX7 190 RX7 yX7_isMeeting wp_X7_isMeeting) := goodIn_sub (fun _ h => List.mem_cons_of_mem _ (List.mem_append_left _ (List.mem_append_right _ h))) (by decide +kernel)
theorem gc_X7_record_X7_told : GoodIn wp_X7_record (wsV RX7 103 RX7 yX7_told wp_X7_told) := goodIn_sub (fun _ h => List.mem_cons_of_mem _ (List.mem_append_right _ h)) (by decide +kernel)
set_option maxRecDepth 20000 in
theorem gi_X7_record : GoodIn lw_tbl wp_X7_record := (goodIn_ca (goodIn_ca (goodIn_ca (goodIn_r (.code yX7_record cX7_record 4 (some .int) :: ([.fieldLink RX7 88 "AgreedTalksModel" "thrown" "I", .fieldLink RX7 111 "AgreedTalksModel" "taped" "I"] : List Cond)) [828, 673, 695] (by decide +kernel) (by decide +kernel)) wi_wsX7) (goodIn_app (goodIn_r _ [829, 831, 28, 57] (by decide +kernel) (by decide +kernel)) gi_X7_isMeeting)) (goodIn_app (goodIn_r _ [809, 811, 26, 57] (by decide +kernel) (by decide +kernel)) gi_X7_told))
set_option maxHeartbeats 4000000 in
set_option maxRecDepth 100000 in
/-- record of the reference, on a fresh object -/
theorem c_X7_record (l : Launch) (dC : Nat → ClassId) (dI : Nat → Nat → Nat) (sz : Nat) (h0 : Nat) (b3 : Nat) (b4 : Nat) (b6 : Nat) (b7 : Nat) (b8 : Nat) (b9 : Nat) (b10 : Nat) (b11 : Nat) (b12 : Nat) (b13 : Nat) (b15 : Nat) (b16 : Nat) (b17 : Nat) (b18 : Nat) (b19 : Nat) (b20 : Nat) (b21 : Nat) (b34 : Nat) (b35 : Nat) (b37 : Nat) (b38 : Nat) (b39 : Nat) (b40 : Nat) (b41 : Nat) (p0 : Int32) : Met l yX7_record wp_X7_record ({ frames := 2, cells := 0, slots := 0, locals := 60 }) (va_Pc [.ref h0, .int p0] (fun U => U.heap.size = sz ∧ va_P (dC, dI) vwCl [(h0, .inr (8, [.int 0, .int 0, .int 0, .ref b3, .ref b4, .int 0, .ref b6, .ref b7, .ref b8, .ref b9, .ref b10, .ref b11, .ref b12, .ref b13, .int 0, .ref b15, .ref b16, .ref b17, .ref b18, .ref b19, .ref b20, .ref b21, .int 0, .int 0, .int 0, .int 0, .long 0, .int (-1), .int 0, .int 0, .int 0, .int 0, .int 0, .int 0, .ref b34, .ref b35, .int 0, .ref b37, .ref b38, .ref b39, .ref b40, .ref b41]))] U.heap ∧ va_K (dC, dI) vwCl [] U ∧ va_D (fun _ => True) [(h0, .inr (8, [.int 0, .int 0, .int 0, .ref b3, .ref b4, .int 0, .ref b6, .ref b7, .ref b8, .ref b9, .ref b10, .ref b11, .ref b12, .ref b13, .int 0, .ref b15, .ref b16, .ref b17, .ref b18, .ref b19, .ref b20, .ref b21, .int 0, .int 0, .int 0, .int 0, .long 0, .int (-1), .int 0, .int 0, .int 0, .int 0, .int 0, .int 0, .ref b34, .ref b35, .int 0, .ref b37, .ref b38, .ref b39, .ref b40, .ref b41]))])) (va_Qi (fun (r : Int32) (_ : Unit) => r = (-2)) (fun (_ : Unit) (t : State) => va_P (dC, dI) vwCl [] t.heap ∧ va_K (dC, dI) vwCl [] t ∧ va_D (va_A [(h0, .inr (8, [.int 0, .int 0, .int 0, .ref b3, .ref b4, .int 0, .ref b6, .ref b7, .ref b8, .ref b9, .ref b10, .ref b11, .ref b12, .ref b13, .int 0, .ref b15, .ref b16, .ref b17, .ref b18, .ref b19, .ref b20, .ref b21, .int 0, .int 0, .int 0, .int 0, .long 0, .int (-1), .int 0, .int 0, .int 0, .int 0, .int 0, .int 0, .ref b34, .ref b35, .int 0, .ref b37, .ref b38, .ref b39, .ref b40, .ref b41]))] sz) []) (va_A [(h0, .inr (8, [.int 0, .int 0, .int 0, .ref b3, .ref b4, .int 0, .ref b6, .ref b7, .ref b8, .ref b9, .ref b10, .ref b11, .ref b12, .ref b13, .int 0, .ref b15, .ref b16, .ref b17, .ref b18, .ref b19, .ref b20, .ref b21, .int 0, .int 0, .int 0, .int 0, .long 0, .int (-1), .int 0, .int 0, .int 0, .int 0, .int 0, .int 0, .ref b34, .ref b35, .int 0, .ref b37, .ref b38, .ref b39, .ref b40, .ref b41]))] sz)) 0 0 (va_A [(h0, .inr (8, [.int 0, .int 0, .int 0, .ref b3, .ref b4, .int 0, .ref b6, .ref b7, .ref b8, .ref b9, .ref b10, .ref b11, .ref b12, .ref b13, .int 0, .ref b15, .ref b16, .ref b17, .ref b18, .ref b19, .ref b20, .ref b21, .int 0, .int 0, .int 0, .int 0, .long 0, .int (-1), .int 0, .int 0, .int 0, .int 0, .int 0, .int 0, .ref b34, .ref b35, .int 0, .ref b37, .ref b38, .ref b39, .ref b40, .ref b41]))] sz) := by
  refine Met.ofW (cc := cX7_record) (maxL := 4) (ret := (some .int)) (by decide) rfl ?_
  intro p e s m args below meth c s₁ B hml hv
  obtain ⟨rfl, hsz, hP, hK, hD0⟩ := hv
  have hx := B.exec
  have hb := B.bytes
  have hr := B.returns
  have hts := atoms_spec (ws := wp_X7_record) B.pre
  have hown : s.vm.findClass RX7 = some m.cls := findClass_of_methodNamed B.named
  have hlocks := B.notSynchronized
  subst hsz
  have hD := hD0.self (sz := s.heap.size)
  generalize hAe : va_A [(h0, .inr (8, [.int 0, .int 0, .int 0, .ref b3, .ref b4, .int 0, .ref b6, .ref b7, .ref b8, .ref b9, .ref b10, .ref b11, .ref b12, .ref b13, .int 0, .ref b15, .ref b16, .ref b17, .ref b18, .ref b19, .ref b20, .ref b21, .int 0, .int 0, .int 0, .int 0, .long 0, .int (-1), .int 0, .int 0, .int 0, .int 0, .int 0, .int 0, .ref b34, .ref b35, .int 0, .ref b37, .ref b38, .ref b39, .ref b40, .ref b41]))] s.heap.size = A at hD ⊢
  have hA : ∀ q : Nat, s.heap.size ≤ q → A q := fun q h => by rw [← hAe]; exact Or.inr h
  have hS : va_S A s.heap s.heap [] := va_S.rf
  have hP : va_P (dC, dI) vwCl [(h0, .inr (8, [.int 0, .int 0, .int 0, .ref b3, .ref b4, .int 0, .ref b6, .ref b7, .ref b8, .ref b9, .ref b10, .ref b11, .ref b12, .ref b13, .int 0, .ref b15, .ref b16, .ref b17, .ref b18, .ref b19, .ref b20, .ref b21, .int 0, .int 0, .int 0, .int 0, .long 0, .int (-1), .int 0, .int 0, .int 0, .int 0, .int 0, .int 0, .ref b34, .ref b35, .int 0, .ref b37, .ref b38, .ref b39, .ref b40, .ref b41]))] s.heap := hP
  have hl := lv_entry ([.ref h0, .int p0]) (n := 4) (Nat.le_of_ble_eq_true rfl)
  rw [lg_entry_eq]
  generalize (lg_sl ([.ref h0, .int p0]) ++ List.replicate (4 - (lg_sl ([.ref h0, .int p0])).length) Slot.unset).toArray = ls at hl ⊢
  have hl : lv_has ls 4 [(0, .ref h0), (1, .int p0)] := hl
  have hinX7 : ∀ w ∈ u_ws RX7 TX7 42, w ∈ wp_X7_record := fun _ h => List.mem_cons_of_mem _ (List.mem_append_left _ (List.mem_append_left _ (List.mem_append_right _ h)))
  refine lv_aload_n hx hb dX7_record_0 rfl (lv_at hl 0 rfl) ?_
  refine lv_iconst (v := 0) hx hb dX7_record_1 (by decide) ?_
  refine va_put (D := (dC, dI)) (ci := 8) (v := .int 0) (ty := .int) (C := RX7) (T := TX7) (N := 42) hx hb hts hinX7 tyX7 tyX7_ok nmX7 hown hK hP hD hS 0 rfl rfl 0 (by decide) (hts (.fieldLink RX7 88 "AgreedTalksModel" "thrown" "I") (by decide +kernel)) (fun _ h9 => h9) rfl (by decide +kernel) rfl rfl (Nat.le_of_ble_eq_true rfl) dX7_record_2 (fun H locs hP hD hS => ?_)
  have hP : va_P (dC, dI) vwCl [(h0, .inr (8, [.int 0, .int 0, .int 0, .ref b3, .ref b4, .int 0, .ref b6, .ref b7, .ref b8, .ref b9, .ref b10, .ref b11, .ref b12, .ref b13, .int 0, .ref b15, .ref b16, .ref b17, .ref b18, .ref b19, .ref b20, .ref b21, .int 0, .int 0, .int 0, .int 0, .long 0, .int (-1), .int 0, .int 0, .int 0, .int 0, .int 0, .int 0, .ref b34, .ref b35, .int 0, .ref b37, .ref b38, .ref b39, .ref b40, .ref b41]))] H := hP
  have hD : va_D A [(h0, .inr (8, [.int 0, .int 0, .int 0, .ref b3, .ref b4, .int 0, .ref b6, .ref b7, .ref b8, .ref b9, .ref b10, .ref b11, .ref b12, .ref b13, .int 0, .ref b15, .ref b16, .ref b17, .ref b18, .ref b19, .ref b20, .ref b21, .int 0, .int 0, .int 0, .int 0, .long 0, .int (-1), .int 0, .int 0, .int 0, .int 0, .int 0, .int 0, .ref b34, .ref b35, .int 0, .ref b37, .ref b38, .ref b39, .ref b40, .ref b41]))] := hD
  refine lv_aload_n hx hb dX7_record_5 rfl (lv_at hl 0 rfl) ?_
  refine lv_iload_n hx hb dX7_record_6 rfl (lv_at hl 1 rfl) ?_
  have hPc := hP.sub (ws' := [(h0, .inr (8, [.int 0, .int 0, .int 0, .ref b3, .ref b4, .int 0, .ref b6, .ref b7, .ref b8, .ref b9, .ref b10, .ref b11, .ref b12, .ref b13, .int 0, .ref b15, .ref b16, .ref b17, .ref b18, .ref b19, .ref b20, .ref b21, .int 0, .int 0, .int 0, .int 0, .long 0, .int (-1), .int 0, .int 0, .int 0, .int 0, .int 0, .int 0, .ref b34, .ref b35, .int 0, .ref b37, .ref b38, .ref b39, .ref b40, .ref b41]))]) [0] rfl
  have hDc := hD.sub (ws' := [(h0, .inr (8, [.int 0, .int 0, .int 0, .ref b3, .ref b4, .int 0, .ref b6, .ref b7, .ref b8, .ref b9, .ref b10, .ref b11, .ref b12, .ref b13, .int 0, .ref b15, .ref b16, .ref b17, .ref b18, .ref b19, .ref b20, .ref b21, .int 0, .int 0, .int 0, .int 0, .long 0, .int (-1), .int 0, .int 0, .int 0, .int 0, .int 0, .int 0, .ref b34, .ref b35, .int 0, .ref b37, .ref b38, .ref b39, .ref b40, .ref b41]))]) [0] (by decide) rfl
  have hKc := hK.sub (tys' := []) [] rfl
  have hFc := va_free (wc := [(h0, .inr (8, [.int 0, .int 0, .int 0, .ref b3, .ref b4, .int 0, .ref b6, .ref b7, .ref b8, .ref b9, .ref b10, .ref b11, .ref b12, .ref b13, .int 0, .ref b15, .ref b16, .ref b17, .ref b18, .ref b19, .ref b20, .ref b21, .int 0, .int 0, .int 0, .int 0, .long 0, .int (-1), .int 0, .int 0, .int 0, .int 0, .int 0, .int 0, .ref b34, .ref b35, .int 0, .ref b37, .ref b38, .ref b39, .ref b40, .ref b41]))]) hD hS hA [0] rfl
  refine va_calli (va_runV (As := [.int p0]) (rest := []) ⟨hx, hb, hml, hown, hts⟩ (c_X7_isMeeting l dC dI _ h0 b3 b4 b6 b7 b8 b9 b10 b11 b12 b13 b15 b16 b17 b18 b19 b20 b21 b34 b35 b37 b38 b39 b40 b41 p0 0) (cwV 1 hts gc_X7_record_X7_isMeeting rfl rfl rfl (by decide +kernel) ⟨Nat.le_of_ble_eq_true rfl, Nat.le_of_ble_eq_true rfl⟩) ⟨fun a U g mk q => by obtain ⟨q0, q1, qP, qK, qD⟩ := q; exact ⟨q0, q1, qP, va_K.moved (u := U) (U := U.calling g mk a) (Vm.Alike.refl U.vm) qK, qD⟩, va_recv hKc hPc (ci := 8) (q0 := 0) rfl rfl, fun U hU hW => ⟨rfl, by rw [hU], by rw [hU]; exact hPc, va_K.moved hW.alike hKc, hDc.weaken (fun _ _ _ _ => trivial)⟩⟩ rfl rfl hl.1 rfl (lv_room (Nat.le_of_ble_eq_true rfl)) dX7_record_7 ⟨Nat.zero_le _, Nat.zero_le _⟩) hS (fun q _ h => hFc q h) hFc (fun r_1 u t H1 locs ht hvm hw hB hz1 hk1 hS => ?_)
  obtain ⟨hP1, hK1, hD1⟩ := hB
  rw [ht] at hP1
  obtain ⟨hP, hD⟩ := va_join (wr := []) (w1 := [(h0, .inr (8, [.int 0, .int 0, .int 0, .ref b3, .ref b4, .int 0, .ref b6, .ref b7, .ref b8, .ref b9, .ref b10, .ref b11, .ref b12, .ref b13, .int 0, .ref b15, .ref b16, .ref b17, .ref b18, .ref b19, .ref b20, .ref b21, .int 0, .int 0, .int 0, .int 0, .long 0, .int (-1), .int 0, .int 0, .int 0, .int 0, .int 0, .int 0, .ref b34, .ref b35, .int 0, .ref b37, .ref b38, .ref b39, .ref b40, .ref b41]))]) hP hD [0] [] rfl rfl (by decide) (by decide) hk1 hFc hP1 hD1
  generalize H1 = H at hP hS ⊢
  have hP : va_P (dC, dI) vwCl [(h0, .inr (8, [.int 0, .int 0, .int 0, .ref b3, .ref b4, .int 0, .ref b6, .ref b7, .ref b8, .ref b9, .ref b10, .ref b11, .ref b12, .ref b13, .int 0, .ref b15, .ref b16, .ref b17, .ref b18, .ref b19, .ref b20, .ref b21, .int 0, .int 0, .int 0, .int 0, .long 0, .int (-1), .int 0, .int 0, .int 0, .int 0, .int 0, .int 0, .ref b34, .ref b35, .int 0, .ref b37, .ref b38, .ref b39, .ref b40, .ref b41]))] H := hP
  have hD : va_D A [(h0, .inr (8, [.int 0, .int 0, .int 0, .ref b3, .ref b4, .int 0, .ref b6, .ref b7, .ref b8, .ref b9, .ref b10, .ref b11, .ref b12, .ref b13, .int 0, .ref b15, .ref b16, .ref b17, .ref b18, .ref b19, .ref b20, .ref b21, .int 0, .int 0, .int 0, .int 0, .long 0, .int (-1), .int 0, .int 0, .int 0, .int 0, .int 0, .int 0, .ref b34, .ref b35, .int 0, .ref b37, .ref b38, .ref b39, .ref b40, .ref b41]))] := hD
  obtain rfl : r_1 = 0 := hw
  refine lv_if_eq (tgt := 22) hx hb dX7_record_10 (by decide) (fun c_2 => ?_) (fun c_2 => ?_)
  · refine lv_aload_n hx hb dX7_record_22 rfl (lv_at hl 0 rfl) ?_
    refine lv_iconst (v := 0) hx hb dX7_record_23 (by decide) ?_
    refine va_put (D := (dC, dI)) (ci := 8) (v := .int 0) (ty := .int) (C := RX7) (T := TX7) (N := 42) hx hb hts hinX7 tyX7 tyX7_ok nmX7 hown hK hP hD hS 0 rfl rfl 22 (by decide) (hts (.fieldLink RX7 111 "AgreedTalksModel" "taped" "I") (by decide +kernel)) (fun _ h9 => h9) rfl (by decide +kernel) rfl rfl (Nat.le_of_ble_eq_true rfl) dX7_record_24 (fun H locs hP hD hS => ?_)
    have hP : va_P (dC, dI) vwCl [(h0, .inr (8, [.int 0, .int 0, .int 0, .ref b3, .ref b4, .int 0, .ref b6, .ref b7, .ref b8, .ref b9, .ref b10, .ref b11, .ref b12, .ref b13, .int 0, .ref b15, .ref b16, .ref b17, .ref b18, .ref b19, .ref b20, .ref b21, .int 0, .int 0, .int 0, .int 0, .long 0, .int (-1), .int 0, .int 0, .int 0, .int 0, .int 0, .int 0, .ref b34, .ref b35, .int 0, .ref b37, .ref b38, .ref b39, .ref b40, .ref b41]))] H := hP
    have hD : va_D A [(h0, .inr (8, [.int 0, .int 0, .int 0, .ref b3, .ref b4, .int 0, .ref b6, .ref b7, .ref b8, .ref b9, .ref b10, .ref b11, .ref b12, .ref b13, .int 0, .ref b15, .ref b16, .ref b17, .ref b18, .ref b19, .ref b20, .ref b21, .int 0, .int 0, .int 0, .int 0, .long 0, .int (-1), .int 0, .int 0, .int 0, .int 0, .int 0, .int 0, .ref b34, .ref b35, .int 0, .ref b37, .ref b38, .ref b39, .ref b40, .ref b41]))] := hD
    refine lv_aload_n hx hb dX7_record_27 rfl (lv_at hl 0 rfl) ?_
    refine lv_aload_n hx hb dX7_record_28 rfl (lv_at hl 0 rfl) ?_
    refine lv_iload_n hx hb dX7_record_29 rfl (lv_at hl 1 rfl) ?_
    have hPc := hP.sub (ws' := [(h0, .inr (8, [.int 0, .int 0, .int 0, .ref b3, .ref b4, .int 0, .ref b6, .ref b7, .ref b8, .ref b9, .ref b10, .ref b11, .ref b12, .ref b13, .int 0, .ref b15, .ref b16, .ref b17, .ref b18, .ref b19, .ref b20, .ref b21, .int 0, .int 0, .int 0, .int 0, .long 0, .int (-1), .int 0, .int 0, .int 0, .int 0, .int 0, .int 0, .ref b34, .ref b35, .int 0, .ref b37, .ref b38, .ref b39, .ref b40, .ref b41]))]) [0] rfl
    have hDc := hD.sub (ws' := [(h0, .inr (8, [.int 0, .int 0, .int 0, .ref b3, .ref b4, .int 0, .ref b6, .ref b7, .ref b8, .ref b9, .ref b10, .ref b11, .ref b12, .ref b13, .int 0, .ref b15, .ref b16, .ref b17, .ref b18, .ref b19, .ref b20, .ref b21, .int 0, .int 0, .int 0, .int 0, .long 0, .int (-1), .int 0, .int 0, .int 0, .int 0, .int 0, .int 0, .ref b34, .ref b35, .int 0, .ref b37, .ref b38, .ref b39, .ref b40, .ref b41]))]) [0] (by decide) rfl
    have hKc := hK.sub (tys' := []) [] rfl
    have hFc := va_free (wc := [(h0, .inr (8, [.int 0, .int 0, .int 0, .ref b3, .ref b4, .int 0, .ref b6, .ref b7, .ref b8, .ref b9, .ref b10, .ref b11, .ref b12, .ref b13, .int 0, .ref b15, .ref b16, .ref b17, .ref b18, .ref b19, .ref b20, .ref b21, .int 0, .int 0, .int 0, .int 0, .long 0, .int (-1), .int 0, .int 0, .int 0, .int 0, .int 0, .int 0, .ref b34, .ref b35, .int 0, .ref b37, .ref b38, .ref b39, .ref b40, .ref b41]))]) hD hS hA [0] rfl
    refine va_calli (va_runV (As := [.int p0]) (rest := [.ref h0]) ⟨hx, hb, hml, hown, hts⟩ (c_X7_isMeeting l dC dI _ h0 b3 b4 b6 b7 b8 b9 b10 b11 b12 b13 b15 b16 b17 b18 b19 b20 b21 b34 b35 b37 b38 b39 b40 b41 p0 0) (cwV 1 hts gc_X7_record_X7_isMeeting rfl rfl rfl (by decide +kernel) ⟨Nat.le_of_ble_eq_true rfl, Nat.le_of_ble_eq_true rfl⟩) ⟨fun a U g mk q => by obtain ⟨q0, q1, qP, qK, qD⟩ := q; exact ⟨q0, q1, qP, va_K.moved (u := U) (U := U.calling g mk a) (Vm.Alike.refl U.vm) qK, qD⟩, va_recv hKc hPc (ci := 8) (q0 := 0) rfl rfl, fun U hU hW => ⟨rfl, by rw [hU], by rw [hU]; exact hPc, va_K.moved hW.alike hKc, hDc.weaken (fun _ _ _ _ => trivial)⟩⟩ rfl rfl hl.1 rfl (lv_room (Nat.le_of_ble_eq_true rfl)) dX7_record_30 ⟨Nat.zero_le _, Nat.zero_le _⟩) hS (fun q _ h => hFc q h) hFc (fun r_3 u t H1 locs ht hvm hw hB hz1 hk1 hS => ?_)
    obtain ⟨hP1, hK1, hD1⟩ := hB
    rw [ht] at hP1
    obtain ⟨hP, hD⟩ := va_join (wr := []) (w1 := [(h0, .inr (8, [.int 0, .int 0, .int 0, .ref b3, .ref b4, .int 0, .ref b6, .ref b7, .ref b8, .ref b9, .ref b10, .ref b11, .ref b12, .ref b13, .int 0, .ref b15, .ref b16, .ref b17, .ref b18, .ref b19, .ref b20, .ref b21, .int 0, .int 0, .int 0, .int 0, .long 0, .int (-1), .int 0, .int 0, .int 0, .int 0, .int 0, .int 0, .ref b34, .ref b35, .int 0, .ref b37, .ref b38, .ref b39, .ref b40, .ref b41]))]) hP hD [0] [] rfl rfl (by decide) (by decide) hk1 hFc hP1 hD1
    generalize H1 = H at hP hS ⊢
    have hP : va_P (dC, dI) vwCl [(h0, .inr (8, [.int 0, .int 0, .int 0, .ref b3, .ref b4, .int 0, .ref b6, .ref b7, .ref b8, .ref b9, .ref b10, .ref b11, .ref b12, .ref b13, .int 0, .ref b15, .ref b16, .ref b17, .ref b18, .ref b19, .ref b20, .ref b21, .int 0, .int 0, .int 0, .int 0, .long 0, .int (-1), .int 0, .int 0, .int 0, .int 0, .int 0, .int 0, .ref b34, .ref b35, .int 0, .ref b37, .ref b38, .ref b39, .ref b40, .ref b41]))] H := hP
    have hD : va_D A [(h0, .inr (8, [.int 0, .int 0, .int 0, .ref b3, .ref b4, .int 0, .ref b6, .ref b7, .ref b8, .ref b9, .ref b10, .ref b11, .ref b12, .ref b13, .int 0, .ref b15, .ref b16, .ref b17, .ref b18, .ref b19, .ref b20, .ref b21, .int 0, .int 0, .int 0, .int 0, .long 0, .int (-1), .int 0, .int 0, .int 0, .int 0, .int 0, .int 0, .ref b34, .ref b35, .int 0, .ref b37, .ref b38, .ref b39, .ref b40, .ref b41]))] := hD
    obtain rfl : r_3 = 0 := hw
    refine lv_if_eq (tgt := 41) hx hb dX7_record_33 (by decide) (fun c_4 => ?_) (fun c_4 => ?_)
    · refine lv_bipush (v := (-2)) hx hb dX7_record_41 (by decide) ?_
      have hPc := hP.sub (ws' := [(h0, .inr (8, [.int 0, .int 0, .int 0, .ref b3, .ref b4, .int 0, .ref b6, .ref b7, .ref b8, .ref b9, .ref b10, .ref b11, .ref b12, .ref b13, .int 0, .ref b15, .ref b16, .ref b17, .ref b18, .ref b19, .ref b20, .ref b21, .int 0, .int 0, .int 0, .int 0, .long 0, .int (-1), .int 0, .int 0, .int 0, .int 0, .int 0, .int 0, .ref b34, .ref b35, .int 0, .ref b37, .ref b38, .ref b39, .ref b40, .ref b41]))]) [0] rfl
      have hDc := hD.sub (ws' := [(h0, .inr (8, [.int 0, .int 0, .int 0, .ref b3, .ref b4, .int 0, .ref b6, .ref b7, .ref b8, .ref b9, .ref b10, .ref b11, .ref b12, .ref b13, .int 0, .ref b15, .ref b16, .ref b17, .ref b18, .ref b19, .ref b20, .ref b21, .int 0, .int 0, .int 0, .int 0, .long 0, .int (-1), .int 0, .int 0, .int 0, .int 0, .int 0, .int 0, .ref b34, .ref b35, .int 0, .ref b37, .ref b38, .ref b39, .ref b40, .ref b41]))]) [0] (by decide) rfl
      have hKc := hK.sub (tys' := []) [] rfl
      have hFc := va_free (wc := [(h0, .inr (8, [.int 0, .int 0, .int 0, .ref b3, .ref b4, .int 0, .ref b6, .ref b7, .ref b8, .ref b9, .ref b10, .ref b11, .ref b12, .ref b13, .int 0, .ref b15, .ref b16, .ref b17, .ref b18, .ref b19, .ref b20, .ref b21, .int 0, .int 0, .int 0, .int 0, .long 0, .int (-1), .int 0, .int 0, .int 0, .int 0, .int 0, .int 0, .ref b34, .ref b35, .int 0, .ref b37, .ref b38, .ref b39, .ref b40, .ref b41]))]) hD hS hA [0] rfl
      refine va_calli (va_runV (As := [.int (-2)]) (rest := []) ⟨hx, hb, hml, hown, hts⟩ (c_X7_told l dC dI _ h0 b3 b4 b6 b7 b8 b9 b10 b11 b12 b13 b15 b16 b17 b18 b19 b20 b21 b34 b35 b37 b38 b39 b40 b41 (-2) 0 0) (cwV 1 hts gc_X7_record_X7_told rfl rfl rfl (by decide +kernel) ⟨Nat.le_of_ble_eq_true rfl, Nat.le_of_ble_eq_true rfl⟩) ⟨fun a U g mk q => by obtain ⟨q0, q1, qP, qK, qD⟩ := q; exact ⟨q0, q1, qP, va_K.moved (u := U) (U := U.calling g mk a) (Vm.Alike.refl U.vm) qK, qD⟩, va_recv hKc hPc (ci := 8) (q0 := 0) rfl rfl, fun U hU hW => ⟨rfl, by rw [hU], by rw [hU]; exact hPc, va_K.moved hW.alike hKc, hDc.weaken (fun _ _ _ _ => trivial)⟩⟩ rfl rfl hl.1 rfl (lv_room (Nat.le_of_ble_eq_true rfl)) dX7_record_43 ⟨Nat.zero_le _, Nat.zero_le _⟩) hS (fun q _ h => hFc q h) hFc (fun r_5 u t H1 locs ht hvm hw hB hz1 hk1 hS => ?_)
      obtain ⟨sv_6, hf_7, hP1, hK1, hD1⟩ := hB
      rw [ht] at hP1
      obtain ⟨hP, hD⟩ := va_join (wr := []) (w1 := [(h0, .inr (8, [.int 0, .int sv_6, .int 0, .ref b3, .ref b4, .int 0, .ref b6, .ref b7, .ref b8, .ref b9, .ref b10, .ref b11, .ref b12, .ref b13, .int 0, .ref b15, .ref b16, .ref b17, .ref b18, .ref b19, .ref b20, .ref b21, .int 0, .int 0, .int 0, .int 0, .long 0, .int (-1), .int 0, .int 0, .int 0, .int 0, .int 0, .int 0, .ref b34, .ref b35, .int 0, .ref b37, .ref b38, .ref b39, .ref b40, .ref b41]))]) hP hD [0] [] rfl rfl (by decide) (by decide) hk1 hFc hP1 hD1
      generalize H1 = H at hP hS ⊢
      have hP : va_P (dC, dI) vwCl [(h0, .inr (8, [.int 0, .int sv_6, .int 0, .ref b3, .ref b4, .int 0, .ref b6, .ref b7, .ref b8, .ref b9, .ref b10, .ref b11, .ref b12, .ref b13, .int 0, .ref b15, .ref b16, .ref b17, .ref b18, .ref b19, .ref b20, .ref b21, .int 0, .int 0, .int 0, .int 0, .long 0, .int (-1), .int 0, .int 0, .int 0, .int 0, .int 0, .int 0, .ref b34, .ref b35, .int 0, .ref b37, .ref b38, .ref b39, .ref b40, .ref b41]))] H := hP
      have hD : va_D A [(h0, .inr (8, [.int 0, .int sv_6, .int 0, .ref b3, .ref b4, .int 0, .ref b6, .ref b7, .ref b8, .ref b9, .ref b10, .ref b11, .ref b12, .ref b13, .int 0, .ref b15, .ref b16, .ref b17, .ref b18, .ref b19, .ref b20, .ref b21, .int 0, .int 0, .int 0, .int 0, .long 0, .int (-1), .int 0, .int 0, .int 0, .int 0, .int 0, .int 0, .ref b34, .ref b35, .int 0, .ref b37, .ref b38, .ref b39, .ref b40, .ref b41]))] := hD
      obtain rfl : r_5 = (-2) := hw
      have hP9 := hP.sub (ws' := []) [] rfl
      have hD9 := hD.sub (ws' := []) [] (by decide) rfl
      have hK9 := hK.sub (tys' := []) [] rfl
      exact W.iret (v := (-2)) hx hb hr (fun t ht hW => ⟨⟨(-2), (), rfl, rfl, by rw [ht]; exact hP9, va_K.moved hW.alike hK9, hD9⟩, hS.F ht⟩) hS.2.2 dX7_record_46
    · exact absurd c_4 (by decide)
  · exact absurd c_2 (by decide)
def wp_X7_fault : List Cond := .code yX7_fault cX7_fault 1 (some .int) :: (([.fieldLink RX7 88 "AgreedTalksModel" "thrown" "I", .fieldLink RX7 62 "AgreedTalksModel" "fault" "I"] : List Cond) ++ wsX70)
set_option maxRecDepth 20000 in
theorem gi_X7_fault : GoodIn lw_tbl wp_X7_fault := (goodIn_ca (goodIn_r (.code yX7_fault cX7_fault 1 (some .int) :: ([.fieldLink RX7 88 "AgreedTalksModel" "thrown" "I", .fieldLink RX7 62 "AgreedTalksModel" "fault" "I"] : List Cond)) [887, 673, 700] (by decide +kernel) (by decide +kernel)) wi_wsX7)
set_option maxHeartbeats 4000000 in
set_option maxRecDepth 100000 in
/-- fault of the reference, on a fresh object -/
theorem c_X7_fault (l : Launch) (dC : Nat → ClassId) (dI : Nat → Nat → Nat) (sz : Nat) (h0 : Nat) (b3 : Nat) (b4 : Nat) (b6 : Nat) (b7 : Nat) (b8 : Nat) (b9 : Nat) (b10 : Nat) (b11 : Nat) (b12 : Nat) (b13 : Nat) (b15 : Nat) (b16 : Nat) (b17 : Nat) (b18 : Nat) (b19 : Nat) (b20 : Nat) (b21 : Nat) (b34 : Nat) (b35 : Nat) (b37 : Nat) (b38 : Nat) (b39 : Nat) (b40 : Nat) (b41 : Nat) : Met l yX7_fault wp_X7_fault ({ frames := 2, cells := 0, slots := 0, locals := 60 }) (va_Pc [.ref h0] (fun U => U.heap.size = sz ∧ va_P (dC, dI) vwCl [(h0, .inr (8, [.int 0, .int 0, .int 0, .ref b3, .ref b4, .int 0, .ref b6, .ref b7, .ref b8, .ref b9, .ref b10, .ref b11, .ref b12, .ref b13, .int 0, .ref b15, .ref b16, .ref b17, .ref b18, .ref b19, .ref b20, .ref b21, .int 0, .int 0, .int 0, .int 0, .long 0, .int (-1), .int 0, .int 0, .int 0, .int 0, .int 0, .int 0, .ref b34, .ref b35, .int 0, .ref b37, .ref b38, .ref b39, .ref b40, .ref b41]))] U.heap ∧ va_K (dC, dI) vwCl [] U ∧ va_D (fun _ => True) [(h0, .inr (8, [.int 0, .int 0, .int 0, .ref b3, .ref b4, .int 0, .ref b6, .ref b7, .ref b8, .ref b9, .ref b10, .ref b11, .ref b12, .ref b13, .int 0, .ref b15, .ref b16, .ref b17, .ref b18, .ref b19, .ref b20, .ref b21, .int 0, .int 0, .int 0, .int 0, .long 0, .int (-1), .int 0, .int 0, .int 0, .int 0, .int 0, .int 0, .ref b34, .ref b35, .int 0, .ref b37, .ref b38, .ref b39, .ref b40, .ref b41]))])) (va_Qi (fun (r : Int32) (_ : Unit) => r = (-1)) (fun (_ : Unit) (t : State) => va_P (dC, dI) vwCl [] t.heap ∧ va_K (dC, dI) vwCl [] t ∧ va_D (va_A [(h0, .inr (8, [.int 0, .int 0, .int 0, .ref b3, .ref b4, .int 0, .ref b6, .ref b7, .ref b8, .ref b9, .ref b10, .ref b11, .ref b12, .ref b13, .int 0, .ref b15, .ref b16, .ref b17, .ref b18, .ref b19, .ref b20, .ref b21, .int 0, .int 0, .int 0, .int 0, .long 0, .int (-1), .int 0, .int 0, .int 0, .int 0, .int 0, .int 0, .ref b34, .ref b35, .int 0, .ref b37, .ref b38, .ref b39, .ref b40, .ref b41]))] sz) []) (va_A [(h0, .inr (8, [.int 0, .int 0, .int 0, .ref b3, .ref b4, .int 0, .ref b6, .ref b7, .ref b8, .ref b9, .ref b10, .ref b11, .ref b12, .ref b13, .int 0, .ref b15, .ref b16, .ref b17, .ref b18, .ref b19, .ref b20, .ref b21, .int 0, .int 0, .int 0, .int 0, .long 0, .int (-1), .int 0, .int 0, .int 0, .int 0, .int 0, .int 0, .ref b34, .ref b35, .int 0, .ref b37, .ref b38, .ref b39, .ref b40, .ref b41]))] sz)) 0 0 (va_A [(h0, .inr (8, [.int 0, .int 0, .int 0, .ref b3, .ref b4, .int 0, .ref b6, .ref b7, .ref b8, .ref b9, .ref b10, .ref b11, .ref b12, .ref b13, .int 0, .ref b15, .ref b16, .ref b17, .ref b18, .ref b19, .ref b20, .ref b21, .int 0, .int 0, .int 0, .int 0, .long 0, .int (-1), .int 0, .int 0, .int 0, .int 0, .int 0, .int 0, .ref b34, .ref b35, .int 0, .ref b37, .ref b38, .ref b39, .ref b40, .ref b41]))] sz) := by
  refine Met.ofW (cc := cX7_fault) (maxL := 1) (ret := (some .int)) (by decide) rfl ?_
  intro p e s m args below meth c s₁ B hml hv
  obtain ⟨rfl, hsz, hP, hK, hD0⟩ := hv
  have hx := B.exec
  have hb := B.bytes
  have hr := B.returns
  have hts := atoms_spec (ws := wp_X7_fault) B.pre
  have hown : s.vm.findClass RX7 = some m.cls := findClass_of_methodNamed B.named
  have hlocks := B.notSynchronized
  subst hsz
  have hD := hD0.self (sz := s.heap.size)
  generalize hAe : va_A [(h0, .inr (8, [.int 0, .int 0, .int 0, .ref b3, .ref b4, .int 0, .ref b6, .ref b7, .ref b8, .ref b9, .ref b10, .ref b11, .ref b12, .ref b13, .int 0, .ref b15, .ref b16, .ref b17, .ref b18, .ref b19, .ref b20, .ref b21, .int 0, .int 0, .int 0, .int 0, .long 0, .int (-1), .int 0, .int 0, .int 0, .int 0, .int 0, .int 0, .ref b34, .ref b35, .int 0, .ref b37, .ref b38, .ref b39, .ref b40, .ref b41]))] s.heap.size = A at hD ⊢
  have hA : ∀ q : Nat, s.heap.size ≤ q → A q := fun q h => by rw [← hAe]; exact Or.inr h
  have hS : va_S A s.heap s.heap [] := va_S.rf
  have hP : va_P (dC, dI) vwCl [(h0, .inr (8, [.int 0, .int 0, .int 0, .ref b3, .ref b4, .int 0, .ref b6, .ref b7, .ref b8, .ref b9, .ref b10, .ref b11, .ref b12, .ref b13, .int 0, .ref b15, .ref b16, .ref b17, .ref b18, .ref b19, .ref b20, .ref b21, .int 0, .int 0, .int 0, .int 0, .long 0, .int (-1), .int 0, .int 0, .int 0, .int 0, .int 0, .int 0, .ref b34, .ref b35, .int 0, .ref b37, .ref b38, .ref b39, .ref b40, .ref b41]))] s.heap := hP
  have hl := lv_entry ([.ref h0]) (n := 1) (Nat.le_of_ble_eq_true rfl)
  rw [lg_entry_eq]
  generalize (lg_sl ([.ref h0]) ++ List.replicate (1 - (lg_sl ([.ref h0])).length) Slot.unset).toArray = ls at hl ⊢
  have hl : lv_has ls 1 [(0, .ref h0)] := hl
  have hinX7 : ∀ w ∈ u_ws RX7 TX7 42, w ∈ wp_X7_fault := fun _ h => List.mem_cons_of_mem _ (List.mem_append_right _ h)
  refine lv_aload_n hx hb dX7_fault_0 rfl (lv_at hl 0 rfl) ?_
  refine lv_iconst (v := 0) hx hb dX7_fault_1 (by decide) ?_
  refine va_put (D := (dC, dI)) (ci := 8) (v := .int 0) (ty := .int) (C := RX7) (T := TX7) (N := 42) hx hb hts hinX7 tyX7 tyX7_ok nmX7 hown hK hP hD hS 0 rfl rfl 0 (by decide) (hts (.fieldLink RX7 88 "AgreedTalksModel" "thrown" "I") (by decide +kernel)) (fun _ h9 => h9) rfl (by decide +kernel) rfl rfl (Nat.le_of_ble_eq_true rfl) dX7_fault_2 (fun H locs hP hD hS => ?_)
  have hP : va_P (dC, dI) vwCl [(h0, .inr (8, [.int 0, .int 0, .int 0, .ref b3, .ref b4, .int 0, .ref b6, .ref b7, .ref b8, .ref b9, .ref b10, .ref b11, .ref b12, .ref b13, .int 0, .ref b15, .ref b16, .ref b17, .ref b18, .ref b19, .ref b20, .ref b21, .int 0, .int 0, .int 0, .int 0, .long 0, .int (-1), .int 0, .int 0, .int 0, .int 0, .int 0, .int 0, .ref b34, .ref b35, .int 0, .ref b37, .ref b38, .ref b39, .ref b40, .ref b41]))] H := hP
  have hD : va_D A [(h0, .inr (8, [.int 0, .int 0, .int 0, .ref b3, .ref b4, .int 0, .ref b6, .ref b7, .ref b8, .ref b9, .ref b10, .ref b11, .ref b12, .ref b13, .int 0, .ref b15, .ref b16, .ref b17, .ref b18, .ref b19, .ref b20, .ref b21, .int 0, .int 0, .int 0, .int 0, .long 0, .int (-1), .int 0, .int 0, .int 0, .int 0, .int 0, .int 0, .ref b34, .ref b35, .int 0, .ref b37, .ref b38, .ref b39, .ref b40, .ref b41]))] := hD
  refine lv_aload_n hx hb dX7_fault_5 rfl (lv_at hl 0 rfl) ?_
  refine va_get (D := (dC, dI)) (ci := 8) (v := .int (-1)) (C := RX7) (T := TX7) (N := 42) hx hb hts hinX7 hown hK hP 0 rfl rfl 27 (by decide) (hts (.fieldLink RX7 62 "AgreedTalksModel" "fault" "I") (by decide +kernel)) (fun _ h9 => h9) rfl dX7_fault_6 ?_
  have hP9 := hP.sub (ws' := []) [] rfl
  have hD9 := hD.sub (ws' := []) [] (by decide) rfl
  have hK9 := hK.sub (tys' := []) [] rfl
  exact W.iret (v := (-1)) hx hb hr (fun t ht hW => ⟨⟨(-1), (), rfl, rfl, by rw [ht]; exact hP9, va_K.moved hW.alike hK9, hD9⟩, hS.F ht⟩) hS.2.2 dX7_fault_9
def wp_X7_status : List Cond := .code yX7_status cX7_status 1 (some .int) :: (([.fieldLink RX7 88 "AgreedTalksModel" "thrown" "I", .fieldLink RX7 91 "AgreedTalksModel" "status" "I"] : List Cond) ++ wsX70)
set_option maxRecDepth 20000 in
theorem gi_X7_status : GoodIn lw_tbl wp_X7_status := (goodIn_ca (goodIn_r (.code yX7_status cX7_status 1 (some .int) :: ([.fieldLink RX7 88 "AgreedTalksModel" "thrown" "I", .fieldLink RX7 91 "AgreedTalksModel" "status" "I"] : List Cond)) [990, 673, 674] (by decide +kernel) (by decide +kernel)) wi_wsX7)
set_option maxHeartbeats 4000000 in
set_option maxRecDepth 100000 in
/-- status of the reference, on a fresh object -/
theorem c_X7_status (l : Launch) (dC : Nat → ClassId) (dI : Nat → Nat → Nat) (sz : Nat) (h0 : Nat) (b3 : Nat) (b4 : Nat) (b6 : Nat) (b7 : Nat) (b8 : Nat) (b9 : Nat) (b10 : Nat) (b11 : Nat) (b12 : Nat) (b13 : Nat) (b15 : Nat) (b16 : Nat) (b17 : Nat) (b18 : Nat) (b19 : Nat) (b20 : Nat) (b21 : Nat) (b34 : Nat) (b35 : Nat) (b37 : Nat) (b38 : Nat) (b39 : Nat) (b40 : Nat) (b41 : Nat) : Met l yX7_status wp_X7_status ({ frames := 2, cells := 0, slots := 0, locals := 60 }) (va_Pc [.ref h0] (fun U => U.heap.size = sz ∧ va_P (dC, dI) vwCl [(h0, .inr (8, [.int 0, .int 0, .int 0, .ref b3, .ref b4, .int 0, .ref b6, .ref b7, .ref b8, .ref b9, .ref b10, .ref b11, .ref b12, .ref b13, .int 0, .ref b15, .ref b16, .ref b17, .ref b18, .ref b19, .ref b20, .ref b21, .int 0, .int 0, .int 0, .int 0, .long 0, .int (-1), .int 0, .int 0, .int 0, .int 0, .int 0, .int 0, .ref b34, .ref b35, .int 0, .ref b37, .ref b38, .ref b39, .ref b40, .ref b41]))] U.heap ∧ va_K (dC, dI) vwCl [] U ∧ va_D (fun _ => True) [(h0, .inr (8, [.int 0, .int 0, .int 0, .ref b3, .ref b4, .int 0, .ref b6, .ref b7, .ref b8, .ref b9, .ref b10, .ref b11, .ref b12, .ref b13, .int 0, .ref b15, .ref b16, .ref b17, .ref b18, .ref b19, .ref b20, .ref b21, .int 0, .int 0, .int 0, .int 0, .long 0, .int (-1), .int 0, .int 0, .int 0, .int 0, .int 0, .int 0, .ref b34, .ref b35, .int 0, .ref b37, .ref b38, .ref b39, .ref b40, .ref b41]))])) (va_Qi (fun (r : Int32) (_ : Unit) => r = 0) (fun (_ : Unit) (t : State) => va_P (dC, dI) vwCl [] t.heap ∧ va_K (dC, dI) vwCl [] t ∧ va_D (va_A [(h0, .inr (8, [.int 0, .int 0, .int 0, .ref b3, .ref b4, .int 0, .ref b6, .ref b7, .ref b8, .ref b9, .ref b10, .ref b11, .ref b12, .ref b13, .int 0, .ref b15, .ref b16, .ref b17, .ref b18, .ref b19, .ref b20, .ref b21, .int 0, .int 0, .int 0, .int 0, .long 0, .int (-1), .int 0, .int 0, .int 0, .int 0, .int 0, .int 0, .ref b34, .ref b35, .int 0, .ref b37, .ref b38, .ref b39, .ref b40, .ref b41]))] sz) []) (va_A [(h0, .inr (8, [.int 0, .int 0, .int 0, .ref b3, .ref b4, .int 0, .ref b6, .ref b7, .ref b8, .ref b9, .ref b10, .ref b11, .ref b12, .ref b13, .int 0, .ref b15, .ref b16, .ref b17, .ref b18, .ref b19, .ref b20, .ref b21, .int 0, .int 0, .int 0, .int 0, .long 0, .int (-1), .int 0, .int 0, .int 0, .int 0, .int 0, .int 0, .ref b34, .ref b35, .int 0, .ref b37, .ref b38, .ref b39, .ref b40, .ref b41]))] sz)) 0 0 (va_A [(h0, .inr (8, [.int 0, .int 0, .int 0, .ref b3, .ref b4, .int 0, .ref b6, .ref b7, .ref b8, .ref b9, .ref b10, .ref b11, .ref b12, .ref b13, .int 0, .ref b15, .ref b16, .ref b17, .ref b18, .ref b19, .ref b20, .ref b21, .int 0, .int 0, .int 0, .int 0, .long 0, .int (-1), .int 0, .int 0, .int 0, .int 0, .int 0, .int 0, .ref b34, .ref b35, .int 0, .ref b37, .ref b38, .ref b39, .ref b40, .ref b41]))] sz) := by
  refine Met.ofW (cc := cX7_status) (maxL := 1) (ret := (some .int)) (by decide) rfl ?_
  intro p e s m args below meth c s₁ B hml hv
  obtain ⟨rfl, hsz, hP, hK, hD0⟩ := hv
  have hx := B.exec
  have hb := B.bytes
  have hr := B.returns
  have hts := atoms_spec (ws := wp_X7_status) B.pre
  have hown : s.vm.findClass RX7 = some m.cls := findClass_of_methodNamed B.named
  have hlocks := B.notSynchronized
  subst hsz
  have hD := hD0.self (sz := s.heap.size)
  generalize hAe : va_A [(h0, .inr (8, [.int 0, .int 0, .int 0, .ref b3, .ref b4, .int 0, .ref b6, .ref b7, .ref b8, .ref b9, .ref b10, .ref b11, .ref b12, .ref b13, .int 0, .ref b15, .ref b16, .ref b17, .ref b18, .ref b19, .ref b20, .ref b21, .int 0, .int 0, .int 0, .int 0, .long 0, .int (-1), .int 0, .int 0, .int 0, .int 0, .int 0, .int 0, .ref b34, .ref b35, .int 0, .ref b37, .ref b38, .ref b39, .ref b40, .ref b41]))] s.heap.size = A at hD ⊢
  have hA : ∀ q : Nat, s.heap.size ≤ q → A q := fun q h => by rw [← hAe]; exact Or.inr h
  have hS : va_S A s.heap s.heap [] := va_S.rf
  have hP : va_P (dC, dI) vwCl [(h0, .inr (8, [.int 0, .int 0, .int 0, .ref b3, .ref b4, .int 0, .ref b6, .ref b7, .ref b8, .ref b9, .ref b10, .ref b11, .ref b12, .ref b13, .int 0, .ref b15, .ref b16, .ref b17, .ref b18, .ref b19, .ref b20, .ref b21, .int 0, .int 0, .int 0, .int 0, .long 0, .int (-1), .int 0, .int 0, .int 0, .int 0, .int 0, .int 0, .ref b34, .ref b35, .int 0, .ref b37, .ref b38, .ref b39, .ref b40, .ref b41]))] s.heap := hP
  have hl := lv_entry ([.ref h0]) (n := 1) (Nat.le_of_ble_eq_true rfl)
  rw [lg_entry_eq]
  generalize (lg_sl ([.ref h0]) ++ List.replicate (1 - (lg_sl ([.ref h0])).length) Slot.unset).toArray = ls at hl ⊢
  have hl : lv_has ls 1 [(0, .ref h0)] := hl
  have hinX7 : ∀ w ∈ u_ws RX7 TX7 42, w ∈ wp_X7_status := fun _ h => List.mem_cons_of_mem _ (List.mem_append_right _ h)
  refine lv_aload_n hx hb dX7_status_0 rfl (lv_at hl 0 rfl) ?_
  refine lv_iconst (v := 0) hx hb dX7_status_1 (by decide) ?_
  refine va_put (D := (dC, dI)) (ci := 8) (v := .int 0) (ty := .int) (C := RX7) (T := TX7) (N := 42) hx hb hts hinX7 tyX7 tyX7_ok nmX7 hown hK hP hD hS 0 rfl rfl 0 (by decide) (hts (.fieldLink RX7 88 "AgreedTalksModel" "thrown" "I") (by decide +kernel)) (fun _ h9 => h9) rfl (by decide +kernel) rfl rfl (Nat.le_of_ble_eq_true rfl) dX7_status_2 (fun H locs hP hD hS => ?_)
  have hP : va_P (dC, dI) vwCl [(h0, .inr (8, [.int 0, .int 0, .int 0, .ref b3, .ref b4, .int 0, .ref b6, .ref b7, .ref b8, .ref b9, .ref b10, .ref b11, .ref b12, .ref b13, .int 0, .ref b15, .ref b16, .ref b17, .ref b18, .ref b19, .ref b20, .ref b21, .int 0, .int 0, .int 0, .int 0, .long 0, .int (-1), .int 0, .int 0, .int 0, .int 0, .int 0, .int 0, .ref b34, .ref b35, .int 0, .ref b37, .ref b38, .ref b39, .ref b40, .ref b41]))] H := hP
  have hD : va_D A [(h0, .inr (8, [.int 0, .int 0, .int 0, .ref b3, .ref b4, .int 0, .ref b6, .ref b7, .ref b8, .ref b9, .ref b10, .ref b11, .ref b12, .ref b13, .int 0, .ref b15, .ref b16, .ref b17, .ref b18, .ref b19, .ref b20, .ref b21, .int 0, .int 0, .int 0, .int 0, .long 0, .int (-1), .int 0, .int 0, .int 0, .int 0, .int 0, .int 0, .ref b34, .ref b35, .int 0, .ref b37, .ref b38, .ref b39, .ref b40, .ref b41]))] := hD
  refine lv_aload_n hx hb dX7_status_5 rfl (lv_at hl 0 rfl) ?_
  refine va_get (D := (dC, dI)) (ci := 8) (v := .int 0) (C := RX7) (T := TX7) (N := 42) hx hb hts hinX7 hown hK hP 0 rfl rfl 1 (by decide) (hts (.fieldLink RX7 91 "AgreedTalksModel" "status" "I") (by decide +kernel)) (fun _ h9 => h9) rfl dX7_status_6 ?_
  have hP9 := hP.sub (ws' := []) [] rfl
  have hD9 := hD.sub (ws' := []) [] (by decide) rfl
  have hK9 := hK.sub (tys' := []) [] rfl
  exact W.iret (v := 0) hx hb hr (fun t ht hW => ⟨⟨0, (), rfl, rfl, by rw [ht]; exact hP9, va_K.moved hW.alike hK9, hD9⟩, hS.F ht⟩) hS.2.2 dX7_status_9
def wp_X7_of : List Cond := .code yX7_of cX7_of 3 (some .int) :: (([.fieldLink RX7 88 "AgreedTalksModel" "thrown" "I"] : List Cond) ++ wsX70 ++ (wsV RX7 201 RX7 yX7_isRecord wp_X7_isRecord))
theorem gc_X7_of_X7_isRecord : GoodIn wp_X7_of (wsV RX7 201 RX7 yX7_isRecord wp_X7_isRecord) := goodIn_sub (fun _ h => List.mem_cons_of_mem _ (List.mem_append_right _ h)) (by decide +kernel)
set_option maxRecDepth 20000 in
theorem gi_X7_of : GoodIn lw_tbl wp_X7_of := (goodIn_ca (goodIn_ca (goodIn_r (.code yX7_of cX7_of 3 (some .int) :: ([.fieldLink RX7 88 "AgreedTalksModel" "thrown" "I"] : List Cond)) [891, 673] (by decide +kernel) (by decide +kernel)) wi_wsX7) (goodIn_app (goodIn_r _ [892, 894, 38, 57] (by decide +kernel) (by decide +kernel)) gi_X7_isRecord))
set_option maxHeartbeats 4000000 in
set_option maxRecDepth 100000 in
/-- of of the reference, on a fresh object -/
theorem c_X7_of (l : Launch) (dC : Nat → ClassId) (dI : Nat → Nat → Nat) (sz : Nat) (h0 : Nat) (b3 : Nat) (b4 : Nat) (b6 : Nat) (b7 : Nat) (b8 : Nat) (b9 : Nat) (b10 : Nat) (b11 : Nat) (b12 : Nat) (b13 : Nat) (b15 : Nat) (b16 : Nat) (b17 : Nat) (b18 : Nat) (b19 : Nat) (b20 : Nat) (b21 : Nat) (b34 : Nat) (b35 : Nat) (b37 : Nat) (b38 : Nat) (b39 : Nat) (b40 : Nat) (b41 : Nat) (p0 : Int32) (p1 : Int32) : Met l yX7_of wp_X7_of ({ frames := 2, cells := 0, slots := 0, locals := 60 }) (va_Pc [.ref h0, .int p0, .int p1] (fun U => U.heap.size = sz ∧ va_P (dC, dI) vwCl [(h0, .inr (8, [.int 0, .int 0, .int 0, .ref b3, .ref b4, .int 0, .ref b6, .ref b7, .ref b8, .ref b9, .ref b10, .ref b11, .ref b12, .ref b13, .int 0, .ref b15, .ref b16, .ref b17, .ref b18, .ref b19, .ref b20, .ref b21, .int 0, .int 0, .int 0, .int 0, .long 0, .int (-1), .int 0, .int 0, .int 0, .int 0, .int 0, .int 0, .ref b34, .ref b35, .int 0, .ref b37, .ref b38, .ref b39, .ref b40, .ref b41]))] U.heap ∧ va_K (dC, dI) vwCl [] U ∧ va_D (fun _ => True) [(h0, .inr (8, [.int 0, .int 0, .int 0, .ref b3, .ref b4, .int 0, .ref b6, .ref b7, .ref b8, .ref b9, .ref b10, .ref b11, .ref b12, .ref b13, .int 0, .ref b15, .ref b16, .ref b17, .ref b18, .ref b19, .ref b20, .ref b21, .int 0, .int 0, .int 0, .int 0, .long 0, .int (-1), .int 0, .int 0, .int 0, .int 0, .int 0, .int 0, .ref b34, .ref b35, .int 0, .ref b37, .ref b38, .ref b39, .ref b40, .ref b41]))])) (va_Qi (fun (r : Int32) (_ : Unit) => r = (-1)) (fun (_ : Unit) (t : State) => va_P (dC, dI) vwCl [] t.heap ∧ va_K (dC, dI) vwCl [] t ∧ va_D (va_A [(h0, .inr (8, [.int 0, .int 0, .int 0, .ref b3, .ref b4, .int 0, .ref b6, .ref b7, .ref b8, .ref b9, .ref b10, .ref b11, .ref b12, .ref b13, .int 0, .ref b15, .ref b16, .ref b17, .ref b18, .ref b19, .ref b20, .ref b21, .int 0, .int 0, .int 0, .int 0, .long 0, .int (-1), .int 0, .int 0, .int 0, .int 0, .int 0, .int 0, .ref b34, .ref b35, .int 0, .ref b37, .ref b38, .ref b39, .ref b40, .ref b41]))] sz) []) (va_A [(h0, .inr (8, [.int 0, .int 0, .int 0, .ref b3, .ref b4, .int 0, .ref b6, .ref b7, .ref b8, .ref b9, .ref b10, .ref b11, .ref b12, .ref b13, .int 0, .ref b15, .ref b16, .ref b17, .ref b18, .ref b19, .ref b20, .ref b21, .int 0, .int 0, .int 0, .int 0, .long 0, .int (-1), .int 0, .int 0, .int 0, .int 0, .int 0, .int 0, .ref b34, .ref b35, .int 0, .ref b37, .ref b38, .ref b39, .ref b40, .ref b41]))] sz)) 0 0 (va_A [(h0, .inr (8, [.int 0, .int 0, .int 0, .ref b3, .ref b4, .int 0, .ref b6, .ref b7, .ref b8, .ref b9, .ref b10, .ref b11, .ref b12, .ref b13, .int 0, .ref b15, .ref b16, .ref b17, .ref b18, .ref b19, .ref b20, .ref b21, .int 0, .int 0, .int 0, .int 0, .long 0, .int (-1), .int 0, .int 0, .int 0, .int 0, .int 0, .int 0, .ref b34, .ref b35, .int 0, .ref b37, .ref b38, .ref b39, .ref b40, .ref b41]))] sz) := by
  refine Met.ofW (cc := cX7_of) (maxL := 3) (ret := (some .int)) (by decide) rfl ?_
  intro p e s m args below meth c s₁ B hml hv
  obtain ⟨rfl, hsz, hP, hK, hD0⟩ := hv
  have hx := B.exec
  have hb := B.bytes
  have hr := B.returns
  have hts := atoms_spec (ws := wp_X7_of) B.pre
  have hown : s.vm.findClass RX7 = some m.cls := findClass_of_methodNamed B.named
  have hlocks := B.notSynchronized
  subst hsz
  have hD := hD0.self (sz := s.heap.size)
  generalize hAe : va_A [(h0, .inr (8, [.int 0, .int 0, .int 0, .ref b3, .ref b4, .int 0, .ref b6, .ref b7, .ref b8, .ref b9, .ref b10, .ref b11, .ref b12, .ref b13, .int 0, .ref b15, .ref b16, .ref b17, .ref b18, .ref b19, .ref b20, .ref b21, .int 0, .int 0, .int 0, .int 0, .long 0, .int (-1), .int 0, .int 0, .int 0, .int 0, .int 0, .int 0, .ref b34, .ref b35, .int 0, .ref b37, .ref b38, .ref b39, .ref b40, .ref b41]))] s.heap.size = A at hD ⊢
  have hA : ∀ q : Nat, s.heap.size ≤ q → A q := fun q h => by rw [← hAe]; exact Or.inr h
  have hS : va_S A s.heap s.heap [] := va_S.rf
  have hP : va_P (dC, dI) vwCl [(h0, .inr (8, [.int 0, .int 0, .int 0, .ref b3, .ref b4, .int 0, .ref b6, .ref b7, .ref b8, .ref b9, .ref b10, .ref b11, .ref b12, .ref b13, .int 0, .ref b15, .ref b16, .ref b17, .ref b18, .ref b19, .ref b20, .ref b21, .int 0, .int 0, .int 0, .int 0, .long 0, .int (-1), .int 0, .int 0, .int 0, .int 0, .int 0, .int 0, .ref b34, .ref b35, .int 0, .ref b37, .ref b38, .ref b39, .ref b40, .ref b41]))] s.heap := hP
  have hl := lv_entry ([.ref h0, .int p0, .int p1]) (n := 3) (Nat.le_of_ble_eq_true rfl)
  rw [lg_entry_eq]
  generalize (lg_sl ([.ref h0, .int p0, .int p1]) ++ List.replicate (3 - (lg_sl ([.ref h0, .int p0, .int p1])).length) Slot.unset).toArray = ls at hl ⊢
  have hl : lv_has ls 3 [(0, .ref h0), (1, .int p0), (2, .int p1)] := hl
  have hinX7 : ∀ w ∈ u_ws RX7 TX7 42, w ∈ wp_X7_of := fun _ h => List.mem_cons_of_mem _ (List.mem_append_left _ (List.mem_append_right _ h))
  refine lv_aload_n hx hb dX7_of_0 rfl (lv_at hl 0 rfl) ?_
  refine lv_iconst (v := 0) hx hb dX7_of_1 (by decide) ?_
  refine va_put (D := (dC, dI)) (ci := 8) (v := .int 0) (ty := .int) (C := RX7) (T := TX7) (N := 42) hx hb hts hinX7 tyX7 tyX7_ok nmX7 hown hK hP hD hS 0 rfl rfl 0 (by decide) (hts (.fieldLink RX7 88 "AgreedTalksModel" "thrown" "I") (by decide +kernel)) (fun _ h9 => h9) rfl (by decide +kernel) rfl rfl (Nat.le_of_ble_eq_true rfl) dX7_of_2 (fun H locs hP hD hS => ?_)
  have hP : va_P (dC, dI) vwCl [(h0, .inr (8, [.int 0, .int 0, .int 0, .ref b3, .ref b4, .int 0, .ref b6, .ref b7, .ref b8, .ref b9, .ref b10, .ref b11, .ref b12, .ref b13, .int 0, .ref b15, .ref b16, .ref b17, .ref b18, .ref b19, .ref b20, .ref b21, .int 0, .int 0, .int 0, .int 0, .long 0, .int (-1), .int 0, .int 0, .int 0, .int 0, .int 0, .int 0, .ref b34, .ref b35, .int 0, .ref b37, .ref b38, .ref b39, .ref b40, .ref b41]))] H := hP
  have hD : va_D A [(h0, .inr (8, [.int 0, .int 0, .int 0, .ref b3, .ref b4, .int 0, .ref b6, .ref b7, .ref b8, .ref b9, .ref b10, .ref b11, .ref b12, .ref b13, .int 0, .ref b15, .ref b16, .ref b17, .ref b18, .ref b19, .ref b20, .ref b21, .int 0, .int 0, .int 0, .int 0, .long 0, .int (-1), .int 0, .int 0, .int 0, .int 0, .int 0, .int 0, .ref b34, .ref b35, .int 0, .ref b37, .ref b38, .ref b39, .ref b40, .ref b41]))] := hD
  refine lv_aload_n hx hb dX7_of_5 rfl (lv_at hl 0 rfl) ?_
  refine lv_iload_n hx hb dX7_of_6 rfl (lv_at hl 1 rfl) ?_
  have hPc := hP.sub (ws' := [(h0, .inr (8, [.int 0, .int 0, .int 0, .ref b3, .ref b4, .int 0, .ref b6, .ref b7, .ref b8, .ref b9, .ref b10, .ref b11, .ref b12, .ref b13, .int 0, .ref b15, .ref b16, .ref b17, .ref b18, .ref b19, .ref b20, .ref b21, .int 0, .int 0, .int 0, .int 0, .long 0, .int (-1), .int 0, .int 0, .int 0, .int 0, .int 0, .int 0, .ref b34, .ref b35, .int 0, .ref b37, .ref b38, .ref b39, .ref b40, .ref b41]))]) [0] rfl
  have hDc := hD.sub (ws' := [(h0, .inr (8, [.int 0, .int 0, .int 0, .ref b3, .ref b4, .int 0, .ref b6, .ref b7, .ref b8, .ref b9, .ref b10, .ref b11, .ref b12, .ref b13, .int 0, .ref b15, .ref b16, .ref b17, .ref b18, .ref b19, .ref b20, .ref b21, .int 0, .int 0, .int 0, .int 0, .long 0, .int (-1), .int 0, .int 0, .int 0, .int 0, .int 0, .int 0, .ref b34, .ref b35, .int 0, .ref b37, .ref b38, .ref b39, .ref b40, .ref b41]))]) [0] (by decide) rfl
  have hKc := hK.sub (tys' := []) [] rfl
  have hFc := va_free (wc := [(h0, .inr (8, [.int 0, .int 0, .int 0, .ref b3, .ref b4, .int 0, .ref b6, .ref b7, .ref b8, .ref b9, .ref b10, .ref b11, .ref b12, .ref b13, .int 0, .ref b15, .ref b16, .ref b17, .ref b18, .ref b19, .ref b20, .ref b21, .int 0, .int 0, .int 0, .int 0, .long 0, .int (-1), .int 0, .int 0, .int 0, .int 0, .int 0, .int 0, .ref b34, .ref b35, .int 0, .ref b37, .ref b38, .ref b39, .ref b40, .ref b41]))]) hD hS hA [0] rfl
  refine va_calli (va_runV (As := [.int p0]) (rest := []) ⟨hx, hb, hml, hown, hts⟩ (c_X7_isRecord l dC dI _ h0 b3 b4 b6 b7 b8 b9 b10 b11 b12 b13 b15 b16 b17 b18 b19 b20 b21 b34 b35 b37 b38 b39 b40 b41 p0 0) (cwV 1 hts gc_X7_of_X7_isRecord rfl rfl rfl (by decide +kernel) ⟨Nat.le_of_ble_eq_true rfl, Nat.le_of_ble_eq_true rfl⟩) ⟨fun a U g mk q => by obtain ⟨q0, q1, qP, qK, qD⟩ := q; exact ⟨q0, q1, qP, va_K.moved (u := U) (U := U.calling g mk a) (Vm.Alike.refl U.vm) qK, qD⟩, va_recv hKc hPc (ci := 8) (q0 := 0) rfl rfl, fun U hU hW => ⟨rfl, by rw [hU], by rw [hU]; exact hPc, va_K.moved hW.alike hKc, hDc.weaken (fun _ _ _ _ => trivial)⟩⟩ rfl rfl hl.1 rfl (lv_room (Nat.le_of_ble_eq_true rfl)) dX7_of_7 ⟨Nat.zero_le _, Nat.zero_le _⟩) hS (fun q _ h => hFc q h) hFc (fun r_1 u t H1 locs ht hvm hw hB hz1 hk1 hS => ?_)
  obtain ⟨hP1, hK1, hD1⟩ := hB
  rw [ht] at hP1
  obtain ⟨hP, hD⟩ := va_join (wr := []) (w1 := [(h0, .inr (8, [.int 0, .int 0, .int 0, .ref b3, .ref b4, .int 0, .ref b6, .ref b7, .ref b8, .ref b9, .ref b10, .ref b11, .ref b12, .ref b13, .int 0, .ref b15, .ref b16, .ref b17, .ref b18, .ref b19, .ref b20, .ref b21, .int 0, .int 0, .int 0, .int 0, .long 0, .int (-1), .int 0, .int 0, .int 0, .int 0, .int 0, .int 0, .ref b34, .ref b35, .int 0, .ref b37, .ref b38, .ref b39, .ref b40, .ref b41]))]) hP hD [0] [] rfl rfl (by decide) (by decide) hk1 hFc hP1 hD1
  generalize H1 = H at hP hS ⊢
  have hP : va_P (dC, dI) vwCl [(h0, .inr (8, [.int 0, .int 0, .int 0, .ref b3, .ref b4, .int 0, .ref b6, .ref b7, .ref b8, .ref b9, .ref b10, .ref b11, .ref b12, .ref b13, .int 0, .ref b15, .ref b16, .ref b17, .ref b18, .ref b19, .ref b20, .ref b21, .int 0, .int 0, .int 0, .int 0, .long 0, .int (-1), .int 0, .int 0, .int 0, .int 0, .int 0, .int 0, .ref b34, .ref b35, .int 0, .ref b37, .ref b38, .ref b39, .ref b40, .ref b41]))] H := hP
  have hD : va_D A [(h0, .inr (8, [.int 0, .int 0, .int 0, .ref b3, .ref b4, .int 0, .ref b6, .ref b7, .ref b8, .ref b9, .ref b10, .ref b11, .ref b12, .ref b13, .int 0, .ref b15, .ref b16, .ref b17, .ref b18, .ref b19, .ref b20, .ref b21, .int 0, .int 0, .int 0, .int 0, .long 0, .int (-1), .int 0, .int 0, .int 0, .int 0, .int 0, .int 0, .ref b34, .ref b35, .int 0, .ref b37, .ref b38, .ref b39, .ref b40, .ref b41]))] := hD
  obtain rfl : r_1 = 0 := hw
  refine lv_if_ne (tgt := 15) hx hb dX7_of_10 (by decide) (fun c_2 => ?_) (fun c_2 => ?_)
  · exact absurd c_2 (by decide)
  · refine lv_iconst (v := (-1)) hx hb dX7_of_13 (by decide) ?_
    have hP9 := hP.sub (ws' := []) [] rfl
    have hD9 := hD.sub (ws' := []) [] (by decide) rfl
    have hK9 := hK.sub (tys' := []) [] rfl
    exact W.iret (v := (-1)) hx hb hr (fun t ht hW => ⟨⟨(-1), (), rfl, rfl, by rw [ht]; exact hP9, va_K.moved hW.alike hK9, hD9⟩, hS.F ht⟩) hS.2.2 dX7_of_14
