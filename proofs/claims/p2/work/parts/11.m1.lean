theorem dX7_in_0 : decode cX7_in 0 = .ok (.lload_n 0, 1) := by decide +kernel
theorem dX7_in_1 : decode cX7_in 1 = .ok (.lload_n 2, 1) := by decide +kernel
theorem dX7_in_2 : decode cX7_in 2 = .ok (.lcmp, 1) := by decide +kernel
theorem dX7_in_3 : decode cX7_in 3 = .ok (.ifCond .lt 14, 3) := by decide +kernel
theorem dX7_in_17 : decode cX7_in 17 = .ok (.iconst 0, 1) := by decide +kernel
theorem dX7_in_18 : decode cX7_in 18 = .ok (.ireturn, 1) := by decide +kernel
theorem dX7_in_6 : decode cX7_in 6 = .ok (.lload_n 0, 1) := by decide +kernel
theorem dX7_in_7 : decode cX7_in 7 = .ok (.lload 4, 2) := by decide +kernel
theorem dX7_in_9 : decode cX7_in 9 = .ok (.lcmp, 1) := by decide +kernel
theorem dX7_in_10 : decode cX7_in 10 = .ok (.ifCond .gt 7, 3) := by decide +kernel
theorem dX7_in_13 : decode cX7_in 13 = .ok (.iconst 1, 1) := by decide +kernel
theorem dX7_in_14 : decode cX7_in 14 = .ok (.goto 4, 3) := by decide +kernel
theorem dX7_told_0 : decode cX7_told 0 = .ok (.aload_n 0, 1) := by decide +kernel
theorem dX7_told_1 : decode cX7_told 1 = .ok (.iload_n 1, 1) := by decide +kernel
theorem dX7_told_2 : decode cX7_told 2 = .ok (.ifCond .ge 7, 3) := by decide +kernel
theorem dX7_told_9 : decode cX7_told 9 = .ok (.iconst 0, 1) := by decide +kernel
theorem dX7_told_10 : decode cX7_told 10 = .ok (.putfield 91, 3) := by decide +kernel
theorem dX7_told_13 : decode cX7_told 13 = .ok (.iload_n 1, 1) := by decide +kernel
theorem dX7_told_14 : decode cX7_told 14 = .ok (.ireturn, 1) := by decide +kernel
theorem dX7_told_5 : decode cX7_told 5 = .ok (.iload_n 1, 1) := by decide +kernel
theorem dX7_told_6 : decode cX7_told 6 = .ok (.goto 4, 3) := by decide +kernel
theorem dX7_isSmall_0 : decode cX7_isSmall 0 = .ok (.iload_n 0, 1) := by decide +kernel
theorem dX7_isSmall_1 : decode cX7_isSmall 1 = .ok (.bipush 97, 2) := by decide +kernel
theorem dX7_isSmall_3 : decode cX7_isSmall 3 = .ok (.if_icmp .lt 13, 3) := by decide +kernel
theorem dX7_isSmall_16 : decode cX7_isSmall 16 = .ok (.iconst 0, 1) := by decide +kernel
theorem dX7_isSmall_17 : decode cX7_isSmall 17 = .ok (.ireturn, 1) := by decide +kernel
theorem dX7_isSmall_6 : decode cX7_isSmall 6 = .ok (.iload_n 0, 1) := by decide +kernel
theorem dX7_isSmall_7 : decode cX7_isSmall 7 = .ok (.bipush 122, 2) := by decide +kernel
theorem dX7_isSmall_9 : decode cX7_isSmall 9 = .ok (.if_icmp .gt 7, 3) := by decide +kernel
theorem dX7_isSmall_12 : decode cX7_isSmall 12 = .ok (.iconst 1, 1) := by decide +kernel
theorem dX7_isSmall_13 : decode cX7_isSmall 13 = .ok (.goto 4, 3) := by decide +kernel
theorem dX7_isDigit_0 : decode cX7_isDigit 0 = .ok (.iload_n 0, 1) := by decide +kernel
theorem dX7_isDigit_1 : decode cX7_isDigit 1 = .ok (.bipush 48, 2) := by decide +kernel
theorem dX7_isDigit_3 : decode cX7_isDigit 3 = .ok (.if_icmp .lt 13, 3) := by decide +kernel
theorem dX7_isDigit_16 : decode cX7_isDigit 16 = .ok (.iconst 0, 1) := by decide +kernel
theorem dX7_isDigit_17 : decode cX7_isDigit 17 = .ok (.ireturn, 1) := by decide +kernel
theorem dX7_isDigit_6 : decode cX7_isDigit 6 = .ok (.iload_n 0, 1) := by decide +kernel
theorem dX7_isDigit_7 : decode cX7_isDigit 7 = .ok (.bipush 57, 2) := by decide +kernel
theorem dX7_isDigit_9 : decode cX7_isDigit 9 = .ok (.if_icmp .gt 7, 3) := by decide +kernel
theorem dX7_isDigit_12 : decode cX7_isDigit 12 = .ok (.iconst 1, 1) := by decide +kernel
theorem dX7_isDigit_13 : decode cX7_isDigit 13 = .ok (.goto 4, 3) := by decide +kernel
def wp_X7_in : List Cond := .code yX7_in cX7_in 6 (some .boolean) :: (([] : List Cond))
set_option maxRecDepth 20000 in
theorem gi_X7_in : GoodIn lw_tbl wp_X7_in := (goodIn_r (.code yX7_in cX7_in 6 (some .boolean) :: ([] : List Cond)) [808] (by decide +kernel) (by decide +kernel))
set_option maxHeartbeats 4000000 in
set_option maxRecDepth 100000 in
/-- in -/
theorem c_X7_in (l : Launch) (dC : Nat → ClassId) (dI : Nat → Nat → Nat) (sz : Nat) (v0 : Int64) (v1 : Int64) (v2 : Int64) : Met l yX7_in wp_X7_in ({ frames := 0, cells := 0, slots := 0, locals := 0 }) (va_Pc [.long v0, .long v1, .long v2] (fun U => U.heap.size = sz ∧ va_P (dC, dI) vwCl [] U.heap ∧ va_K (dC, dI) vwCl [] U ∧ va_D (fun _ => True) [])) (va_Qi (fun (r : Int32) (_ : Unit) => r = (if v0 < v1 ∨ v2 < v0 then 0 else 1)) (fun (_ : Unit) (t : State) => va_P (dC, dI) vwCl [] t.heap ∧ va_K (dC, dI) vwCl [] t ∧ va_D (va_A [] sz) []) (va_A [] sz)) 0 0 (va_A [] sz) := by
  refine Met.ofW (cc := cX7_in) (maxL := 6) (ret := (some .boolean)) (by decide) rfl ?_
  intro p e s m args below meth c s₁ B hml hv
  obtain ⟨rfl, hsz, hP, hK, hD0⟩ := hv
  have hx := B.exec
  have hb := B.bytes
  have hr := B.returns
  have hts := atoms_spec (ws := wp_X7_in) B.pre
  have hown : s.vm.findClass RX7 = some m.cls := findClass_of_methodNamed B.named
  have hlocks := B.notSynchronized
  subst hsz
  have hD := hD0.self (sz := s.heap.size)
  generalize hAe : va_A [] s.heap.size = A at hD ⊢
  have hA : ∀ q : Nat, s.heap.size ≤ q → A q := fun q h => by rw [← hAe]; exact Or.inr h
  have hS : va_S A s.heap s.heap [] := va_S.rf
  have hP : va_P (dC, dI) vwCl [] s.heap := hP
  have hl := lv_entry ([.long v0, .long v1, .long v2]) (n := 6) (Nat.le_of_ble_eq_true rfl)
  rw [lg_entry_eq]
  generalize (lg_sl ([.long v0, .long v1, .long v2]) ++ List.replicate (6 - (lg_sl ([.long v0, .long v1, .long v2])).length) Slot.unset).toArray = ls at hl ⊢
  have hl : lv_has ls 6 [(0, .long v0), (2, .long v1), (4, .long v2)] := hl
  refine lv_lload_n hx hb dX7_in_0 rfl (lv_at hl 0 rfl) ?_
  refine lv_lload_n hx hb dX7_in_1 rfl (lv_at hl 1 rfl) ?_
  refine W.lcmp hx hb dX7_in_2 ?_
  refine lv_if_lt (tgt := 17) hx hb dX7_in_3 (by decide) (fun c_1 => ?_) (fun c_1 => ?_)
  · have c_1 : v0 < v1 := (lg_cmp_lt _ _).mp c_1
    refine lv_iconst (v := 0) hx hb dX7_in_17 (by decide) ?_
    have hP9 := hP.sub (ws' := []) [] rfl
    have hD9 := hD.sub (ws' := []) [] (by decide) rfl
    have hK9 := hK.sub (tys' := []) [] rfl
    exact W.zret (v := 0) (ty := .boolean) hx hb hr rfl (fun t ht hW => ⟨⟨0, (), rfl, by simp [c_1], by rw [ht]; exact hP9, va_K.moved hW.alike hK9, hD9⟩, hS.F ht⟩) hS.2.2 dX7_in_18
  · have c_1 : ¬ (v0 < v1) := fun h => c_1 ((lg_cmp_lt _ _).mpr h)
    refine lv_lload_n hx hb dX7_in_6 rfl (lv_at hl 0 rfl) ?_
    refine lv_lload hx hb dX7_in_7 (lv_at hl 2 rfl) ?_
    refine W.lcmp hx hb dX7_in_9 ?_
    refine lv_if_gt (tgt := 17) hx hb dX7_in_10 (by decide) (fun c_2 => ?_) (fun c_2 => ?_)
    · have c_2 : v2 < v0 := (lg_cmp_gt _ _).mp c_2
      refine lv_iconst (v := 0) hx hb dX7_in_17 (by decide) ?_
      have hP9 := hP.sub (ws' := []) [] rfl
      have hD9 := hD.sub (ws' := []) [] (by decide) rfl
      have hK9 := hK.sub (tys' := []) [] rfl
      exact W.zret (v := 0) (ty := .boolean) hx hb hr rfl (fun t ht hW => ⟨⟨0, (), rfl, by simp [c_1, c_2], by rw [ht]; exact hP9, va_K.moved hW.alike hK9, hD9⟩, hS.F ht⟩) hS.2.2 dX7_in_18
    · have c_2 : ¬ (v2 < v0) := fun h => c_2 ((lg_cmp_gt _ _).mpr h)
      refine lv_iconst (v := 1) hx hb dX7_in_13 (by decide) ?_
      refine lv_goto (tgt := 18) hx hb dX7_in_14 (by decide) ?_
      have hP9 := hP.sub (ws' := []) [] rfl
      have hD9 := hD.sub (ws' := []) [] (by decide) rfl
      have hK9 := hK.sub (tys' := []) [] rfl
      exact W.zret (v := 1) (ty := .boolean) hx hb hr rfl (fun t ht hW => ⟨⟨1, (), rfl, by simp [c_1, c_2], by rw [ht]; exact hP9, va_K.moved hW.alike hK9, hD9⟩, hS.F ht⟩) hS.2.2 dX7_in_18
def wp_X7_told : List Cond := .code yX7_told cX7_told 2 (some .int) :: (([.fieldLink RX7 91 "AgreedTalksModel" "status" "I"] : List Cond) ++ wsX70)
set_option maxRecDepth 20000 in
theorem gi_X7_told : GoodIn lw_tbl wp_X7_told := (goodIn_ca (goodIn_r (.code yX7_told cX7_told 2 (some .int) :: ([.fieldLink RX7 91 "AgreedTalksModel" "status" "I"] : List Cond)) [812, 674] (by decide +kernel) (by decide +kernel)) wi_wsX7)
set_option maxHeartbeats 4000000 in
set_option maxRecDepth 100000 in
/-- told(v): the status, and v itself -/
theorem c_X7_told (l : Launch) (dC : Nat → ClassId) (dI : Nat → Nat → Nat) (sz : Nat) (h0 : Nat) (b3 : Nat) (b4 : Nat) (b6 : Nat) (b7 : Nat) (b8 : Nat) (b9 : Nat) (b10 : Nat) (b11 : Nat) (b12 : Nat) (b13 : Nat) (b15 : Nat) (b16 : Nat) (b17 : Nat) (b18 : Nat) (b19 : Nat) (b20 : Nat) (b21 : Nat) (b34 : Nat) (b35 : Nat) (b37 : Nat) (b38 : Nat) (b39 : Nat) (b40 : Nat) (b41 : Nat) (i0 : Int32) (i1 : Int32) (mk : Nat) (rk : Nat) (nl : Nat) (tp : Nat) (i23 : Int32) (i24 : Int32) (i25 : Int32) (w26 : Int64) (i27 : Int32) (i28 : Int32) (i29 : Int32) (i30 : Int32) (i31 : Int32) (i32 : Int32) (i33 : Int32) (tm : Nat) (p0 : Int32) : Met l yX7_told wp_X7_told ({ frames := 0, cells := 0, slots := 0, locals := 0 }) (va_Pc [.ref h0, .int p0] (fun U => U.heap.size = sz ∧ va_P (dC, dI) vwCl [(h0, .inr (8, [.int i0, .int i1, .int (nI mk), .ref b3, .ref b4, .int (nI rk), .ref b6, .ref b7, .ref b8, .ref b9, .ref b10, .ref b11, .ref b12, .ref b13, .int (nI nl), .ref b15, .ref b16, .ref b17, .ref b18, .ref b19, .ref b20, .ref b21, .int (nI tp), .int i23, .int i24, .int i25, .long w26, .int i27, .int i28, .int i29, .int i30, .int i31, .int i32, .int i33, .ref b34, .ref b35, .int (nI tm), .ref b37, .ref b38, .ref b39, .ref b40, .ref b41]))] U.heap ∧ va_K (dC, dI) vwCl [] U ∧ va_D (fun _ => True) [(h0, .inr (8, [.int i0, .int i1, .int (nI mk), .ref b3, .ref b4, .int (nI rk), .ref b6, .ref b7, .ref b8, .ref b9, .ref b10, .ref b11, .ref b12, .ref b13, .int (nI nl), .ref b15, .ref b16, .ref b17, .ref b18, .ref b19, .ref b20, .ref b21, .int (nI tp), .int i23, .int i24, .int i25, .long w26, .int i27, .int i28, .int i29, .int i30, .int i31, .int i32, .int i33, .ref b34, .ref b35, .int (nI tm), .ref b37, .ref b38, .ref b39, .ref b40, .ref b41]))])) (va_Qi (fun (r : Int32) (_ : Unit) => r = p0) (fun (_ : Unit) (t : State) => ∃ (sv : Int32), va_P (dC, dI) vwCl [(h0, .inr (8, [.int i0, .int sv, .int (nI mk), .ref b3, .ref b4, .int (nI rk), .ref b6, .ref b7, .ref b8, .ref b9, .ref b10, .ref b11, .ref b12, .ref b13, .int (nI nl), .ref b15, .ref b16, .ref b17, .ref b18, .ref b19, .ref b20, .ref b21, .int (nI tp), .int i23, .int i24, .int i25, .long w26, .int i27, .int i28, .int i29, .int i30, .int i31, .int i32, .int i33, .ref b34, .ref b35, .int (nI tm), .ref b37, .ref b38, .ref b39, .ref b40, .ref b41]))] t.heap ∧ va_K (dC, dI) vwCl [] t ∧ va_D (va_A [(h0, .inr (8, [.int i0, .int i1, .int (nI mk), .ref b3, .ref b4, .int (nI rk), .ref b6, .ref b7, .ref b8, .ref b9, .ref b10, .ref b11, .ref b12, .ref b13, .int (nI nl), .ref b15, .ref b16, .ref b17, .ref b18, .ref b19, .ref b20, .ref b21, .int (nI tp), .int i23, .int i24, .int i25, .long w26, .int i27, .int i28, .int i29, .int i30, .int i31, .int i32, .int i33, .ref b34, .ref b35, .int (nI tm), .ref b37, .ref b38, .ref b39, .ref b40, .ref b41]))] sz) [(h0, .inr (8, [.int i0, .int sv, .int (nI mk), .ref b3, .ref b4, .int (nI rk), .ref b6, .ref b7, .ref b8, .ref b9, .ref b10, .ref b11, .ref b12, .ref b13, .int (nI nl), .ref b15, .ref b16, .ref b17, .ref b18, .ref b19, .ref b20, .ref b21, .int (nI tp), .int i23, .int i24, .int i25, .long w26, .int i27, .int i28, .int i29, .int i30, .int i31, .int i32, .int i33, .ref b34, .ref b35, .int (nI tm), .ref b37, .ref b38, .ref b39, .ref b40, .ref b41]))]) (va_A [(h0, .inr (8, [.int i0, .int i1, .int (nI mk), .ref b3, .ref b4, .int (nI rk), .ref b6, .ref b7, .ref b8, .ref b9, .ref b10, .ref b11, .ref b12, .ref b13, .int (nI nl), .ref b15, .ref b16, .ref b17, .ref b18, .ref b19, .ref b20, .ref b21, .int (nI tp), .int i23, .int i24, .int i25, .long w26, .int i27, .int i28, .int i29, .int i30, .int i31, .int i32, .int i33, .ref b34, .ref b35, .int (nI tm), .ref b37, .ref b38, .ref b39, .ref b40, .ref b41]))] sz)) 0 0 (va_A [(h0, .inr (8, [.int i0, .int i1, .int (nI mk), .ref b3, .ref b4, .int (nI rk), .ref b6, .ref b7, .ref b8, .ref b9, .ref b10, .ref b11, .ref b12, .ref b13, .int (nI nl), .ref b15, .ref b16, .ref b17, .ref b18, .ref b19, .ref b20, .ref b21, .int (nI tp), .int i23, .int i24, .int i25, .long w26, .int i27, .int i28, .int i29, .int i30, .int i31, .int i32, .int i33, .ref b34, .ref b35, .int (nI tm), .ref b37, .ref b38, .ref b39, .ref b40, .ref b41]))] sz) := by
  refine Met.ofW (cc := cX7_told) (maxL := 2) (ret := (some .int)) (by decide) rfl ?_
  intro p e s m args below meth c s₁ B hml hv
  obtain ⟨rfl, hsz, hP, hK, hD0⟩ := hv
  have hx := B.exec
  have hb := B.bytes
  have hr := B.returns
  have hts := atoms_spec (ws := wp_X7_told) B.pre
  have hown : s.vm.findClass RX7 = some m.cls := findClass_of_methodNamed B.named
  have hlocks := B.notSynchronized
  subst hsz
  have hD := hD0.self (sz := s.heap.size)
  generalize hAe : va_A [(h0, .inr (8, [.int i0, .int i1, .int (nI mk), .ref b3, .ref b4, .int (nI rk), .ref b6, .ref b7, .ref b8, .ref b9, .ref b10, .ref b11, .ref b12, .ref b13, .int (nI nl), .ref b15, .ref b16, .ref b17, .ref b18, .ref b19, .ref b20, .ref b21, .int (nI tp), .int i23, .int i24, .int i25, .long w26, .int i27, .int i28, .int i29, .int i30, .int i31, .int i32, .int i33, .ref b34, .ref b35, .int (nI tm), .ref b37, .ref b38, .ref b39, .ref b40, .ref b41]))] s.heap.size = A at hD ⊢
  have hA : ∀ q : Nat, s.heap.size ≤ q → A q := fun q h => by rw [← hAe]; exact Or.inr h
  have hS : va_S A s.heap s.heap [] := va_S.rf
  have hP : va_P (dC, dI) vwCl [(h0, .inr (8, [.int i0, .int i1, .int (nI mk), .ref b3, .ref b4, .int (nI rk), .ref b6, .ref b7, .ref b8, .ref b9, .ref b10, .ref b11, .ref b12, .ref b13, .int (nI nl), .ref b15, .ref b16, .ref b17, .ref b18, .ref b19, .ref b20, .ref b21, .int (nI tp), .int i23, .int i24, .int i25, .long w26, .int i27, .int i28, .int i29, .int i30, .int i31, .int i32, .int i33, .ref b34, .ref b35, .int (nI tm), .ref b37, .ref b38, .ref b39, .ref b40, .ref b41]))] s.heap := hP
  have hl := lv_entry ([.ref h0, .int p0]) (n := 2) (Nat.le_of_ble_eq_true rfl)
  rw [lg_entry_eq]
  generalize (lg_sl ([.ref h0, .int p0]) ++ List.replicate (2 - (lg_sl ([.ref h0, .int p0])).length) Slot.unset).toArray = ls at hl ⊢
  have hl : lv_has ls 2 [(0, .ref h0), (1, .int p0)] := hl
  have hinX7 : ∀ w ∈ u_ws RX7 TX7 42, w ∈ wp_X7_told := fun _ h => List.mem_cons_of_mem _ (List.mem_append_right _ h)
  refine lv_aload_n hx hb dX7_told_0 rfl (lv_at hl 0 rfl) ?_
  refine lv_iload_n hx hb dX7_told_1 rfl (lv_at hl 1 rfl) ?_
  refine lv_if_ge (tgt := 9) hx hb dX7_told_2 (by decide) (fun c_1 => ?_) (fun c_1 => ?_)
  · refine lv_iconst (v := 0) hx hb dX7_told_9 (by decide) ?_
    refine va_put (D := (dC, dI)) (ci := 8) (v := .int 0) (ty := .int) (C := RX7) (T := TX7) (N := 42) hx hb hts hinX7 tyX7 tyX7_ok nmX7 hown hK hP hD hS 0 rfl rfl 1 (by decide) (hts (.fieldLink RX7 91 "AgreedTalksModel" "status" "I") (by decide +kernel)) (fun _ h9 => h9) rfl (by decide +kernel) rfl rfl (Nat.le_of_ble_eq_true rfl) dX7_told_10 (fun H locs hP hD hS => ?_)
    have hP : va_P (dC, dI) vwCl [(h0, .inr (8, [.int i0, .int 0, .int (nI mk), .ref b3, .ref b4, .int (nI rk), .ref b6, .ref b7, .ref b8, .ref b9, .ref b10, .ref b11, .ref b12, .ref b13, .int (nI nl), .ref b15, .ref b16, .ref b17, .ref b18, .ref b19, .ref b20, .ref b21, .int (nI tp), .int i23, .int i24, .int i25, .long w26, .int i27, .int i28, .int i29, .int i30, .int i31, .int i32, .int i33, .ref b34, .ref b35, .int (nI tm), .ref b37, .ref b38, .ref b39, .ref b40, .ref b41]))] H := hP
    have hD : va_D A [(h0, .inr (8, [.int i0, .int 0, .int (nI mk), .ref b3, .ref b4, .int (nI rk), .ref b6, .ref b7, .ref b8, .ref b9, .ref b10, .ref b11, .ref b12, .ref b13, .int (nI nl), .ref b15, .ref b16, .ref b17, .ref b18, .ref b19, .ref b20, .ref b21, .int (nI tp), .int i23, .int i24, .int i25, .long w26, .int i27, .int i28, .int i29, .int i30, .int i31, .int i32, .int i33, .ref b34, .ref b35, .int (nI tm), .ref b37, .ref b38, .ref b39, .ref b40, .ref b41]))] := hD
    refine lv_iload_n hx hb dX7_told_13 rfl (lv_at hl 1 rfl) ?_
    have hP9 := hP.sub (ws' := [(h0, .inr (8, [.int i0, .int 0, .int (nI mk), .ref b3, .ref b4, .int (nI rk), .ref b6, .ref b7, .ref b8, .ref b9, .ref b10, .ref b11, .ref b12, .ref b13, .int (nI nl), .ref b15, .ref b16, .ref b17, .ref b18, .ref b19, .ref b20, .ref b21, .int (nI tp), .int i23, .int i24, .int i25, .long w26, .int i27, .int i28, .int i29, .int i30, .int i31, .int i32, .int i33, .ref b34, .ref b35, .int (nI tm), .ref b37, .ref b38, .ref b39, .ref b40, .ref b41]))]) [0] rfl
    have hD9 := hD.sub (ws' := [(h0, .inr (8, [.int i0, .int 0, .int (nI mk), .ref b3, .ref b4, .int (nI rk), .ref b6, .ref b7, .ref b8, .ref b9, .ref b10, .ref b11, .ref b12, .ref b13, .int (nI nl), .ref b15, .ref b16, .ref b17, .ref b18, .ref b19, .ref b20, .ref b21, .int (nI tp), .int i23, .int i24, .int i25, .long w26, .int i27, .int i28, .int i29, .int i30, .int i31, .int i32, .int i33, .ref b34, .ref b35, .int (nI tm), .ref b37, .ref b38, .ref b39, .ref b40, .ref b41]))]) [0] (by decide) rfl
    have hK9 := hK.sub (tys' := []) [] rfl
    exact W.iret (v := p0) hx hb hr (fun t ht hW => ⟨⟨p0, (), rfl, rfl, 0, by rw [ht]; exact hP9, va_K.moved hW.alike hK9, hD9⟩, hS.F ht⟩) hS.2.2 dX7_told_14
  · refine lv_iload_n hx hb dX7_told_5 rfl (lv_at hl 1 rfl) ?_
    refine lv_goto (tgt := 10) hx hb dX7_told_6 (by decide) ?_
    refine va_put (D := (dC, dI)) (ci := 8) (v := .int p0) (ty := .int) (C := RX7) (T := TX7) (N := 42) hx hb hts hinX7 tyX7 tyX7_ok nmX7 hown hK hP hD hS 0 rfl rfl 1 (by decide) (hts (.fieldLink RX7 91 "AgreedTalksModel" "status" "I") (by decide +kernel)) (fun _ h9 => h9) rfl (by decide +kernel) rfl rfl (Nat.le_of_ble_eq_true rfl) dX7_told_10 (fun H locs hP hD hS => ?_)
    have hP : va_P (dC, dI) vwCl [(h0, .inr (8, [.int i0, .int p0, .int (nI mk), .ref b3, .ref b4, .int (nI rk), .ref b6, .ref b7, .ref b8, .ref b9, .ref b10, .ref b11, .ref b12, .ref b13, .int (nI nl), .ref b15, .ref b16, .ref b17, .ref b18, .ref b19, .ref b20, .ref b21, .int (nI tp), .int i23, .int i24, .int i25, .long w26, .int i27, .int i28, .int i29, .int i30, .int i31, .int i32, .int i33, .ref b34, .ref b35, .int (nI tm), .ref b37, .ref b38, .ref b39, .ref b40, .ref b41]))] H := hP
    have hD : va_D A [(h0, .inr (8, [.int i0, .int p0, .int (nI mk), .ref b3, .ref b4, .int (nI rk), .ref b6, .ref b7, .ref b8, .ref b9, .ref b10, .ref b11, .ref b12, .ref b13, .int (nI nl), .ref b15, .ref b16, .ref b17, .ref b18, .ref b19, .ref b20, .ref b21, .int (nI tp), .int i23, .int i24, .int i25, .long w26, .int i27, .int i28, .int i29, .int i30, .int i31, .int i32, .int i33, .ref b34, .ref b35, .int (nI tm), .ref b37, .ref b38, .ref b39, .ref b40, .ref b41]))] := hD
    refine lv_iload_n hx hb dX7_told_13 rfl (lv_at hl 1 rfl) ?_
    have hP9 := hP.sub (ws' := [(h0, .inr (8, [.int i0, .int p0, .int (nI mk), .ref b3, .ref b4, .int (nI rk), .ref b6, .ref b7, .ref b8, .ref b9, .ref b10, .ref b11, .ref b12, .ref b13, .int (nI nl), .ref b15, .ref b16, .ref b17, .ref b18, .ref b19, .ref b20, .ref b21, .int (nI tp), .int i23, .int i24, .int i25, .long w26, .int i27, .int i28, .int i29, .int i30, .int i31, .int i32, .int i33, .ref b34, .ref b35, .int (nI tm), .ref b37, .ref b38, .ref b39, .ref b40, .ref b41]))]) [0] rfl
    have hD9 := hD.sub (ws' := [(h0, .inr (8, [.int i0, .int p0, .int (nI mk), .ref b3, .ref b4, .int (nI rk), .ref b6, .ref b7, .ref b8, .ref b9, .ref b10, .ref b11, .ref b12, .ref b13, .int (nI nl), .ref b15, .ref b16, .ref b17, .ref b18, .ref b19, .ref b20, .ref b21, .int (nI tp), .int i23, .int i24, .int i25, .long w26, .int i27, .int i28, .int i29, .int i30, .int i31, .int i32, .int i33, .ref b34, .ref b35, .int (nI tm), .ref b37, .ref b38, .ref b39, .ref b40, .ref b41]))]) [0] (by decide) rfl
    have hK9 := hK.sub (tys' := []) [] rfl
    exact W.iret (v := p0) hx hb hr (fun t ht hW => ⟨⟨p0, (), rfl, rfl, p0, by rw [ht]; exact hP9, va_K.moved hW.alike hK9, hD9⟩, hS.F ht⟩) hS.2.2 dX7_told_14
def wp_X7_isSmall : List Cond := .code yX7_isSmall cX7_isSmall 1 (some .boolean) :: (([] : List Cond))
set_option maxRecDepth 20000 in
theorem gi_X7_isSmall : GoodIn lw_tbl wp_X7_isSmall := (goodIn_r (.code yX7_isSmall cX7_isSmall 1 (some .boolean) :: ([] : List Cond)) [839] (by decide +kernel) (by decide +kernel))
set_option maxHeartbeats 4000000 in
set_option maxRecDepth 100000 in
/-- isSmall -/
theorem c_X7_isSmall (l : Launch) (dC : Nat → ClassId) (dI : Nat → Nat → Nat) (sz : Nat) (p0 : Int32) : Met l yX7_isSmall wp_X7_isSmall ({ frames := 0, cells := 0, slots := 0, locals := 0 }) (va_Pc [.int p0] (fun U => U.heap.size = sz ∧ va_P (dC, dI) vwCl [] U.heap ∧ va_K (dC, dI) vwCl [] U ∧ va_D (fun _ => True) [])) (va_Qi (fun (r : Int32) (_ : Unit) => (r = 0 ∧ ¬ okSm p0) ∨ (r = 1 ∧ okSm p0)) (fun (_ : Unit) (t : State) => va_P (dC, dI) vwCl [] t.heap ∧ va_K (dC, dI) vwCl [] t ∧ va_D (va_A [] sz) []) (va_A [] sz)) 0 0 (va_A [] sz) := by
  refine Met.ofW (cc := cX7_isSmall) (maxL := 1) (ret := (some .boolean)) (by decide) rfl ?_
  intro p e s m args below meth c s₁ B hml hv
  obtain ⟨rfl, hsz, hP, hK, hD0⟩ := hv
  have hx := B.exec
  have hb := B.bytes
  have hr := B.returns
  have hts := atoms_spec (ws := wp_X7_isSmall) B.pre
  have hown : s.vm.findClass RX7 = some m.cls := findClass_of_methodNamed B.named
  have hlocks := B.notSynchronized
  subst hsz
  have hD := hD0.self (sz := s.heap.size)
  generalize hAe : va_A [] s.heap.size = A at hD ⊢
  have hA : ∀ q : Nat, s.heap.size ≤ q → A q := fun q h => by rw [← hAe]; exact Or.inr h
  have hS : va_S A s.heap s.heap [] := va_S.rf
  have hP : va_P (dC, dI) vwCl [] s.heap := hP
  have hl := lv_entry ([.int p0]) (n := 1) (Nat.le_of_ble_eq_true rfl)
  rw [lg_entry_eq]
  generalize (lg_sl ([.int p0]) ++ List.replicate (1 - (lg_sl ([.int p0])).length) Slot.unset).toArray = ls at hl ⊢
  have hl : lv_has ls 1 [(0, .int p0)] := hl
  refine lv_iload_n hx hb dX7_isSmall_0 rfl (lv_at hl 0 rfl) ?_
  refine lv_bipush (v := 97) hx hb dX7_isSmall_1 (by decide) ?_
  refine lv_icmp_lt (tgt := 16) hx hb dX7_isSmall_3 (by decide) (fun c_1 => ?_) (fun c_1 => ?_)
  · refine lv_iconst (v := 0) hx hb dX7_isSmall_16 (by decide) ?_
    have hP9 := hP.sub (ws' := []) [] rfl
    have hD9 := hD.sub (ws' := []) [] (by decide) rfl
    have hK9 := hK.sub (tys' := []) [] rfl
    exact W.zret (v := 0) (ty := .boolean) hx hb hr rfl (fun t ht hW => ⟨⟨0, (), rfl, Or.inl ⟨rfl, fun h => absurd (okR_no (a := 97) (b := 122) (by decide) (by decide) h).1 (Int32.not_le.mpr c_1)⟩, by rw [ht]; exact hP9, va_K.moved hW.alike hK9, hD9⟩, hS.F ht⟩) hS.2.2 dX7_isSmall_17
  · refine lv_iload_n hx hb dX7_isSmall_6 rfl (lv_at hl 0 rfl) ?_
    refine lv_bipush (v := 122) hx hb dX7_isSmall_7 (by decide) ?_
    refine lv_icmp_gt (tgt := 16) hx hb dX7_isSmall_9 (by decide) (fun c_2 => ?_) (fun c_2 => ?_)
    · refine lv_iconst (v := 0) hx hb dX7_isSmall_16 (by decide) ?_
      have hP9 := hP.sub (ws' := []) [] rfl
      have hD9 := hD.sub (ws' := []) [] (by decide) rfl
      have hK9 := hK.sub (tys' := []) [] rfl
      exact W.zret (v := 0) (ty := .boolean) hx hb hr rfl (fun t ht hW => ⟨⟨0, (), rfl, Or.inl ⟨rfl, fun h => absurd (okR_no (a := 97) (b := 122) (by decide) (by decide) h).2 (Int32.not_le.mpr c_2)⟩, by rw [ht]; exact hP9, va_K.moved hW.alike hK9, hD9⟩, hS.F ht⟩) hS.2.2 dX7_isSmall_17
    · refine lv_iconst (v := 1) hx hb dX7_isSmall_12 (by decide) ?_
      refine lv_goto (tgt := 17) hx hb dX7_isSmall_13 (by decide) ?_
      have hP9 := hP.sub (ws' := []) [] rfl
      have hD9 := hD.sub (ws' := []) [] (by decide) rfl
      have hK9 := hK.sub (tys' := []) [] rfl
      exact W.zret (v := 1) (ty := .boolean) hx hb hr rfl (fun t ht hW => ⟨⟨1, (), rfl, Or.inr ⟨rfl, okR (a := 97) (b := 122) (by decide) (by decide) (Int32.not_lt.mp c_1) (Int32.not_lt.mp c_2)⟩, by rw [ht]; exact hP9, va_K.moved hW.alike hK9, hD9⟩, hS.F ht⟩) hS.2.2 dX7_isSmall_17
def wp_X7_isDigit : List Cond := .code yX7_isDigit cX7_isDigit 1 (some .boolean) :: (([] : List Cond))
set_option maxRecDepth 20000 in
theorem gi_X7_isDigit : GoodIn lw_tbl wp_X7_isDigit := (goodIn_r (.code yX7_isDigit cX7_isDigit 1 (some .boolean) :: ([] : List Cond)) [842] (by decide +kernel) (by decide +kernel))
set_option maxHeartbeats 4000000 in
set_option maxRecDepth 100000 in
/-- isDigit -/
theorem c_X7_isDigit (l : Launch) (dC : Nat → ClassId) (dI : Nat → Nat → Nat) (sz : Nat) (p0 : Int32) : Met l yX7_isDigit wp_X7_isDigit ({ frames := 0, cells := 0, slots := 0, locals := 0 }) (va_Pc [.int p0] (fun U => U.heap.size = sz ∧ va_P (dC, dI) vwCl [] U.heap ∧ va_K (dC, dI) vwCl [] U ∧ va_D (fun _ => True) [])) (va_Qi (fun (r : Int32) (_ : Unit) => (r = 0 ∧ ¬ okDi p0) ∨ (r = 1 ∧ okDi p0)) (fun (_ : Unit) (t : State) => va_P (dC, dI) vwCl [] t.heap ∧ va_K (dC, dI) vwCl [] t ∧ va_D (va_A [] sz) []) (va_A [] sz)) 0 0 (va_A [] sz) := by
  refine Met.ofW (cc := cX7_isDigit) (maxL := 1) (ret := (some .boolean)) (by decide) rfl ?_
  intro p e s m args below meth c s₁ B hml hv
  obtain ⟨rfl, hsz, hP, hK, hD0⟩ := hv
  have hx := B.exec
  have hb := B.bytes
  have hr := B.returns
  have hts := atoms_spec (ws := wp_X7_isDigit) B.pre
  have hown : s.vm.findClass RX7 = some m.cls := findClass_of_methodNamed B.named
  have hlocks := B.notSynchronized
  subst hsz
  have hD := hD0.self (sz := s.heap.size)
  generalize hAe : va_A [] s.heap.size = A at hD ⊢
  have hA : ∀ q : Nat, s.heap.size ≤ q → A q := fun q h => by rw [← hAe]; exact Or.inr h
  have hS : va_S A s.heap s.heap [] := va_S.rf
  have hP : va_P (dC, dI) vwCl [] s.heap := hP
  have hl := lv_entry ([.int p0]) (n := 1) (Nat.le_of_ble_eq_true rfl)
  rw [lg_entry_eq]
  generalize (lg_sl ([.int p0]) ++ List.replicate (1 - (lg_sl ([.int p0])).length) Slot.unset).toArray = ls at hl ⊢
  have hl : lv_has ls 1 [(0, .int p0)] := hl
  refine lv_iload_n hx hb dX7_isDigit_0 rfl (lv_at hl 0 rfl) ?_
  refine lv_bipush (v := 48) hx hb dX7_isDigit_1 (by decide) ?_
  refine lv_icmp_lt (tgt := 16) hx hb dX7_isDigit_3 (by decide) (fun c_1 => ?_) (fun c_1 => ?_)
  · refine lv_iconst (v := 0) hx hb dX7_isDigit_16 (by decide) ?_
    have hP9 := hP.sub (ws' := []) [] rfl
    have hD9 := hD.sub (ws' := []) [] (by decide) rfl
    have hK9 := hK.sub (tys' := []) [] rfl
    exact W.zret (v := 0) (ty := .boolean) hx hb hr rfl (fun t ht hW => ⟨⟨0, (), rfl, Or.inl ⟨rfl, fun h => absurd (okR_no (a := 48) (b := 57) (by decide) (by decide) h).1 (Int32.not_le.mpr c_1)⟩, by rw [ht]; exact hP9, va_K.moved hW.alike hK9, hD9⟩, hS.F ht⟩) hS.2.2 dX7_isDigit_17
  · refine lv_iload_n hx hb dX7_isDigit_6 rfl (lv_at hl 0 rfl) ?_
    refine lv_bipush (v := 57) hx hb dX7_isDigit_7 (by decide) ?_
    refine lv_icmp_gt (tgt := 16) hx hb dX7_isDigit_9 (by decide) (fun c_2 => ?_) (fun c_2 => ?_)
    · refine lv_iconst (v := 0) hx hb dX7_isDigit_16 (by decide) ?_
      have hP9 := hP.sub (ws' := []) [] rfl
      have hD9 := hD.sub (ws' := []) [] (by decide) rfl
      have hK9 := hK.sub (tys' := []) [] rfl
      exact W.zret (v := 0) (ty := .boolean) hx hb hr rfl (fun t ht hW => ⟨⟨0, (), rfl, Or.inl ⟨rfl, fun h => absurd (okR_no (a := 48) (b := 57) (by decide) (by decide) h).2 (Int32.not_le.mpr c_2)⟩, by rw [ht]; exact hP9, va_K.moved hW.alike hK9, hD9⟩, hS.F ht⟩) hS.2.2 dX7_isDigit_17
    · refine lv_iconst (v := 1) hx hb dX7_isDigit_12 (by decide) ?_
      refine lv_goto (tgt := 17) hx hb dX7_isDigit_13 (by decide) ?_
      have hP9 := hP.sub (ws' := []) [] rfl
      have hD9 := hD.sub (ws' := []) [] (by decide) rfl
      have hK9 := hK.sub (tys' := []) [] rfl
      exact W.zret (v := 1) (ty := .boolean) hx hb hr rfl (fun t ht hW => ⟨⟨1, (), rfl, Or.inr ⟨rfl, okR (a := 48) (b := 57) (by decide) (by decide) (Int32.not_lt.mp c_1) (Int32.not_lt.mp c_2)⟩, by rw [ht]; exact hP9, va_K.moved hW.alike hK9, hD9⟩, hS.F ht⟩) hS.2.2 dX7_isDigit_17
