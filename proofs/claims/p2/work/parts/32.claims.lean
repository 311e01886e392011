theorem dX6_cell_0 : decode cX6_cell 0 = .ok (.iload_n 0, 1) := by decide +kernel
theorem dX6_cell_1 : decode cX6_cell 1 = .ok (.bipush 40, 2) := by decide +kernel
theorem dX6_cell_3 : decode cX6_cell 3 = .ok (.imul, 1) := by decide +kernel
theorem dX6_cell_4 : decode cX6_cell 4 = .ok (.iload_n 1, 1) := by decide +kernel
theorem dX6_cell_5 : decode cX6_cell 5 = .ok (.iadd, 1) := by decide +kernel
theorem dX6_cell_6 : decode cX6_cell 6 = .ok (.ireturn, 1) := by decide +kernel
theorem dX6_bit_0 : decode cX6_bit 0 = .ok (.lconst 1, 1) := by decide +kernel
theorem dX6_bit_1 : decode cX6_bit 1 = .ok (.iload_n 0, 1) := by decide +kernel
theorem dX6_bit_2 : decode cX6_bit 2 = .ok (.lshl, 1) := by decide +kernel
theorem dX6_bit_3 : decode cX6_bit 3 = .ok (.lreturn, 1) := by decide +kernel
theorem dX0_clear_0 : decode cX0_clear 0 = .ok (.aload_n 0, 1) := by decide +kernel
theorem dX0_clear_1 : decode cX0_clear 1 = .ok (.getfield 9, 3) := by decide +kernel
theorem dX0_clear_4 : decode cX0_clear 4 = .ok (.iconst (-1), 1) := by decide +kernel
theorem dX0_clear_5 : decode cX0_clear 5 = .ok (.invokestatic 29, 3) := by decide +kernel
theorem dX0_clear_8 : decode cX0_clear 8 = .ok (.aload_n 0, 1) := by decide +kernel
theorem dX0_clear_9 : decode cX0_clear 9 = .ok (.getfield 15, 3) := by decide +kernel
theorem dX0_clear_12 : decode cX0_clear 12 = .ok (.lconst 0, 1) := by decide +kernel
theorem dX0_clear_13 : decode cX0_clear 13 = .ok (.invokestatic 35, 3) := by decide +kernel
theorem dX0_clear_16 : decode cX0_clear 16 = .ok (.aload_n 0, 1) := by decide +kernel
theorem dX0_clear_17 : decode cX0_clear 17 = .ok (.getfield 19, 3) := by decide +kernel
theorem dX0_clear_20 : decode cX0_clear 20 = .ok (.iconst 0, 1) := by decide +kernel
theorem dX0_clear_21 : decode cX0_clear 21 = .ok (.invokestatic 29, 3) := by decide +kernel
theorem dX0_clear_24 : decode cX0_clear 24 = .ok (.aload_n 0, 1) := by decide +kernel
theorem dX0_clear_25 : decode cX0_clear 25 = .ok (.getfield 22, 3) := by decide +kernel
theorem dX0_clear_28 : decode cX0_clear 28 = .ok (.iconst 0, 1) := by decide +kernel
theorem dX0_clear_29 : decode cX0_clear 29 = .ok (.invokestatic 29, 3) := by decide +kernel
theorem dX0_clear_32 : decode cX0_clear 32 = .ok (.aload_n 0, 1) := by decide +kernel
theorem dX0_clear_33 : decode cX0_clear 33 = .ok (.lconst 0, 1) := by decide +kernel
theorem dX0_clear_34 : decode cX0_clear 34 = .ok (.putfield 25, 3) := by decide +kernel
theorem dX0_clear_37 : decode cX0_clear 37 = .ok (.return_, 1) := by decide +kernel
theorem dX0_isStanding_0 : decode cX0_isStanding 0 = .ok (.aload_n 0, 1) := by decide +kernel
theorem dX0_isStanding_1 : decode cX0_isStanding 1 = .ok (.getfield 25, 3) := by decide +kernel
theorem dX0_isStanding_4 : decode cX0_isStanding 4 = .ok (.iload_n 1, 1) := by decide +kernel
theorem dX0_isStanding_5 : decode cX0_isStanding 5 = .ok (.invokestatic 60, 3) := by decide +kernel
theorem dX0_isStanding_8 : decode cX0_isStanding 8 = .ok (.land, 1) := by decide +kernel
theorem dX0_isStanding_9 : decode cX0_isStanding 9 = .ok (.lconst 0, 1) := by decide +kernel
theorem dX0_isStanding_10 : decode cX0_isStanding 10 = .ok (.lcmp, 1) := by decide +kernel
theorem dX0_isStanding_11 : decode cX0_isStanding 11 = .ok (.ifCond .eq 7, 3) := by decide +kernel
theorem dX0_isStanding_18 : decode cX0_isStanding 18 = .ok (.iconst 0, 1) := by decide +kernel
theorem dX0_isStanding_19 : decode cX0_isStanding 19 = .ok (.ireturn, 1) := by decide +kernel
theorem dX0_isStanding_14 : decode cX0_isStanding 14 = .ok (.iconst 1, 1) := by decide +kernel
theorem dX0_isStanding_15 : decode cX0_isStanding 15 = .ok (.goto 4, 3) := by decide +kernel
theorem dX0_isCarried_4 : decode cX0_isCarried 4 = .ok (.iload_n 3, 1) := by decide +kernel
theorem dX0_isCarried_5 : decode cX0_isCarried 5 = .ok (.bipush 12, 2) := by decide +kernel
theorem dX0_isCarried_7 : decode cX0_isCarried 7 = .ok (.if_icmp .ge 62, 3) := by decide +kernel
theorem dX0_isCarried_10 : decode cX0_isCarried 10 = .ok (.iload_n 3, 1) := by decide +kernel
theorem dX0_isCarried_11 : decode cX0_isCarried 11 = .ok (.iload_n 1, 1) := by decide +kernel
theorem dX0_isCarried_12 : decode cX0_isCarried 12 = .ok (.invokestatic 54, 3) := by decide +kernel
theorem dX0_isCarried_15 : decode cX0_isCarried 15 = .ok (.istore 4, 2) := by decide +kernel
theorem dX0_isCarried_17 : decode cX0_isCarried 17 = .ok (.aload_n 0, 1) := by decide +kernel
theorem dX0_isCarried_18 : decode cX0_isCarried 18 = .ok (.getfield 9, 3) := by decide +kernel
theorem dX0_isCarried_21 : decode cX0_isCarried 21 = .ok (.iload 4, 2) := by decide +kernel
theorem dX0_isCarried_23 : decode cX0_isCarried 23 = .ok (.iaload, 1) := by decide +kernel
theorem dX0_isCarried_24 : decode cX0_isCarried 24 = .ok (.ifCond .ne 5, 3) := by decide +kernel
theorem dX0_isCarried_29 : decode cX0_isCarried 29 = .ok (.aload_n 0, 1) := by decide +kernel
theorem dX0_isCarried_30 : decode cX0_isCarried 30 = .ok (.getfield 9, 3) := by decide +kernel
theorem dX0_isCarried_33 : decode cX0_isCarried 33 = .ok (.iload 4, 2) := by decide +kernel
theorem dX0_isCarried_35 : decode cX0_isCarried 35 = .ok (.iaload, 1) := by decide +kernel
theorem dX0_isCarried_36 : decode cX0_isCarried 36 = .ok (.iconst 1, 1) := by decide +kernel
theorem dX0_isCarried_37 : decode cX0_isCarried 37 = .ok (.if_icmp .ne 26, 3) := by decide +kernel
theorem dX0_isCarried_63 : decode cX0_isCarried 63 = .ok (.iinc 3 1, 3) := by decide +kernel
theorem dX0_isCarried_66 : decode cX0_isCarried 66 = .ok (.goto (-62), 3) := by decide +kernel
theorem dX0_isCarried_40 : decode cX0_isCarried 40 = .ok (.aload_n 0, 1) := by decide +kernel
theorem dX0_isCarried_41 : decode cX0_isCarried 41 = .ok (.getfield 15, 3) := by decide +kernel
theorem dX0_isCarried_44 : decode cX0_isCarried 44 = .ok (.iload 4, 2) := by decide +kernel
theorem dX0_isCarried_46 : decode cX0_isCarried 46 = .ok (.laload, 1) := by decide +kernel
theorem dX0_isCarried_47 : decode cX0_isCarried 47 = .ok (.aload_n 0, 1) := by decide +kernel
theorem dX0_isCarried_48 : decode cX0_isCarried 48 = .ok (.getfield 25, 3) := by decide +kernel
theorem dX0_isCarried_51 : decode cX0_isCarried 51 = .ok (.ldc2_w 71, 3) := by decide +kernel
theorem dX0_isCarried_54 : decode cX0_isCarried 54 = .ok (.lxor, 1) := by decide +kernel
theorem dX0_isCarried_55 : decode cX0_isCarried 55 = .ok (.land, 1) := by decide +kernel
theorem dX0_isCarried_56 : decode cX0_isCarried 56 = .ok (.lconst 0, 1) := by decide +kernel
theorem dX0_isCarried_57 : decode cX0_isCarried 57 = .ok (.lcmp, 1) := by decide +kernel
theorem dX0_isCarried_58 : decode cX0_isCarried 58 = .ok (.ifCond .ne 5, 3) := by decide +kernel
theorem dX0_isCarried_61 : decode cX0_isCarried 61 = .ok (.iconst 1, 1) := by decide +kernel
theorem dX0_isCarried_62 : decode cX0_isCarried 62 = .ok (.istore_n 2, 1) := by decide +kernel
theorem dX0_isCarried_0 : decode cX0_isCarried 0 = .ok (.iconst 0, 1) := by decide +kernel
theorem dX0_isCarried_1 : decode cX0_isCarried 1 = .ok (.istore_n 2, 1) := by decide +kernel
theorem dX0_isCarried_2 : decode cX0_isCarried 2 = .ok (.iconst 0, 1) := by decide +kernel
theorem dX0_isCarried_3 : decode cX0_isCarried 3 = .ok (.istore_n 3, 1) := by decide +kernel
theorem dX0_isCarried_27 : decode cX0_isCarried 27 = .ok (.iconst 0, 1) := by decide +kernel
theorem dX0_isCarried_28 : decode cX0_isCarried 28 = .ok (.ireturn, 1) := by decide +kernel
theorem dX0_isCarried_69 : decode cX0_isCarried 69 = .ok (.iload_n 2, 1) := by decide +kernel
theorem dX0_isCarried_70 : decode cX0_isCarried 70 = .ok (.ireturn, 1) := by decide +kernel
theorem dX0_findStanding_21 : decode cX0_findStanding 21 = .ok (.iload 4, 2) := by decide +kernel
theorem dX0_findStanding_23 : decode cX0_findStanding 23 = .ok (.bipush 40, 2) := by decide +kernel
theorem dX0_findStanding_25 : decode cX0_findStanding 25 = .ok (.if_icmp .ge 41, 3) := by decide +kernel
theorem dX0_findStanding_28 : decode cX0_findStanding 28 = .ok (.aload_n 0, 1) := by decide +kernel
theorem dX0_findStanding_29 : decode cX0_findStanding 29 = .ok (.iload 4, 2) := by decide +kernel
theorem dX0_findStanding_31 : decode cX0_findStanding 31 = .ok (.invokevirtual 64, 3) := by decide +kernel
theorem dX0_findStanding_34 : decode cX0_findStanding 34 = .ok (.ifCond .ne 26, 3) := by decide +kernel
theorem dX0_findStanding_60 : decode cX0_findStanding 60 = .ok (.iinc 4 1, 3) := by decide +kernel
theorem dX0_findStanding_63 : decode cX0_findStanding 63 = .ok (.goto (-42), 3) := by decide +kernel
theorem dX0_findStanding_37 : decode cX0_findStanding 37 = .ok (.aload_n 0, 1) := by decide +kernel
theorem dX0_findStanding_38 : decode cX0_findStanding 38 = .ok (.iload 4, 2) := by decide +kernel
theorem dX0_findStanding_40 : decode cX0_findStanding 40 = .ok (.invokevirtual 68, 3) := by decide +kernel
theorem dX0_findStanding_43 : decode cX0_findStanding 43 = .ok (.ifCond .eq 17, 3) := by decide +kernel
theorem dX0_findStanding_46 : decode cX0_findStanding 46 = .ok (.aload_n 0, 1) := by decide +kernel
theorem dX0_findStanding_47 : decode cX0_findStanding 47 = .ok (.dup, 1) := by decide +kernel
theorem dX0_findStanding_48 : decode cX0_findStanding 48 = .ok (.getfield 25, 3) := by decide +kernel
theorem dX0_findStanding_51 : decode cX0_findStanding 51 = .ok (.iload 4, 2) := by decide +kernel
theorem dX0_findStanding_53 : decode cX0_findStanding 53 = .ok (.invokestatic 60, 3) := by decide +kernel
theorem dX0_findStanding_56 : decode cX0_findStanding 56 = .ok (.lor, 1) := by decide +kernel
theorem dX0_findStanding_57 : decode cX0_findStanding 57 = .ok (.putfield 25, 3) := by decide +kernel
theorem dX0_findStanding_7 : decode cX0_findStanding 7 = .ok (.iload_n 1, 1) := by decide +kernel
theorem dX0_findStanding_8 : decode cX0_findStanding 8 = .ok (.bipush 40, 2) := by decide +kernel
theorem dX0_findStanding_10 : decode cX0_findStanding 10 = .ok (.if_icmp .ge 72, 3) := by decide +kernel
theorem dX0_findStanding_13 : decode cX0_findStanding 13 = .ok (.aload_n 0, 1) := by decide +kernel
theorem dX0_findStanding_14 : decode cX0_findStanding 14 = .ok (.getfield 25, 3) := by decide +kernel
theorem dX0_findStanding_17 : decode cX0_findStanding 17 = .ok (.lstore_n 2, 1) := by decide +kernel
theorem dX0_findStanding_18 : decode cX0_findStanding 18 = .ok (.iconst 0, 1) := by decide +kernel
theorem dX0_findStanding_19 : decode cX0_findStanding 19 = .ok (.istore 4, 2) := by decide +kernel
theorem dX0_findStanding_66 : decode cX0_findStanding 66 = .ok (.aload_n 0, 1) := by decide +kernel
theorem dX0_findStanding_67 : decode cX0_findStanding 67 = .ok (.getfield 25, 3) := by decide +kernel
theorem dX0_findStanding_70 : decode cX0_findStanding 70 = .ok (.lload_n 2, 1) := by decide +kernel
theorem dX0_findStanding_71 : decode cX0_findStanding 71 = .ok (.lcmp, 1) := by decide +kernel
theorem dX0_findStanding_72 : decode cX0_findStanding 72 = .ok (.ifCond .ne 4, 3) := by decide +kernel
theorem dX0_findStanding_76 : decode cX0_findStanding 76 = .ok (.iinc 1 1, 3) := by decide +kernel
theorem dX0_findStanding_79 : decode cX0_findStanding 79 = .ok (.goto (-72), 3) := by decide +kernel
theorem dX0_findStanding_0 : decode cX0_findStanding 0 = .ok (.aload_n 0, 1) := by decide +kernel
theorem dX0_findStanding_1 : decode cX0_findStanding 1 = .ok (.lconst 0, 1) := by decide +kernel
theorem dX0_findStanding_2 : decode cX0_findStanding 2 = .ok (.putfield 25, 3) := by decide +kernel
theorem dX0_findStanding_5 : decode cX0_findStanding 5 = .ok (.iconst 0, 1) := by decide +kernel
theorem dX0_findStanding_6 : decode cX0_findStanding 6 = .ok (.istore_n 1, 1) := by decide +kernel
theorem dX0_findStanding_75 : decode cX0_findStanding 75 = .ok (.return_, 1) := by decide +kernel
theorem dX0_findStanding_82 : decode cX0_findStanding 82 = .ok (.return_, 1) := by decide +kernel
def wp_X6_cell : List Cond := .code yX6_cell cX6_cell 2 (some .int) :: (([] : List Cond))
set_option maxRecDepth 20000 in
theorem gi_X6_cell : GoodIn lw_tbl wp_X6_cell := (goodIn_r (.code yX6_cell cX6_cell 2 (some .int) :: ([] : List Cond)) [541] (by decide +kernel) (by decide +kernel))
set_option maxHeartbeats 4000000 in
set_option maxRecDepth 100000 in
/-- cell -/
theorem c_X6_cell (l : Launch) (dC : Nat → ClassId) (dI : Nat → Nat → Nat) (sz : Nat) (x1 : Nat) (x2 : Nat) : Met l yX6_cell wp_X6_cell ({ frames := 0, cells := 0, slots := 0, locals := 0 }) (va_Pc [.int (nI x1), .int (nI x2)] (fun U => U.heap.size = sz ∧ va_P (dC, dI) vwCl [] U.heap ∧ va_K (dC, dI) vwCl [] U ∧ va_D (fun _ => True) [])) (va_Qi (fun (r : Int32) (_ : Unit) => r = (nI (x1 * 40 + x2))) (fun (_ : Unit) (t : State) => va_P (dC, dI) vwCl [] t.heap ∧ va_K (dC, dI) vwCl [] t ∧ va_D (va_A [] sz) []) (va_A [] sz)) 0 0 (va_A [] sz) := by
  refine Met.ofW (cc := cX6_cell) (maxL := 2) (ret := (some .int)) (by decide) rfl ?_
  intro p e s m args below meth c s₁ B hml hv
  obtain ⟨rfl, hsz, hP, hK, hD0⟩ := hv
  have hx := B.exec
  have hb := B.bytes
  have hr := B.returns
  have hts := atoms_spec (ws := wp_X6_cell) B.pre
  have hown : s.vm.findClass RX6 = some m.cls := findClass_of_methodNamed B.named
  have hlocks := B.notSynchronized
  subst hsz
  have hD := hD0.self (sz := s.heap.size)
  generalize hAe : va_A [] s.heap.size = A at hD ⊢
  have hA : ∀ q : Nat, s.heap.size ≤ q → A q := fun q h => by rw [← hAe]; exact Or.inr h
  have hS : va_S A s.heap s.heap [] := va_S.rf
  have hP : va_P (dC, dI) vwCl [] s.heap := hP
  have hl := lv_entry ([.int (nI x1), .int (nI x2)]) (n := 2) (Nat.le_of_ble_eq_true rfl)
  rw [lg_entry_eq]
  generalize (lg_sl ([.int (nI x1), .int (nI x2)]) ++ List.replicate (2 - (lg_sl ([.int (nI x1), .int (nI x2)])).length) Slot.unset).toArray = ls at hl ⊢
  have hl : lv_has ls 2 [(0, .int (nI x1)), (1, .int (nI x2))] := hl
  refine lv_iload_n hx hb dX6_cell_0 rfl (lv_at hl 0 rfl) ?_
  refine lv_bipush (v := 40) hx hb dX6_cell_1 (by decide) ?_
  refine lv_imul hx hb dX6_cell_3 ?_
  refine lv_topi (fun x_1 ex_1 => ?_)
  obtain rfl : x_1 = (nI (x1 * 40)) := by rw [ex_1]; exact pk_mul _ _
  refine lv_iload_n hx hb dX6_cell_4 rfl (lv_at hl 1 rfl) ?_
  refine lv_iadd hx hb dX6_cell_5 ?_
  refine lv_topi (fun x_2 ex_2 => ?_)
  obtain rfl : x_2 = (nI (x1 * 40 + x2)) := by rw [ex_2]; exact nI_add _ _
  have hP9 := hP.sub (ws' := []) [] rfl
  have hD9 := hD.sub (ws' := []) [] (by decide) rfl
  have hK9 := hK.sub (tys' := []) [] rfl
  exact W.iret (v := (nI (x1 * 40 + x2))) hx hb hr (fun t ht hW => ⟨⟨(nI (x1 * 40 + x2)), (), rfl, rfl, by rw [ht]; exact hP9, va_K.moved hW.alike hK9, hD9⟩, hS.F ht⟩) hS.2.2 dX6_cell_6
def wp_X6_bit : List Cond := .code yX6_bit cX6_bit 1 (some .long) :: (([] : List Cond))
set_option maxRecDepth 20000 in
theorem gi_X6_bit : GoodIn lw_tbl wp_X6_bit := (goodIn_r (.code yX6_bit cX6_bit 1 (some .long) :: ([] : List Cond)) [405] (by decide +kernel) (by decide +kernel))
set_option maxHeartbeats 4000000 in
set_option maxRecDepth 100000 in
/-- bit -/
theorem c_X6_bit (l : Launch) (dC : Nat → ClassId) (dI : Nat → Nat → Nat) (sz : Nat) (p0 : Int32) : Met l yX6_bit wp_X6_bit ({ frames := 0, cells := 0, slots := 0, locals := 0 }) (va_Pc [.int p0] (fun U => U.heap.size = sz ∧ va_P (dC, dI) vwCl [] U.heap ∧ va_K (dC, dI) vwCl [] U ∧ va_D (fun _ => True) [])) (va_Ql (fun (r : Int64) (_ : Unit) => True) (fun (_ : Unit) (t : State) => va_P (dC, dI) vwCl [] t.heap ∧ va_K (dC, dI) vwCl [] t ∧ va_D (va_A [] sz) []) (va_A [] sz)) 0 0 (va_A [] sz) := by
  refine Met.ofW (cc := cX6_bit) (maxL := 1) (ret := (some .long)) (by decide) rfl ?_
  intro p e s m args below meth c s₁ B hml hv
  obtain ⟨rfl, hsz, hP, hK, hD0⟩ := hv
  have hx := B.exec
  have hb := B.bytes
  have hr := B.returns
  have hts := atoms_spec (ws := wp_X6_bit) B.pre
  have hown : s.vm.findClass RX6 = some m.cls := findClass_of_methodNamed B.named
  have hlocks := B.notSynchronized
  subst hsz
  have hD := hD0.self (sz := s.heap.size)
  generalize hAe : va_A [] s.heap.size = A at hD ⊢
  have hA : ∀ q : Nat, s.heap.size ≤ q → A q := fun q h => by rw [← hAe]; exact Or.inr h
  have hS : va_S A s.heap s.heap [] := va_S.rf
  have hP : va_P (dC, dI) vwCl [] s.heap := hP
  have hl := lv_entry ([.int p0]) (n := 1) (Nat.le_of_ble_eq_true rfl)
  rw [lg_entry_eq]
  generalize (lg_sl ([.int p0]) ++ List.replicate (1 - (lg_sl ([.int p0])).length) Slot.unset).toArray = ls at hl ⊢
  have hl : lv_has ls 1 [(0, .int p0)] := hl
  refine lv_lconst (v := 1) hx hb dX6_bit_0 (by decide) ?_
  refine lv_iload_n hx hb dX6_bit_1 rfl (lv_at hl 0 rfl) ?_
  refine lv_lshl hx hb dX6_bit_2 rfl ?_
  refine lv_topl (fun x_1 ex_1 => ?_)
  have hP9 := hP.sub (ws' := []) [] rfl
  have hD9 := hD.sub (ws' := []) [] (by decide) rfl
  have hK9 := hK.sub (tys' := []) [] rfl
  exact W.lret (v := x_1) hx hb hr (fun t ht hW => ⟨⟨x_1, (), rfl, trivial, by rw [ht]; exact hP9, va_K.moved hW.alike hK9, hD9⟩, hS.F ht⟩) hS.2.2 dX6_bit_3
def wp_C_clear : List Cond := .code yX0_clear cX0_clear 1 none :: (([.fieldLink RX0 9 "AgreedTalks$Claims" "words" "[I", .fieldLink RX0 15 "AgreedTalks$Claims" "grounds" "[J", .fieldLink RX0 19 "AgreedTalks$Claims" "turns" "[I", .fieldLink RX0 22 "AgreedTalks$Claims" "marks" "[I", .fieldLink RX0 25 "AgreedTalks$Claims" "standing" "J"] : List Cond) ++ wsX00 ++ (va_wsS RX0 29 yJ7_fill_53178 wp_fill) ++ (va_wsS RX0 35 yJ7_fill_d0a16 wp_fillL))
theorem gc_C_clear_fill : GoodIn wp_C_clear (va_wsS RX0 29 yJ7_fill_53178 wp_fill) := goodIn_sub (fun _ h => List.mem_cons_of_mem _ (List.mem_append_left _ (List.mem_append_right _ h))) (by decide +kernel)
theorem gc_C_clear_fillL : GoodIn wp_C_clear (va_wsS RX0 35 yJ7_fill_d0a16 wp_fillL) := goodIn_sub (fun _ h => List.mem_cons_of_mem _ (List.mem_append_right _ h)) (by decide +kernel)
set_option maxRecDepth 20000 in
theorem gi_C_clear : GoodIn lw_tbl wp_C_clear := (goodIn_ca (goodIn_ca (goodIn_ca (goodIn_r (.code yX0_clear cX0_clear 1 none :: ([.fieldLink RX0 9 "AgreedTalks$Claims" "words" "[I", .fieldLink RX0 15 "AgreedTalks$Claims" "grounds" "[J", .fieldLink RX0 19 "AgreedTalks$Claims" "turns" "[I", .fieldLink RX0 22 "AgreedTalks$Claims" "marks" "[I", .fieldLink RX0 25 "AgreedTalks$Claims" "standing" "J"] : List Cond)) [525, 165, 167, 168, 170, 172] (by decide +kernel) (by decide +kernel)) wi_wsX0) (goodIn_app (goodIn_r _ [526, 187, 56] (by decide +kernel) (by decide +kernel)) gi_fill)) (goodIn_app (goodIn_r _ [527, 528, 56] (by decide +kernel) (by decide +kernel)) gi_fillL))
set_option maxHeartbeats 4000000 in
set_option maxRecDepth 100000 in
/-- Claims.clear -/
theorem c_C_clear (l : Launch) (dC : Nat → ClassId) (dI : Nat → Nat → Nat) (sz : Nat) (h0 : Nat) (c0 : Nat) (c1 : Nat) (c2 : Nat) (c3 : Nat) (sd : Int64) (cc0 : ClassId) (cc1 : ClassId) (cc2 : ClassId) (cc3 : ClassId) (u1 : Nat → Int32) (u2 : Nat → Int64) (u3 : Nat → Int32) (u4 : Nat → Int32) : Met l yX0_clear wp_C_clear ({ frames := 1, cells := 0, slots := 0, locals := 40 }) (va_Pc [.ref h0] (fun U => U.heap.size = sz ∧ va_P (dC, dI) vwCl [(h0, .inr (1, [.ref c0, .ref c1, .ref c2, .ref c3, .long sd])), (c0, .inl (cc0, 480, .inl u1)), (c1, .inl (cc1, 480, .inr (.inl u2))), (c2, .inl (cc2, 480, .inl u3)), (c3, .inl (cc3, 40, .inl u4))] U.heap ∧ va_K (dC, dI) vwCl [(cc0, .int), (cc1, .long), (cc2, .int), (cc3, .int)] U ∧ va_D (fun _ => True) [(h0, .inr (1, [.ref c0, .ref c1, .ref c2, .ref c3, .long sd])), (c0, .inl (cc0, 480, .inl u1)), (c1, .inl (cc1, 480, .inr (.inl u2))), (c2, .inl (cc2, 480, .inl u3)), (c3, .inl (cc3, 40, .inl u4))])) (va_Qv (fun (_ : Unit) => True) (fun (_ : Unit) (t : State) => ∃ (s2 : Int64), ∃ (x1 : Nat → Int32), ∃ (x2 : Nat → Int64), ∃ (x3 : Nat → Int32), ∃ (x4 : Nat → Int32), va_P (dC, dI) vwCl [(h0, .inr (1, [.ref c0, .ref c1, .ref c2, .ref c3, .long s2])), (c0, .inl (cc0, 480, .inl x1)), (c1, .inl (cc1, 480, .inr (.inl x2))), (c2, .inl (cc2, 480, .inl x3)), (c3, .inl (cc3, 40, .inl x4))] t.heap ∧ va_K (dC, dI) vwCl [(cc0, .int), (cc1, .long), (cc2, .int), (cc3, .int)] t ∧ va_D (va_A [(h0, .inr (1, [.ref c0, .ref c1, .ref c2, .ref c3, .long sd])), (c0, .inl (cc0, 480, .inl u1)), (c1, .inl (cc1, 480, .inr (.inl u2))), (c2, .inl (cc2, 480, .inl u3)), (c3, .inl (cc3, 40, .inl u4))] sz) [(h0, .inr (1, [.ref c0, .ref c1, .ref c2, .ref c3, .long s2])), (c0, .inl (cc0, 480, .inl x1)), (c1, .inl (cc1, 480, .inr (.inl x2))), (c2, .inl (cc2, 480, .inl x3)), (c3, .inl (cc3, 40, .inl x4))]) (va_A [(h0, .inr (1, [.ref c0, .ref c1, .ref c2, .ref c3, .long sd])), (c0, .inl (cc0, 480, .inl u1)), (c1, .inl (cc1, 480, .inr (.inl u2))), (c2, .inl (cc2, 480, .inl u3)), (c3, .inl (cc3, 40, .inl u4))] sz)) 0 0 (va_A [(h0, .inr (1, [.ref c0, .ref c1, .ref c2, .ref c3, .long sd])), (c0, .inl (cc0, 480, .inl u1)), (c1, .inl (cc1, 480, .inr (.inl u2))), (c2, .inl (cc2, 480, .inl u3)), (c3, .inl (cc3, 40, .inl u4))] sz) := by
  refine Met.ofW (cc := cX0_clear) (maxL := 1) (ret := none) (by decide) rfl ?_
  intro p e s m args below meth c s₁ B hml hv
  obtain ⟨rfl, hsz, hP, hK, hD0⟩ := hv
  have hx := B.exec
  have hb := B.bytes
  have hr := B.returns
  have hts := atoms_spec (ws := wp_C_clear) B.pre
  have hown : s.vm.findClass RX0 = some m.cls := findClass_of_methodNamed B.named
  have hlocks := B.notSynchronized
  subst hsz
  have hD := hD0.self (sz := s.heap.size)
  generalize hAe : va_A [(h0, .inr (1, [.ref c0, .ref c1, .ref c2, .ref c3, .long sd])), (c0, .inl (cc0, 480, .inl u1)), (c1, .inl (cc1, 480, .inr (.inl u2))), (c2, .inl (cc2, 480, .inl u3)), (c3, .inl (cc3, 40, .inl u4))] s.heap.size = A at hD ⊢
  have hA : ∀ q : Nat, s.heap.size ≤ q → A q := fun q h => by rw [← hAe]; exact Or.inr h
  have hS : va_S A s.heap s.heap [] := va_S.rf
  have hP : va_P (dC, dI) vwCl [(h0, .inr (1, [.ref c0, .ref c1, .ref c2, .ref c3, .long sd])), (c0, .inl (cc0, 480, .inl u1)), (c1, .inl (cc1, 480, .inr (.inl u2))), (c2, .inl (cc2, 480, .inl u3)), (c3, .inl (cc3, 40, .inl u4))] s.heap := hP
  have hl := lv_entry ([.ref h0]) (n := 1) (Nat.le_of_ble_eq_true rfl)
  rw [lg_entry_eq]
  generalize (lg_sl ([.ref h0]) ++ List.replicate (1 - (lg_sl ([.ref h0])).length) Slot.unset).toArray = ls at hl ⊢
  have hl : lv_has ls 1 [(0, .ref h0)] := hl
  have hinX0 : ∀ w ∈ u_ws RX0 TX0 5, w ∈ wp_C_clear := fun _ h => List.mem_cons_of_mem _ (List.mem_append_left _ (List.mem_append_left _ (List.mem_append_right _ h)))
  refine lv_aload_n hx hb dX0_clear_0 rfl (lv_at hl 0 rfl) ?_
  refine va_get (D := (dC, dI)) (ci := 1) (v := .ref c0) (C := RX0) (T := TX0) (N := 5) hx hb hts hinX0 hown hK hP 0 rfl rfl 0 (by decide) (hts (.fieldLink RX0 9 "AgreedTalks$Claims" "words" "[I") (by decide +kernel)) (fun _ h9 => h9) rfl dX0_clear_1 ?_
  refine lv_iconst (v := (-1)) hx hb dX0_clear_4 (by decide) ?_
  have hPc := hP.sub (ws' := [(c0, .inl (cc0, 480, .inl u1))]) [1] rfl
  have hDc := hD.sub (ws' := [(c0, .inl (cc0, 480, .inl u1))]) [1] (by decide) rfl
  have hKc := hK.sub (tys' := [(cc0, .int)]) [0] rfl
  have hFc := va_free (wc := [(c0, .inl (cc0, 480, .inl u1))]) hD hS hA [1] rfl
  refine va_callv (va_runS (As := [.ref c0, .int (-1)]) (rest := []) ⟨hx, hb, hml, hown, hts⟩ (c_fill l dC dI _ c0 (-1) cc0 480 u1 (by decide)) (va_cwS 2 hts gc_C_clear_fill rfl rfl rfl (by decide +kernel) ⟨Nat.le_of_ble_eq_true rfl, Nat.le_of_ble_eq_true rfl⟩) ⟨fun a U g mk q => by obtain ⟨q0, q1, qP, qK, qD⟩ := q; exact ⟨q0, q1, qP, va_K.moved (u := U) (U := U.calling g mk a) (Vm.Alike.refl U.vm) qK, qD⟩, fun U hU hW => ⟨rfl, by rw [hU], by rw [hU]; exact hPc, va_K.moved hW.alike hKc, hDc.weaken (fun _ _ _ _ => trivial)⟩⟩ rfl rfl hl.1 rfl (lv_room (Nat.le_of_ble_eq_true rfl)) dX0_clear_5 ⟨Nat.zero_le _, Nat.zero_le _⟩) hS (fun q _ h => hFc q h) hFc (fun u t H1 locs ht hvm hw hB hz1 hk1 hS => ?_)
  obtain ⟨g0_1, hP1, hK1, hD1⟩ := hB
  rw [ht] at hP1
  obtain ⟨hP, hD⟩ := va_join (wr := [(h0, .inr (1, [.ref c0, .ref c1, .ref c2, .ref c3, .long sd])), (c1, .inl (cc1, 480, .inr (.inl u2))), (c2, .inl (cc2, 480, .inl u3)), (c3, .inl (cc3, 40, .inl u4))]) (w1 := [(c0, .inl (cc0, 480, .inl g0_1))]) hP hD [1] [0, 2, 3, 4] rfl rfl (by decide) (by decide) hk1 hFc hP1 hD1
  generalize H1 = H at hP hS ⊢
  have hP : va_P (dC, dI) vwCl [(h0, .inr (1, [.ref c0, .ref c1, .ref c2, .ref c3, .long sd])), (c1, .inl (cc1, 480, .inr (.inl u2))), (c2, .inl (cc2, 480, .inl u3)), (c3, .inl (cc3, 40, .inl u4)), (c0, .inl (cc0, 480, .inl g0_1))] H := hP
  have hD : va_D A [(h0, .inr (1, [.ref c0, .ref c1, .ref c2, .ref c3, .long sd])), (c1, .inl (cc1, 480, .inr (.inl u2))), (c2, .inl (cc2, 480, .inl u3)), (c3, .inl (cc3, 40, .inl u4)), (c0, .inl (cc0, 480, .inl g0_1))] := hD
  refine lv_aload_n hx hb dX0_clear_8 rfl (lv_at hl 0 rfl) ?_
  refine va_get (D := (dC, dI)) (ci := 1) (v := .ref c1) (C := RX0) (T := TX0) (N := 5) hx hb hts hinX0 hown hK hP 0 rfl rfl 1 (by decide) (hts (.fieldLink RX0 15 "AgreedTalks$Claims" "grounds" "[J") (by decide +kernel)) (fun _ h9 => h9) rfl dX0_clear_9 ?_
  refine lv_lconst (v := 0) hx hb dX0_clear_12 (by decide) ?_
  have hPc := hP.sub (ws' := [(c1, .inl (cc1, 480, .inr (.inl u2)))]) [1] rfl
  have hDc := hD.sub (ws' := [(c1, .inl (cc1, 480, .inr (.inl u2)))]) [1] (by decide) rfl
  have hKc := hK.sub (tys' := [(cc1, .long)]) [1] rfl
  have hFc := va_free (wc := [(c1, .inl (cc1, 480, .inr (.inl u2)))]) hD hS hA [1] rfl
  refine va_callv (va_runS (As := [.ref c1, .long 0]) (rest := []) ⟨hx, hb, hml, hown, hts⟩ (c_fillL l dC dI _ c1 0 cc1 480 u2 (by decide)) (va_cwS 2 hts gc_C_clear_fillL rfl rfl rfl (by decide +kernel) ⟨Nat.le_of_ble_eq_true rfl, Nat.le_of_ble_eq_true rfl⟩) ⟨fun a U g mk q => by obtain ⟨q0, q1, qP, qK, qD⟩ := q; exact ⟨q0, q1, qP, va_K.moved (u := U) (U := U.calling g mk a) (Vm.Alike.refl U.vm) qK, qD⟩, fun U hU hW => ⟨rfl, by rw [hU], by rw [hU]; exact hPc, va_K.moved hW.alike hKc, hDc.weaken (fun _ _ _ _ => trivial)⟩⟩ rfl rfl hl.1 rfl (lv_room (Nat.le_of_ble_eq_true rfl)) dX0_clear_13 ⟨Nat.zero_le _, Nat.zero_le _⟩) hS (fun q _ h => hFc q h) hFc (fun u t H1 locs ht hvm hw hB hz1 hk1 hS => ?_)
  obtain ⟨g0_2, hP1, hK1, hD1⟩ := hB
  rw [ht] at hP1
  obtain ⟨hP, hD⟩ := va_join (wr := [(h0, .inr (1, [.ref c0, .ref c1, .ref c2, .ref c3, .long sd])), (c2, .inl (cc2, 480, .inl u3)), (c3, .inl (cc3, 40, .inl u4)), (c0, .inl (cc0, 480, .inl g0_1))]) (w1 := [(c1, .inl (cc1, 480, .inr (.inl g0_2)))]) hP hD [1] [0, 2, 3, 4] rfl rfl (by decide) (by decide) hk1 hFc hP1 hD1
  generalize H1 = H at hP hS ⊢
  have hP : va_P (dC, dI) vwCl [(h0, .inr (1, [.ref c0, .ref c1, .ref c2, .ref c3, .long sd])), (c2, .inl (cc2, 480, .inl u3)), (c3, .inl (cc3, 40, .inl u4)), (c0, .inl (cc0, 480, .inl g0_1)), (c1, .inl (cc1, 480, .inr (.inl g0_2)))] H := hP
  have hD : va_D A [(h0, .inr (1, [.ref c0, .ref c1, .ref c2, .ref c3, .long sd])), (c2, .inl (cc2, 480, .inl u3)), (c3, .inl (cc3, 40, .inl u4)), (c0, .inl (cc0, 480, .inl g0_1)), (c1, .inl (cc1, 480, .inr (.inl g0_2)))] := hD
  refine lv_aload_n hx hb dX0_clear_16 rfl (lv_at hl 0 rfl) ?_
  refine va_get (D := (dC, dI)) (ci := 1) (v := .ref c2) (C := RX0) (T := TX0) (N := 5) hx hb hts hinX0 hown hK hP 0 rfl rfl 2 (by decide) (hts (.fieldLink RX0 19 "AgreedTalks$Claims" "turns" "[I") (by decide +kernel)) (fun _ h9 => h9) rfl dX0_clear_17 ?_
  refine lv_iconst (v := 0) hx hb dX0_clear_20 (by decide) ?_
  have hPc := hP.sub (ws' := [(c2, .inl (cc2, 480, .inl u3))]) [1] rfl
  have hDc := hD.sub (ws' := [(c2, .inl (cc2, 480, .inl u3))]) [1] (by decide) rfl
  have hKc := hK.sub (tys' := [(cc2, .int)]) [2] rfl
  have hFc := va_free (wc := [(c2, .inl (cc2, 480, .inl u3))]) hD hS hA [1] rfl
  refine va_callv (va_runS (As := [.ref c2, .int 0]) (rest := []) ⟨hx, hb, hml, hown, hts⟩ (c_fill l dC dI _ c2 0 cc2 480 u3 (by decide)) (va_cwS 2 hts gc_C_clear_fill rfl rfl rfl (by decide +kernel) ⟨Nat.le_of_ble_eq_true rfl, Nat.le_of_ble_eq_true rfl⟩) ⟨fun a U g mk q => by obtain ⟨q0, q1, qP, qK, qD⟩ := q; exact ⟨q0, q1, qP, va_K.moved (u := U) (U := U.calling g mk a) (Vm.Alike.refl U.vm) qK, qD⟩, fun U hU hW => ⟨rfl, by rw [hU], by rw [hU]; exact hPc, va_K.moved hW.alike hKc, hDc.weaken (fun _ _ _ _ => trivial)⟩⟩ rfl rfl hl.1 rfl (lv_room (Nat.le_of_ble_eq_true rfl)) dX0_clear_21 ⟨Nat.zero_le _, Nat.zero_le _⟩) hS (fun q _ h => hFc q h) hFc (fun u t H1 locs ht hvm hw hB hz1 hk1 hS => ?_)
  obtain ⟨g0_3, hP1, hK1, hD1⟩ := hB
  rw [ht] at hP1
  obtain ⟨hP, hD⟩ := va_join (wr := [(h0, .inr (1, [.ref c0, .ref c1, .ref c2, .ref c3, .long sd])), (c3, .inl (cc3, 40, .inl u4)), (c0, .inl (cc0, 480, .inl g0_1)), (c1, .inl (cc1, 480, .inr (.inl g0_2)))]) (w1 := [(c2, .inl (cc2, 480, .inl g0_3))]) hP hD [1] [0, 2, 3, 4] rfl rfl (by decide) (by decide) hk1 hFc hP1 hD1
  generalize H1 = H at hP hS ⊢
  have hP : va_P (dC, dI) vwCl [(h0, .inr (1, [.ref c0, .ref c1, .ref c2, .ref c3, .long sd])), (c3, .inl (cc3, 40, .inl u4)), (c0, .inl (cc0, 480, .inl g0_1)), (c1, .inl (cc1, 480, .inr (.inl g0_2))), (c2, .inl (cc2, 480, .inl g0_3))] H := hP
  have hD : va_D A [(h0, .inr (1, [.ref c0, .ref c1, .ref c2, .ref c3, .long sd])), (c3, .inl (cc3, 40, .inl u4)), (c0, .inl (cc0, 480, .inl g0_1)), (c1, .inl (cc1, 480, .inr (.inl g0_2))), (c2, .inl (cc2, 480, .inl g0_3))] := hD
  refine lv_aload_n hx hb dX0_clear_24 rfl (lv_at hl 0 rfl) ?_
  refine va_get (D := (dC, dI)) (ci := 1) (v := .ref c3) (C := RX0) (T := TX0) (N := 5) hx hb hts hinX0 hown hK hP 0 rfl rfl 3 (by decide) (hts (.fieldLink RX0 22 "AgreedTalks$Claims" "marks" "[I") (by decide +kernel)) (fun _ h9 => h9) rfl dX0_clear_25 ?_
  refine lv_iconst (v := 0) hx hb dX0_clear_28 (by decide) ?_
  have hPc := hP.sub (ws' := [(c3, .inl (cc3, 40, .inl u4))]) [1] rfl
  have hDc := hD.sub (ws' := [(c3, .inl (cc3, 40, .inl u4))]) [1] (by decide) rfl
  have hKc := hK.sub (tys' := [(cc3, .int)]) [3] rfl
  have hFc := va_free (wc := [(c3, .inl (cc3, 40, .inl u4))]) hD hS hA [1] rfl
  refine va_callv (va_runS (As := [.ref c3, .int 0]) (rest := []) ⟨hx, hb, hml, hown, hts⟩ (c_fill l dC dI _ c3 0 cc3 40 u4 (by decide)) (va_cwS 2 hts gc_C_clear_fill rfl rfl rfl (by decide +kernel) ⟨Nat.le_of_ble_eq_true rfl, Nat.le_of_ble_eq_true rfl⟩) ⟨fun a U g mk q => by obtain ⟨q0, q1, qP, qK, qD⟩ := q; exact ⟨q0, q1, qP, va_K.moved (u := U) (U := U.calling g mk a) (Vm.Alike.refl U.vm) qK, qD⟩, fun U hU hW => ⟨rfl, by rw [hU], by rw [hU]; exact hPc, va_K.moved hW.alike hKc, hDc.weaken (fun _ _ _ _ => trivial)⟩⟩ rfl rfl hl.1 rfl (lv_room (Nat.le_of_ble_eq_true rfl)) dX0_clear_29 ⟨Nat.zero_le _, Nat.zero_le _⟩) hS (fun q _ h => hFc q h) hFc (fun u t H1 locs ht hvm hw hB hz1 hk1 hS => ?_)
  obtain ⟨g0_4, hP1, hK1, hD1⟩ := hB
  rw [ht] at hP1
  obtain ⟨hP, hD⟩ := va_join (wr := [(h0, .inr (1, [.ref c0, .ref c1, .ref c2, .ref c3, .long sd])), (c0, .inl (cc0, 480, .inl g0_1)), (c1, .inl (cc1, 480, .inr (.inl g0_2))), (c2, .inl (cc2, 480, .inl g0_3))]) (w1 := [(c3, .inl (cc3, 40, .inl g0_4))]) hP hD [1] [0, 2, 3, 4] rfl rfl (by decide) (by decide) hk1 hFc hP1 hD1
  generalize H1 = H at hP hS ⊢
  have hP : va_P (dC, dI) vwCl [(h0, .inr (1, [.ref c0, .ref c1, .ref c2, .ref c3, .long sd])), (c0, .inl (cc0, 480, .inl g0_1)), (c1, .inl (cc1, 480, .inr (.inl g0_2))), (c2, .inl (cc2, 480, .inl g0_3)), (c3, .inl (cc3, 40, .inl g0_4))] H := hP
  have hD : va_D A [(h0, .inr (1, [.ref c0, .ref c1, .ref c2, .ref c3, .long sd])), (c0, .inl (cc0, 480, .inl g0_1)), (c1, .inl (cc1, 480, .inr (.inl g0_2))), (c2, .inl (cc2, 480, .inl g0_3)), (c3, .inl (cc3, 40, .inl g0_4))] := hD
  refine lv_aload_n hx hb dX0_clear_32 rfl (lv_at hl 0 rfl) ?_
  refine lv_lconst (v := 0) hx hb dX0_clear_33 (by decide) ?_
  refine va_put (D := (dC, dI)) (ci := 1) (v := .long 0) (ty := .long) (C := RX0) (T := TX0) (N := 5) hx hb hts hinX0 tyX0 tyX0_ok nmX0 hown hK hP hD hS 0 rfl rfl 4 (by decide) (hts (.fieldLink RX0 25 "AgreedTalks$Claims" "standing" "J") (by decide +kernel)) (fun _ h9 => h9) rfl (by decide +kernel) rfl rfl (Nat.le_of_ble_eq_true rfl) dX0_clear_34 (fun H locs hP hD hS => ?_)
  have hP : va_P (dC, dI) vwCl [(h0, .inr (1, [.ref c0, .ref c1, .ref c2, .ref c3, .long 0])), (c0, .inl (cc0, 480, .inl g0_1)), (c1, .inl (cc1, 480, .inr (.inl g0_2))), (c2, .inl (cc2, 480, .inl g0_3)), (c3, .inl (cc3, 40, .inl g0_4))] H := hP
  have hD : va_D A [(h0, .inr (1, [.ref c0, .ref c1, .ref c2, .ref c3, .long 0])), (c0, .inl (cc0, 480, .inl g0_1)), (c1, .inl (cc1, 480, .inr (.inl g0_2))), (c2, .inl (cc2, 480, .inl g0_3)), (c3, .inl (cc3, 40, .inl g0_4))] := hD
  have hP9 := hP.sub (ws' := [(h0, .inr (1, [.ref c0, .ref c1, .ref c2, .ref c3, .long 0])), (c0, .inl (cc0, 480, .inl g0_1)), (c1, .inl (cc1, 480, .inr (.inl g0_2))), (c2, .inl (cc2, 480, .inl g0_3)), (c3, .inl (cc3, 40, .inl g0_4))]) [0, 1, 2, 3, 4] rfl
  have hD9 := hD.sub (ws' := [(h0, .inr (1, [.ref c0, .ref c1, .ref c2, .ref c3, .long 0])), (c0, .inl (cc0, 480, .inl g0_1)), (c1, .inl (cc1, 480, .inr (.inl g0_2))), (c2, .inl (cc2, 480, .inl g0_3)), (c3, .inl (cc3, 40, .inl g0_4))]) [0, 1, 2, 3, 4] (by decide) rfl
  have hK9 := hK.sub (tys' := [(cc0, .int), (cc1, .long), (cc2, .int), (cc3, .int)]) [0, 1, 2, 3] rfl
  exact W.vret hx hb hr (fun t ht hW => ⟨⟨(), rfl, trivial, 0, g0_1, g0_2, g0_3, g0_4, by rw [ht]; exact hP9, va_K.moved hW.alike hK9, hD9⟩, hS.F ht⟩) hS.2.2 dX0_clear_37
def wp_C_isStanding : List Cond := .code yX0_isStanding cX0_isStanding 2 (some .boolean) :: (([.fieldLink RX0 25 "AgreedTalks$Claims" "standing" "J", .initialized RX6, .static yX6_bit] : List Cond) ++ wsX00 ++ wp_X6_bit)
theorem gc_C_isStanding_X6_bit : GoodIn wp_C_isStanding wp_X6_bit := goodIn_sub (fun _ h => List.mem_cons_of_mem _ (List.mem_append_right _ h)) (by decide +kernel)
set_option maxRecDepth 20000 in
theorem gi_C_isStanding : GoodIn lw_tbl wp_C_isStanding := (goodIn_ca (goodIn_ca (goodIn_r (.code yX0_isStanding cX0_isStanding 2 (some .boolean) :: ([.fieldLink RX0 25 "AgreedTalks$Claims" "standing" "J", .initialized RX6, .static yX6_bit] : List Cond)) [562, 172, 48, 404] (by decide +kernel) (by decide +kernel)) wi_wsX0) gi_X6_bit)
set_option maxHeartbeats 4000000 in
set_option maxRecDepth 100000 in
/-- isStanding -/
theorem c_C_isStanding (l : Launch) (dC : Nat → ClassId) (dI : Nat → Nat → Nat) (sz : Nat) (h0 : Nat) (c0 : Nat) (c1 : Nat) (c2 : Nat) (c3 : Nat) (sd : Int64) (cc0 : ClassId) (cc1 : ClassId) (cc2 : ClassId) (cc3 : ClassId) (u1 : Nat → Int32) (u2 : Nat → Int64) (u3 : Nat → Int32) (u4 : Nat → Int32) (p0 : Int32) : Met l yX0_isStanding wp_C_isStanding ({ frames := 1, cells := 0, slots := 0, locals := 30 }) (va_Pc [.ref h0, .int p0] (fun U => U.heap.size = sz ∧ va_P (dC, dI) vwCl [(h0, .inr (1, [.ref c0, .ref c1, .ref c2, .ref c3, .long sd])), (c0, .inl (cc0, 480, .inl u1)), (c1, .inl (cc1, 480, .inr (.inl u2))), (c2, .inl (cc2, 480, .inl u3)), (c3, .inl (cc3, 40, .inl u4))] U.heap ∧ va_K (dC, dI) vwCl [(cc0, .int), (cc1, .long), (cc2, .int), (cc3, .int)] U ∧ va_D (fun _ => True) [(h0, .inr (1, [.ref c0, .ref c1, .ref c2, .ref c3, .long sd])), (c0, .inl (cc0, 480, .inl u1)), (c1, .inl (cc1, 480, .inr (.inl u2))), (c2, .inl (cc2, 480, .inl u3)), (c3, .inl (cc3, 40, .inl u4))] ∧ va_Nw (.methodLinkNest RX0 60 yX6_bit "AgreedTalks") U)) (va_Qi (fun (r : Int32) (_ : Unit) => r = 0 ∨ r = 1) (fun (_ : Unit) (t : State) => va_P (dC, dI) vwCl [(h0, .inr (1, [.ref c0, .ref c1, .ref c2, .ref c3, .long sd])), (c0, .inl (cc0, 480, .inl u1)), (c1, .inl (cc1, 480, .inr (.inl u2))), (c2, .inl (cc2, 480, .inl u3)), (c3, .inl (cc3, 40, .inl u4))] t.heap ∧ va_K (dC, dI) vwCl [(cc0, .int), (cc1, .long), (cc2, .int), (cc3, .int)] t ∧ va_D (va_A [(h0, .inr (1, [.ref c0, .ref c1, .ref c2, .ref c3, .long sd])), (c0, .inl (cc0, 480, .inl u1)), (c1, .inl (cc1, 480, .inr (.inl u2))), (c2, .inl (cc2, 480, .inl u3)), (c3, .inl (cc3, 40, .inl u4))] sz) [(h0, .inr (1, [.ref c0, .ref c1, .ref c2, .ref c3, .long sd])), (c0, .inl (cc0, 480, .inl u1)), (c1, .inl (cc1, 480, .inr (.inl u2))), (c2, .inl (cc2, 480, .inl u3)), (c3, .inl (cc3, 40, .inl u4))]) (va_A [(h0, .inr (1, [.ref c0, .ref c1, .ref c2, .ref c3, .long sd])), (c0, .inl (cc0, 480, .inl u1)), (c1, .inl (cc1, 480, .inr (.inl u2))), (c2, .inl (cc2, 480, .inl u3)), (c3, .inl (cc3, 40, .inl u4))] sz)) 0 0 (va_A [(h0, .inr (1, [.ref c0, .ref c1, .ref c2, .ref c3, .long sd])), (c0, .inl (cc0, 480, .inl u1)), (c1, .inl (cc1, 480, .inr (.inl u2))), (c2, .inl (cc2, 480, .inl u3)), (c3, .inl (cc3, 40, .inl u4))] sz) := by
  refine Met.ofW (cc := cX0_isStanding) (maxL := 2) (ret := (some .boolean)) (by decide) rfl ?_
  intro p e s m args below meth c s₁ B hml hv
  obtain ⟨rfl, hsz, hP, hK, hD0, nw0b⟩ := hv
  have hx := B.exec
  have hb := B.bytes
  have hr := B.returns
  have hts := atoms_spec (ws := wp_C_isStanding) B.pre
  have hown : s.vm.findClass RX0 = some m.cls := findClass_of_methodNamed B.named
  have hlocks := B.notSynchronized
  subst hsz
  have hD := hD0.self (sz := s.heap.size)
  generalize hAe : va_A [(h0, .inr (1, [.ref c0, .ref c1, .ref c2, .ref c3, .long sd])), (c0, .inl (cc0, 480, .inl u1)), (c1, .inl (cc1, 480, .inr (.inl u2))), (c2, .inl (cc2, 480, .inl u3)), (c3, .inl (cc3, 40, .inl u4))] s.heap.size = A at hD ⊢
  have hA : ∀ q : Nat, s.heap.size ≤ q → A q := fun q h => by rw [← hAe]; exact Or.inr h
  have hS : va_S A s.heap s.heap [] := va_S.rf
  have hP : va_P (dC, dI) vwCl [(h0, .inr (1, [.ref c0, .ref c1, .ref c2, .ref c3, .long sd])), (c0, .inl (cc0, 480, .inl u1)), (c1, .inl (cc1, 480, .inr (.inl u2))), (c2, .inl (cc2, 480, .inl u3)), (c3, .inl (cc3, 40, .inl u4))] s.heap := hP
  have hl := lv_entry ([.ref h0, .int p0]) (n := 2) (Nat.le_of_ble_eq_true rfl)
  rw [lg_entry_eq]
  generalize (lg_sl ([.ref h0, .int p0]) ++ List.replicate (2 - (lg_sl ([.ref h0, .int p0])).length) Slot.unset).toArray = ls at hl ⊢
  have hl : lv_has ls 2 [(0, .ref h0), (1, .int p0)] := hl
  have hinX0 : ∀ w ∈ u_ws RX0 TX0 5, w ∈ wp_C_isStanding := fun _ h => List.mem_cons_of_mem _ (List.mem_append_left _ (List.mem_append_right _ h))
  refine lv_aload_n hx hb dX0_isStanding_0 rfl (lv_at hl 0 rfl) ?_
  refine va_get (D := (dC, dI)) (ci := 1) (v := .long sd) (C := RX0) (T := TX0) (N := 5) hx hb hts hinX0 hown hK hP 0 rfl rfl 4 (by decide) (hts (.fieldLink RX0 25 "AgreedTalks$Claims" "standing" "J") (by decide +kernel)) (fun _ h9 => h9) rfl dX0_isStanding_1 ?_
  refine lv_iload_n hx hb dX0_isStanding_4 rfl (lv_at hl 1 rfl) ?_
  have hPc := hP.sub (ws' := []) [] rfl
  have hDc := hD.sub (ws' := []) [] (by decide) rfl
  have hKc := hK.sub (tys' := []) [] rfl
  have hFc := va_free (wc := []) hD hS hA [] rfl
  refine va_calll (va_runSN (As := [.int p0]) (rest := [.long sd]) ⟨hx, hb, hml, hown, hts⟩ (c_X6_bit l dC dI _ p0) ⟨va_cnB 1 hts gc_C_isStanding_X6_bit rfl rfl rfl nw0b (hts (.initialized RX6) (by decide +kernel)) (by decide +kernel) ⟨Nat.le_of_ble_eq_true rfl, Nat.le_of_ble_eq_true rfl⟩, (hts (.static yX6_bit) (by decide +kernel)), trivial⟩ ⟨fun a U g mk q => by obtain ⟨q0, q1, qP, qK, qD⟩ := q; exact ⟨q0, q1, qP, va_K.moved (u := U) (U := U.calling g mk a) (Vm.Alike.refl U.vm) qK, qD⟩, fun U hU hW => ⟨rfl, by rw [hU], by rw [hU]; exact hPc, va_K.moved hW.alike hKc, hDc.weaken (fun _ _ _ _ => trivial)⟩⟩ rfl rfl hl.1 rfl (lv_room (Nat.le_of_ble_eq_true rfl)) dX0_isStanding_5 ⟨Nat.zero_le _, Nat.zero_le _⟩) hS (fun q _ h => hFc q h) hFc (fun r_1 u t H1 locs ht hvm hw hB hz1 hk1 hS => ?_)
  obtain ⟨hP1, hK1, hD1⟩ := hB
  rw [ht] at hP1
  obtain ⟨hP, hD⟩ := va_join (wr := [(h0, .inr (1, [.ref c0, .ref c1, .ref c2, .ref c3, .long sd])), (c0, .inl (cc0, 480, .inl u1)), (c1, .inl (cc1, 480, .inr (.inl u2))), (c2, .inl (cc2, 480, .inl u3)), (c3, .inl (cc3, 40, .inl u4))]) (w1 := []) hP hD [] [0, 1, 2, 3, 4] rfl rfl (by decide) (by decide) hk1 hFc hP1 hD1
  generalize H1 = H at hP hS ⊢
  have hP : va_P (dC, dI) vwCl [(h0, .inr (1, [.ref c0, .ref c1, .ref c2, .ref c3, .long sd])), (c0, .inl (cc0, 480, .inl u1)), (c1, .inl (cc1, 480, .inr (.inl u2))), (c2, .inl (cc2, 480, .inl u3)), (c3, .inl (cc3, 40, .inl u4))] H := hP
  have hD : va_D A [(h0, .inr (1, [.ref c0, .ref c1, .ref c2, .ref c3, .long sd])), (c0, .inl (cc0, 480, .inl u1)), (c1, .inl (cc1, 480, .inr (.inl u2))), (c2, .inl (cc2, 480, .inl u3)), (c3, .inl (cc3, 40, .inl u4))] := hD
  have hr_1 := hw
  try dsimp only at hr_1
  refine lv_land hx hb dX0_isStanding_8 ?_
  refine lv_topl (fun x_2 ex_2 => ?_)
  refine lv_lconst (v := 0) hx hb dX0_isStanding_9 (by decide) ?_
  refine W.lcmp hx hb dX0_isStanding_10 ?_
  refine lv_if_eq (tgt := 18) hx hb dX0_isStanding_11 (by decide) (fun c_3 => ?_) (fun c_3 => ?_)
  · have c_3 : x_2 = 0 := (lg_cmp_eq _ _).mp c_3
    refine lv_iconst (v := 0) hx hb dX0_isStanding_18 (by decide) ?_
    have hP9 := hP.sub (ws' := [(h0, .inr (1, [.ref c0, .ref c1, .ref c2, .ref c3, .long sd])), (c0, .inl (cc0, 480, .inl u1)), (c1, .inl (cc1, 480, .inr (.inl u2))), (c2, .inl (cc2, 480, .inl u3)), (c3, .inl (cc3, 40, .inl u4))]) [0, 1, 2, 3, 4] rfl
    have hD9 := hD.sub (ws' := [(h0, .inr (1, [.ref c0, .ref c1, .ref c2, .ref c3, .long sd])), (c0, .inl (cc0, 480, .inl u1)), (c1, .inl (cc1, 480, .inr (.inl u2))), (c2, .inl (cc2, 480, .inl u3)), (c3, .inl (cc3, 40, .inl u4))]) [0, 1, 2, 3, 4] (by decide) rfl
    have hK9 := hK.sub (tys' := [(cc0, .int), (cc1, .long), (cc2, .int), (cc3, .int)]) [0, 1, 2, 3] rfl
    exact W.zret (v := 0) (ty := .boolean) hx hb hr rfl (fun t ht hW => ⟨⟨0, (), rfl, Or.inl rfl, by rw [ht]; exact hP9, va_K.moved hW.alike hK9, hD9⟩, hS.F ht⟩) hS.2.2 dX0_isStanding_19
  · have c_3 : ¬ (x_2 = 0) := fun h => c_3 ((lg_cmp_eq _ _).mpr h)
    refine lv_iconst (v := 1) hx hb dX0_isStanding_14 (by decide) ?_
    refine lv_goto (tgt := 19) hx hb dX0_isStanding_15 (by decide) ?_
    have hP9 := hP.sub (ws' := [(h0, .inr (1, [.ref c0, .ref c1, .ref c2, .ref c3, .long sd])), (c0, .inl (cc0, 480, .inl u1)), (c1, .inl (cc1, 480, .inr (.inl u2))), (c2, .inl (cc2, 480, .inl u3)), (c3, .inl (cc3, 40, .inl u4))]) [0, 1, 2, 3, 4] rfl
    have hD9 := hD.sub (ws' := [(h0, .inr (1, [.ref c0, .ref c1, .ref c2, .ref c3, .long sd])), (c0, .inl (cc0, 480, .inl u1)), (c1, .inl (cc1, 480, .inr (.inl u2))), (c2, .inl (cc2, 480, .inl u3)), (c3, .inl (cc3, 40, .inl u4))]) [0, 1, 2, 3, 4] (by decide) rfl
    have hK9 := hK.sub (tys' := [(cc0, .int), (cc1, .long), (cc2, .int), (cc3, .int)]) [0, 1, 2, 3] rfl
    exact W.zret (v := 1) (ty := .boolean) hx hb hr rfl (fun t ht hW => ⟨⟨1, (), rfl, Or.inr rfl, by rw [ht]; exact hP9, va_K.moved hW.alike hK9, hD9⟩, hS.F ht⟩) hS.2.2 dX0_isStanding_19
def wp_C_isCarried : List Cond := .code yX0_isCarried cX0_isCarried 5 (some .boolean) :: (([.initialized RX6, .static yX6_cell, .fieldLink RX0 9 "AgreedTalks$Claims" "words" "[I", .fieldLink RX0 15 "AgreedTalks$Claims" "grounds" "[J", .fieldLink RX0 25 "AgreedTalks$Claims" "standing" "J", .constantLong RX0 71 (-1)] : List Cond) ++ wsX00 ++ wp_X6_cell)
theorem gc_C_isCarried_X6_cell : GoodIn wp_C_isCarried wp_X6_cell := goodIn_sub (fun _ h => List.mem_cons_of_mem _ (List.mem_append_right _ h)) (by decide +kernel)
set_option maxRecDepth 20000 in
theorem gi_C_isCarried : GoodIn lw_tbl wp_C_isCarried := (goodIn_ca (goodIn_ca (goodIn_r (.code yX0_isCarried cX0_isCarried 5 (some .boolean) :: ([.initialized RX6, .static yX6_cell, .fieldLink RX0 9 "AgreedTalks$Claims" "words" "[I", .fieldLink RX0 15 "AgreedTalks$Claims" "grounds" "[J", .fieldLink RX0 25 "AgreedTalks$Claims" "standing" "J", .constantLong RX0 71 (-1)] : List Cond)) [567, 48, 540, 165, 167, 172, 568] (by decide +kernel) (by decide +kernel)) wi_wsX0) gi_X6_cell)
set_option maxHeartbeats 4000000 in
set_option maxRecDepth 100000 in
theorem sg_C_isCarried_4 {p : Program} {l : Launch} {e : Env} {s : State} {m : MethodId} {args : Array Value} {below : List Frame} {meth : Method} {c : Code} {Q : State → Prop} {A : Nat → Prop} {dC : Nat → ClassId} {dI : Nat → Nat → Nat} (h0 : Nat) (c0 : Nat) (c1 : Nat) (c2 : Nat) (c3 : Nat) (sd : Int64) (cc0 : ClassId) (cc1 : ClassId) (cc2 : ClassId) (cc3 : ClassId) (u1 : Nat → Int32) (u2 : Nat → Int64) (u3 : Nat → Int32) (u4 : Nat → Int32) (cl : Nat) (qcl : cl < 40) (hx : p.tables.exec = Jvm.exec) (hb : c.code = cX0_isCarried) (hml : c.maxLocals = 5) (hown : s.vm.findClass RX0 = some m.cls) (hts : ∀ w ∈ wp_C_isCarried, w.before args s = true) (hK : va_K (dC, dI) vwCl [(cc0, .int), (cc1, .long), (cc2, .int), (cc3, .int)] s) (hA : ∀ q : Nat, s.heap.size ≤ q → A q) (nw0c : va_Nw (.methodLinkNest RX0 54 yX6_cell "AgreedTalks") s) (kk_27 : ∀ (H : Heap) (locs : List Loc) (ls : Array Slot), okPD (dC, dI) vwCl A [(h0, .inr (1, [.ref c0, .ref c1, .ref c2, .ref c3, .long sd])), (c0, .inl (cc0, 480, .inl u1)), (c1, .inl (cc1, 480, .inr (.inl u2))), (c2, .inl (cc2, 480, .inl u3)), (c3, .inl (cc3, 40, .inl u4))] H → va_S A s.heap H locs → lv_has ls 5 [(0, .ref h0)] → W p l e ({ frames := 1, cells := 0, slots := 0, locals := 30 } : Room) s m args below meth c H locs 0 0 Q (F0 m 27 ls [])) (kk_69 : ∀ (ca : Int32) (H : Heap) (locs : List Loc) (ls : Array Slot), (ca = 0 ∨ ca = 1) → okPD (dC, dI) vwCl A [(h0, .inr (1, [.ref c0, .ref c1, .ref c2, .ref c3, .long sd])), (c0, .inl (cc0, 480, .inl u1)), (c1, .inl (cc1, 480, .inr (.inl u2))), (c2, .inl (cc2, 480, .inl u3)), (c3, .inl (cc3, 40, .inl u4))] H → va_S A s.heap H locs → lv_has ls 5 [(0, .ref h0), (2, .int ca)] → W p l e ({ frames := 1, cells := 0, slots := 0, locals := 30 } : Room) s m args below meth c H locs 0 0 Q (F0 m 69 ls [])) : ∀ (n : Nat) (ca : Int32) (p9 : Nat) (H : Heap) (locs : List Loc) (ls : Array Slot), 12 - p9 < n → (ca = 0 ∨ ca = 1) → (p9 ≤ 12) → okPD (dC, dI) vwCl A [(h0, .inr (1, [.ref c0, .ref c1, .ref c2, .ref c3, .long sd])), (c0, .inl (cc0, 480, .inl u1)), (c1, .inl (cc1, 480, .inr (.inl u2))), (c2, .inl (cc2, 480, .inl u3)), (c3, .inl (cc3, 40, .inl u4))] H → va_S A s.heap H locs → lv_has ls 5 [(0, .ref h0), (1, .int (nI cl)), (2, .int ca), (3, .int (nI p9))] → W p l e ({ frames := 1, cells := 0, slots := 0, locals := 30 } : Room) s m args below meth c H locs 0 0 Q (F0 m 4 ls []) := by
  have hinX0 : ∀ w ∈ u_ws RX0 TX0 5, w ∈ wp_C_isCarried := fun _ h => List.mem_cons_of_mem _ (List.mem_append_left _ (List.mem_append_right _ h))
  intro n
  induction n with
  | zero =>
    intro ca p9 H locs ls hn
    exact absurd hn (Nat.not_lt_zero _)
  | succ n ih =>
    intro ca p9 H locs ls hn hca hp hPD hS hl
    obtain ⟨hP, hD⟩ := hPD
    refine lv_iload_n hx hb dX0_isCarried_4 rfl (lv_at hl 3 rfl) ?_
    refine lv_bipush (v := 12) hx hb dX0_isCarried_5 (by decide) ?_
    refine lv_icmp_ge (tgt := 69) hx hb dX0_isCarried_7 (by decide) (fun c_1 => ?_) (fun c_1 => ?_)
    · have c_1 : 12 ≤ p9 := (nI_leI (a := 12) (b := p9) (by omega) (by omega)).mp c_1
      exact kk_69 ca _ _ _ hca ⟨hP, hD⟩ hS (lv_sub hl [0, 2] rfl)
    · have c_1 : ¬ (12 ≤ p9) := fun h => c_1 ((nI_leI (a := 12) (b := p9) (by omega) (by omega)).mpr h)
      refine lv_iload_n hx hb dX0_isCarried_10 rfl (lv_at hl 3 rfl) ?_
      refine lv_iload_n hx hb dX0_isCarried_11 rfl (lv_at hl 1 rfl) ?_
      have hPc := hP.sub (ws' := []) [] rfl
      have hDc := hD.sub (ws' := []) [] (by decide) rfl
      have hKc := hK.sub (tys' := []) [] rfl
      have hFc := va_free (wc := []) hD hS hA [] rfl
      refine va_calli (va_runSN (As := [.int (nI p9), .int (nI cl)]) (rest := []) ⟨hx, hb, hml, hown, hts⟩ (c_X6_cell l dC dI _ p9 cl) ⟨va_cnB 2 hts gc_C_isCarried_X6_cell rfl rfl rfl nw0c (hts (.initialized RX6) (by decide +kernel)) (by decide +kernel) ⟨Nat.le_of_ble_eq_true rfl, Nat.le_of_ble_eq_true rfl⟩, (hts (.static yX6_cell) (by decide +kernel)), trivial⟩ ⟨fun a U g mk q => by obtain ⟨q0, q1, qP, qK, qD⟩ := q; exact ⟨q0, q1, qP, va_K.moved (u := U) (U := U.calling g mk a) (Vm.Alike.refl U.vm) qK, qD⟩, fun U hU hW => ⟨rfl, by rw [hU], by rw [hU]; exact hPc, va_K.moved hW.alike hKc, hDc.weaken (fun _ _ _ _ => trivial)⟩⟩ rfl rfl hl.1 rfl (lv_room (Nat.le_of_ble_eq_true rfl)) dX0_isCarried_12 ⟨Nat.zero_le _, Nat.zero_le _⟩) hS (fun q _ h => hFc q h) hFc (fun r_2 u t H1 locs ht hvm hw hB hz1 hk1 hS => ?_)
      obtain ⟨hP1, hK1, hD1⟩ := hB
      rw [ht] at hP1
      obtain ⟨hP, hD⟩ := va_join (wr := [(h0, .inr (1, [.ref c0, .ref c1, .ref c2, .ref c3, .long sd])), (c0, .inl (cc0, 480, .inl u1)), (c1, .inl (cc1, 480, .inr (.inl u2))), (c2, .inl (cc2, 480, .inl u3)), (c3, .inl (cc3, 40, .inl u4))]) (w1 := []) hP hD [] [0, 1, 2, 3, 4] rfl rfl (by decide) (by decide) hk1 hFc hP1 hD1
      generalize H1 = H at hP hS ⊢
      have hP : va_P (dC, dI) vwCl [(h0, .inr (1, [.ref c0, .ref c1, .ref c2, .ref c3, .long sd])), (c0, .inl (cc0, 480, .inl u1)), (c1, .inl (cc1, 480, .inr (.inl u2))), (c2, .inl (cc2, 480, .inl u3)), (c3, .inl (cc3, 40, .inl u4))] H := hP
      have hD : va_D A [(h0, .inr (1, [.ref c0, .ref c1, .ref c2, .ref c3, .long sd])), (c0, .inl (cc0, 480, .inl u1)), (c1, .inl (cc1, 480, .inr (.inl u2))), (c2, .inl (cc2, 480, .inl u3)), (c3, .inl (cc3, 40, .inl u4))] := hD
      obtain rfl : r_2 = (nI (p9 * 40 + cl)) := hw
      refine lv_istore (lv' := [(4, .int (nI (p9 * 40 + cl))), (0, .ref h0), (1, .int (nI cl)), (2, .int ca), (3, .int (nI p9))]) hx hb dX0_isCarried_15 hl (by decide) rfl (fun ls hl => ?_)
      refine lv_aload_n hx hb dX0_isCarried_17 rfl (lv_at hl 1 rfl) ?_
      refine va_get (D := (dC, dI)) (ci := 1) (v := .ref c0) (C := RX0) (T := TX0) (N := 5) hx hb hts hinX0 hown hK hP 0 rfl rfl 0 (by decide) (hts (.fieldLink RX0 9 "AgreedTalks$Claims" "words" "[I") (by decide +kernel)) (fun _ h9 => h9) rfl dX0_isCarried_18 ?_
      refine lv_iload hx hb dX0_isCarried_21 (lv_at hl 0 rfl) ?_
      refine va_iald hx hb hK hP 1 0 rfl rfl (vp_in_nI (by omega) (by omega)) dX0_isCarried_23 ?_
      refine lv_topi (fun x_3 ex_3 => ?_)
      rw [show (Int32.toNatClampNeg (nI (p9 * 40 + cl))) = p9 * 40 + cl from nI_clamp (by omega)] at ex_3
      refine lv_if_ne (tgt := 29) hx hb dX0_isCarried_24 (by decide) (fun c_4 => ?_) (fun c_4 => ?_)
      · refine lv_aload_n hx hb dX0_isCarried_29 rfl (lv_at hl 1 rfl) ?_
        refine va_get (D := (dC, dI)) (ci := 1) (v := .ref c0) (C := RX0) (T := TX0) (N := 5) hx hb hts hinX0 hown hK hP 0 rfl rfl 0 (by decide) (hts (.fieldLink RX0 9 "AgreedTalks$Claims" "words" "[I") (by decide +kernel)) (fun _ h9 => h9) rfl dX0_isCarried_30 ?_
        refine lv_iload hx hb dX0_isCarried_33 (lv_at hl 0 rfl) ?_
        refine va_iald hx hb hK hP 1 0 rfl rfl (vp_in_nI (by omega) (by omega)) dX0_isCarried_35 ?_
        refine lv_topi (fun x_5 ex_5 => ?_)
        rw [show (Int32.toNatClampNeg (nI (p9 * 40 + cl))) = p9 * 40 + cl from nI_clamp (by omega)] at ex_5
        refine lv_iconst (v := 1) hx hb dX0_isCarried_36 (by decide) ?_
        refine lv_icmp_ne (tgt := 63) hx hb dX0_isCarried_37 (by decide) (fun c_6 => ?_) (fun c_6 => ?_)
        · refine lv_iinc (v := (nI (p9 + 1))) (lv' := [(3, .int (nI (p9 + 1))), (4, .int (nI (p9 * 40 + cl))), (0, .ref h0), (1, .int (nI cl)), (2, .int ca)]) hx hb dX0_isCarried_63 hl (k := 4) rfl (nI_1 _) (by decide) rfl (fun ls hl => ?_)
          refine lv_goto (tgt := 4) hx hb dX0_isCarried_66 (by decide) ?_
          exact ih ca (p9 + 1) _ _ _ (by omega) hca (by omega) ⟨hP, hD⟩ hS (lv_sub hl [2, 3, 4, 0] rfl)
        · refine lv_aload_n hx hb dX0_isCarried_40 rfl (lv_at hl 1 rfl) ?_
          refine va_get (D := (dC, dI)) (ci := 1) (v := .ref c1) (C := RX0) (T := TX0) (N := 5) hx hb hts hinX0 hown hK hP 0 rfl rfl 1 (by decide) (hts (.fieldLink RX0 15 "AgreedTalks$Claims" "grounds" "[J") (by decide +kernel)) (fun _ h9 => h9) rfl dX0_isCarried_41 ?_
          refine lv_iload hx hb dX0_isCarried_44 (lv_at hl 0 rfl) ?_
          refine va_lald hx hb hK hP 2 1 rfl rfl (vp_in_nI (by omega) (by omega)) dX0_isCarried_46 ?_
          refine lv_topl (fun x_7 ex_7 => ?_)
          refine lv_aload_n hx hb dX0_isCarried_47 rfl (lv_at hl 1 rfl) ?_
          refine va_get (D := (dC, dI)) (ci := 1) (v := .long sd) (C := RX0) (T := TX0) (N := 5) hx hb hts hinX0 hown hK hP 0 rfl rfl 4 (by decide) (hts (.fieldLink RX0 25 "AgreedTalks$Claims" "standing" "J") (by decide +kernel)) (fun _ h9 => h9) rfl dX0_isCarried_48 ?_
          refine lv_ldc2 (v := (-1)) hx hb hown (hts (.constantLong RX0 71 (-1)) (by decide +kernel)) dX0_isCarried_51 ?_
          refine lv_lxor hx hb dX0_isCarried_54 ?_
          refine lv_topl (fun x_8 ex_8 => ?_)
          refine lv_land hx hb dX0_isCarried_55 ?_
          refine lv_topl (fun x_9 ex_9 => ?_)
          refine lv_lconst (v := 0) hx hb dX0_isCarried_56 (by decide) ?_
          refine W.lcmp hx hb dX0_isCarried_57 ?_
          refine lv_if_ne (tgt := 63) hx hb dX0_isCarried_58 (by decide) (fun c_10 => ?_) (fun c_10 => ?_)
          · have c_10 : ¬ (x_9 = 0) := fun h => c_10 ((lg_cmp_eq _ _).mpr h)
            refine lv_iinc (v := (nI (p9 + 1))) (lv' := [(3, .int (nI (p9 + 1))), (4, .int (nI (p9 * 40 + cl))), (0, .ref h0), (1, .int (nI cl)), (2, .int ca)]) hx hb dX0_isCarried_63 hl (k := 4) rfl (nI_1 _) (by decide) rfl (fun ls hl => ?_)
            refine lv_goto (tgt := 4) hx hb dX0_isCarried_66 (by decide) ?_
            exact ih ca (p9 + 1) _ _ _ (by omega) hca (by omega) ⟨hP, hD⟩ hS (lv_sub hl [2, 3, 4, 0] rfl)
          · have c_10 : x_9 = 0 := (lg_cmp_eq _ _).mp c_10
            refine lv_iconst (v := 1) hx hb dX0_isCarried_61 (by decide) ?_
            refine lv_istore_n (lv' := [(2, .int 1), (4, .int (nI (p9 * 40 + cl))), (0, .ref h0), (1, .int (nI cl)), (3, .int (nI p9))]) hx hb dX0_isCarried_62 rfl hl (by decide) rfl (fun ls hl => ?_)
            refine lv_iinc (v := (nI (p9 + 1))) (lv' := [(3, .int (nI (p9 + 1))), (2, .int 1), (4, .int (nI (p9 * 40 + cl))), (0, .ref h0), (1, .int (nI cl))]) hx hb dX0_isCarried_63 hl (k := 4) rfl (nI_1 _) (by decide) rfl (fun ls hl => ?_)
            refine lv_goto (tgt := 4) hx hb dX0_isCarried_66 (by decide) ?_
            exact ih 1 (p9 + 1) _ _ _ (by omega) (Or.inr rfl) (by omega) ⟨hP, hD⟩ hS (lv_sub hl [3, 4, 1, 0] rfl)
      · exact kk_27  _ _ _  ⟨hP, hD⟩ hS (lv_sub hl [1] rfl)
set_option maxHeartbeats 4000000 in
set_option maxRecDepth 100000 in
/-- isCarried -/
theorem c_C_isCarried (l : Launch) (dC : Nat → ClassId) (dI : Nat → Nat → Nat) (sz : Nat) (h0 : Nat) (c0 : Nat) (c1 : Nat) (c2 : Nat) (c3 : Nat) (sd : Int64) (cc0 : ClassId) (cc1 : ClassId) (cc2 : ClassId) (cc3 : ClassId) (u1 : Nat → Int32) (u2 : Nat → Int64) (u3 : Nat → Int32) (u4 : Nat → Int32) (cl : Nat) (qcl : cl < 40) : Met l yX0_isCarried wp_C_isCarried ({ frames := 1, cells := 0, slots := 0, locals := 30 }) (va_Pc [.ref h0, .int (nI cl)] (fun U => U.heap.size = sz ∧ va_P (dC, dI) vwCl [(h0, .inr (1, [.ref c0, .ref c1, .ref c2, .ref c3, .long sd])), (c0, .inl (cc0, 480, .inl u1)), (c1, .inl (cc1, 480, .inr (.inl u2))), (c2, .inl (cc2, 480, .inl u3)), (c3, .inl (cc3, 40, .inl u4))] U.heap ∧ va_K (dC, dI) vwCl [(cc0, .int), (cc1, .long), (cc2, .int), (cc3, .int)] U ∧ va_D (fun _ => True) [(h0, .inr (1, [.ref c0, .ref c1, .ref c2, .ref c3, .long sd])), (c0, .inl (cc0, 480, .inl u1)), (c1, .inl (cc1, 480, .inr (.inl u2))), (c2, .inl (cc2, 480, .inl u3)), (c3, .inl (cc3, 40, .inl u4))] ∧ va_Nw (.methodLinkNest RX0 54 yX6_cell "AgreedTalks") U)) (va_Qi (fun (r : Int32) (_ : Unit) => r = 0 ∨ r = 1) (fun (_ : Unit) (t : State) => va_P (dC, dI) vwCl [(h0, .inr (1, [.ref c0, .ref c1, .ref c2, .ref c3, .long sd])), (c0, .inl (cc0, 480, .inl u1)), (c1, .inl (cc1, 480, .inr (.inl u2))), (c2, .inl (cc2, 480, .inl u3)), (c3, .inl (cc3, 40, .inl u4))] t.heap ∧ va_K (dC, dI) vwCl [(cc0, .int), (cc1, .long), (cc2, .int), (cc3, .int)] t ∧ va_D (va_A [(h0, .inr (1, [.ref c0, .ref c1, .ref c2, .ref c3, .long sd])), (c0, .inl (cc0, 480, .inl u1)), (c1, .inl (cc1, 480, .inr (.inl u2))), (c2, .inl (cc2, 480, .inl u3)), (c3, .inl (cc3, 40, .inl u4))] sz) [(h0, .inr (1, [.ref c0, .ref c1, .ref c2, .ref c3, .long sd])), (c0, .inl (cc0, 480, .inl u1)), (c1, .inl (cc1, 480, .inr (.inl u2))), (c2, .inl (cc2, 480, .inl u3)), (c3, .inl (cc3, 40, .inl u4))]) (va_A [(h0, .inr (1, [.ref c0, .ref c1, .ref c2, .ref c3, .long sd])), (c0, .inl (cc0, 480, .inl u1)), (c1, .inl (cc1, 480, .inr (.inl u2))), (c2, .inl (cc2, 480, .inl u3)), (c3, .inl (cc3, 40, .inl u4))] sz)) 0 0 (va_A [(h0, .inr (1, [.ref c0, .ref c1, .ref c2, .ref c3, .long sd])), (c0, .inl (cc0, 480, .inl u1)), (c1, .inl (cc1, 480, .inr (.inl u2))), (c2, .inl (cc2, 480, .inl u3)), (c3, .inl (cc3, 40, .inl u4))] sz) := by
  refine Met.ofW (cc := cX0_isCarried) (maxL := 5) (ret := (some .boolean)) (by decide) rfl ?_
  intro p e s m args below meth c s₁ B hml hv
  obtain ⟨rfl, hsz, hP, hK, hD0, nw0c⟩ := hv
  have hx := B.exec
  have hb := B.bytes
  have hr := B.returns
  have hts := atoms_spec (ws := wp_C_isCarried) B.pre
  have hown : s.vm.findClass RX0 = some m.cls := findClass_of_methodNamed B.named
  have hlocks := B.notSynchronized
  subst hsz
  have hD := hD0.self (sz := s.heap.size)
  generalize hAe : va_A [(h0, .inr (1, [.ref c0, .ref c1, .ref c2, .ref c3, .long sd])), (c0, .inl (cc0, 480, .inl u1)), (c1, .inl (cc1, 480, .inr (.inl u2))), (c2, .inl (cc2, 480, .inl u3)), (c3, .inl (cc3, 40, .inl u4))] s.heap.size = A at hD ⊢
  have hA : ∀ q : Nat, s.heap.size ≤ q → A q := fun q h => by rw [← hAe]; exact Or.inr h
  have hS : va_S A s.heap s.heap [] := va_S.rf
  have hP : va_P (dC, dI) vwCl [(h0, .inr (1, [.ref c0, .ref c1, .ref c2, .ref c3, .long sd])), (c0, .inl (cc0, 480, .inl u1)), (c1, .inl (cc1, 480, .inr (.inl u2))), (c2, .inl (cc2, 480, .inl u3)), (c3, .inl (cc3, 40, .inl u4))] s.heap := hP
  have hl := lv_entry ([.ref h0, .int (nI cl)]) (n := 5) (Nat.le_of_ble_eq_true rfl)
  rw [lg_entry_eq]
  generalize (lg_sl ([.ref h0, .int (nI cl)]) ++ List.replicate (5 - (lg_sl ([.ref h0, .int (nI cl)])).length) Slot.unset).toArray = ls at hl ⊢
  have hl : lv_has ls 5 [(0, .ref h0), (1, .int (nI cl))] := hl
  have hinX0 : ∀ w ∈ u_ws RX0 TX0 5, w ∈ wp_C_isCarried := fun _ h => List.mem_cons_of_mem _ (List.mem_append_left _ (List.mem_append_right _ h))
  refine lv_iconst (v := 0) hx hb dX0_isCarried_0 (by decide) ?_
  refine lv_istore_n (lv' := [(2, .int 0), (0, .ref h0), (1, .int (nI cl))]) hx hb dX0_isCarried_1 rfl hl (by decide) rfl (fun ls hl => ?_)
  refine lv_iconst (v := 0) hx hb dX0_isCarried_2 (by decide) ?_
  refine lv_istore_n (lv' := [(3, .int 0), (2, .int 0), (0, .ref h0), (1, .int (nI cl))]) hx hb dX0_isCarried_3 rfl hl (by decide) rfl (fun ls hl => ?_)
  refine sg_C_isCarried_4 h0 c0 c1 c2 c3 sd cc0 cc1 cc2 cc3 u1 u2 u3 u4 cl qcl hx hb hml hown hts hK hA nw0c (fun H locs ls  hPD hS hl => ?_) (fun ca_11 H locs ls hca hPD hS hl => ?_) ((12 - 0) + 1) 0 0 _ _ _ (Nat.lt_succ_self _) (Or.inl rfl) (by omega) ⟨hP, hD⟩ hS (lv_sub hl [2, 3, 1, 0] rfl)
  · obtain ⟨hP, hD⟩ := hPD
    refine lv_iconst (v := 0) hx hb dX0_isCarried_27 (by decide) ?_
    have hP9 := hP.sub (ws' := [(h0, .inr (1, [.ref c0, .ref c1, .ref c2, .ref c3, .long sd])), (c0, .inl (cc0, 480, .inl u1)), (c1, .inl (cc1, 480, .inr (.inl u2))), (c2, .inl (cc2, 480, .inl u3)), (c3, .inl (cc3, 40, .inl u4))]) [0, 1, 2, 3, 4] rfl
    have hD9 := hD.sub (ws' := [(h0, .inr (1, [.ref c0, .ref c1, .ref c2, .ref c3, .long sd])), (c0, .inl (cc0, 480, .inl u1)), (c1, .inl (cc1, 480, .inr (.inl u2))), (c2, .inl (cc2, 480, .inl u3)), (c3, .inl (cc3, 40, .inl u4))]) [0, 1, 2, 3, 4] (by decide) rfl
    have hK9 := hK.sub (tys' := [(cc0, .int), (cc1, .long), (cc2, .int), (cc3, .int)]) [0, 1, 2, 3] rfl
    exact W.zret (v := 0) (ty := .boolean) hx hb hr rfl (fun t ht hW => ⟨⟨0, (), rfl, Or.inl rfl, by rw [ht]; exact hP9, va_K.moved hW.alike hK9, hD9⟩, hS.F ht⟩) hS.2.2 dX0_isCarried_28
  · obtain ⟨hP, hD⟩ := hPD
    refine lv_iload_n hx hb dX0_isCarried_69 rfl (lv_at hl 1 rfl) ?_
    have hP9 := hP.sub (ws' := [(h0, .inr (1, [.ref c0, .ref c1, .ref c2, .ref c3, .long sd])), (c0, .inl (cc0, 480, .inl u1)), (c1, .inl (cc1, 480, .inr (.inl u2))), (c2, .inl (cc2, 480, .inl u3)), (c3, .inl (cc3, 40, .inl u4))]) [0, 1, 2, 3, 4] rfl
    have hD9 := hD.sub (ws' := [(h0, .inr (1, [.ref c0, .ref c1, .ref c2, .ref c3, .long sd])), (c0, .inl (cc0, 480, .inl u1)), (c1, .inl (cc1, 480, .inr (.inl u2))), (c2, .inl (cc2, 480, .inl u3)), (c3, .inl (cc3, 40, .inl u4))]) [0, 1, 2, 3, 4] (by decide) rfl
    have hK9 := hK.sub (tys' := [(cc0, .int), (cc1, .long), (cc2, .int), (cc3, .int)]) [0, 1, 2, 3] rfl
    exact W.zret (v := ca_11) (ty := .boolean) hx hb hr (by rcases hca with rfl | rfl <;> rfl) (fun t ht hW => ⟨⟨ca_11, (), rfl, hca, by rw [ht]; exact hP9, va_K.moved hW.alike hK9, hD9⟩, hS.F ht⟩) hS.2.2 dX0_isCarried_70
def wp_C_findStanding : List Cond := .code yX0_findStanding cX0_findStanding 5 none :: (([.fieldLink RX0 25 "AgreedTalks$Claims" "standing" "J", .initialized RX6, .static yX6_bit] : List Cond) ++ wsX00 ++ (wsV RX0 64 RX0 yX0_isStanding wp_C_isStanding) ++ (wsV RX0 68 RX0 yX0_isCarried wp_C_isCarried) ++ wp_X6_bit)
theorem gc_C_findStanding_C_isStanding : GoodIn wp_C_findStanding (wsV RX0 64 RX0 yX0_isStanding wp_C_isStanding) := goodIn_sub (fun _ h => List.mem_cons_of_mem _ (List.mem_append_left _ (List.mem_append_left _ (List.mem_append_right _ h)))) (by decide +kernel)
theorem gc_C_findStanding_C_isCarried : GoodIn wp_C_findStanding (wsV RX0 68 RX0 yX0_isCarried wp_C_isCarried) := goodIn_sub (fun _ h => List.mem_cons_of_mem _ (List.mem_append_left _ (List.mem_append_right _ h))) (by decide +kernel)
theorem gc_C_findStanding_X6_bit : GoodIn wp_C_findStanding wp_X6_bit := goodIn_sub (fun _ h => List.mem_cons_of_mem _ (List.mem_append_right _ h)) (by decide +kernel)
set_option maxRecDepth 20000 in
theorem gi_C_findStanding : GoodIn lw_tbl wp_C_findStanding := (goodIn_ca (goodIn_ca (goodIn_ca (goodIn_ca (goodIn_r (.code yX0_findStanding cX0_findStanding 5 none :: ([.fieldLink RX0 25 "AgreedTalks$Claims" "standing" "J", .initialized RX6, .static yX6_bit] : List Cond)) [558, 172, 48, 404] (by decide +kernel) (by decide +kernel)) wi_wsX0) (goodIn_app (goodIn_r _ [559, 560, 561, 55] (by decide +kernel) (by decide +kernel)) gi_C_isStanding)) (goodIn_app (goodIn_r _ [564, 566, 21, 55] (by decide +kernel) (by decide +kernel)) gi_C_isCarried)) gi_X6_bit)
set_option maxHeartbeats 4000000 in
set_option maxRecDepth 100000 in
theorem sg_C_findStanding_21 {p : Program} {l : Launch} {e : Env} {s : State} {m : MethodId} {args : Array Value} {below : List Frame} {meth : Method} {c : Code} {Q : State → Prop} {A : Nat → Prop} {dC : Nat → ClassId} {dI : Nat → Nat → Nat} (h0 : Nat) (c0 : Nat) (c1 : Nat) (c2 : Nat) (c3 : Nat) (sd : Int64) (cc0 : ClassId) (cc1 : ClassId) (cc2 : ClassId) (cc3 : ClassId) (u1 : Nat → Int32) (u2 : Nat → Int64) (u3 : Nat → Int32) (u4 : Nat → Int32) (r9 : Nat) (be : Int64) (hx : p.tables.exec = Jvm.exec) (hb : c.code = cX0_findStanding) (hml : c.maxLocals = 5) (hown : s.vm.findClass RX0 = some m.cls) (hts : ∀ w ∈ wp_C_findStanding, w.before args s = true) (hK : va_K (dC, dI) vwCl [(cc0, .int), (cc1, .long), (cc2, .int), (cc3, .int)] s) (hA : ∀ q : Nat, s.heap.size ≤ q → A q) (nw0b : va_Nw (.methodLinkNest RX0 60 yX6_bit "AgreedTalks") s) (nw0c : va_Nw (.methodLinkNest RX0 54 yX6_cell "AgreedTalks") s) (kk_66 : ∀ (s9 : Int64) (H : Heap) (locs : List Loc) (ls : Array Slot), (r9 < 40) → okPD (dC, dI) vwCl A [(h0, .inr (1, [.ref c0, .ref c1, .ref c2, .ref c3, .long s9])), (c0, .inl (cc0, 480, .inl u1)), (c1, .inl (cc1, 480, .inr (.inl u2))), (c2, .inl (cc2, 480, .inl u3)), (c3, .inl (cc3, 40, .inl u4))] H → va_S A s.heap H locs → lv_has ls 5 [(0, .ref h0), (1, .int (nI r9)), (2, .long be)] → W p l e ({ frames := 2, cells := 0, slots := 0, locals := 60 } : Room) s m args below meth c H locs 0 0 Q (F0 m 66 ls [])) : ∀ (n : Nat) (s9 : Int64) (i9 : Nat) (H : Heap) (locs : List Loc) (ls : Array Slot), 40 - i9 < n → (r9 < 40) → (i9 ≤ 40) → okPD (dC, dI) vwCl A [(h0, .inr (1, [.ref c0, .ref c1, .ref c2, .ref c3, .long s9])), (c0, .inl (cc0, 480, .inl u1)), (c1, .inl (cc1, 480, .inr (.inl u2))), (c2, .inl (cc2, 480, .inl u3)), (c3, .inl (cc3, 40, .inl u4))] H → va_S A s.heap H locs → lv_has ls 5 [(0, .ref h0), (1, .int (nI r9)), (2, .long be), (4, .int (nI i9))] → W p l e ({ frames := 2, cells := 0, slots := 0, locals := 60 } : Room) s m args below meth c H locs 0 0 Q (F0 m 21 ls []) := by
  have hinX0 : ∀ w ∈ u_ws RX0 TX0 5, w ∈ wp_C_findStanding := fun _ h => List.mem_cons_of_mem _ (List.mem_append_left _ (List.mem_append_left _ (List.mem_append_left _ (List.mem_append_right _ h))))
  intro n
  induction n with
  | zero =>
    intro s9 i9 H locs ls hn
    exact absurd hn (Nat.not_lt_zero _)
  | succ n ih =>
    intro s9 i9 H locs ls hn hr hi hPD hS hl
    obtain ⟨hP, hD⟩ := hPD
    refine lv_iload hx hb dX0_findStanding_21 (lv_at hl 3 rfl) ?_
    refine lv_bipush (v := 40) hx hb dX0_findStanding_23 (by decide) ?_
    refine lv_icmp_ge (tgt := 66) hx hb dX0_findStanding_25 (by decide) (fun c_2 => ?_) (fun c_2 => ?_)
    · have c_2 : 40 ≤ i9 := (nI_leI (a := 40) (b := i9) (by omega) (by omega)).mp c_2
      exact kk_66 s9 _ _ _ (by omega) ⟨hP, hD⟩ hS (lv_sub hl [0, 1, 2] rfl)
    · have c_2 : ¬ (40 ≤ i9) := fun h => c_2 ((nI_leI (a := 40) (b := i9) (by omega) (by omega)).mpr h)
      refine lv_aload_n hx hb dX0_findStanding_28 rfl (lv_at hl 0 rfl) ?_
      refine lv_iload hx hb dX0_findStanding_29 (lv_at hl 3 rfl) ?_
      have hPc := hP.sub (ws' := [(h0, .inr (1, [.ref c0, .ref c1, .ref c2, .ref c3, .long s9])), (c0, .inl (cc0, 480, .inl u1)), (c1, .inl (cc1, 480, .inr (.inl u2))), (c2, .inl (cc2, 480, .inl u3)), (c3, .inl (cc3, 40, .inl u4))]) [0, 1, 2, 3, 4] rfl
      have hDc := hD.sub (ws' := [(h0, .inr (1, [.ref c0, .ref c1, .ref c2, .ref c3, .long s9])), (c0, .inl (cc0, 480, .inl u1)), (c1, .inl (cc1, 480, .inr (.inl u2))), (c2, .inl (cc2, 480, .inl u3)), (c3, .inl (cc3, 40, .inl u4))]) [0, 1, 2, 3, 4] (by decide) rfl
      have hKc := hK.sub (tys' := [(cc0, .int), (cc1, .long), (cc2, .int), (cc3, .int)]) [0, 1, 2, 3] rfl
      have hFc := va_free (wc := [(h0, .inr (1, [.ref c0, .ref c1, .ref c2, .ref c3, .long s9])), (c0, .inl (cc0, 480, .inl u1)), (c1, .inl (cc1, 480, .inr (.inl u2))), (c2, .inl (cc2, 480, .inl u3)), (c3, .inl (cc3, 40, .inl u4))]) hD hS hA [0, 1, 2, 3, 4] rfl
      refine va_calli (va_runV (As := [.int (nI i9)]) (rest := []) ⟨hx, hb, hml, hown, hts⟩ (c_C_isStanding l dC dI _ h0 c0 c1 c2 c3 s9 cc0 cc1 cc2 cc3 u1 u2 u3 u4 (nI i9)) (cwV 1 hts gc_C_findStanding_C_isStanding rfl rfl rfl (by decide +kernel) ⟨Nat.le_of_ble_eq_true rfl, Nat.le_of_ble_eq_true rfl⟩) ⟨fun a U g mk q => by obtain ⟨q0, q1, qP, qK, qD, q_nw0b⟩ := q; exact ⟨q0, q1, qP, va_K.moved (u := U) (U := U.calling g mk a) (Vm.Alike.refl U.vm) qK, qD, va_Nw.same rfl rfl q_nw0b⟩, va_recv hKc hPc (ci := 1) (q0 := 0) rfl rfl, fun U hU hW => ⟨rfl, by rw [hU], by rw [hU]; exact hPc, va_K.moved hW.alike hKc, hDc.weaken (fun _ _ _ _ => trivial), va_Nw.warmM hW nw0b⟩⟩ rfl rfl hl.1 rfl (lv_room (Nat.le_of_ble_eq_true rfl)) dX0_findStanding_31 ⟨Nat.zero_le _, Nat.zero_le _⟩) hS (fun q _ h => hFc q h) hFc (fun r_3 u t H1 locs ht hvm hw hB hz1 hk1 hS => ?_)
      obtain ⟨hP1, hK1, hD1⟩ := hB
      rw [ht] at hP1
      obtain ⟨hP, hD⟩ := va_join (wr := []) (w1 := [(h0, .inr (1, [.ref c0, .ref c1, .ref c2, .ref c3, .long s9])), (c0, .inl (cc0, 480, .inl u1)), (c1, .inl (cc1, 480, .inr (.inl u2))), (c2, .inl (cc2, 480, .inl u3)), (c3, .inl (cc3, 40, .inl u4))]) hP hD [0, 1, 2, 3, 4] [] rfl rfl (by decide) (by decide) hk1 hFc hP1 hD1
      generalize H1 = H at hP hS ⊢
      have hP : va_P (dC, dI) vwCl [(h0, .inr (1, [.ref c0, .ref c1, .ref c2, .ref c3, .long s9])), (c0, .inl (cc0, 480, .inl u1)), (c1, .inl (cc1, 480, .inr (.inl u2))), (c2, .inl (cc2, 480, .inl u3)), (c3, .inl (cc3, 40, .inl u4))] H := hP
      have hD : va_D A [(h0, .inr (1, [.ref c0, .ref c1, .ref c2, .ref c3, .long s9])), (c0, .inl (cc0, 480, .inl u1)), (c1, .inl (cc1, 480, .inr (.inl u2))), (c2, .inl (cc2, 480, .inl u3)), (c3, .inl (cc3, 40, .inl u4))] := hD
      have hr_3 := hw
      try dsimp only at hr_3
      refine lv_if_ne (tgt := 60) hx hb dX0_findStanding_34 (by decide) (fun c_4 => ?_) (fun c_4 => ?_)
      · refine lv_iinc (v := (nI (i9 + 1))) (lv' := [(4, .int (nI (i9 + 1))), (0, .ref h0), (1, .int (nI r9)), (2, .long be)]) hx hb dX0_findStanding_60 hl (k := 3) rfl (nI_1 _) (by decide) rfl (fun ls hl => ?_)
        refine lv_goto (tgt := 21) hx hb dX0_findStanding_63 (by decide) ?_
        exact ih s9 (i9 + 1) _ _ _ (by omega) (by omega) (by omega) ⟨hP, hD⟩ hS (lv_sub hl [1, 2, 3, 0] rfl)
      · refine lv_aload_n hx hb dX0_findStanding_37 rfl (lv_at hl 0 rfl) ?_
        refine lv_iload hx hb dX0_findStanding_38 (lv_at hl 3 rfl) ?_
        have hPc := hP.sub (ws' := [(h0, .inr (1, [.ref c0, .ref c1, .ref c2, .ref c3, .long s9])), (c0, .inl (cc0, 480, .inl u1)), (c1, .inl (cc1, 480, .inr (.inl u2))), (c2, .inl (cc2, 480, .inl u3)), (c3, .inl (cc3, 40, .inl u4))]) [0, 1, 2, 3, 4] rfl
        have hDc := hD.sub (ws' := [(h0, .inr (1, [.ref c0, .ref c1, .ref c2, .ref c3, .long s9])), (c0, .inl (cc0, 480, .inl u1)), (c1, .inl (cc1, 480, .inr (.inl u2))), (c2, .inl (cc2, 480, .inl u3)), (c3, .inl (cc3, 40, .inl u4))]) [0, 1, 2, 3, 4] (by decide) rfl
        have hKc := hK.sub (tys' := [(cc0, .int), (cc1, .long), (cc2, .int), (cc3, .int)]) [0, 1, 2, 3] rfl
        have hFc := va_free (wc := [(h0, .inr (1, [.ref c0, .ref c1, .ref c2, .ref c3, .long s9])), (c0, .inl (cc0, 480, .inl u1)), (c1, .inl (cc1, 480, .inr (.inl u2))), (c2, .inl (cc2, 480, .inl u3)), (c3, .inl (cc3, 40, .inl u4))]) hD hS hA [0, 1, 2, 3, 4] rfl
        refine va_calli (va_runV (As := [.int (nI i9)]) (rest := []) ⟨hx, hb, hml, hown, hts⟩ (c_C_isCarried l dC dI _ h0 c0 c1 c2 c3 s9 cc0 cc1 cc2 cc3 u1 u2 u3 u4 i9 (by omega)) (cwV 1 hts gc_C_findStanding_C_isCarried rfl rfl rfl (by decide +kernel) ⟨Nat.le_of_ble_eq_true rfl, Nat.le_of_ble_eq_true rfl⟩) ⟨fun a U g mk q => by obtain ⟨q0, q1, qP, qK, qD, q_nw0c⟩ := q; exact ⟨q0, q1, qP, va_K.moved (u := U) (U := U.calling g mk a) (Vm.Alike.refl U.vm) qK, qD, va_Nw.same rfl rfl q_nw0c⟩, va_recv hKc hPc (ci := 1) (q0 := 0) rfl rfl, fun U hU hW => ⟨rfl, by rw [hU], by rw [hU]; exact hPc, va_K.moved hW.alike hKc, hDc.weaken (fun _ _ _ _ => trivial), va_Nw.warmM hW nw0c⟩⟩ rfl rfl hl.1 rfl (lv_room (Nat.le_of_ble_eq_true rfl)) dX0_findStanding_40 ⟨Nat.zero_le _, Nat.zero_le _⟩) hS (fun q _ h => hFc q h) hFc (fun r_5 u t H1 locs ht hvm hw hB hz1 hk1 hS => ?_)
        obtain ⟨hP1, hK1, hD1⟩ := hB
        rw [ht] at hP1
        obtain ⟨hP, hD⟩ := va_join (wr := []) (w1 := [(h0, .inr (1, [.ref c0, .ref c1, .ref c2, .ref c3, .long s9])), (c0, .inl (cc0, 480, .inl u1)), (c1, .inl (cc1, 480, .inr (.inl u2))), (c2, .inl (cc2, 480, .inl u3)), (c3, .inl (cc3, 40, .inl u4))]) hP hD [0, 1, 2, 3, 4] [] rfl rfl (by decide) (by decide) hk1 hFc hP1 hD1
        generalize H1 = H at hP hS ⊢
        have hP : va_P (dC, dI) vwCl [(h0, .inr (1, [.ref c0, .ref c1, .ref c2, .ref c3, .long s9])), (c0, .inl (cc0, 480, .inl u1)), (c1, .inl (cc1, 480, .inr (.inl u2))), (c2, .inl (cc2, 480, .inl u3)), (c3, .inl (cc3, 40, .inl u4))] H := hP
        have hD : va_D A [(h0, .inr (1, [.ref c0, .ref c1, .ref c2, .ref c3, .long s9])), (c0, .inl (cc0, 480, .inl u1)), (c1, .inl (cc1, 480, .inr (.inl u2))), (c2, .inl (cc2, 480, .inl u3)), (c3, .inl (cc3, 40, .inl u4))] := hD
        have hr_5 := hw
        try dsimp only at hr_5
        refine lv_if_eq (tgt := 60) hx hb dX0_findStanding_43 (by decide) (fun c_6 => ?_) (fun c_6 => ?_)
        · refine lv_iinc (v := (nI (i9 + 1))) (lv' := [(4, .int (nI (i9 + 1))), (0, .ref h0), (1, .int (nI r9)), (2, .long be)]) hx hb dX0_findStanding_60 hl (k := 3) rfl (nI_1 _) (by decide) rfl (fun ls hl => ?_)
          refine lv_goto (tgt := 21) hx hb dX0_findStanding_63 (by decide) ?_
          exact ih s9 (i9 + 1) _ _ _ (by omega) (by omega) (by omega) ⟨hP, hD⟩ hS (lv_sub hl [1, 2, 3, 0] rfl)
        · refine lv_aload_n hx hb dX0_findStanding_46 rfl (lv_at hl 0 rfl) ?_
          refine lv_dup hx hb dX0_findStanding_47 rfl ?_
          refine va_get (D := (dC, dI)) (ci := 1) (v := .long s9) (C := RX0) (T := TX0) (N := 5) hx hb hts hinX0 hown hK hP 0 rfl rfl 4 (by decide) (hts (.fieldLink RX0 25 "AgreedTalks$Claims" "standing" "J") (by decide +kernel)) (fun _ h9 => h9) rfl dX0_findStanding_48 ?_
          refine lv_iload hx hb dX0_findStanding_51 (lv_at hl 3 rfl) ?_
          have hPc := hP.sub (ws' := []) [] rfl
          have hDc := hD.sub (ws' := []) [] (by decide) rfl
          have hKc := hK.sub (tys' := []) [] rfl
          have hFc := va_free (wc := []) hD hS hA [] rfl
          refine va_calll (va_runSN (As := [.int (nI i9)]) (rest := [.long s9, .ref h0]) ⟨hx, hb, hml, hown, hts⟩ (c_X6_bit l dC dI _ (nI i9)) ⟨va_cnB 1 hts gc_C_findStanding_X6_bit rfl rfl rfl nw0b (hts (.initialized RX6) (by decide +kernel)) (by decide +kernel) ⟨Nat.le_of_ble_eq_true rfl, Nat.le_of_ble_eq_true rfl⟩, (hts (.static yX6_bit) (by decide +kernel)), trivial⟩ ⟨fun a U g mk q => by obtain ⟨q0, q1, qP, qK, qD⟩ := q; exact ⟨q0, q1, qP, va_K.moved (u := U) (U := U.calling g mk a) (Vm.Alike.refl U.vm) qK, qD⟩, fun U hU hW => ⟨rfl, by rw [hU], by rw [hU]; exact hPc, va_K.moved hW.alike hKc, hDc.weaken (fun _ _ _ _ => trivial)⟩⟩ rfl rfl hl.1 rfl (lv_room (Nat.le_of_ble_eq_true rfl)) dX0_findStanding_53 ⟨Nat.zero_le _, Nat.zero_le _⟩) hS (fun q _ h => hFc q h) hFc (fun r_7 u t H1 locs ht hvm hw hB hz1 hk1 hS => ?_)
          obtain ⟨hP1, hK1, hD1⟩ := hB
          rw [ht] at hP1
          obtain ⟨hP, hD⟩ := va_join (wr := [(h0, .inr (1, [.ref c0, .ref c1, .ref c2, .ref c3, .long s9])), (c0, .inl (cc0, 480, .inl u1)), (c1, .inl (cc1, 480, .inr (.inl u2))), (c2, .inl (cc2, 480, .inl u3)), (c3, .inl (cc3, 40, .inl u4))]) (w1 := []) hP hD [] [0, 1, 2, 3, 4] rfl rfl (by decide) (by decide) hk1 hFc hP1 hD1
          generalize H1 = H at hP hS ⊢
          have hP : va_P (dC, dI) vwCl [(h0, .inr (1, [.ref c0, .ref c1, .ref c2, .ref c3, .long s9])), (c0, .inl (cc0, 480, .inl u1)), (c1, .inl (cc1, 480, .inr (.inl u2))), (c2, .inl (cc2, 480, .inl u3)), (c3, .inl (cc3, 40, .inl u4))] H := hP
          have hD : va_D A [(h0, .inr (1, [.ref c0, .ref c1, .ref c2, .ref c3, .long s9])), (c0, .inl (cc0, 480, .inl u1)), (c1, .inl (cc1, 480, .inr (.inl u2))), (c2, .inl (cc2, 480, .inl u3)), (c3, .inl (cc3, 40, .inl u4))] := hD
          have hr_7 := hw
          try dsimp only at hr_7
          refine lv_lor hx hb dX0_findStanding_56 ?_
          refine lv_topl (fun x_8 ex_8 => ?_)
          refine va_put (D := (dC, dI)) (ci := 1) (v := .long x_8) (ty := .long) (C := RX0) (T := TX0) (N := 5) hx hb hts hinX0 tyX0 tyX0_ok nmX0 hown hK hP hD hS 0 rfl rfl 4 (by decide) (hts (.fieldLink RX0 25 "AgreedTalks$Claims" "standing" "J") (by decide +kernel)) (fun _ h9 => h9) rfl (by decide +kernel) rfl rfl (Nat.le_of_ble_eq_true rfl) dX0_findStanding_57 (fun H locs hP hD hS => ?_)
          have hP : va_P (dC, dI) vwCl [(h0, .inr (1, [.ref c0, .ref c1, .ref c2, .ref c3, .long x_8])), (c0, .inl (cc0, 480, .inl u1)), (c1, .inl (cc1, 480, .inr (.inl u2))), (c2, .inl (cc2, 480, .inl u3)), (c3, .inl (cc3, 40, .inl u4))] H := hP
          have hD : va_D A [(h0, .inr (1, [.ref c0, .ref c1, .ref c2, .ref c3, .long x_8])), (c0, .inl (cc0, 480, .inl u1)), (c1, .inl (cc1, 480, .inr (.inl u2))), (c2, .inl (cc2, 480, .inl u3)), (c3, .inl (cc3, 40, .inl u4))] := hD
          refine lv_iinc (v := (nI (i9 + 1))) (lv' := [(4, .int (nI (i9 + 1))), (0, .ref h0), (1, .int (nI r9)), (2, .long be)]) hx hb dX0_findStanding_60 hl (k := 3) rfl (nI_1 _) (by decide) rfl (fun ls hl => ?_)
          refine lv_goto (tgt := 21) hx hb dX0_findStanding_63 (by decide) ?_
          exact ih x_8 (i9 + 1) _ _ _ (by omega) (by omega) (by omega) ⟨hP, hD⟩ hS (lv_sub hl [1, 2, 3, 0] rfl)
set_option maxHeartbeats 4000000 in
set_option maxRecDepth 100000 in
theorem sg_C_findStanding_7 {p : Program} {l : Launch} {e : Env} {s : State} {m : MethodId} {args : Array Value} {below : List Frame} {meth : Method} {c : Code} {Q : State → Prop} {A : Nat → Prop} {dC : Nat → ClassId} {dI : Nat → Nat → Nat} (h0 : Nat) (c0 : Nat) (c1 : Nat) (c2 : Nat) (c3 : Nat) (sd : Int64) (cc0 : ClassId) (cc1 : ClassId) (cc2 : ClassId) (cc3 : ClassId) (u1 : Nat → Int32) (u2 : Nat → Int64) (u3 : Nat → Int32) (u4 : Nat → Int32) (hx : p.tables.exec = Jvm.exec) (hb : c.code = cX0_findStanding) (hml : c.maxLocals = 5) (hown : s.vm.findClass RX0 = some m.cls) (hts : ∀ w ∈ wp_C_findStanding, w.before args s = true) (hK : va_K (dC, dI) vwCl [(cc0, .int), (cc1, .long), (cc2, .int), (cc3, .int)] s) (hA : ∀ q : Nat, s.heap.size ≤ q → A q) (nw0b : va_Nw (.methodLinkNest RX0 60 yX6_bit "AgreedTalks") s) (nw0c : va_Nw (.methodLinkNest RX0 54 yX6_cell "AgreedTalks") s) (kk_75 : ∀ (s9 : Int64) (H : Heap) (locs : List Loc) (ls : Array Slot), okPD (dC, dI) vwCl A [(h0, .inr (1, [.ref c0, .ref c1, .ref c2, .ref c3, .long s9])), (c0, .inl (cc0, 480, .inl u1)), (c1, .inl (cc1, 480, .inr (.inl u2))), (c2, .inl (cc2, 480, .inl u3)), (c3, .inl (cc3, 40, .inl u4))] H → va_S A s.heap H locs → lv_has ls 5 [(0, .ref h0)] → W p l e ({ frames := 2, cells := 0, slots := 0, locals := 60 } : Room) s m args below meth c H locs 0 0 Q (F0 m 75 ls [])) (kk_82 : ∀ (s9 : Int64) (H : Heap) (locs : List Loc) (ls : Array Slot), okPD (dC, dI) vwCl A [(h0, .inr (1, [.ref c0, .ref c1, .ref c2, .ref c3, .long s9])), (c0, .inl (cc0, 480, .inl u1)), (c1, .inl (cc1, 480, .inr (.inl u2))), (c2, .inl (cc2, 480, .inl u3)), (c3, .inl (cc3, 40, .inl u4))] H → va_S A s.heap H locs → lv_has ls 5 [(0, .ref h0)] → W p l e ({ frames := 2, cells := 0, slots := 0, locals := 60 } : Room) s m args below meth c H locs 0 0 Q (F0 m 82 ls [])) : ∀ (n : Nat) (s9 : Int64) (r9 : Nat) (H : Heap) (locs : List Loc) (ls : Array Slot), 40 - r9 < n → (r9 ≤ 40) → okPD (dC, dI) vwCl A [(h0, .inr (1, [.ref c0, .ref c1, .ref c2, .ref c3, .long s9])), (c0, .inl (cc0, 480, .inl u1)), (c1, .inl (cc1, 480, .inr (.inl u2))), (c2, .inl (cc2, 480, .inl u3)), (c3, .inl (cc3, 40, .inl u4))] H → va_S A s.heap H locs → lv_has ls 5 [(0, .ref h0), (1, .int (nI r9))] → W p l e ({ frames := 2, cells := 0, slots := 0, locals := 60 } : Room) s m args below meth c H locs 0 0 Q (F0 m 7 ls []) := by
  have hinX0 : ∀ w ∈ u_ws RX0 TX0 5, w ∈ wp_C_findStanding := fun _ h => List.mem_cons_of_mem _ (List.mem_append_left _ (List.mem_append_left _ (List.mem_append_left _ (List.mem_append_right _ h))))
  intro n
  induction n with
  | zero =>
    intro s9 r9 H locs ls hn
    exact absurd hn (Nat.not_lt_zero _)
  | succ n ih =>
    intro s9 r9 H locs ls hn hr hPD hS hl
    obtain ⟨hP, hD⟩ := hPD
    refine lv_iload_n hx hb dX0_findStanding_7 rfl (lv_at hl 1 rfl) ?_
    refine lv_bipush (v := 40) hx hb dX0_findStanding_8 (by decide) ?_
    refine lv_icmp_ge (tgt := 82) hx hb dX0_findStanding_10 (by decide) (fun c_1 => ?_) (fun c_1 => ?_)
    · have c_1 : 40 ≤ r9 := (nI_leI (a := 40) (b := r9) (by omega) (by omega)).mp c_1
      exact kk_82 s9 _ _ _  ⟨hP, hD⟩ hS (lv_sub hl [0] rfl)
    · have c_1 : ¬ (40 ≤ r9) := fun h => c_1 ((nI_leI (a := 40) (b := r9) (by omega) (by omega)).mpr h)
      refine lv_aload_n hx hb dX0_findStanding_13 rfl (lv_at hl 0 rfl) ?_
      refine va_get (D := (dC, dI)) (ci := 1) (v := .long s9) (C := RX0) (T := TX0) (N := 5) hx hb hts hinX0 hown hK hP 0 rfl rfl 4 (by decide) (hts (.fieldLink RX0 25 "AgreedTalks$Claims" "standing" "J") (by decide +kernel)) (fun _ h9 => h9) rfl dX0_findStanding_14 ?_
      refine lv_lstore_n (lv' := [(2, .long s9), (0, .ref h0), (1, .int (nI r9))]) hx hb dX0_findStanding_17 rfl hl (by decide) rfl (fun ls hl => ?_)
      refine lv_iconst (v := 0) hx hb dX0_findStanding_18 (by decide) ?_
      refine lv_istore (lv' := [(4, .int 0), (2, .long s9), (0, .ref h0), (1, .int (nI r9))]) hx hb dX0_findStanding_19 hl (by decide) rfl (fun ls hl => ?_)
      refine sg_C_findStanding_21 h0 c0 c1 c2 c3 sd cc0 cc1 cc2 cc3 u1 u2 u3 u4 r9 s9 hx hb hml hown hts hK hA nw0b nw0c (fun s9_9 H locs ls hr hPD hS hl => ?_) ((40 - 0) + 1) s9 0 _ _ _ (Nat.lt_succ_self _) (by omega) (by omega) ⟨hP, hD⟩ hS (lv_sub hl [2, 3, 1, 0] rfl)
      obtain ⟨hP, hD⟩ := hPD
      refine lv_aload_n hx hb dX0_findStanding_66 rfl (lv_at hl 0 rfl) ?_
      refine va_get (D := (dC, dI)) (ci := 1) (v := .long s9_9) (C := RX0) (T := TX0) (N := 5) hx hb hts hinX0 hown hK hP 0 rfl rfl 4 (by decide) (hts (.fieldLink RX0 25 "AgreedTalks$Claims" "standing" "J") (by decide +kernel)) (fun _ h9 => h9) rfl dX0_findStanding_67 ?_
      refine lv_lload_n hx hb dX0_findStanding_70 rfl (lv_at hl 2 rfl) ?_
      refine W.lcmp hx hb dX0_findStanding_71 ?_
      refine lv_if_ne (tgt := 76) hx hb dX0_findStanding_72 (by decide) (fun c_10 => ?_) (fun c_10 => ?_)
      · have c_10 : ¬ (s9_9 = s9) := fun h => c_10 ((lg_cmp_eq _ _).mpr h)
        refine lv_iinc (v := (nI (r9 + 1))) (lv' := [(1, .int (nI (r9 + 1))), (0, .ref h0), (2, .long s9)]) hx hb dX0_findStanding_76 hl (k := 1) rfl (nI_1 _) (by decide) rfl (fun ls hl => ?_)
        refine lv_goto (tgt := 7) hx hb dX0_findStanding_79 (by decide) ?_
        exact ih s9_9 (r9 + 1) _ _ _ (by omega) (by omega) ⟨hP, hD⟩ hS (lv_sub hl [1, 0] rfl)
      · have c_10 : s9_9 = s9 := (lg_cmp_eq _ _).mp c_10
        exact kk_75 s9_9 _ _ _  ⟨hP, hD⟩ hS (lv_sub hl [0] rfl)
set_option maxHeartbeats 4000000 in
set_option maxRecDepth 100000 in
/-- findStanding -/
theorem c_C_findStanding (l : Launch) (dC : Nat → ClassId) (dI : Nat → Nat → Nat) (sz : Nat) (h0 : Nat) (c0 : Nat) (c1 : Nat) (c2 : Nat) (c3 : Nat) (sd : Int64) (cc0 : ClassId) (cc1 : ClassId) (cc2 : ClassId) (cc3 : ClassId) (u1 : Nat → Int32) (u2 : Nat → Int64) (u3 : Nat → Int32) (u4 : Nat → Int32) : Met l yX0_findStanding wp_C_findStanding ({ frames := 2, cells := 0, slots := 0, locals := 60 }) (va_Pc [.ref h0] (fun U => U.heap.size = sz ∧ va_P (dC, dI) vwCl [(h0, .inr (1, [.ref c0, .ref c1, .ref c2, .ref c3, .long sd])), (c0, .inl (cc0, 480, .inl u1)), (c1, .inl (cc1, 480, .inr (.inl u2))), (c2, .inl (cc2, 480, .inl u3)), (c3, .inl (cc3, 40, .inl u4))] U.heap ∧ va_K (dC, dI) vwCl [(cc0, .int), (cc1, .long), (cc2, .int), (cc3, .int)] U ∧ va_D (fun _ => True) [(h0, .inr (1, [.ref c0, .ref c1, .ref c2, .ref c3, .long sd])), (c0, .inl (cc0, 480, .inl u1)), (c1, .inl (cc1, 480, .inr (.inl u2))), (c2, .inl (cc2, 480, .inl u3)), (c3, .inl (cc3, 40, .inl u4))] ∧ va_Nw (.methodLinkNest RX0 60 yX6_bit "AgreedTalks") U ∧ va_Nw (.methodLinkNest RX0 54 yX6_cell "AgreedTalks") U)) (va_Qv (fun (_ : Unit) => True) (fun (_ : Unit) (t : State) => ∃ (s2 : Int64), va_P (dC, dI) vwCl [(h0, .inr (1, [.ref c0, .ref c1, .ref c2, .ref c3, .long s2])), (c0, .inl (cc0, 480, .inl u1)), (c1, .inl (cc1, 480, .inr (.inl u2))), (c2, .inl (cc2, 480, .inl u3)), (c3, .inl (cc3, 40, .inl u4))] t.heap ∧ va_K (dC, dI) vwCl [(cc0, .int), (cc1, .long), (cc2, .int), (cc3, .int)] t ∧ va_D (va_A [(h0, .inr (1, [.ref c0, .ref c1, .ref c2, .ref c3, .long sd])), (c0, .inl (cc0, 480, .inl u1)), (c1, .inl (cc1, 480, .inr (.inl u2))), (c2, .inl (cc2, 480, .inl u3)), (c3, .inl (cc3, 40, .inl u4))] sz) [(h0, .inr (1, [.ref c0, .ref c1, .ref c2, .ref c3, .long s2])), (c0, .inl (cc0, 480, .inl u1)), (c1, .inl (cc1, 480, .inr (.inl u2))), (c2, .inl (cc2, 480, .inl u3)), (c3, .inl (cc3, 40, .inl u4))]) (va_A [(h0, .inr (1, [.ref c0, .ref c1, .ref c2, .ref c3, .long sd])), (c0, .inl (cc0, 480, .inl u1)), (c1, .inl (cc1, 480, .inr (.inl u2))), (c2, .inl (cc2, 480, .inl u3)), (c3, .inl (cc3, 40, .inl u4))] sz)) 0 0 (va_A [(h0, .inr (1, [.ref c0, .ref c1, .ref c2, .ref c3, .long sd])), (c0, .inl (cc0, 480, .inl u1)), (c1, .inl (cc1, 480, .inr (.inl u2))), (c2, .inl (cc2, 480, .inl u3)), (c3, .inl (cc3, 40, .inl u4))] sz) := by
  refine Met.ofW (cc := cX0_findStanding) (maxL := 5) (ret := none) (by decide) rfl ?_
  intro p e s m args below meth c s₁ B hml hv
  obtain ⟨rfl, hsz, hP, hK, hD0, nw0b, nw0c⟩ := hv
  have hx := B.exec
  have hb := B.bytes
  have hr := B.returns
  have hts := atoms_spec (ws := wp_C_findStanding) B.pre
  have hown : s.vm.findClass RX0 = some m.cls := findClass_of_methodNamed B.named
  have hlocks := B.notSynchronized
  subst hsz
  have hD := hD0.self (sz := s.heap.size)
  generalize hAe : va_A [(h0, .inr (1, [.ref c0, .ref c1, .ref c2, .ref c3, .long sd])), (c0, .inl (cc0, 480, .inl u1)), (c1, .inl (cc1, 480, .inr (.inl u2))), (c2, .inl (cc2, 480, .inl u3)), (c3, .inl (cc3, 40, .inl u4))] s.heap.size = A at hD ⊢
  have hA : ∀ q : Nat, s.heap.size ≤ q → A q := fun q h => by rw [← hAe]; exact Or.inr h
  have hS : va_S A s.heap s.heap [] := va_S.rf
  have hP : va_P (dC, dI) vwCl [(h0, .inr (1, [.ref c0, .ref c1, .ref c2, .ref c3, .long sd])), (c0, .inl (cc0, 480, .inl u1)), (c1, .inl (cc1, 480, .inr (.inl u2))), (c2, .inl (cc2, 480, .inl u3)), (c3, .inl (cc3, 40, .inl u4))] s.heap := hP
  have hl := lv_entry ([.ref h0]) (n := 5) (Nat.le_of_ble_eq_true rfl)
  rw [lg_entry_eq]
  generalize (lg_sl ([.ref h0]) ++ List.replicate (5 - (lg_sl ([.ref h0])).length) Slot.unset).toArray = ls at hl ⊢
  have hl : lv_has ls 5 [(0, .ref h0)] := hl
  have hinX0 : ∀ w ∈ u_ws RX0 TX0 5, w ∈ wp_C_findStanding := fun _ h => List.mem_cons_of_mem _ (List.mem_append_left _ (List.mem_append_left _ (List.mem_append_left _ (List.mem_append_right _ h))))
  refine lv_aload_n hx hb dX0_findStanding_0 rfl (lv_at hl 0 rfl) ?_
  refine lv_lconst (v := 0) hx hb dX0_findStanding_1 (by decide) ?_
  refine va_put (D := (dC, dI)) (ci := 1) (v := .long 0) (ty := .long) (C := RX0) (T := TX0) (N := 5) hx hb hts hinX0 tyX0 tyX0_ok nmX0 hown hK hP hD hS 0 rfl rfl 4 (by decide) (hts (.fieldLink RX0 25 "AgreedTalks$Claims" "standing" "J") (by decide +kernel)) (fun _ h9 => h9) rfl (by decide +kernel) rfl rfl (Nat.le_of_ble_eq_true rfl) dX0_findStanding_2 (fun H locs hP hD hS => ?_)
  have hP : va_P (dC, dI) vwCl [(h0, .inr (1, [.ref c0, .ref c1, .ref c2, .ref c3, .long 0])), (c0, .inl (cc0, 480, .inl u1)), (c1, .inl (cc1, 480, .inr (.inl u2))), (c2, .inl (cc2, 480, .inl u3)), (c3, .inl (cc3, 40, .inl u4))] H := hP
  have hD : va_D A [(h0, .inr (1, [.ref c0, .ref c1, .ref c2, .ref c3, .long 0])), (c0, .inl (cc0, 480, .inl u1)), (c1, .inl (cc1, 480, .inr (.inl u2))), (c2, .inl (cc2, 480, .inl u3)), (c3, .inl (cc3, 40, .inl u4))] := hD
  refine lv_iconst (v := 0) hx hb dX0_findStanding_5 (by decide) ?_
  refine lv_istore_n (lv' := [(1, .int 0), (0, .ref h0)]) hx hb dX0_findStanding_6 rfl hl (by decide) rfl (fun ls hl => ?_)
  refine sg_C_findStanding_7 h0 c0 c1 c2 c3 sd cc0 cc1 cc2 cc3 u1 u2 u3 u4 hx hb hml hown hts hK hA nw0b nw0c (fun s9_11 H locs ls  hPD hS hl => ?_) (fun s9_12 H locs ls  hPD hS hl => ?_) ((40 - 0) + 1) 0 0 _ _ _ (Nat.lt_succ_self _) (by omega) ⟨hP, hD⟩ hS (lv_sub hl [1, 0] rfl)
  · obtain ⟨hP, hD⟩ := hPD
    have hP9 := hP.sub (ws' := [(h0, .inr (1, [.ref c0, .ref c1, .ref c2, .ref c3, .long s9_11])), (c0, .inl (cc0, 480, .inl u1)), (c1, .inl (cc1, 480, .inr (.inl u2))), (c2, .inl (cc2, 480, .inl u3)), (c3, .inl (cc3, 40, .inl u4))]) [0, 1, 2, 3, 4] rfl
    have hD9 := hD.sub (ws' := [(h0, .inr (1, [.ref c0, .ref c1, .ref c2, .ref c3, .long s9_11])), (c0, .inl (cc0, 480, .inl u1)), (c1, .inl (cc1, 480, .inr (.inl u2))), (c2, .inl (cc2, 480, .inl u3)), (c3, .inl (cc3, 40, .inl u4))]) [0, 1, 2, 3, 4] (by decide) rfl
    have hK9 := hK.sub (tys' := [(cc0, .int), (cc1, .long), (cc2, .int), (cc3, .int)]) [0, 1, 2, 3] rfl
    exact W.vret hx hb hr (fun t ht hW => ⟨⟨(), rfl, trivial, s9_11, by rw [ht]; exact hP9, va_K.moved hW.alike hK9, hD9⟩, hS.F ht⟩) hS.2.2 dX0_findStanding_75
  · obtain ⟨hP, hD⟩ := hPD
    have hP9 := hP.sub (ws' := [(h0, .inr (1, [.ref c0, .ref c1, .ref c2, .ref c3, .long s9_12])), (c0, .inl (cc0, 480, .inl u1)), (c1, .inl (cc1, 480, .inr (.inl u2))), (c2, .inl (cc2, 480, .inl u3)), (c3, .inl (cc3, 40, .inl u4))]) [0, 1, 2, 3, 4] rfl
    have hD9 := hD.sub (ws' := [(h0, .inr (1, [.ref c0, .ref c1, .ref c2, .ref c3, .long s9_12])), (c0, .inl (cc0, 480, .inl u1)), (c1, .inl (cc1, 480, .inr (.inl u2))), (c2, .inl (cc2, 480, .inl u3)), (c3, .inl (cc3, 40, .inl u4))]) [0, 1, 2, 3, 4] (by decide) rfl
    have hK9 := hK.sub (tys' := [(cc0, .int), (cc1, .long), (cc2, .int), (cc3, .int)]) [0, 1, 2, 3] rfl
    exact W.vret hx hb hr (fun t ht hW => ⟨⟨(), rfl, trivial, s9_12, by rw [ht]; exact hP9, va_K.moved hW.alike hK9, hD9⟩, hS.F ht⟩) hS.2.2 dX0_findStanding_82
