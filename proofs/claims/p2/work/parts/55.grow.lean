theorem dJ8_newLength_cabcc_0 : decode cJ8_newLength_cabcc 0 = .ok (.iload_n 0, 1) := by decide +kernel
theorem dJ8_newLength_cabcc_1 : decode cJ8_newLength_cabcc 1 = .ok (.iload_n 1, 1) := by decide +kernel
theorem dJ8_newLength_cabcc_2 : decode cJ8_newLength_cabcc 2 = .ok (.iload_n 2, 1) := by decide +kernel
theorem dJ8_newLength_cabcc_3 : decode cJ8_newLength_cabcc 3 = .ok (.invokestatic 194, 3) := by decide +kernel
theorem dJ8_newLength_cabcc_6 : decode cJ8_newLength_cabcc 6 = .ok (.iadd, 1) := by decide +kernel
theorem dJ8_newLength_cabcc_7 : decode cJ8_newLength_cabcc 7 = .ok (.istore_n 3, 1) := by decide +kernel
theorem dJ8_newLength_cabcc_8 : decode cJ8_newLength_cabcc 8 = .ok (.iconst 0, 1) := by decide +kernel
theorem dJ8_newLength_cabcc_9 : decode cJ8_newLength_cabcc 9 = .ok (.iload_n 3, 1) := by decide +kernel
theorem dJ8_newLength_cabcc_10 : decode cJ8_newLength_cabcc 10 = .ok (.if_icmp .ge 11, 3) := by decide +kernel
theorem dJ8_newLength_cabcc_13 : decode cJ8_newLength_cabcc 13 = .ok (.iload_n 3, 1) := by decide +kernel
theorem dJ8_newLength_cabcc_14 : decode cJ8_newLength_cabcc 14 = .ok (.ldc 200, 2) := by decide +kernel
theorem dJ8_newLength_cabcc_16 : decode cJ8_newLength_cabcc 16 = .ok (.if_icmp .gt 5, 3) := by decide +kernel
theorem dJ8_newLength_cabcc_19 : decode cJ8_newLength_cabcc 19 = .ok (.iload_n 3, 1) := by decide +kernel
theorem dJ8_newLength_cabcc_20 : decode cJ8_newLength_cabcc 20 = .ok (.ireturn, 1) := by decide +kernel
theorem dJ7_copyOf_6403c_0 : decode cJ7_copyOf_6403c 0 = .ok (.aload_n 2, 1) := by decide +kernel
theorem dJ7_copyOf_6403c_1 : decode cJ7_copyOf_6403c 1 = .ok (.ldc 110, 2) := by decide +kernel
theorem dJ7_copyOf_6403c_3 : decode cJ7_copyOf_6403c 3 = .ok (.if_acmp .ne 10, 3) := by decide +kernel
theorem dJ7_copyOf_6403c_6 : decode cJ7_copyOf_6403c 6 = .ok (.iload_n 1, 1) := by decide +kernel
theorem dJ7_copyOf_6403c_7 : decode cJ7_copyOf_6403c 7 = .ok (.anewarray 2, 3) := by decide +kernel
theorem dJ7_copyOf_6403c_10 : decode cJ7_copyOf_6403c 10 = .ok (.goto 14, 3) := by decide +kernel
theorem dJ7_copyOf_6403c_24 : decode cJ7_copyOf_6403c 24 = .ok (.astore_n 3, 1) := by decide +kernel
theorem dJ7_copyOf_6403c_25 : decode cJ7_copyOf_6403c 25 = .ok (.aload_n 0, 1) := by decide +kernel
theorem dJ7_copyOf_6403c_26 : decode cJ7_copyOf_6403c 26 = .ok (.iconst 0, 1) := by decide +kernel
theorem dJ7_copyOf_6403c_27 : decode cJ7_copyOf_6403c 27 = .ok (.aload_n 3, 1) := by decide +kernel
theorem dJ7_copyOf_6403c_28 : decode cJ7_copyOf_6403c 28 = .ok (.iconst 0, 1) := by decide +kernel
theorem dJ7_copyOf_6403c_29 : decode cJ7_copyOf_6403c 29 = .ok (.aload_n 0, 1) := by decide +kernel
theorem dJ7_copyOf_6403c_30 : decode cJ7_copyOf_6403c 30 = .ok (.arraylength, 1) := by decide +kernel
theorem dJ7_copyOf_6403c_31 : decode cJ7_copyOf_6403c 31 = .ok (.iload_n 1, 1) := by decide +kernel
theorem dJ7_copyOf_6403c_32 : decode cJ7_copyOf_6403c 32 = .ok (.invokestatic 304, 3) := by decide +kernel
theorem dJ7_copyOf_6403c_35 : decode cJ7_copyOf_6403c 35 = .ok (.invokestatic 150, 3) := by decide +kernel
theorem dJ7_copyOf_6403c_38 : decode cJ7_copyOf_6403c 38 = .ok (.aload_n 3, 1) := by decide +kernel
theorem dJ7_copyOf_6403c_39 : decode cJ7_copyOf_6403c 39 = .ok (.areturn, 1) := by decide +kernel
theorem dJ7_copyOf_1904c_0 : decode cJ7_copyOf_1904c 0 = .ok (.aload_n 0, 1) := by decide +kernel
theorem dJ7_copyOf_1904c_1 : decode cJ7_copyOf_1904c 1 = .ok (.iload_n 1, 1) := by decide +kernel
theorem dJ7_copyOf_1904c_2 : decode cJ7_copyOf_1904c 2 = .ok (.aload_n 0, 1) := by decide +kernel
theorem dJ7_copyOf_1904c_3 : decode cJ7_copyOf_1904c 3 = .ok (.invokevirtual 86, 3) := by decide +kernel
theorem dJ7_copyOf_1904c_6 : decode cJ7_copyOf_1904c 6 = .ok (.invokestatic 300, 3) := by decide +kernel
theorem dJ7_copyOf_1904c_9 : decode cJ7_copyOf_1904c 9 = .ok (.areturn, 1) := by decide +kernel
theorem dJx4a65c_grow_92f84_0 : decode cJx4a65c_grow_92f84 0 = .ok (.aload_n 0, 1) := by decide +kernel
theorem dJx4a65c_grow_92f84_1 : decode cJx4a65c_grow_92f84 1 = .ok (.getfield 9, 3) := by decide +kernel
theorem dJx4a65c_grow_92f84_4 : decode cJx4a65c_grow_92f84 4 = .ok (.arraylength, 1) := by decide +kernel
theorem dJx4a65c_grow_92f84_5 : decode cJx4a65c_grow_92f84 5 = .ok (.istore_n 2, 1) := by decide +kernel
theorem dJx4a65c_grow_92f84_6 : decode cJx4a65c_grow_92f84 6 = .ok (.iload_n 2, 1) := by decide +kernel
theorem dJx4a65c_grow_92f84_7 : decode cJx4a65c_grow_92f84 7 = .ok (.ifCond .gt 13, 3) := by decide +kernel
theorem dJx4a65c_grow_92f84_10 : decode cJx4a65c_grow_92f84 10 = .ok (.aload_n 0, 1) := by decide +kernel
theorem dJx4a65c_grow_92f84_11 : decode cJx4a65c_grow_92f84 11 = .ok (.getfield 9, 3) := by decide +kernel
theorem dJx4a65c_grow_92f84_14 : decode cJx4a65c_grow_92f84 14 = .ok (.getstatic 39, 3) := by decide +kernel
theorem dJx4a65c_grow_92f84_17 : decode cJx4a65c_grow_92f84 17 = .ok (.if_acmp .eq 28, 3) := by decide +kernel
theorem dJx4a65c_grow_92f84_45 : decode cJx4a65c_grow_92f84 45 = .ok (.aload_n 0, 1) := by decide +kernel
theorem dJx4a65c_grow_92f84_46 : decode cJx4a65c_grow_92f84 46 = .ok (.bipush 10, 2) := by decide +kernel
theorem dJx4a65c_grow_92f84_48 : decode cJx4a65c_grow_92f84 48 = .ok (.iload_n 1, 1) := by decide +kernel
theorem dJx4a65c_grow_92f84_49 : decode cJx4a65c_grow_92f84 49 = .ok (.invokestatic 79, 3) := by decide +kernel
theorem dJx4a65c_grow_92f84_52 : decode cJx4a65c_grow_92f84 52 = .ok (.anewarray 7, 3) := by decide +kernel
theorem dJx4a65c_grow_92f84_55 : decode cJx4a65c_grow_92f84 55 = .ok (.dup_x1, 1) := by decide +kernel
theorem dJx4a65c_grow_92f84_56 : decode cJx4a65c_grow_92f84 56 = .ok (.putfield 9, 3) := by decide +kernel
theorem dJx4a65c_grow_92f84_59 : decode cJx4a65c_grow_92f84 59 = .ok (.areturn, 1) := by decide +kernel
theorem dJx4a65c_grow_92f84_20 : decode cJx4a65c_grow_92f84 20 = .ok (.iload_n 2, 1) := by decide +kernel
theorem dJx4a65c_grow_92f84_21 : decode cJx4a65c_grow_92f84 21 = .ok (.iload_n 1, 1) := by decide +kernel
theorem dJx4a65c_grow_92f84_22 : decode cJx4a65c_grow_92f84 22 = .ok (.iload_n 2, 1) := by decide +kernel
theorem dJx4a65c_grow_92f84_23 : decode cJx4a65c_grow_92f84 23 = .ok (.isub, 1) := by decide +kernel
theorem dJx4a65c_grow_92f84_24 : decode cJx4a65c_grow_92f84 24 = .ok (.iload_n 2, 1) := by decide +kernel
theorem dJx4a65c_grow_92f84_25 : decode cJx4a65c_grow_92f84 25 = .ok (.iconst 1, 1) := by decide +kernel
theorem dJx4a65c_grow_92f84_26 : decode cJx4a65c_grow_92f84 26 = .ok (.ishr, 1) := by decide +kernel
theorem dJx4a65c_grow_92f84_27 : decode cJx4a65c_grow_92f84 27 = .ok (.invokestatic 73, 3) := by decide +kernel
theorem dJx4a65c_grow_92f84_30 : decode cJx4a65c_grow_92f84 30 = .ok (.istore_n 3, 1) := by decide +kernel
theorem dJx4a65c_grow_92f84_31 : decode cJx4a65c_grow_92f84 31 = .ok (.aload_n 0, 1) := by decide +kernel
theorem dJx4a65c_grow_92f84_32 : decode cJx4a65c_grow_92f84 32 = .ok (.aload_n 0, 1) := by decide +kernel
theorem dJx4a65c_grow_92f84_33 : decode cJx4a65c_grow_92f84 33 = .ok (.getfield 9, 3) := by decide +kernel
theorem dJx4a65c_grow_92f84_36 : decode cJx4a65c_grow_92f84 36 = .ok (.iload_n 3, 1) := by decide +kernel
theorem dJx4a65c_grow_92f84_37 : decode cJx4a65c_grow_92f84 37 = .ok (.invokestatic 66, 3) := by decide +kernel
theorem dJx4a65c_grow_92f84_40 : decode cJx4a65c_grow_92f84 40 = .ok (.dup_x1, 1) := by decide +kernel
theorem dJx4a65c_grow_92f84_41 : decode cJx4a65c_grow_92f84 41 = .ok (.putfield 9, 3) := by decide +kernel
theorem dJx4a65c_grow_92f84_44 : decode cJx4a65c_grow_92f84 44 = .ok (.areturn, 1) := by decide +kernel
theorem dJx4a65c_grow_d5877_0 : decode cJx4a65c_grow_d5877 0 = .ok (.aload_n 0, 1) := by decide +kernel
theorem dJx4a65c_grow_d5877_1 : decode cJx4a65c_grow_d5877 1 = .ok (.aload_n 0, 1) := by decide +kernel
theorem dJx4a65c_grow_d5877_2 : decode cJx4a65c_grow_d5877 2 = .ok (.getfield 48, 3) := by decide +kernel
theorem dJx4a65c_grow_d5877_5 : decode cJx4a65c_grow_d5877 5 = .ok (.iconst 1, 1) := by decide +kernel
theorem dJx4a65c_grow_d5877_6 : decode cJx4a65c_grow_d5877 6 = .ok (.iadd, 1) := by decide +kernel
theorem dJx4a65c_grow_d5877_7 : decode cJx4a65c_grow_d5877 7 = .ok (.invokevirtual 69, 3) := by decide +kernel
theorem dJx4a65c_grow_d5877_10 : decode cJx4a65c_grow_d5877 10 = .ok (.areturn, 1) := by decide +kernel
def wp_AS_newLength : List Cond := .code yJ8_newLength_cabcc cJ8_newLength_cabcc 4 (some .int) :: (([.code Lib.Math.max.name Lib.Math.max.code 2 (some .int), .methodLink RJ8 194 Lib.Math.max.name, .static Lib.Math.max.name, .initialized "java/lang/Math", .constant RJ8 200 (2147483639)] : List Cond))
set_option maxRecDepth 20000 in
theorem gi_AS_newLength : GoodIn lw_tbl wp_AS_newLength := (goodIn_r (.code yJ8_newLength_cabcc cJ8_newLength_cabcc 4 (some .int) :: ([.code Lib.Math.max.name Lib.Math.max.code 2 (some .int), .methodLink RJ8 194 Lib.Math.max.name, .static Lib.Math.max.name, .initialized "java/lang/Math", .constant RJ8 200 (2147483639)] : List Cond)) [425, 428, 426, 427, 62, 429] (by decide +kernel) (by decide +kernel))
set_option maxHeartbeats 4000000 in
set_option maxRecDepth 100000 in
/-- newLength -/
theorem c_AS_newLength (l : Launch) (dC : Nat → ClassId) (dI : Nat → Nat → Nat) (sz : Nat) (c1 : Nat) (hf : Nat) (q1 : c1 < 1000) (q2 : hf < 1000) : Met l yJ8_newLength_cabcc wp_AS_newLength ({ frames := 1, cells := 0, slots := 0, locals := 30 }) (va_Pc [.int (nI c1), .int 1, .int (nI hf)] (fun U => U.heap.size = sz ∧ va_P (dC, dI) vwCl [] U.heap ∧ va_K (dC, dI) vwCl [] U ∧ va_D (fun _ => True) [])) (va_Qi (fun (r : Int32) (_ : Unit) => ∃ n, c1 < n ∧ n ≤ c1 + hf + 1 ∧ r = nI n) (fun (_ : Unit) (t : State) => va_P (dC, dI) vwCl [] t.heap ∧ va_K (dC, dI) vwCl [] t ∧ va_D (va_A [] sz) []) (va_A [] sz)) 0 0 (va_A [] sz) := by
  refine Met.ofW (cc := cJ8_newLength_cabcc) (maxL := 4) (ret := (some .int)) (by decide) rfl ?_
  intro p e s m args below meth c s₁ B hml hv
  obtain ⟨rfl, hsz, hP, hK, hD0⟩ := hv
  have hx := B.exec
  have hb := B.bytes
  have hr := B.returns
  have hts := atoms_spec (ws := wp_AS_newLength) B.pre
  have hown : s.vm.findClass RJ8 = some m.cls := findClass_of_methodNamed B.named
  have hlocks := B.notSynchronized
  subst hsz
  have hD := hD0.self (sz := s.heap.size)
  generalize hAe : va_A [] s.heap.size = A at hD ⊢
  have hA : ∀ q : Nat, s.heap.size ≤ q → A q := fun q h => by rw [← hAe]; exact Or.inr h
  have hS : va_S A s.heap s.heap [] := va_S.rf
  have hP : va_P (dC, dI) vwCl [] s.heap := hP
  have hl := lv_entry ([.int (nI c1), .int 1, .int (nI hf)]) (n := 4) (Nat.le_of_ble_eq_true rfl)
  rw [lg_entry_eq]
  generalize (lg_sl ([.int (nI c1), .int 1, .int (nI hf)]) ++ List.replicate (4 - (lg_sl ([.int (nI c1), .int 1, .int (nI hf)])).length) Slot.unset).toArray = ls at hl ⊢
  have hl : lv_has ls 4 [(0, .int (nI c1)), (1, .int 1), (2, .int (nI hf))] := hl
  refine lv_iload_n hx hb dJ8_newLength_cabcc_0 rfl (lv_at hl 0 rfl) ?_
  refine lv_iload_n hx hb dJ8_newLength_cabcc_1 rfl (lv_at hl 1 rfl) ?_
  refine lv_iload_n hx hb dJ8_newLength_cabcc_2 rfl (lv_at hl 2 rfl) ?_
  refine va_mmax hx hb (hml.trans hl.1.symm) hown (hts (.methodLink RJ8 194 Lib.Math.max.name) (by decide +kernel)) (hts (.static Lib.Math.max.name) (by decide +kernel)) (hts (.initialized "java/lang/Math") (by decide +kernel)) (hts _ (List.mem_cons_of_mem _ (List.mem_of_getElem? (i := 0) rfl))) (Nat.le_of_ble_eq_true rfl) (Nat.le_of_ble_eq_true rfl) (Nat.zero_le _) (Nat.zero_le _) dJ8_newLength_cabcc_3 ?_
  refine lv_topi (fun x_1 ex_1 => ?_)
  obtain ⟨n_2, hn_2a, hn_2b, h9⟩ := maxN (w := hf) (by omega)
  rw [h9] at ex_1
  subst ex_1
  refine lv_iadd hx hb dJ8_newLength_cabcc_6 ?_
  refine lv_topi (fun x_3 ex_3 => ?_)
  obtain rfl : x_3 = (nI (c1 + n_2)) := by rw [ex_3]; exact nI_add _ _
  refine lv_istore_n (lv' := [(3, .int (nI (c1 + n_2))), (0, .int (nI c1)), (1, .int 1), (2, .int (nI hf))]) hx hb dJ8_newLength_cabcc_7 rfl hl (by decide) rfl (fun ls hl => ?_)
  refine lv_iconst (v := 0) hx hb dJ8_newLength_cabcc_8 (by decide) ?_
  refine lv_iload_n hx hb dJ8_newLength_cabcc_9 rfl (lv_at hl 0 rfl) ?_
  refine lv_icmp_ge (tgt := 21) hx hb dJ8_newLength_cabcc_10 (by decide) (fun c_4 => ?_) (fun c_4 => ?_)
  · exact absurd c_4 (nI_nle (by omega) (by omega))
  · have c_4 : ¬ (c1 + n_2 ≤ 0) := fun h => c_4 ((nI_leI (a := c1 + n_2) (b := 0) (by omega) (by omega)).mpr h)
    refine lv_iload_n hx hb dJ8_newLength_cabcc_13 rfl (lv_at hl 0 rfl) ?_
    refine lv_ldc hx hb hown (hts (.constant RJ8 200 (2147483639)) (by decide +kernel)) dJ8_newLength_cabcc_14 ?_
    refine lv_icmp_gt (tgt := 21) hx hb dJ8_newLength_cabcc_16 (by decide) (fun c_5 => ?_) (fun c_5 => ?_)
    · exact absurd c_5 (show ¬ (2147483639 : Int32) < _ from nI_nlt (a := 2147483639) (by omega) (by decide))
    · have c_5 : ¬ (2147483639 < c1 + n_2) := fun h => c_5 ((nI_ltI (a := 2147483639) (b := c1 + n_2) (by omega) (by omega)).mpr h)
      refine lv_iload_n hx hb dJ8_newLength_cabcc_19 rfl (lv_at hl 0 rfl) ?_
      have hP9 := hP.sub (ws' := []) [] rfl
      have hD9 := hD.sub (ws' := []) [] (by decide) rfl
      have hK9 := hK.sub (tys' := []) [] rfl
      exact W.iret (v := (nI (c1 + n_2))) hx hb hr (fun t ht hW => ⟨⟨(nI (c1 + n_2)), (), rfl, ⟨c1 + n_2, by omega, by omega, rfl⟩, by rw [ht]; exact hP9, va_K.moved hW.alike hK9, hD9⟩, hS.F ht⟩) hS.2.2 dJ8_newLength_cabcc_20
def wp_AS_copyOf3 : List Cond := .code yJ7_copyOf_6403c cJ7_copyOf_6403c 4 (some (.array (.object "java/lang/Object"))) :: (([.classLink RJ7 110 "[Ljava/lang/Object;", .classLink RJ7 2 "java/lang/Object", .code Lib.Math.min.name Lib.Math.min.code 2 (some .int), .methodLink RJ7 304 Lib.Math.min.name, .static Lib.Math.min.name, .initialized "java/lang/Math", .methodLink RJ7 150 arraycopyName, .native arraycopyName, .static arraycopyName, .initialized "java/lang/System"] : List Cond))
set_option maxRecDepth 20000 in
theorem gi_AS_copyOf3 : GoodIn lw_tbl wp_AS_copyOf3 := (goodIn_r (.code yJ7_copyOf_6403c cJ7_copyOf_6403c 4 (some (.array (.object "java/lang/Object"))) :: ([.classLink RJ7 110 "[Ljava/lang/Object;", .classLink RJ7 2 "java/lang/Object", .code Lib.Math.min.name Lib.Math.min.code 2 (some .int), .methodLink RJ7 304 Lib.Math.min.name, .static Lib.Math.min.name, .initialized "java/lang/Math", .methodLink RJ7 150 arraycopyName, .native arraycopyName, .static arraycopyName, .initialized "java/lang/System"] : List Cond)) [451, 452, 454, 337, 455, 336, 62, 456, 458, 457, 65] (by decide +kernel) (by decide +kernel))
set_option maxHeartbeats 4000000 in
set_option maxRecDepth 100000 in
/-- Arrays.copyOf of a class -/
theorem c_AS_copyOf3 (l : Launch) (dC : Nat → ClassId) (dI : Nat → Nat → Nat) (sz : Nat) (a0 : Nat) (cap : Nat) (n2 : Nat) (cO : ClassId) (g : Nat → Option Nat) (ze : Nat) (mi : Nat) (q1 : cap ≤ n2) (q2 : n2 ≤ 64) : Met l yJ7_copyOf_6403c wp_AS_copyOf3 ({ frames := 1, cells := 1, slots := 64, locals := 40 }) (va_Pc [.ref a0, .int (nI n2), .ref mi] (fun U => U.heap.size = sz ∧ va_P (dC, dI) vwCl [(a0, .inl (cO, cap, .inr (.inr (.inr (.inr g)))))] U.heap ∧ va_K (dC, dI) vwCl [(cO, .object "java/lang/Object")] U ∧ va_D (fun _ => True) [(a0, .inl (cO, cap, .inr (.inr (.inr (.inr g)))))] ∧ okAL ze mi (va_A [(a0, .inl (cO, cap, .inr (.inr (.inr (.inr g)))))] sz) U U.heap ∧ okAns (dC, dI) vwCl g cap (va_A [(a0, .inl (cO, cap, .inr (.inr (.inr (.inr g)))))] sz) U.heap)) (va_Qr (fun (_ : Unit) => True) (fun (_ : Unit) (ra : Nat) (t : State) => ra = ra ∧ ∃ (g1 : Nat → Option Nat), (∀ j, j < cap → g1 j = g j) ∧ (sz ≤ ra) ∧ va_P (dC, dI) vwCl [(a0, .inl (cO, cap, .inr (.inr (.inr (.inr g))))), (ra, .inl (cO, n2, .inr (.inr (.inr (.inr g1)))))] t.heap ∧ va_K (dC, dI) vwCl [(cO, .object "java/lang/Object")] t ∧ va_D (va_A [(a0, .inl (cO, cap, .inr (.inr (.inr (.inr g)))))] sz) [(a0, .inl (cO, cap, .inr (.inr (.inr (.inr g))))), (ra, .inl (cO, n2, .inr (.inr (.inr (.inr g1)))))]) (va_A [(a0, .inl (cO, cap, .inr (.inr (.inr (.inr g)))))] sz)) 1 64 (va_A [(a0, .inl (cO, cap, .inr (.inr (.inr (.inr g)))))] sz) := by
  refine Met.ofW (cc := cJ7_copyOf_6403c) (maxL := 4) (ret := (some (.array (.object "java/lang/Object")))) (by decide) rfl ?_
  intro p e s m args below meth c s₁ B hml hv
  obtain ⟨rfl, hsz, hP, hK, hD0, hAL, hAs⟩ := hv
  have hx := B.exec
  have hb := B.bytes
  have hr := B.returns
  have hts := atoms_spec (ws := wp_AS_copyOf3) B.pre
  have hown : s.vm.findClass RJ7 = some m.cls := findClass_of_methodNamed B.named
  have hlocks := B.notSynchronized
  subst hsz
  have hD := hD0.self (sz := s.heap.size)
  generalize hAe : va_A [(a0, .inl (cO, cap, .inr (.inr (.inr (.inr g)))))] s.heap.size = A at hD hAL hAs ⊢
  have hA : ∀ q : Nat, s.heap.size ≤ q → A q := fun q h => by rw [← hAe]; exact Or.inr h
  have hS : va_S A s.heap s.heap [] := va_S.rf
  have hP : va_P (dC, dI) vwCl [(a0, .inl (cO, cap, .inr (.inr (.inr (.inr g)))))] s.heap := hP
  have hl := lv_entry ([.ref a0, .int (nI n2), .ref mi]) (n := 4) (Nat.le_of_ble_eq_true rfl)
  rw [lg_entry_eq]
  generalize (lg_sl ([.ref a0, .int (nI n2), .ref mi]) ++ List.replicate (4 - (lg_sl ([.ref a0, .int (nI n2), .ref mi])).length) Slot.unset).toArray = ls at hl ⊢
  have hl : lv_has ls 4 [(0, .ref a0), (1, .int (nI n2)), (2, .ref mi)] := hl
  have hZT : va_T (.object "java/lang/Object") ze 0 (fun _ => .null) A s s.heap ∧ True := ⟨hAL.2.1, trivial⟩
  refine lv_aload_n hx hb dJ7_copyOf_6403c_0 rfl (lv_at hl 2 rfl) ?_
  refine va_ldcM hx hb hown (hts (.classLink RJ7 110 "[Ljava/lang/Object;") (by decide +kernel)) hAL.2.2.2.1 dJ7_copyOf_6403c_1 ?_
  refine lv_acmp_ne (rx := some mi) (ry := some mi) (tgt := 13) hx hb dJ7_copyOf_6403c_3 (by decide) (fun c_1 => ?_) (fun c_1 => ?_)
  · exact absurd rfl c_1
  · refine lv_iload_n hx hb dJ7_copyOf_6403c_6 rfl (lv_at hl 1 rfl) ?_
    refine va_newq (n := (nI n2)) (N' := n2) hx hb hown (hts (.classLink RJ7 2 "java/lang/Object") (by decide +kernel)) hAL.2.2.1 hK hP hD hS hA (nI_pos (by omega)) (nI_clamp (by omega)) (by omega) (by show 0 + 1 ≤ 1; omega) (by show 0 + n2 ≤ 64; omega) dJ7_copyOf_6403c_7 (fun q_2 cy_3 H hK hP hD hS => ?_)
    have eC : cO = cy_3 := okSame hK 0 1 rfl rfl
    subst eC
    have hK := hK.sub (tys' := [(cO, .object "java/lang/Object")]) [0] rfl
    have hP : va_P (dC, dI) vwCl [(a0, .inl (cO, cap, .inr (.inr (.inr (.inr g))))), (q_2, .inl (cO, n2, .inr (.inr (.inr (.inr (fun _ => none))))))] H := hP
    have hD : va_D A [(a0, .inl (cO, cap, .inr (.inr (.inr (.inr g))))), (q_2, .inl (cO, n2, .inr (.inr (.inr (.inr (fun _ => none))))))] := hD
    refine W.widen (k := 1) (n := 64) (by omega) (by omega) ?_
    refine lv_goto (tgt := 24) hx hb dJ7_copyOf_6403c_10 (by decide) ?_
    refine lv_astore_n (lv' := [(3, .ref q_2), (0, .ref a0), (1, .int (nI n2)), (2, .ref mi)]) hx hb dJ7_copyOf_6403c_24 rfl hl (by decide) rfl (fun ls hl => ?_)
    refine lv_aload_n hx hb dJ7_copyOf_6403c_25 rfl (lv_at hl 1 rfl) ?_
    refine lv_iconst (v := 0) hx hb dJ7_copyOf_6403c_26 (by decide) ?_
    refine lv_aload_n hx hb dJ7_copyOf_6403c_27 rfl (lv_at hl 0 rfl) ?_
    refine lv_iconst (v := 0) hx hb dJ7_copyOf_6403c_28 (by decide) ?_
    refine lv_aload_n hx hb dJ7_copyOf_6403c_29 rfl (lv_at hl 1 rfl) ?_
    refine va_alen (v := nI cap) hx hb hK hP 0 0 rfl rfl rfl dJ7_copyOf_6403c_30 ?_
    refine lv_iload_n hx hb dJ7_copyOf_6403c_31 rfl (lv_at hl 2 rfl) ?_
    refine va_mmin hx hb (hml.trans hl.1.symm) hown (hts (.methodLink RJ7 304 Lib.Math.min.name) (by decide +kernel)) (hts (.static Lib.Math.min.name) (by decide +kernel)) (hts (.initialized "java/lang/Math") (by decide +kernel)) (hts _ (List.mem_cons_of_mem _ (List.mem_of_getElem? (i := 2) rfl))) (Nat.le_of_ble_eq_true rfl) (Nat.le_of_ble_eq_true rfl) (Nat.le_of_ble_eq_true rfl) (Nat.le_of_ble_eq_true rfl) dJ7_copyOf_6403c_32 ?_
    refine lv_topi (fun x_4 ex_4 => ?_)
    rw [minE (by omega) (by omega)] at ex_4
    subst ex_4
    refine va_copyM hx hb (hml.trans hl.1.symm) hown (hts (.methodLink RJ7 150 arraycopyName) (by decide +kernel)) (hts (.native arraycopyName) (by decide +kernel)) (hts (.static arraycopyName) (by decide +kernel)) (hts (.initialized "java/lang/System") (by decide +kernel)) hK hP hD hS 0 1 0 0 rfl rfl rfl rfl (by decide) (by decide) (nI_pos (by omega)) (by rw [show Int32.toNatClampNeg 0 = 0 by decide, nI_clamp (by omega)]; omega) (by rw [show Int32.toNatClampNeg 0 = 0 by decide, nI_clamp (by omega)]; omega) (fun i hi y hy => okAn.any hK (hAs i (by rw [nI_clamp (by omega)] at hi; exact hi) y (by rw [show Int32.toNatClampNeg 0 = 0 by decide, Nat.zero_add] at hy; exact hy)) hS hAL.2.2.2.2.2) (Nat.le_of_ble_eq_true rfl) (Nat.le_of_ble_eq_true rfl) dJ7_copyOf_6403c_35 (fun H locs hP hD hS => ?_)
    have hP : va_P (dC, dI) vwCl [(a0, .inl (cO, cap, .inr (.inr (.inr (.inr g))))), (q_2, .inl (cO, n2, .inr (.inr (.inr (.inr (va_cpy g (fun _ => none) (Int32.toNatClampNeg 0) (Int32.toNatClampNeg 0) (Int32.toNatClampNeg (nI cap))))))))] H := hP
    have hD : va_D A [(a0, .inl (cO, cap, .inr (.inr (.inr (.inr g))))), (q_2, .inl (cO, n2, .inr (.inr (.inr (.inr (va_cpy g (fun _ => none) (Int32.toNatClampNeg 0) (Int32.toNatClampNeg 0) (Int32.toNatClampNeg (nI cap))))))))] := hD
    generalize eg_5 : va_cpy g (fun _ => none) (Int32.toNatClampNeg 0) (Int32.toNatClampNeg 0) (Int32.toNatClampNeg (nI cap)) = g_5 at hP hD
    have hcp : ∀ j, j < cap → g_5 j = g j := fun j hj => by rw [← eg_5, pk_cpy_in (by rw [show Int32.toNatClampNeg 0 = 0 by decide]; omega) (by rw [show Int32.toNatClampNeg 0 = 0 by decide, nI_clamp (by omega)]; omega), show Int32.toNatClampNeg 0 = 0 by decide, Nat.sub_zero, Nat.zero_add]
    refine lv_aload_n hx hb dJ7_copyOf_6403c_38 rfl (lv_at hl 0 rfl) ?_
    have hP9 := hP.sub (ws' := [(a0, .inl (cO, cap, .inr (.inr (.inr (.inr g))))), (q_2, .inl (cO, n2, .inr (.inr (.inr (.inr g_5)))))]) [0, 1] rfl
    have hD9 := hD.sub (ws' := [(a0, .inl (cO, cap, .inr (.inr (.inr (.inr g))))), (q_2, .inl (cO, n2, .inr (.inr (.inr (.inr g_5)))))]) [0, 1] (by decide) rfl
    have hK9 := hK.sub (tys' := [(cO, .object "java/lang/Object")]) [0] rfl
    refine W.widen (k := 1) (n := 64) (by omega) (by omega) ?_
    exact W.aret (v := .ref q_2) hx hb hr (by first | exact Or.inl ⟨_, rfl⟩ | exact Or.inr ⟨_, rfl⟩) (Or.inr ⟨_, rfl⟩) (fun t ht hW => ⟨⟨(), q_2, rfl, trivial, rfl, g_5, hcp, (okNew hAe hD 1 rfl [0] rfl (by decide)), by rw [ht]; exact hP9, va_K.moved hW.alike hK9, hD9⟩, hS.F ht⟩) hS.2.2 dJ7_copyOf_6403c_39
def wp_AS_copyOf : List Cond := .code yJ7_copyOf_1904c cJ7_copyOf_1904c 2 (some (.array (.object "java/lang/Object"))) :: (([.methodLink RJ7 86 ⟨"java/lang/Object", "getClass", "()Ljava/lang/Class;"⟩, .selects "[Ljava/lang/Object;" ⟨"java/lang/Object", "getClass", "()Ljava/lang/Class;"⟩ ⟨"java/lang/Object", "getClass", "()Ljava/lang/Class;"⟩, .instanceMethod ⟨"java/lang/Object", "getClass", "()Ljava/lang/Class;"⟩, .native ⟨"java/lang/Object", "getClass", "()Ljava/lang/Class;"⟩] : List Cond) ++ (va_wsS RJ7 300 yJ7_copyOf_6403c wp_AS_copyOf3))
theorem gc_AS_copyOf_AS_copyOf3 : GoodIn wp_AS_copyOf (va_wsS RJ7 300 yJ7_copyOf_6403c wp_AS_copyOf3) := goodIn_sub (fun _ h => List.mem_cons_of_mem _ (List.mem_append_right _ h)) (by decide +kernel)
set_option maxRecDepth 20000 in
theorem gi_AS_copyOf : GoodIn lw_tbl wp_AS_copyOf := (goodIn_ca (goodIn_r (.code yJ7_copyOf_1904c cJ7_copyOf_1904c 2 (some (.array (.object "java/lang/Object"))) :: ([.methodLink RJ7 86 ⟨"java/lang/Object", "getClass", "()Ljava/lang/Class;"⟩, .selects "[Ljava/lang/Object;" ⟨"java/lang/Object", "getClass", "()Ljava/lang/Class;"⟩ ⟨"java/lang/Object", "getClass", "()Ljava/lang/Class;"⟩, .instanceMethod ⟨"java/lang/Object", "getClass", "()Ljava/lang/Class;"⟩, .native ⟨"java/lang/Object", "getClass", "()Ljava/lang/Class;"⟩] : List Cond)) [435, 436, 1002, 437, 448] (by decide +kernel) (by decide +kernel)) (goodIn_app (goodIn_r _ [449, 450, 56] (by decide +kernel) (by decide +kernel)) gi_AS_copyOf3))
set_option maxHeartbeats 4000000 in
set_option maxRecDepth 100000 in
/-- Arrays.copyOf -/
theorem c_AS_copyOf (l : Launch) (dC : Nat → ClassId) (dI : Nat → Nat → Nat) (sz : Nat) (a0 : Nat) (cap : Nat) (n2 : Nat) (cO : ClassId) (g : Nat → Option Nat) (ze : Nat) (mi : Nat) (q1 : cap ≤ n2) (q2 : n2 ≤ 64) : Met l yJ7_copyOf_1904c wp_AS_copyOf ({ frames := 2, cells := 1, slots := 64, locals := 80 }) (va_Pc [.ref a0, .int (nI n2)] (fun U => U.heap.size = sz ∧ va_P (dC, dI) vwCl [(a0, .inl (cO, cap, .inr (.inr (.inr (.inr g)))))] U.heap ∧ va_K (dC, dI) vwCl [(cO, .object "java/lang/Object")] U ∧ va_D (fun _ => True) [(a0, .inl (cO, cap, .inr (.inr (.inr (.inr g)))))] ∧ okAL ze mi (va_A [(a0, .inl (cO, cap, .inr (.inr (.inr (.inr g)))))] sz) U U.heap ∧ okAns (dC, dI) vwCl g cap (va_A [(a0, .inl (cO, cap, .inr (.inr (.inr (.inr g)))))] sz) U.heap)) (va_Qr (fun (_ : Unit) => True) (fun (_ : Unit) (ra : Nat) (t : State) => ra = ra ∧ ∃ (g1 : Nat → Option Nat), (∀ j, j < cap → g1 j = g j) ∧ (sz ≤ ra) ∧ va_P (dC, dI) vwCl [(a0, .inl (cO, cap, .inr (.inr (.inr (.inr g))))), (ra, .inl (cO, n2, .inr (.inr (.inr (.inr g1)))))] t.heap ∧ va_K (dC, dI) vwCl [(cO, .object "java/lang/Object")] t ∧ va_D (va_A [(a0, .inl (cO, cap, .inr (.inr (.inr (.inr g)))))] sz) [(a0, .inl (cO, cap, .inr (.inr (.inr (.inr g))))), (ra, .inl (cO, n2, .inr (.inr (.inr (.inr g1)))))]) (va_A [(a0, .inl (cO, cap, .inr (.inr (.inr (.inr g)))))] sz)) 1 64 (va_A [(a0, .inl (cO, cap, .inr (.inr (.inr (.inr g)))))] sz) := by
  refine Met.ofW (cc := cJ7_copyOf_1904c) (maxL := 2) (ret := (some (.array (.object "java/lang/Object")))) (by decide) rfl ?_
  intro p e s m args below meth c s₁ B hml hv
  obtain ⟨rfl, hsz, hP, hK, hD0, hAL, hAs⟩ := hv
  have hx := B.exec
  have hb := B.bytes
  have hr := B.returns
  have hts := atoms_spec (ws := wp_AS_copyOf) B.pre
  have hown : s.vm.findClass RJ7 = some m.cls := findClass_of_methodNamed B.named
  have hlocks := B.notSynchronized
  subst hsz
  have hD := hD0.self (sz := s.heap.size)
  generalize hAe : va_A [(a0, .inl (cO, cap, .inr (.inr (.inr (.inr g)))))] s.heap.size = A at hD hAL hAs ⊢
  have hA : ∀ q : Nat, s.heap.size ≤ q → A q := fun q h => by rw [← hAe]; exact Or.inr h
  have hS : va_S A s.heap s.heap [] := va_S.rf
  have hP : va_P (dC, dI) vwCl [(a0, .inl (cO, cap, .inr (.inr (.inr (.inr g)))))] s.heap := hP
  have hl := lv_entry ([.ref a0, .int (nI n2)]) (n := 2) (Nat.le_of_ble_eq_true rfl)
  rw [lg_entry_eq]
  generalize (lg_sl ([.ref a0, .int (nI n2)]) ++ List.replicate (2 - (lg_sl ([.ref a0, .int (nI n2)])).length) Slot.unset).toArray = ls at hl ⊢
  have hl : lv_has ls 2 [(0, .ref a0), (1, .int (nI n2))] := hl
  have hZT : va_T (.object "java/lang/Object") ze 0 (fun _ => .null) A s s.heap ∧ True := ⟨hAL.2.1, trivial⟩
  refine lv_aload_n hx hb dJ7_copyOf_1904c_0 rfl (lv_at hl 0 rfl) ?_
  refine lv_iload_n hx hb dJ7_copyOf_1904c_1 rfl (lv_at hl 1 rfl) ?_
  refine lv_aload_n hx hb dJ7_copyOf_1904c_2 rfl (lv_at hl 0 rfl) ?_
  refine va_getC hx hb (hml.trans hl.1.symm) hown (hts (.methodLink RJ7 86 ⟨"java/lang/Object", "getClass", "()Ljava/lang/Class;"⟩) (by decide +kernel)) (va_Dc.use hAL.2.2.2.2.1) (hts (.selects "[Ljava/lang/Object;" ⟨"java/lang/Object", "getClass", "()Ljava/lang/Class;"⟩ ⟨"java/lang/Object", "getClass", "()Ljava/lang/Class;"⟩) (by decide +kernel)) (hts (.instanceMethod ⟨"java/lang/Object", "getClass", "()Ljava/lang/Class;"⟩) (by decide +kernel)) (hts (.native ⟨"java/lang/Object", "getClass", "()Ljava/lang/Class;"⟩) (by decide +kernel)) hAL.2.2.2.1 ⟨_, hP 0 _ rfl, rfl, va_nmO (hK.2 0 _ rfl).2 (by decide +kernel)⟩ (Nat.le_of_ble_eq_true rfl) (Nat.le_of_ble_eq_true rfl) dJ7_copyOf_1904c_3 ?_
  have hPc := hP.sub (ws' := [(a0, .inl (cO, cap, .inr (.inr (.inr (.inr g)))))]) [0] rfl
  have hDc := hD.sub (ws' := [(a0, .inl (cO, cap, .inr (.inr (.inr (.inr g)))))]) [0] (by decide) rfl
  have hKc := hK.sub (tys' := [(cO, .object "java/lang/Object")]) [0] rfl
  have hFc := va_free (wc := [(a0, .inl (cO, cap, .inr (.inr (.inr (.inr g)))))]) hD hS hA [0] rfl
  have hz_2 := hS.1
  refine va_callr (va_runS (As := [.ref a0, .int (nI n2), .ref mi]) (rest := []) ⟨hx, hb, hml, hown, hts⟩ (c_AS_copyOf3 l dC dI _ a0 cap n2 cO g ze mi (by omega) (by omega)) (va_cwS 3 hts gc_AS_copyOf_AS_copyOf3 rfl rfl rfl (by decide +kernel) ⟨Nat.le_of_ble_eq_true rfl, Nat.le_of_ble_eq_true rfl⟩) ⟨fun a U g mk q => by obtain ⟨q0, q1, qP, qK, qD, q_hAL, q_hAs⟩ := q; exact ⟨q0, q1, qP, va_K.moved (u := U) (U := U.calling g mk a) (Vm.Alike.refl U.vm) qK, qD, okAL.moved (Vm.Alike.refl U.vm) q_hAL, q_hAs⟩, fun U hU hW => ⟨rfl, by rw [hU], by rw [hU]; exact hPc, va_K.moved hW.alike hKc, hDc.weaken (fun _ _ _ _ => trivial), by rw [hU]; exact okAL.pass hAL hW hS hFc, by rw [hU]; exact okAns.pass hAs hS hFc⟩⟩ rfl rfl hl.1 rfl (lv_room (Nat.le_of_ble_eq_true rfl)) dJ7_copyOf_1904c_6 ⟨by decide, by decide⟩) hS (fun q _ h => hFc q h) hFc (fun u r_1 t H1 locs ht hvm hw hB hz1 hk1 hS => ?_)
  obtain ⟨er_1, g1_3, hf_4, hf_5, hP1, hK1, hD1⟩ := hB
  rw [ht] at hP1
  obtain ⟨hP, hD⟩ := va_join (wr := []) (w1 := [(a0, .inl (cO, cap, .inr (.inr (.inr (.inr g))))), (r_1, .inl (cO, n2, .inr (.inr (.inr (.inr g1_3)))))]) hP hD [0] [] rfl rfl (by decide) (by decide) hk1 hFc hP1 hD1
  generalize H1 = H at hP hS ⊢
  have hP : va_P (dC, dI) vwCl [(a0, .inl (cO, cap, .inr (.inr (.inr (.inr g))))), (r_1, .inl (cO, n2, .inr (.inr (.inr (.inr g1_3)))))] H := hP
  have hD : va_D A [(a0, .inl (cO, cap, .inr (.inr (.inr (.inr g))))), (r_1, .inl (cO, n2, .inr (.inr (.inr (.inr g1_3)))))] := hD
  refine W.widen (k := 1) (n := 64) (by omega) (by omega) ?_
  have hP9 := hP.sub (ws' := [(a0, .inl (cO, cap, .inr (.inr (.inr (.inr g))))), (r_1, .inl (cO, n2, .inr (.inr (.inr (.inr g1_3)))))]) [0, 1] rfl
  have hD9 := hD.sub (ws' := [(a0, .inl (cO, cap, .inr (.inr (.inr (.inr g))))), (r_1, .inl (cO, n2, .inr (.inr (.inr (.inr g1_3)))))]) [0, 1] (by decide) rfl
  have hK9 := hK.sub (tys' := [(cO, .object "java/lang/Object")]) [0] rfl
  refine W.widen (k := 1) (n := 64) (by omega) (by omega) ?_
  exact W.aret (v := .ref r_1) hx hb hr (by first | exact Or.inl ⟨_, rfl⟩ | exact Or.inr ⟨_, rfl⟩) (Or.inr ⟨_, rfl⟩) (fun t ht hW => ⟨⟨(), r_1, rfl, trivial, rfl, g1_3, (by assumption), (okNew hAe hD 1 rfl [0] rfl (by decide)), by rw [ht]; exact hP9, va_K.moved hW.alike hK9, hD9⟩, hS.F ht⟩) hS.2.2 dJ7_copyOf_1904c_9
def wp_AL_growE2 : List Cond := .code yJx4a65c_grow_92f84 cJx4a65c_grow_92f84 4 (some (.array (.object "java/lang/Object"))) :: (([.fieldLink RJx4a65c 9 "java/util/ArrayList" "elementData" "[Ljava/lang/Object;", .fieldLink RJx4a65c 39 "java/util/ArrayList" "DEFAULTCAPACITY_EMPTY_ELEMENTDATA" "[Ljava/lang/Object;", .code Lib.Math.max.name Lib.Math.max.code 2 (some .int), .methodLink RJx4a65c 79 Lib.Math.max.name, .static Lib.Math.max.name, .initialized "java/lang/Math", .classLink RJx4a65c 7 "java/lang/Object"] : List Cond) ++ wsJx4a65c0)
set_option maxRecDepth 20000 in
theorem gi_AL_growE2 : GoodIn lw_tbl wp_AL_growE2 := (goodIn_ca (goodIn_r (.code yJx4a65c_grow_92f84 cJx4a65c_grow_92f84 4 (some (.array (.object "java/lang/Object"))) :: ([.fieldLink RJx4a65c 9 "java/util/ArrayList" "elementData" "[Ljava/lang/Object;", .fieldLink RJx4a65c 39 "java/util/ArrayList" "DEFAULTCAPACITY_EMPTY_ELEMENTDATA" "[Ljava/lang/Object;", .code Lib.Math.max.name Lib.Math.max.code 2 (some .int), .methodLink RJx4a65c 79 Lib.Math.max.name, .static Lib.Math.max.name, .initialized "java/lang/Math", .classLink RJx4a65c 7 "java/lang/Object"] : List Cond)) [422, 90, 88, 428, 459, 427, 62, 460] (by decide +kernel) (by decide +kernel)) wi_wsJx4a65c)
set_option maxHeartbeats 4000000 in
set_option maxRecDepth 100000 in
/-- grow(1) of an empty list -/
theorem c_AL_growE2 (l : Launch) (dC : Nat → ClassId) (dI : Nat → Nat → Nat) (sz : Nat) (h0 : Nat) (mc : Int32) (cO : ClassId) (ze : Nat) (mi : Nat) : Met l yJx4a65c_grow_92f84 wp_AL_growE2 ({ frames := 1, cells := 1, slots := 64, locals := 40 }) (va_Pc [.ref h0, .int 1] (fun U => U.heap.size = sz ∧ va_P (dC, dI) vwCl [(h0, .inr (0, [.int mc, .ref ze, .int 0]))] U.heap ∧ va_K (dC, dI) vwCl [(cO, .object "java/lang/Object")] U ∧ va_D (fun _ => True) [(h0, .inr (0, [.int mc, .ref ze, .int 0]))] ∧ okAL ze mi (va_A [(h0, .inr (0, [.int mc, .ref ze, .int 0]))] sz) U U.heap)) (va_Qr (fun (_ : Unit) => True) (fun (_ : Unit) (ra : Nat) (t : State) => ra = ra ∧ (sz ≤ ra) ∧ va_P (dC, dI) vwCl [(h0, .inr (0, [.int mc, .ref ra, .int 0])), (ra, .inl (cO, 10, .inr (.inr (.inr (.inr (fun _ => none))))))] t.heap ∧ va_K (dC, dI) vwCl [(cO, .object "java/lang/Object")] t ∧ va_D (va_A [(h0, .inr (0, [.int mc, .ref ze, .int 0]))] sz) [(h0, .inr (0, [.int mc, .ref ra, .int 0])), (ra, .inl (cO, 10, .inr (.inr (.inr (.inr (fun _ => none))))))]) (va_A [(h0, .inr (0, [.int mc, .ref ze, .int 0]))] sz)) 1 64 (va_A [(h0, .inr (0, [.int mc, .ref ze, .int 0]))] sz) := by
  refine Met.ofW (cc := cJx4a65c_grow_92f84) (maxL := 4) (ret := (some (.array (.object "java/lang/Object")))) (by decide) rfl ?_
  intro p e s m args below meth c s₁ B hml hv
  obtain ⟨rfl, hsz, hP, hK, hD0, hAL⟩ := hv
  have hx := B.exec
  have hb := B.bytes
  have hr := B.returns
  have hts := atoms_spec (ws := wp_AL_growE2) B.pre
  have hown : s.vm.findClass RJx4a65c = some m.cls := findClass_of_methodNamed B.named
  have hlocks := B.notSynchronized
  subst hsz
  have hD := hD0.self (sz := s.heap.size)
  generalize hAe : va_A [(h0, .inr (0, [.int mc, .ref ze, .int 0]))] s.heap.size = A at hD hAL ⊢
  have hA : ∀ q : Nat, s.heap.size ≤ q → A q := fun q h => by rw [← hAe]; exact Or.inr h
  have hS : va_S A s.heap s.heap [] := va_S.rf
  have hP : va_P (dC, dI) vwCl [(h0, .inr (0, [.int mc, .ref ze, .int 0]))] s.heap := hP
  have hl := lv_entry ([.ref h0, .int 1]) (n := 4) (Nat.le_of_ble_eq_true rfl)
  rw [lg_entry_eq]
  generalize (lg_sl ([.ref h0, .int 1]) ++ List.replicate (4 - (lg_sl ([.ref h0, .int 1])).length) Slot.unset).toArray = ls at hl ⊢
  have hl : lv_has ls 4 [(0, .ref h0), (1, .int 1)] := hl
  have hinJx4a65c : ∀ w ∈ u_ws RJx4a65c TJx4a65c 3, w ∈ wp_AL_growE2 := fun _ h => List.mem_cons_of_mem _ (List.mem_append_right _ h)
  have hZT : va_T (.object "java/lang/Object") ze 0 (fun _ => .null) A s s.heap ∧ True := ⟨hAL.2.1, trivial⟩
  refine lv_aload_n hx hb dJx4a65c_grow_92f84_0 rfl (lv_at hl 0 rfl) ?_
  refine va_get (D := (dC, dI)) (ci := 0) (v := .ref ze) (C := RJx4a65c) (T := TJx4a65c) (N := 3) hx hb hts hinJx4a65c hown hK hP 0 rfl rfl 1 (by decide) (hts (.fieldLink RJx4a65c 9 "java/util/ArrayList" "elementData" "[Ljava/lang/Object;") (by decide +kernel)) (fun _ h9 => h9) rfl dJx4a65c_grow_92f84_1 ?_
  refine va_tlen (v := nI 0) hx hb hZT.1 hS rfl dJx4a65c_grow_92f84_4 ?_
  refine lv_istore_n (lv' := [(2, .int 0), (0, .ref h0), (1, .int 1)]) hx hb dJx4a65c_grow_92f84_5 rfl hl (by decide) rfl (fun ls hl => ?_)
  refine lv_iload_n hx hb dJx4a65c_grow_92f84_6 rfl (lv_at hl 0 rfl) ?_
  refine lv_if_gt (tgt := 20) hx hb dJx4a65c_grow_92f84_7 (by decide) (fun c_1 => ?_) (fun c_1 => ?_)
  · exact absurd c_1 (by decide)
  · refine lv_aload_n hx hb dJx4a65c_grow_92f84_10 rfl (lv_at hl 1 rfl) ?_
    refine va_get (D := (dC, dI)) (ci := 0) (v := .ref ze) (C := RJx4a65c) (T := TJx4a65c) (N := 3) hx hb hts hinJx4a65c hown hK hP 0 rfl rfl 1 (by decide) (hts (.fieldLink RJx4a65c 9 "java/util/ArrayList" "elementData" "[Ljava/lang/Object;") (by decide +kernel)) (fun _ h9 => h9) rfl dJx4a65c_grow_92f84_11 ?_
    refine va_gets hx hb hAL.1 hS hown (hts (.fieldLink RJx4a65c 39 "java/util/ArrayList" "DEFAULTCAPACITY_EMPTY_ELEMENTDATA" "[Ljava/lang/Object;") (by decide +kernel)) (fun _ h9 => h9) dJx4a65c_grow_92f84_14 ?_
    refine lv_acmp_eq (rx := some ze) (ry := some ze) (tgt := 45) hx hb dJx4a65c_grow_92f84_17 (by decide) (fun c_2 => ?_) (fun c_2 => ?_)
    · refine lv_aload_n hx hb dJx4a65c_grow_92f84_45 rfl (lv_at hl 1 rfl) ?_
      refine lv_bipush (v := 10) hx hb dJx4a65c_grow_92f84_46 (by decide) ?_
      refine lv_iload_n hx hb dJx4a65c_grow_92f84_48 rfl (lv_at hl 2 rfl) ?_
      refine va_mmax hx hb (hml.trans hl.1.symm) hown (hts (.methodLink RJx4a65c 79 Lib.Math.max.name) (by decide +kernel)) (hts (.static Lib.Math.max.name) (by decide +kernel)) (hts (.initialized "java/lang/Math") (by decide +kernel)) (hts _ (List.mem_cons_of_mem _ (List.mem_append_left _ (List.mem_of_getElem? (i := 2) rfl)))) (Nat.le_of_ble_eq_true rfl) (Nat.le_of_ble_eq_true rfl) (Nat.zero_le _) (Nat.zero_le _) dJx4a65c_grow_92f84_49 ?_
      refine lv_topi (fun x_3 ex_3 => ?_)
      obtain rfl : x_3 = 10 := by rw [ex_3]; decide
      refine va_newq (n := 10) (N' := 10) hx hb hown (hts (.classLink RJx4a65c 7 "java/lang/Object") (by decide +kernel)) hAL.2.2.1 hK hP hD hS hA (by decide) (by decide) (by omega) (by show 0 + 1 ≤ 1; omega) (by show 0 + 10 ≤ 64; omega) dJx4a65c_grow_92f84_52 (fun q_4 cy_5 H hK hP hD hS => ?_)
      have eC : cO = cy_5 := okSame hK 0 1 rfl rfl
      subst eC
      have hK := hK.sub (tys' := [(cO, .object "java/lang/Object")]) [0] rfl
      have hP : va_P (dC, dI) vwCl [(h0, .inr (0, [.int mc, .ref ze, .int 0])), (q_4, .inl (cO, 10, .inr (.inr (.inr (.inr (fun _ => none))))))] H := hP
      have hD : va_D A [(h0, .inr (0, [.int mc, .ref ze, .int 0])), (q_4, .inl (cO, 10, .inr (.inr (.inr (.inr (fun _ => none))))))] := hD
      refine W.widen (k := 1) (n := 64) (by omega) (by omega) ?_
      refine lv_dup_x1 hx hb dJx4a65c_grow_92f84_55 rfl rfl ?_
      refine va_put (D := (dC, dI)) (ci := 0) (v := .ref q_4) (ty := .array (.object "java/lang/Object")) (C := RJx4a65c) (T := TJx4a65c) (N := 3) hx hb hts hinJx4a65c tyJx4a65c tyJx4a65c_ok nmJx4a65c hown hK hP hD hS 0 rfl rfl 1 (by decide) (hts (.fieldLink RJx4a65c 9 "java/util/ArrayList" "elementData" "[Ljava/lang/Object;") (by decide +kernel)) (fun _ h9 => h9) rfl (by decide +kernel) rfl rfl (Nat.le_of_ble_eq_true rfl) dJx4a65c_grow_92f84_56 (fun H locs hP hD hS => ?_)
      have hP : va_P (dC, dI) vwCl [(h0, .inr (0, [.int mc, .ref q_4, .int 0])), (q_4, .inl (cO, 10, .inr (.inr (.inr (.inr (fun _ => none))))))] H := hP
      have hD : va_D A [(h0, .inr (0, [.int mc, .ref q_4, .int 0])), (q_4, .inl (cO, 10, .inr (.inr (.inr (.inr (fun _ => none))))))] := hD
      have hP9 := hP.sub (ws' := [(h0, .inr (0, [.int mc, .ref q_4, .int 0])), (q_4, .inl (cO, 10, .inr (.inr (.inr (.inr (fun _ => none))))))]) [0, 1] rfl
      have hD9 := hD.sub (ws' := [(h0, .inr (0, [.int mc, .ref q_4, .int 0])), (q_4, .inl (cO, 10, .inr (.inr (.inr (.inr (fun _ => none))))))]) [0, 1] (by decide) rfl
      have hK9 := hK.sub (tys' := [(cO, .object "java/lang/Object")]) [0] rfl
      refine W.widen (k := 1) (n := 64) (by omega) (by omega) ?_
      exact W.aret (v := .ref q_4) hx hb hr (by first | exact Or.inl ⟨_, rfl⟩ | exact Or.inr ⟨_, rfl⟩) (Or.inr ⟨_, rfl⟩) (fun t ht hW => ⟨⟨(), q_4, rfl, trivial, rfl, (okNew hAe hD 1 rfl [0] rfl (by decide)), by rw [ht]; exact hP9, va_K.moved hW.alike hK9, hD9⟩, hS.F ht⟩) hS.2.2 dJx4a65c_grow_92f84_59
    · exact absurd rfl c_2
def wp_AL_growF2 : List Cond := .code yJx4a65c_grow_92f84 cJx4a65c_grow_92f84 4 (some (.array (.object "java/lang/Object"))) :: (([.fieldLink RJx4a65c 9 "java/util/ArrayList" "elementData" "[Ljava/lang/Object;"] : List Cond) ++ wsJx4a65c0 ++ (va_wsS RJx4a65c 73 yJ8_newLength_cabcc wp_AS_newLength) ++ (va_wsS RJx4a65c 66 yJ7_copyOf_1904c wp_AS_copyOf))
theorem gc_AL_growF2_AS_newLength : GoodIn wp_AL_growF2 (va_wsS RJx4a65c 73 yJ8_newLength_cabcc wp_AS_newLength) := goodIn_sub (fun _ h => List.mem_cons_of_mem _ (List.mem_append_left _ (List.mem_append_right _ h))) (by decide +kernel)
theorem gc_AL_growF2_AS_copyOf : GoodIn wp_AL_growF2 (va_wsS RJx4a65c 66 yJ7_copyOf_1904c wp_AS_copyOf) := goodIn_sub (fun _ h => List.mem_cons_of_mem _ (List.mem_append_right _ h)) (by decide +kernel)
set_option maxRecDepth 20000 in
theorem gi_AL_growF2 : GoodIn lw_tbl wp_AL_growF2 := (goodIn_ca (goodIn_ca (goodIn_ca (goodIn_r (.code yJx4a65c_grow_92f84 cJx4a65c_grow_92f84 4 (some (.array (.object "java/lang/Object"))) :: ([.fieldLink RJx4a65c 9 "java/util/ArrayList" "elementData" "[Ljava/lang/Object;"] : List Cond)) [422, 90] (by decide +kernel) (by decide +kernel)) wi_wsJx4a65c) (goodIn_app (goodIn_r _ [423, 424, 64] (by decide +kernel) (by decide +kernel)) gi_AS_newLength)) (goodIn_app (goodIn_r _ [433, 434, 56] (by decide +kernel) (by decide +kernel)) gi_AS_copyOf))
set_option maxHeartbeats 4000000 in
set_option maxRecDepth 100000 in
/-- grow(n + 1) of a full list -/
theorem c_AL_growF2 (l : Launch) (dC : Nat → ClassId) (dI : Nat → Nat → Nat) (sz : Nat) (h0 : Nat) (mc : Int32) (ad : Nat) (nr : Nat) (cO : ClassId) (g : Nat → Option Nat) (ze : Nat) (mi : Nat) (q0 : 0 < nr) (q1 : nr ≤ 40) : Met l yJx4a65c_grow_92f84 wp_AL_growF2 ({ frames := 3, cells := 1, slots := 64, locals := 120 }) (va_Pc [.ref h0, .int (nI (nr + 1))] (fun U => U.heap.size = sz ∧ va_P (dC, dI) vwCl [(h0, .inr (0, [.int mc, .ref ad, .int (nI nr)])), (ad, .inl (cO, nr, .inr (.inr (.inr (.inr g)))))] U.heap ∧ va_K (dC, dI) vwCl [(cO, .object "java/lang/Object")] U ∧ va_D (fun _ => True) [(h0, .inr (0, [.int mc, .ref ad, .int (nI nr)])), (ad, .inl (cO, nr, .inr (.inr (.inr (.inr g)))))] ∧ okAL ze mi (va_A [(h0, .inr (0, [.int mc, .ref ad, .int (nI nr)])), (ad, .inl (cO, nr, .inr (.inr (.inr (.inr g)))))] sz) U U.heap ∧ okAns (dC, dI) vwCl g nr (va_A [(h0, .inr (0, [.int mc, .ref ad, .int (nI nr)])), (ad, .inl (cO, nr, .inr (.inr (.inr (.inr g)))))] sz) U.heap)) (va_Qr (fun (_ : Unit) => True) (fun (_ : Unit) (ra : Nat) (t : State) => ra = ra ∧ ∃ (cap2 : Nat), ∃ (g1 : Nat → Option Nat), (nr < cap2) ∧ (cap2 ≤ 64) ∧ (∀ j, j < nr → g1 j = g j) ∧ (sz ≤ ra) ∧ va_P (dC, dI) vwCl [(h0, .inr (0, [.int mc, .ref ra, .int (nI nr)])), (ad, .inl (cO, nr, .inr (.inr (.inr (.inr g))))), (ra, .inl (cO, cap2, .inr (.inr (.inr (.inr g1)))))] t.heap ∧ va_K (dC, dI) vwCl [(cO, .object "java/lang/Object")] t ∧ va_D (va_A [(h0, .inr (0, [.int mc, .ref ad, .int (nI nr)])), (ad, .inl (cO, nr, .inr (.inr (.inr (.inr g)))))] sz) [(h0, .inr (0, [.int mc, .ref ra, .int (nI nr)])), (ad, .inl (cO, nr, .inr (.inr (.inr (.inr g))))), (ra, .inl (cO, cap2, .inr (.inr (.inr (.inr g1)))))]) (va_A [(h0, .inr (0, [.int mc, .ref ad, .int (nI nr)])), (ad, .inl (cO, nr, .inr (.inr (.inr (.inr g)))))] sz)) 1 64 (va_A [(h0, .inr (0, [.int mc, .ref ad, .int (nI nr)])), (ad, .inl (cO, nr, .inr (.inr (.inr (.inr g)))))] sz) := by
  refine Met.ofW (cc := cJx4a65c_grow_92f84) (maxL := 4) (ret := (some (.array (.object "java/lang/Object")))) (by decide) rfl ?_
  intro p e s m args below meth c s₁ B hml hv
  obtain ⟨rfl, hsz, hP, hK, hD0, hAL, hAs⟩ := hv
  have hx := B.exec
  have hb := B.bytes
  have hr := B.returns
  have hts := atoms_spec (ws := wp_AL_growF2) B.pre
  have hown : s.vm.findClass RJx4a65c = some m.cls := findClass_of_methodNamed B.named
  have hlocks := B.notSynchronized
  subst hsz
  have hD := hD0.self (sz := s.heap.size)
  generalize hAe : va_A [(h0, .inr (0, [.int mc, .ref ad, .int (nI nr)])), (ad, .inl (cO, nr, .inr (.inr (.inr (.inr g)))))] s.heap.size = A at hD hAL hAs ⊢
  have hA : ∀ q : Nat, s.heap.size ≤ q → A q := fun q h => by rw [← hAe]; exact Or.inr h
  have hS : va_S A s.heap s.heap [] := va_S.rf
  have hP : va_P (dC, dI) vwCl [(h0, .inr (0, [.int mc, .ref ad, .int (nI nr)])), (ad, .inl (cO, nr, .inr (.inr (.inr (.inr g)))))] s.heap := hP
  have hl := lv_entry ([.ref h0, .int (nI (nr + 1))]) (n := 4) (Nat.le_of_ble_eq_true rfl)
  rw [lg_entry_eq]
  generalize (lg_sl ([.ref h0, .int (nI (nr + 1))]) ++ List.replicate (4 - (lg_sl ([.ref h0, .int (nI (nr + 1))])).length) Slot.unset).toArray = ls at hl ⊢
  have hl : lv_has ls 4 [(0, .ref h0), (1, .int (nI (nr + 1)))] := hl
  have hinJx4a65c : ∀ w ∈ u_ws RJx4a65c TJx4a65c 3, w ∈ wp_AL_growF2 := fun _ h => List.mem_cons_of_mem _ (List.mem_append_left _ (List.mem_append_left _ (List.mem_append_right _ h)))
  have hZT : va_T (.object "java/lang/Object") ze 0 (fun _ => .null) A s s.heap ∧ True := ⟨hAL.2.1, trivial⟩
  refine lv_aload_n hx hb dJx4a65c_grow_92f84_0 rfl (lv_at hl 0 rfl) ?_
  refine va_get (D := (dC, dI)) (ci := 0) (v := .ref ad) (C := RJx4a65c) (T := TJx4a65c) (N := 3) hx hb hts hinJx4a65c hown hK hP 0 rfl rfl 1 (by decide) (hts (.fieldLink RJx4a65c 9 "java/util/ArrayList" "elementData" "[Ljava/lang/Object;") (by decide +kernel)) (fun _ h9 => h9) rfl dJx4a65c_grow_92f84_1 ?_
  refine va_alen (v := nI nr) hx hb hK hP 1 0 rfl rfl rfl dJx4a65c_grow_92f84_4 ?_
  refine lv_istore_n (lv' := [(2, .int (nI nr)), (0, .ref h0), (1, .int (nI (nr + 1)))]) hx hb dJx4a65c_grow_92f84_5 rfl hl (by decide) rfl (fun ls hl => ?_)
  refine lv_iload_n hx hb dJx4a65c_grow_92f84_6 rfl (lv_at hl 0 rfl) ?_
  refine lv_if_gt (tgt := 20) hx hb dJx4a65c_grow_92f84_7 (by decide) (fun c_1 => ?_) (fun c_1 => ?_)
  · have c_1 : 0 < nr := (nI_ltI (a := 0) (b := nr) (by omega) (by omega)).mp c_1
    refine lv_iload_n hx hb dJx4a65c_grow_92f84_20 rfl (lv_at hl 0 rfl) ?_
    refine lv_iload_n hx hb dJx4a65c_grow_92f84_21 rfl (lv_at hl 2 rfl) ?_
    refine lv_iload_n hx hb dJx4a65c_grow_92f84_22 rfl (lv_at hl 0 rfl) ?_
    refine lv_isub hx hb dJx4a65c_grow_92f84_23 ?_
    refine lv_topi (fun x_2 ex_2 => ?_)
    obtain rfl : x_2 = 1 := by rw [ex_2]; exact okS1 _
    refine lv_iload_n hx hb dJx4a65c_grow_92f84_24 rfl (lv_at hl 0 rfl) ?_
    refine lv_iconst (v := 1) hx hb dJx4a65c_grow_92f84_25 (by decide) ?_
    refine lv_ishr hx hb dJx4a65c_grow_92f84_26 ?_
    refine lv_topi (fun x_3 ex_3 => ?_)
    obtain rfl : x_3 = (nI (nr / 2)) := by rw [ex_3]; exact okHalf (by omega)
    have hPc := hP.sub (ws' := []) [] rfl
    have hDc := hD.sub (ws' := []) [] (by decide) rfl
    have hKc := hK.sub (tys' := []) [] rfl
    have hFc := va_free (wc := []) hD hS hA [] rfl
    refine va_calli (va_runS (As := [.int (nI nr), .int 1, .int (nI (nr / 2))]) (rest := []) ⟨hx, hb, hml, hown, hts⟩ (c_AS_newLength l dC dI _ nr (nr / 2) (by omega) (by omega)) (va_cwS 3 hts gc_AL_growF2_AS_newLength rfl rfl rfl (by decide +kernel) ⟨Nat.le_of_ble_eq_true rfl, Nat.le_of_ble_eq_true rfl⟩) ⟨fun a U g mk q => by obtain ⟨q0, q1, qP, qK, qD⟩ := q; exact ⟨q0, q1, qP, va_K.moved (u := U) (U := U.calling g mk a) (Vm.Alike.refl U.vm) qK, qD⟩, fun U hU hW => ⟨rfl, by rw [hU], by rw [hU]; exact hPc, va_K.moved hW.alike hKc, hDc.weaken (fun _ _ _ _ => trivial)⟩⟩ rfl rfl hl.1 rfl (lv_room (Nat.le_of_ble_eq_true rfl)) dJx4a65c_grow_92f84_27 ⟨Nat.zero_le _, Nat.zero_le _⟩) hS (fun q _ h => hFc q h) hFc (fun r_4 u t H1 locs ht hvm hw hB hz1 hk1 hS => ?_)
    obtain ⟨hP1, hK1, hD1⟩ := hB
    rw [ht] at hP1
    obtain ⟨hP, hD⟩ := va_join (wr := [(h0, .inr (0, [.int mc, .ref ad, .int (nI nr)])), (ad, .inl (cO, nr, .inr (.inr (.inr (.inr g)))))]) (w1 := []) hP hD [] [0, 1] rfl rfl (by decide) (by decide) hk1 hFc hP1 hD1
    generalize H1 = H at hP hS ⊢
    have hP : va_P (dC, dI) vwCl [(h0, .inr (0, [.int mc, .ref ad, .int (nI nr)])), (ad, .inl (cO, nr, .inr (.inr (.inr (.inr g)))))] H := hP
    have hD : va_D A [(h0, .inr (0, [.int mc, .ref ad, .int (nI nr)])), (ad, .inl (cO, nr, .inr (.inr (.inr (.inr g)))))] := hD
    have hr_4 := hw
    try dsimp only at hr_4
    obtain ⟨n_5, hn_5a, hn_5b, en_5⟩ := hr_4
    subst en_5
    refine lv_istore_n (lv' := [(3, .int (nI n_5)), (2, .int (nI nr)), (0, .ref h0), (1, .int (nI (nr + 1)))]) hx hb dJx4a65c_grow_92f84_30 rfl hl (by decide) rfl (fun ls hl => ?_)
    refine lv_aload_n hx hb dJx4a65c_grow_92f84_31 rfl (lv_at hl 2 rfl) ?_
    refine lv_aload_n hx hb dJx4a65c_grow_92f84_32 rfl (lv_at hl 2 rfl) ?_
    refine va_get (D := (dC, dI)) (ci := 0) (v := .ref ad) (C := RJx4a65c) (T := TJx4a65c) (N := 3) hx hb hts hinJx4a65c hown hK hP 0 rfl rfl 1 (by decide) (hts (.fieldLink RJx4a65c 9 "java/util/ArrayList" "elementData" "[Ljava/lang/Object;") (by decide +kernel)) (fun _ h9 => h9) rfl dJx4a65c_grow_92f84_33 ?_
    refine lv_iload_n hx hb dJx4a65c_grow_92f84_36 rfl (lv_at hl 0 rfl) ?_
    have hPc := hP.sub (ws' := [(ad, .inl (cO, nr, .inr (.inr (.inr (.inr g)))))]) [1] rfl
    have hDc := hD.sub (ws' := [(ad, .inl (cO, nr, .inr (.inr (.inr (.inr g)))))]) [1] (by decide) rfl
    have hKc := hK.sub (tys' := [(cO, .object "java/lang/Object")]) [0] rfl
    have hFc := va_free (wc := [(ad, .inl (cO, nr, .inr (.inr (.inr (.inr g)))))]) hD hS hA [1] rfl
    have hz_7 := hS.1
    refine va_callr (va_runS (As := [.ref ad, .int (nI n_5)]) (rest := [.ref h0]) ⟨hx, hb, hml, hown, hts⟩ (c_AS_copyOf l dC dI _ ad nr n_5 cO g ze mi (by omega) (by omega)) (va_cwS 2 hts gc_AL_growF2_AS_copyOf rfl rfl rfl (by decide +kernel) ⟨Nat.le_of_ble_eq_true rfl, Nat.le_of_ble_eq_true rfl⟩) ⟨fun a U g mk q => by obtain ⟨q0, q1, qP, qK, qD, q_hAL, q_hAs⟩ := q; exact ⟨q0, q1, qP, va_K.moved (u := U) (U := U.calling g mk a) (Vm.Alike.refl U.vm) qK, qD, okAL.moved (Vm.Alike.refl U.vm) q_hAL, q_hAs⟩, fun U hU hW => ⟨rfl, by rw [hU], by rw [hU]; exact hPc, va_K.moved hW.alike hKc, hDc.weaken (fun _ _ _ _ => trivial), by rw [hU]; exact okAL.pass hAL hW hS hFc, by rw [hU]; exact okAns.pass hAs hS hFc⟩⟩ rfl rfl hl.1 rfl (lv_room (Nat.le_of_ble_eq_true rfl)) dJx4a65c_grow_92f84_37 ⟨by decide, by decide⟩) hS (fun q _ h => hFc q h) hFc (fun u r_6 t H1 locs ht hvm hw hB hz1 hk1 hS => ?_)
    obtain ⟨er_6, g1_8, hf_9, hf_10, hP1, hK1, hD1⟩ := hB
    rw [ht] at hP1
    obtain ⟨hP, hD⟩ := va_join (wr := [(h0, .inr (0, [.int mc, .ref ad, .int (nI nr)]))]) (w1 := [(ad, .inl (cO, nr, .inr (.inr (.inr (.inr g))))), (r_6, .inl (cO, n_5, .inr (.inr (.inr (.inr g1_8)))))]) hP hD [1] [0] rfl rfl (by decide) (by decide) hk1 hFc hP1 hD1
    generalize H1 = H at hP hS ⊢
    have hP : va_P (dC, dI) vwCl [(h0, .inr (0, [.int mc, .ref ad, .int (nI nr)])), (ad, .inl (cO, nr, .inr (.inr (.inr (.inr g))))), (r_6, .inl (cO, n_5, .inr (.inr (.inr (.inr g1_8)))))] H := hP
    have hD : va_D A [(h0, .inr (0, [.int mc, .ref ad, .int (nI nr)])), (ad, .inl (cO, nr, .inr (.inr (.inr (.inr g))))), (r_6, .inl (cO, n_5, .inr (.inr (.inr (.inr g1_8)))))] := hD
    refine W.widen (k := 1) (n := 64) (by omega) (by omega) ?_
    refine lv_dup_x1 hx hb dJx4a65c_grow_92f84_40 rfl rfl ?_
    refine va_put (D := (dC, dI)) (ci := 0) (v := .ref r_6) (ty := .array (.object "java/lang/Object")) (C := RJx4a65c) (T := TJx4a65c) (N := 3) hx hb hts hinJx4a65c tyJx4a65c tyJx4a65c_ok nmJx4a65c hown hK hP hD hS 0 rfl rfl 1 (by decide) (hts (.fieldLink RJx4a65c 9 "java/util/ArrayList" "elementData" "[Ljava/lang/Object;") (by decide +kernel)) (fun _ h9 => h9) rfl (by decide +kernel) rfl rfl (Nat.le_of_ble_eq_true rfl) dJx4a65c_grow_92f84_41 (fun H locs hP hD hS => ?_)
    have hP : va_P (dC, dI) vwCl [(h0, .inr (0, [.int mc, .ref r_6, .int (nI nr)])), (ad, .inl (cO, nr, .inr (.inr (.inr (.inr g))))), (r_6, .inl (cO, n_5, .inr (.inr (.inr (.inr g1_8)))))] H := hP
    have hD : va_D A [(h0, .inr (0, [.int mc, .ref r_6, .int (nI nr)])), (ad, .inl (cO, nr, .inr (.inr (.inr (.inr g))))), (r_6, .inl (cO, n_5, .inr (.inr (.inr (.inr g1_8)))))] := hD
    have hP9 := hP.sub (ws' := [(h0, .inr (0, [.int mc, .ref r_6, .int (nI nr)])), (ad, .inl (cO, nr, .inr (.inr (.inr (.inr g))))), (r_6, .inl (cO, n_5, .inr (.inr (.inr (.inr g1_8)))))]) [0, 1, 2] rfl
    have hD9 := hD.sub (ws' := [(h0, .inr (0, [.int mc, .ref r_6, .int (nI nr)])), (ad, .inl (cO, nr, .inr (.inr (.inr (.inr g))))), (r_6, .inl (cO, n_5, .inr (.inr (.inr (.inr g1_8)))))]) [0, 1, 2] (by decide) rfl
    have hK9 := hK.sub (tys' := [(cO, .object "java/lang/Object")]) [0] rfl
    refine W.widen (k := 1) (n := 64) (by omega) (by omega) ?_
    exact W.aret (v := .ref r_6) hx hb hr (by first | exact Or.inl ⟨_, rfl⟩ | exact Or.inr ⟨_, rfl⟩) (Or.inr ⟨_, rfl⟩) (fun t ht hW => ⟨⟨(), r_6, rfl, trivial, rfl, n_5, g1_8, (by omega), (by omega), (by assumption), (okNew hAe hD 2 rfl [0, 1] rfl (by decide)), by rw [ht]; exact hP9, va_K.moved hW.alike hK9, hD9⟩, hS.F ht⟩) hS.2.2 dJx4a65c_grow_92f84_44
  · exact absurd (nI_lt (a := 0) q0 (by omega)) c_1
def wp_AL_growE : List Cond := .code yJx4a65c_grow_d5877 cJx4a65c_grow_d5877 1 (some (.array (.object "java/lang/Object"))) :: (([.fieldLink RJx4a65c 48 "java/util/ArrayList" "size" "I"] : List Cond) ++ wsJx4a65c0 ++ (wsV RJx4a65c 69 RJx4a65c yJx4a65c_grow_92f84 wp_AL_growE2))
theorem gc_AL_growE_AL_growE2 : GoodIn wp_AL_growE (wsV RJx4a65c 69 RJx4a65c yJx4a65c_grow_92f84 wp_AL_growE2) := goodIn_sub (fun _ h => List.mem_cons_of_mem _ (List.mem_append_right _ h)) (by decide +kernel)
set_option maxRecDepth 20000 in
theorem gi_AL_growE : GoodIn lw_tbl wp_AL_growE := (goodIn_ca (goodIn_ca (goodIn_r (.code yJx4a65c_grow_d5877 cJx4a65c_grow_d5877 1 (some (.array (.object "java/lang/Object"))) :: ([.fieldLink RJx4a65c 48 "java/util/ArrayList" "size" "I"] : List Cond)) [418, 91] (by decide +kernel) (by decide +kernel)) wi_wsJx4a65c) (goodIn_app (goodIn_r _ [419, 421, 14, 51] (by decide +kernel) (by decide +kernel)) gi_AL_growE2))
set_option maxHeartbeats 4000000 in
set_option maxRecDepth 100000 in
/-- grow() of an empty list -/
theorem c_AL_growE (l : Launch) (dC : Nat → ClassId) (dI : Nat → Nat → Nat) (sz : Nat) (h0 : Nat) (mc : Int32) (cO : ClassId) (ze : Nat) (mi : Nat) : Met l yJx4a65c_grow_d5877 wp_AL_growE ({ frames := 2, cells := 1, slots := 64, locals := 80 }) (va_Pc [.ref h0] (fun U => U.heap.size = sz ∧ va_P (dC, dI) vwCl [(h0, .inr (0, [.int mc, .ref ze, .int 0]))] U.heap ∧ va_K (dC, dI) vwCl [(cO, .object "java/lang/Object")] U ∧ va_D (fun _ => True) [(h0, .inr (0, [.int mc, .ref ze, .int 0]))] ∧ okAL ze mi (va_A [(h0, .inr (0, [.int mc, .ref ze, .int 0]))] sz) U U.heap)) (va_Qr (fun (_ : Unit) => True) (fun (_ : Unit) (ra : Nat) (t : State) => ra = ra ∧ (sz ≤ ra) ∧ va_P (dC, dI) vwCl [(h0, .inr (0, [.int mc, .ref ra, .int 0])), (ra, .inl (cO, 10, .inr (.inr (.inr (.inr (fun _ => none))))))] t.heap ∧ va_K (dC, dI) vwCl [(cO, .object "java/lang/Object")] t ∧ va_D (va_A [(h0, .inr (0, [.int mc, .ref ze, .int 0]))] sz) [(h0, .inr (0, [.int mc, .ref ra, .int 0])), (ra, .inl (cO, 10, .inr (.inr (.inr (.inr (fun _ => none))))))]) (va_A [(h0, .inr (0, [.int mc, .ref ze, .int 0]))] sz)) 1 64 (va_A [(h0, .inr (0, [.int mc, .ref ze, .int 0]))] sz) := by
  refine Met.ofW (cc := cJx4a65c_grow_d5877) (maxL := 1) (ret := (some (.array (.object "java/lang/Object")))) (by decide) rfl ?_
  intro p e s m args below meth c s₁ B hml hv
  obtain ⟨rfl, hsz, hP, hK, hD0, hAL⟩ := hv
  have hx := B.exec
  have hb := B.bytes
  have hr := B.returns
  have hts := atoms_spec (ws := wp_AL_growE) B.pre
  have hown : s.vm.findClass RJx4a65c = some m.cls := findClass_of_methodNamed B.named
  have hlocks := B.notSynchronized
  subst hsz
  have hD := hD0.self (sz := s.heap.size)
  generalize hAe : va_A [(h0, .inr (0, [.int mc, .ref ze, .int 0]))] s.heap.size = A at hD hAL ⊢
  have hA : ∀ q : Nat, s.heap.size ≤ q → A q := fun q h => by rw [← hAe]; exact Or.inr h
  have hS : va_S A s.heap s.heap [] := va_S.rf
  have hP : va_P (dC, dI) vwCl [(h0, .inr (0, [.int mc, .ref ze, .int 0]))] s.heap := hP
  have hl := lv_entry ([.ref h0]) (n := 1) (Nat.le_of_ble_eq_true rfl)
  rw [lg_entry_eq]
  generalize (lg_sl ([.ref h0]) ++ List.replicate (1 - (lg_sl ([.ref h0])).length) Slot.unset).toArray = ls at hl ⊢
  have hl : lv_has ls 1 [(0, .ref h0)] := hl
  have hinJx4a65c : ∀ w ∈ u_ws RJx4a65c TJx4a65c 3, w ∈ wp_AL_growE := fun _ h => List.mem_cons_of_mem _ (List.mem_append_left _ (List.mem_append_right _ h))
  have hZT : va_T (.object "java/lang/Object") ze 0 (fun _ => .null) A s s.heap ∧ True := ⟨hAL.2.1, trivial⟩
  refine lv_aload_n hx hb dJx4a65c_grow_d5877_0 rfl (lv_at hl 0 rfl) ?_
  refine lv_aload_n hx hb dJx4a65c_grow_d5877_1 rfl (lv_at hl 0 rfl) ?_
  refine va_get (D := (dC, dI)) (ci := 0) (v := .int 0) (C := RJx4a65c) (T := TJx4a65c) (N := 3) hx hb hts hinJx4a65c hown hK hP 0 rfl rfl 2 (by decide) (hts (.fieldLink RJx4a65c 48 "java/util/ArrayList" "size" "I") (by decide +kernel)) (fun _ h9 => h9) rfl dJx4a65c_grow_d5877_2 ?_
  refine lv_iconst (v := 1) hx hb dJx4a65c_grow_d5877_5 (by decide) ?_
  refine lv_iadd hx hb dJx4a65c_grow_d5877_6 ?_
  refine lv_topi (fun x_1 ex_1 => ?_)
  obtain rfl : x_1 = 1 := by rw [ex_1]; decide
  have hPc := hP.sub (ws' := [(h0, .inr (0, [.int mc, .ref ze, .int 0]))]) [0] rfl
  have hDc := hD.sub (ws' := [(h0, .inr (0, [.int mc, .ref ze, .int 0]))]) [0] (by decide) rfl
  have hKc := hK.sub (tys' := [(cO, .object "java/lang/Object")]) [0] rfl
  have hFc := va_free (wc := [(h0, .inr (0, [.int mc, .ref ze, .int 0]))]) hD hS hA [0] rfl
  have hz_3 := hS.1
  refine va_callr (va_runV (As := [.int 1]) (rest := []) ⟨hx, hb, hml, hown, hts⟩ (c_AL_growE2 l dC dI _ h0 mc cO ze mi) (cwV 1 hts gc_AL_growE_AL_growE2 rfl rfl rfl (by decide +kernel) ⟨Nat.le_of_ble_eq_true rfl, Nat.le_of_ble_eq_true rfl⟩) ⟨fun a U g mk q => by obtain ⟨q0, q1, qP, qK, qD, q_hAL⟩ := q; exact ⟨q0, q1, qP, va_K.moved (u := U) (U := U.calling g mk a) (Vm.Alike.refl U.vm) qK, qD, okAL.moved (Vm.Alike.refl U.vm) q_hAL⟩, va_recv hKc hPc (ci := 0) (q0 := 0) rfl rfl, fun U hU hW => ⟨rfl, by rw [hU], by rw [hU]; exact hPc, va_K.moved hW.alike hKc, hDc.weaken (fun _ _ _ _ => trivial), by rw [hU]; exact okAL.pass hAL hW hS hFc⟩⟩ rfl rfl hl.1 rfl (lv_room (Nat.le_of_ble_eq_true rfl)) dJx4a65c_grow_d5877_7 ⟨by decide, by decide⟩) hS (fun q _ h => hFc q h) hFc (fun u r_2 t H1 locs ht hvm hw hB hz1 hk1 hS => ?_)
  obtain ⟨er_2, hf_4, hP1, hK1, hD1⟩ := hB
  rw [ht] at hP1
  obtain ⟨hP, hD⟩ := va_join (wr := []) (w1 := [(h0, .inr (0, [.int mc, .ref r_2, .int 0])), (r_2, .inl (cO, 10, .inr (.inr (.inr (.inr (fun _ => none))))))]) hP hD [0] [] rfl rfl (by decide) (by decide) hk1 hFc hP1 hD1
  generalize H1 = H at hP hS ⊢
  have hP : va_P (dC, dI) vwCl [(h0, .inr (0, [.int mc, .ref r_2, .int 0])), (r_2, .inl (cO, 10, .inr (.inr (.inr (.inr (fun _ => none))))))] H := hP
  have hD : va_D A [(h0, .inr (0, [.int mc, .ref r_2, .int 0])), (r_2, .inl (cO, 10, .inr (.inr (.inr (.inr (fun _ => none))))))] := hD
  refine W.widen (k := 1) (n := 64) (by omega) (by omega) ?_
  have hP9 := hP.sub (ws' := [(h0, .inr (0, [.int mc, .ref r_2, .int 0])), (r_2, .inl (cO, 10, .inr (.inr (.inr (.inr (fun _ => none))))))]) [0, 1] rfl
  have hD9 := hD.sub (ws' := [(h0, .inr (0, [.int mc, .ref r_2, .int 0])), (r_2, .inl (cO, 10, .inr (.inr (.inr (.inr (fun _ => none))))))]) [0, 1] (by decide) rfl
  have hK9 := hK.sub (tys' := [(cO, .object "java/lang/Object")]) [0] rfl
  refine W.widen (k := 1) (n := 64) (by omega) (by omega) ?_
  exact W.aret (v := .ref r_2) hx hb hr (by first | exact Or.inl ⟨_, rfl⟩ | exact Or.inr ⟨_, rfl⟩) (Or.inr ⟨_, rfl⟩) (fun t ht hW => ⟨⟨(), r_2, rfl, trivial, rfl, (okNew hAe hD 1 rfl [0] rfl (by decide)), by rw [ht]; exact hP9, va_K.moved hW.alike hK9, hD9⟩, hS.F ht⟩) hS.2.2 dJx4a65c_grow_d5877_10
def wp_AL_growF : List Cond := .code yJx4a65c_grow_d5877 cJx4a65c_grow_d5877 1 (some (.array (.object "java/lang/Object"))) :: (([.fieldLink RJx4a65c 48 "java/util/ArrayList" "size" "I"] : List Cond) ++ wsJx4a65c0 ++ (wsV RJx4a65c 69 RJx4a65c yJx4a65c_grow_92f84 wp_AL_growF2))
theorem gc_AL_growF_AL_growF2 : GoodIn wp_AL_growF (wsV RJx4a65c 69 RJx4a65c yJx4a65c_grow_92f84 wp_AL_growF2) := goodIn_sub (fun _ h => List.mem_cons_of_mem _ (List.mem_append_right _ h)) (by decide +kernel)
set_option maxRecDepth 20000 in
theorem gi_AL_growF : GoodIn lw_tbl wp_AL_growF := (goodIn_ca (goodIn_ca (goodIn_r (.code yJx4a65c_grow_d5877 cJx4a65c_grow_d5877 1 (some (.array (.object "java/lang/Object"))) :: ([.fieldLink RJx4a65c 48 "java/util/ArrayList" "size" "I"] : List Cond)) [418, 91] (by decide +kernel) (by decide +kernel)) wi_wsJx4a65c) (goodIn_app (goodIn_r _ [419, 421, 14, 51] (by decide +kernel) (by decide +kernel)) gi_AL_growF2))
set_option maxHeartbeats 4000000 in
set_option maxRecDepth 100000 in
/-- grow() of a full list -/
theorem c_AL_growF (l : Launch) (dC : Nat → ClassId) (dI : Nat → Nat → Nat) (sz : Nat) (h0 : Nat) (mc : Int32) (ad : Nat) (nr : Nat) (cO : ClassId) (g : Nat → Option Nat) (ze : Nat) (mi : Nat) (q0 : 0 < nr) (q1 : nr ≤ 40) : Met l yJx4a65c_grow_d5877 wp_AL_growF ({ frames := 4, cells := 1, slots := 64, locals := 160 }) (va_Pc [.ref h0] (fun U => U.heap.size = sz ∧ va_P (dC, dI) vwCl [(h0, .inr (0, [.int mc, .ref ad, .int (nI nr)])), (ad, .inl (cO, nr, .inr (.inr (.inr (.inr g)))))] U.heap ∧ va_K (dC, dI) vwCl [(cO, .object "java/lang/Object")] U ∧ va_D (fun _ => True) [(h0, .inr (0, [.int mc, .ref ad, .int (nI nr)])), (ad, .inl (cO, nr, .inr (.inr (.inr (.inr g)))))] ∧ okAL ze mi (va_A [(h0, .inr (0, [.int mc, .ref ad, .int (nI nr)])), (ad, .inl (cO, nr, .inr (.inr (.inr (.inr g)))))] sz) U U.heap ∧ okAns (dC, dI) vwCl g nr (va_A [(h0, .inr (0, [.int mc, .ref ad, .int (nI nr)])), (ad, .inl (cO, nr, .inr (.inr (.inr (.inr g)))))] sz) U.heap)) (va_Qr (fun (_ : Unit) => True) (fun (_ : Unit) (ra : Nat) (t : State) => ra = ra ∧ ∃ (cap2 : Nat), ∃ (g1 : Nat → Option Nat), (nr < cap2) ∧ (cap2 ≤ 64) ∧ (∀ j, j < nr → g1 j = g j) ∧ (sz ≤ ra) ∧ va_P (dC, dI) vwCl [(h0, .inr (0, [.int mc, .ref ra, .int (nI nr)])), (ad, .inl (cO, nr, .inr (.inr (.inr (.inr g))))), (ra, .inl (cO, cap2, .inr (.inr (.inr (.inr g1)))))] t.heap ∧ va_K (dC, dI) vwCl [(cO, .object "java/lang/Object")] t ∧ va_D (va_A [(h0, .inr (0, [.int mc, .ref ad, .int (nI nr)])), (ad, .inl (cO, nr, .inr (.inr (.inr (.inr g)))))] sz) [(h0, .inr (0, [.int mc, .ref ra, .int (nI nr)])), (ad, .inl (cO, nr, .inr (.inr (.inr (.inr g))))), (ra, .inl (cO, cap2, .inr (.inr (.inr (.inr g1)))))]) (va_A [(h0, .inr (0, [.int mc, .ref ad, .int (nI nr)])), (ad, .inl (cO, nr, .inr (.inr (.inr (.inr g)))))] sz)) 1 64 (va_A [(h0, .inr (0, [.int mc, .ref ad, .int (nI nr)])), (ad, .inl (cO, nr, .inr (.inr (.inr (.inr g)))))] sz) := by
  refine Met.ofW (cc := cJx4a65c_grow_d5877) (maxL := 1) (ret := (some (.array (.object "java/lang/Object")))) (by decide) rfl ?_
  intro p e s m args below meth c s₁ B hml hv
  obtain ⟨rfl, hsz, hP, hK, hD0, hAL, hAs⟩ := hv
  have hx := B.exec
  have hb := B.bytes
  have hr := B.returns
  have hts := atoms_spec (ws := wp_AL_growF) B.pre
  have hown : s.vm.findClass RJx4a65c = some m.cls := findClass_of_methodNamed B.named
  have hlocks := B.notSynchronized
  subst hsz
  have hD := hD0.self (sz := s.heap.size)
  generalize hAe : va_A [(h0, .inr (0, [.int mc, .ref ad, .int (nI nr)])), (ad, .inl (cO, nr, .inr (.inr (.inr (.inr g)))))] s.heap.size = A at hD hAL hAs ⊢
  have hA : ∀ q : Nat, s.heap.size ≤ q → A q := fun q h => by rw [← hAe]; exact Or.inr h
  have hS : va_S A s.heap s.heap [] := va_S.rf
  have hP : va_P (dC, dI) vwCl [(h0, .inr (0, [.int mc, .ref ad, .int (nI nr)])), (ad, .inl (cO, nr, .inr (.inr (.inr (.inr g)))))] s.heap := hP
  have hl := lv_entry ([.ref h0]) (n := 1) (Nat.le_of_ble_eq_true rfl)
  rw [lg_entry_eq]
  generalize (lg_sl ([.ref h0]) ++ List.replicate (1 - (lg_sl ([.ref h0])).length) Slot.unset).toArray = ls at hl ⊢
  have hl : lv_has ls 1 [(0, .ref h0)] := hl
  have hinJx4a65c : ∀ w ∈ u_ws RJx4a65c TJx4a65c 3, w ∈ wp_AL_growF := fun _ h => List.mem_cons_of_mem _ (List.mem_append_left _ (List.mem_append_right _ h))
  have hZT : va_T (.object "java/lang/Object") ze 0 (fun _ => .null) A s s.heap ∧ True := ⟨hAL.2.1, trivial⟩
  refine lv_aload_n hx hb dJx4a65c_grow_d5877_0 rfl (lv_at hl 0 rfl) ?_
  refine lv_aload_n hx hb dJx4a65c_grow_d5877_1 rfl (lv_at hl 0 rfl) ?_
  refine va_get (D := (dC, dI)) (ci := 0) (v := .int (nI nr)) (C := RJx4a65c) (T := TJx4a65c) (N := 3) hx hb hts hinJx4a65c hown hK hP 0 rfl rfl 2 (by decide) (hts (.fieldLink RJx4a65c 48 "java/util/ArrayList" "size" "I") (by decide +kernel)) (fun _ h9 => h9) rfl dJx4a65c_grow_d5877_2 ?_
  refine lv_iconst (v := 1) hx hb dJx4a65c_grow_d5877_5 (by decide) ?_
  refine lv_iadd hx hb dJx4a65c_grow_d5877_6 ?_
  refine lv_topi (fun x_1 ex_1 => ?_)
  obtain rfl : x_1 = (nI (nr + 1)) := by rw [ex_1]; exact nI_add _ _
  have hPc := hP.sub (ws' := [(h0, .inr (0, [.int mc, .ref ad, .int (nI nr)])), (ad, .inl (cO, nr, .inr (.inr (.inr (.inr g)))))]) [0, 1] rfl
  have hDc := hD.sub (ws' := [(h0, .inr (0, [.int mc, .ref ad, .int (nI nr)])), (ad, .inl (cO, nr, .inr (.inr (.inr (.inr g)))))]) [0, 1] (by decide) rfl
  have hKc := hK.sub (tys' := [(cO, .object "java/lang/Object")]) [0] rfl
  have hFc := va_free (wc := [(h0, .inr (0, [.int mc, .ref ad, .int (nI nr)])), (ad, .inl (cO, nr, .inr (.inr (.inr (.inr g)))))]) hD hS hA [0, 1] rfl
  have hz_3 := hS.1
  refine va_callr (va_runV (As := [.int (nI (nr + 1))]) (rest := []) ⟨hx, hb, hml, hown, hts⟩ (c_AL_growF2 l dC dI _ h0 mc ad nr cO g ze mi (by omega) (by omega)) (cwV 1 hts gc_AL_growF_AL_growF2 rfl rfl rfl (by decide +kernel) ⟨Nat.le_of_ble_eq_true rfl, Nat.le_of_ble_eq_true rfl⟩) ⟨fun a U g mk q => by obtain ⟨q0, q1, qP, qK, qD, q_hAL, q_hAs⟩ := q; exact ⟨q0, q1, qP, va_K.moved (u := U) (U := U.calling g mk a) (Vm.Alike.refl U.vm) qK, qD, okAL.moved (Vm.Alike.refl U.vm) q_hAL, q_hAs⟩, va_recv hKc hPc (ci := 0) (q0 := 0) rfl rfl, fun U hU hW => ⟨rfl, by rw [hU], by rw [hU]; exact hPc, va_K.moved hW.alike hKc, hDc.weaken (fun _ _ _ _ => trivial), by rw [hU]; exact okAL.pass hAL hW hS hFc, by rw [hU]; exact okAns.pass hAs hS hFc⟩⟩ rfl rfl hl.1 rfl (lv_room (Nat.le_of_ble_eq_true rfl)) dJx4a65c_grow_d5877_7 ⟨by decide, by decide⟩) hS (fun q _ h => hFc q h) hFc (fun u r_2 t H1 locs ht hvm hw hB hz1 hk1 hS => ?_)
  obtain ⟨er_2, cap2_4, g1_5, hf_6, hf_7, hf_8, hf_9, hP1, hK1, hD1⟩ := hB
  rw [ht] at hP1
  obtain ⟨hP, hD⟩ := va_join (wr := []) (w1 := [(h0, .inr (0, [.int mc, .ref r_2, .int (nI nr)])), (ad, .inl (cO, nr, .inr (.inr (.inr (.inr g))))), (r_2, .inl (cO, cap2_4, .inr (.inr (.inr (.inr g1_5)))))]) hP hD [0, 1] [] rfl rfl (by decide) (by decide) hk1 hFc hP1 hD1
  generalize H1 = H at hP hS ⊢
  have hP : va_P (dC, dI) vwCl [(h0, .inr (0, [.int mc, .ref r_2, .int (nI nr)])), (ad, .inl (cO, nr, .inr (.inr (.inr (.inr g))))), (r_2, .inl (cO, cap2_4, .inr (.inr (.inr (.inr g1_5)))))] H := hP
  have hD : va_D A [(h0, .inr (0, [.int mc, .ref r_2, .int (nI nr)])), (ad, .inl (cO, nr, .inr (.inr (.inr (.inr g))))), (r_2, .inl (cO, cap2_4, .inr (.inr (.inr (.inr g1_5)))))] := hD
  refine W.widen (k := 1) (n := 64) (by omega) (by omega) ?_
  have hP9 := hP.sub (ws' := [(h0, .inr (0, [.int mc, .ref r_2, .int (nI nr)])), (ad, .inl (cO, nr, .inr (.inr (.inr (.inr g))))), (r_2, .inl (cO, cap2_4, .inr (.inr (.inr (.inr g1_5)))))]) [0, 1, 2] rfl
  have hD9 := hD.sub (ws' := [(h0, .inr (0, [.int mc, .ref r_2, .int (nI nr)])), (ad, .inl (cO, nr, .inr (.inr (.inr (.inr g))))), (r_2, .inl (cO, cap2_4, .inr (.inr (.inr (.inr g1_5)))))]) [0, 1, 2] (by decide) rfl
  have hK9 := hK.sub (tys' := [(cO, .object "java/lang/Object")]) [0] rfl
  refine W.widen (k := 1) (n := 64) (by omega) (by omega) ?_
  exact W.aret (v := .ref r_2) hx hb hr (by first | exact Or.inl ⟨_, rfl⟩ | exact Or.inr ⟨_, rfl⟩) (Or.inr ⟨_, rfl⟩) (fun t ht hW => ⟨⟨(), r_2, rfl, trivial, rfl, cap2_4, g1_5, (by omega), (by omega), (by assumption), (okNew hAe hD 2 rfl [0, 1] rfl (by decide)), by rw [ht]; exact hP9, va_K.moved hW.alike hK9, hD9⟩, hS.F ht⟩) hS.2.2 dJx4a65c_grow_d5877_10
