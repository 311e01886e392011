theorem dJ3_checkIndex_8e157_0 : decode cJ3_checkIndex_8e157 0 = .ok (.iload_n 0, 1) := by decide +kernel
theorem dJ3_checkIndex_8e157_1 : decode cJ3_checkIndex_8e157 1 = .ok (.ifCond .lt 8, 3) := by decide +kernel
theorem dJ3_checkIndex_8e157_4 : decode cJ3_checkIndex_8e157 4 = .ok (.iload_n 0, 1) := by decide +kernel
theorem dJ3_checkIndex_8e157_5 : decode cJ3_checkIndex_8e157 5 = .ok (.iload_n 1, 1) := by decide +kernel
theorem dJ3_checkIndex_8e157_6 : decode cJ3_checkIndex_8e157 6 = .ok (.if_icmp .lt 10, 3) := by decide +kernel
theorem dJ3_checkIndex_8e157_16 : decode cJ3_checkIndex_8e157 16 = .ok (.iload_n 0, 1) := by decide +kernel
theorem dJ3_checkIndex_8e157_17 : decode cJ3_checkIndex_8e157 17 = .ok (.ireturn, 1) := by decide +kernel
theorem dJ15_checkIndex_7cf53_0 : decode cJ15_checkIndex_7cf53 0 = .ok (.iload_n 0, 1) := by decide +kernel
theorem dJ15_checkIndex_7cf53_1 : decode cJ15_checkIndex_7cf53 1 = .ok (.iload_n 1, 1) := by decide +kernel
theorem dJ15_checkIndex_7cf53_2 : decode cJ15_checkIndex_7cf53 2 = .ok (.aconst_null, 1) := by decide +kernel
theorem dJ15_checkIndex_7cf53_3 : decode cJ15_checkIndex_7cf53 3 = .ok (.invokestatic 105, 3) := by decide +kernel
theorem dJ15_checkIndex_7cf53_6 : decode cJ15_checkIndex_7cf53 6 = .ok (.ireturn, 1) := by decide +kernel
theorem dJx4a65c_elementData_915e3_0 : decode cJx4a65c_elementData_915e3 0 = .ok (.aload_n 0, 1) := by decide +kernel
theorem dJx4a65c_elementData_915e3_1 : decode cJx4a65c_elementData_915e3 1 = .ok (.getfield 9, 3) := by decide +kernel
theorem dJx4a65c_elementData_915e3_4 : decode cJx4a65c_elementData_915e3 4 = .ok (.iload_n 1, 1) := by decide +kernel
theorem dJx4a65c_elementData_915e3_5 : decode cJx4a65c_elementData_915e3 5 = .ok (.aaload, 1) := by decide +kernel
theorem dJx4a65c_elementData_915e3_6 : decode cJx4a65c_elementData_915e3 6 = .ok (.areturn, 1) := by decide +kernel
theorem dJx4a65c_get_915e3_0 : decode cJx4a65c_get_915e3 0 = .ok (.iload_n 1, 1) := by decide +kernel
theorem dJx4a65c_get_915e3_1 : decode cJx4a65c_get_915e3 1 = .ok (.aload_n 0, 1) := by decide +kernel
theorem dJx4a65c_get_915e3_2 : decode cJx4a65c_get_915e3 2 = .ok (.getfield 48, 3) := by decide +kernel
theorem dJx4a65c_get_915e3_5 : decode cJx4a65c_get_915e3 5 = .ok (.invokestatic 118, 3) := by decide +kernel
theorem dJx4a65c_get_915e3_8 : decode cJx4a65c_get_915e3 8 = .ok (.pop, 1) := by decide +kernel
theorem dJx4a65c_get_915e3_9 : decode cJx4a65c_get_915e3 9 = .ok (.aload_n 0, 1) := by decide +kernel
theorem dJx4a65c_get_915e3_10 : decode cJx4a65c_get_915e3 10 = .ok (.iload_n 1, 1) := by decide +kernel
theorem dJx4a65c_get_915e3_11 : decode cJx4a65c_get_915e3 11 = .ok (.invokevirtual 123, 3) := by decide +kernel
theorem dJx4a65c_get_915e3_14 : decode cJx4a65c_get_915e3 14 = .ok (.areturn, 1) := by decide +kernel
def wp_J3_check : List Cond := .code yJ3_checkIndex_8e157 cJ3_checkIndex_8e157 3 (some .int) :: (([] : List Cond))
set_option maxRecDepth 20000 in
theorem gi_J3_check : GoodIn lw_tbl wp_J3_check := (goodIn_r (.code yJ3_checkIndex_8e157 cJ3_checkIndex_8e157 3 (some .int) :: ([] : List Cond)) [307] (by decide +kernel) (by decide +kernel))
set_option maxHeartbeats 4000000 in
set_option maxRecDepth 100000 in
/-- Preconditions.checkIndex -/
theorem c_J3_check (l : Launch) (dC : Nat → ClassId) (dI : Nat → Nat → Nat) (sz : Nat) (jj : Nat) (nr : Nat) (qj : jj < nr) (qn : nr < 2 ^ 31) : Met l yJ3_checkIndex_8e157 wp_J3_check ({ frames := 0, cells := 0, slots := 0, locals := 0 }) (va_Pc [.int (nI jj), .int (nI nr), .null] (fun U => U.heap.size = sz ∧ va_P (dC, dI) vwCl [] U.heap ∧ va_K (dC, dI) vwCl [] U ∧ va_D (fun _ => True) [])) (va_Qi (fun (r : Int32) (_ : Unit) => r = (nI jj)) (fun (_ : Unit) (t : State) => va_P (dC, dI) vwCl [] t.heap ∧ va_K (dC, dI) vwCl [] t ∧ va_D (va_A [] sz) []) (va_A [] sz)) 0 0 (va_A [] sz) := by
  refine Met.ofW (cc := cJ3_checkIndex_8e157) (maxL := 3) (ret := (some .int)) (by decide) rfl ?_
  intro p e s m args below meth c s₁ B hml hv
  obtain ⟨rfl, hsz, hP, hK, hD0⟩ := hv
  have hx := B.exec
  have hb := B.bytes
  have hr := B.returns
  have hts := atoms_spec (ws := wp_J3_check) B.pre
  have hown : s.vm.findClass RJ3 = some m.cls := findClass_of_methodNamed B.named
  have hlocks := B.notSynchronized
  subst hsz
  have hD := hD0.self (sz := s.heap.size)
  generalize hAe : va_A [] s.heap.size = A at hD ⊢
  have hA : ∀ q : Nat, s.heap.size ≤ q → A q := fun q h => by rw [← hAe]; exact Or.inr h
  have hS : va_S A s.heap s.heap [] := va_S.rf
  have hP : va_P (dC, dI) vwCl [] s.heap := hP
  have hl := lv_entry ([.int (nI jj), .int (nI nr), .null]) (n := 3) (Nat.le_of_ble_eq_true rfl)
  rw [lg_entry_eq]
  generalize (lg_sl ([.int (nI jj), .int (nI nr), .null]) ++ List.replicate (3 - (lg_sl ([.int (nI jj), .int (nI nr), .null])).length) Slot.unset).toArray = ls at hl ⊢
  have hl : lv_has ls 3 [(0, .int (nI jj)), (1, .int (nI nr)), (2, .null)] := hl
  refine lv_iload_n hx hb dJ3_checkIndex_8e157_0 rfl (lv_at hl 0 rfl) ?_
  refine lv_if_lt (tgt := 9) hx hb dJ3_checkIndex_8e157_1 (by decide) (fun c_1 => ?_) (fun c_1 => ?_)
  · exact absurd c_1 (nI_pos (by omega))
  · have c_1 : ¬ (jj < 0) := fun h => c_1 ((nI_ltI (a := jj) (b := 0) (by omega) (by omega)).mpr h)
    refine lv_iload_n hx hb dJ3_checkIndex_8e157_4 rfl (lv_at hl 0 rfl) ?_
    refine lv_iload_n hx hb dJ3_checkIndex_8e157_5 rfl (lv_at hl 1 rfl) ?_
    refine lv_icmp_lt (tgt := 16) hx hb dJ3_checkIndex_8e157_6 (by decide) (fun c_2 => ?_) (fun c_2 => ?_)
    · have c_2 : jj < nr := (nI_ltI (a := jj) (b := nr) (by omega) (by omega)).mp c_2
      refine lv_iload_n hx hb dJ3_checkIndex_8e157_16 rfl (lv_at hl 0 rfl) ?_
      have hP9 := hP.sub (ws' := []) [] rfl
      have hD9 := hD.sub (ws' := []) [] (by decide) rfl
      have hK9 := hK.sub (tys' := []) [] rfl
      exact W.iret (v := (nI jj)) hx hb hr (fun t ht hW => ⟨⟨(nI jj), (), rfl, rfl, by rw [ht]; exact hP9, va_K.moved hW.alike hK9, hD9⟩, hS.F ht⟩) hS.2.2 dJ3_checkIndex_8e157_17
    · exact absurd (nI_lt qj qn) c_2
def wp_J15_check : List Cond := .code yJ15_checkIndex_7cf53 cJ15_checkIndex_7cf53 2 (some .int) :: (([] : List Cond) ++ (va_wsS RJ15 105 yJ3_checkIndex_8e157 wp_J3_check))
theorem gc_J15_check_J3_check : GoodIn wp_J15_check (va_wsS RJ15 105 yJ3_checkIndex_8e157 wp_J3_check) := goodIn_sub (fun _ h => List.mem_cons_of_mem _ (List.mem_append_right _ h)) (by decide +kernel)
set_option maxRecDepth 20000 in
theorem gi_J15_check : GoodIn lw_tbl wp_J15_check := (goodIn_ca (goodIn_r (.code yJ15_checkIndex_7cf53 cJ15_checkIndex_7cf53 2 (some .int) :: ([] : List Cond)) [500] (by decide +kernel) (by decide +kernel)) (goodIn_app (goodIn_r _ [501, 306, 60] (by decide +kernel) (by decide +kernel)) gi_J3_check))
set_option maxHeartbeats 4000000 in
set_option maxRecDepth 100000 in
/-- Objects.checkIndex -/
theorem c_J15_check (l : Launch) (dC : Nat → ClassId) (dI : Nat → Nat → Nat) (sz : Nat) (jj : Nat) (nr : Nat) (qj : jj < nr) (qn : nr < 2 ^ 31) : Met l yJ15_checkIndex_7cf53 wp_J15_check ({ frames := 1, cells := 0, slots := 0, locals := 30 }) (va_Pc [.int (nI jj), .int (nI nr)] (fun U => U.heap.size = sz ∧ va_P (dC, dI) vwCl [] U.heap ∧ va_K (dC, dI) vwCl [] U ∧ va_D (fun _ => True) [])) (va_Qi (fun (r : Int32) (_ : Unit) => r = (nI jj)) (fun (_ : Unit) (t : State) => va_P (dC, dI) vwCl [] t.heap ∧ va_K (dC, dI) vwCl [] t ∧ va_D (va_A [] sz) []) (va_A [] sz)) 0 0 (va_A [] sz) := by
  refine Met.ofW (cc := cJ15_checkIndex_7cf53) (maxL := 2) (ret := (some .int)) (by decide) rfl ?_
  intro p e s m args below meth c s₁ B hml hv
  obtain ⟨rfl, hsz, hP, hK, hD0⟩ := hv
  have hx := B.exec
  have hb := B.bytes
  have hr := B.returns
  have hts := atoms_spec (ws := wp_J15_check) B.pre
  have hown : s.vm.findClass RJ15 = some m.cls := findClass_of_methodNamed B.named
  have hlocks := B.notSynchronized
  subst hsz
  have hD := hD0.self (sz := s.heap.size)
  generalize hAe : va_A [] s.heap.size = A at hD ⊢
  have hA : ∀ q : Nat, s.heap.size ≤ q → A q := fun q h => by rw [← hAe]; exact Or.inr h
  have hS : va_S A s.heap s.heap [] := va_S.rf
  have hP : va_P (dC, dI) vwCl [] s.heap := hP
  have hl := lv_entry ([.int (nI jj), .int (nI nr)]) (n := 2) (Nat.le_of_ble_eq_true rfl)
  rw [lg_entry_eq]
  generalize (lg_sl ([.int (nI jj), .int (nI nr)]) ++ List.replicate (2 - (lg_sl ([.int (nI jj), .int (nI nr)])).length) Slot.unset).toArray = ls at hl ⊢
  have hl : lv_has ls 2 [(0, .int (nI jj)), (1, .int (nI nr))] := hl
  refine lv_iload_n hx hb dJ15_checkIndex_7cf53_0 rfl (lv_at hl 0 rfl) ?_
  refine lv_iload_n hx hb dJ15_checkIndex_7cf53_1 rfl (lv_at hl 1 rfl) ?_
  refine lv_null hx hb dJ15_checkIndex_7cf53_2 ?_
  have hPc := hP.sub (ws' := []) [] rfl
  have hDc := hD.sub (ws' := []) [] (by decide) rfl
  have hKc := hK.sub (tys' := []) [] rfl
  have hFc := va_free (wc := []) hD hS hA [] rfl
  refine va_calli (va_runS (As := [.int (nI jj), .int (nI nr), .null]) (rest := []) ⟨hx, hb, hml, hown, hts⟩ (c_J3_check l dC dI _ jj nr (by omega) (by omega)) (va_cwS 3 hts gc_J15_check_J3_check rfl rfl rfl (by decide +kernel) ⟨Nat.le_of_ble_eq_true rfl, Nat.le_of_ble_eq_true rfl⟩) ⟨fun a U g mk q => by obtain ⟨q0, q1, qP, qK, qD⟩ := q; exact ⟨q0, q1, qP, va_K.moved (u := U) (U := U.calling g mk a) (Vm.Alike.refl U.vm) qK, qD⟩, fun U hU hW => ⟨rfl, by rw [hU], by rw [hU]; exact hPc, va_K.moved hW.alike hKc, hDc.weaken (fun _ _ _ _ => trivial)⟩⟩ rfl rfl hl.1 rfl (lv_room (Nat.le_of_ble_eq_true rfl)) dJ15_checkIndex_7cf53_3 ⟨Nat.zero_le _, Nat.zero_le _⟩) hS (fun q _ h => hFc q h) hFc (fun r_1 u t H1 locs ht hvm hw hB hz1 hk1 hS => ?_)
  obtain ⟨hP1, hK1, hD1⟩ := hB
  rw [ht] at hP1
  obtain ⟨hP, hD⟩ := va_join (wr := []) (w1 := []) hP hD [] [] rfl rfl (by decide) (by decide) hk1 hFc hP1 hD1
  generalize H1 = H at hP hS ⊢
  have hP : va_P (dC, dI) vwCl [] H := hP
  have hD : va_D A [] := hD
  obtain rfl : r_1 = (nI jj) := hw
  have hP9 := hP.sub (ws' := []) [] rfl
  have hD9 := hD.sub (ws' := []) [] (by decide) rfl
  have hK9 := hK.sub (tys' := []) [] rfl
  exact W.iret (v := (nI jj)) hx hb hr (fun t ht hW => ⟨⟨(nI jj), (), rfl, rfl, by rw [ht]; exact hP9, va_K.moved hW.alike hK9, hD9⟩, hS.F ht⟩) hS.2.2 dJ15_checkIndex_7cf53_6
def wp_AL_elem : List Cond := .code yJx4a65c_elementData_915e3 cJx4a65c_elementData_915e3 2 (some (.object "java/lang/Object")) :: (([.fieldLink RJx4a65c 9 "java/util/ArrayList" "elementData" "[Ljava/lang/Object;"] : List Cond) ++ wsJx4a65c0)
set_option maxRecDepth 20000 in
theorem gi_AL_elem : GoodIn lw_tbl wp_AL_elem := (goodIn_ca (goodIn_r (.code yJx4a65c_elementData_915e3 cJx4a65c_elementData_915e3 2 (some (.object "java/lang/Object")) :: ([.fieldLink RJx4a65c 9 "java/util/ArrayList" "elementData" "[Ljava/lang/Object;"] : List Cond)) [505, 90] (by decide +kernel) (by decide +kernel)) wi_wsJx4a65c)
set_option maxHeartbeats 4000000 in
set_option maxRecDepth 100000 in
/-- elementData(i) -/
theorem c_AL_elem (l : Launch) (dC : Nat → ClassId) (dI : Nat → Nat → Nat) (sz : Nat) (h0 : Nat) (ad : Nat) (nr : Nat) (cap : Nat) (jj : Nat) (mc : Int32) (cO : ClassId) (g : Nat → Option Nat) (qv : Nat) (qj : jj < nr) (qc : nr ≤ cap) (qn : cap < 2 ^ 31) (hg : g jj = some qv) : Met l yJx4a65c_elementData_915e3 wp_AL_elem ({ frames := 0, cells := 0, slots := 0, locals := 0 }) (va_Pc [.ref h0, .int (nI jj)] (fun U => U.heap.size = sz ∧ va_P (dC, dI) vwCl [] U.heap ∧ va_K (dC, dI) vwCl [(cO, .object "java/lang/Object")] U ∧ va_D (fun _ => True) [] ∧ okF (dC, dI) vwCl (h0, .inr (0, [.int mc, .ref ad, .int (nI nr)])) (va_A [] sz) U.heap ∧ okF (dC, dI) vwCl (ad, .inl (cO, cap, .inr (.inr (.inr (.inr g))))) (va_A [] sz) U.heap)) (va_Qr (fun (_ : Unit) => True) (fun (_ : Unit) (ra : Nat) (t : State) => ra = qv ∧ va_P (dC, dI) vwCl [] t.heap ∧ va_K (dC, dI) vwCl [(cO, .object "java/lang/Object")] t ∧ va_D (va_A [] sz) []) (va_A [] sz)) 0 0 (va_A [] sz) := by
  refine Met.ofW (cc := cJx4a65c_elementData_915e3) (maxL := 2) (ret := (some (.object "java/lang/Object"))) (by decide) rfl ?_
  intro p e s m args below meth c s₁ B hml hv
  obtain ⟨rfl, hsz, hP, hK, hD0, fzA, fzR⟩ := hv
  have hx := B.exec
  have hb := B.bytes
  have hr := B.returns
  have hts := atoms_spec (ws := wp_AL_elem) B.pre
  have hown : s.vm.findClass RJx4a65c = some m.cls := findClass_of_methodNamed B.named
  have hlocks := B.notSynchronized
  subst hsz
  have hD := hD0.self (sz := s.heap.size)
  generalize hAe : va_A [] s.heap.size = A at hD fzA fzR ⊢
  have hA : ∀ q : Nat, s.heap.size ≤ q → A q := fun q h => by rw [← hAe]; exact Or.inr h
  have hS : va_S A s.heap s.heap [] := va_S.rf
  have hP : va_P (dC, dI) vwCl [] s.heap := hP
  have hl := lv_entry ([.ref h0, .int (nI jj)]) (n := 2) (Nat.le_of_ble_eq_true rfl)
  rw [lg_entry_eq]
  generalize (lg_sl ([.ref h0, .int (nI jj)]) ++ List.replicate (2 - (lg_sl ([.ref h0, .int (nI jj)])).length) Slot.unset).toArray = ls at hl ⊢
  have hl : lv_has ls 2 [(0, .ref h0), (1, .int (nI jj))] := hl
  have hinJx4a65c : ∀ w ∈ u_ws RJx4a65c TJx4a65c 3, w ∈ wp_AL_elem := fun _ h => List.mem_cons_of_mem _ (List.mem_append_right _ h)
  refine lv_aload_n hx hb dJx4a65c_elementData_915e3_0 rfl (lv_at hl 0 rfl) ?_
  have hPz := okF.kept fzA hS
  refine va_get (D := (dC, dI)) (ci := 0) (v := .ref ad) (C := RJx4a65c) (T := TJx4a65c) (N := 3) hx hb hts hinJx4a65c hown hK hPz 0 rfl rfl 1 (by decide) (hts (.fieldLink RJx4a65c 9 "java/util/ArrayList" "elementData" "[Ljava/lang/Object;") (by decide +kernel)) (fun _ h9 => h9) rfl dJx4a65c_elementData_915e3_1 ?_
  refine lv_iload_n hx hb dJx4a65c_elementData_915e3_4 rfl (lv_at hl 1 rfl) ?_
  have hPz := okF.kept fzR hS
  refine va_aldq hx hb hK hPz 0 0 rfl rfl (vp_in_nI (by omega) (by omega)) dJx4a65c_elementData_915e3_5 ?_
  refine W.eq (g2 := F0 m 6 ls [.ref qv]) (by rw [show Int32.toNatClampNeg (nI jj) = jj from nI_clamp (by omega), hg]; rfl) ?_
  have hP9 := hP.sub (ws' := []) [] rfl
  have hD9 := hD.sub (ws' := []) [] (by decide) rfl
  have hK9 := hK.sub (tys' := [(cO, .object "java/lang/Object")]) [0] rfl
  exact W.aret (v := .ref qv) hx hb hr (by first | exact Or.inl ⟨_, rfl⟩ | exact Or.inr ⟨_, rfl⟩) (Or.inr ⟨_, rfl⟩) (fun t ht hW => ⟨⟨(), qv, rfl, trivial, rfl, by rw [ht]; exact hP9, va_K.moved hW.alike hK9, hD9⟩, hS.F ht⟩) hS.2.2 dJx4a65c_elementData_915e3_6
def wp_AL_get : List Cond := .code yJx4a65c_get_915e3 cJx4a65c_get_915e3 2 (some (.object "java/lang/Object")) :: (([.fieldLink RJx4a65c 48 "java/util/ArrayList" "size" "I"] : List Cond) ++ wsJx4a65c0 ++ (va_wsS RJx4a65c 118 yJ15_checkIndex_7cf53 wp_J15_check) ++ (wsV RJx4a65c 123 RJx4a65c yJx4a65c_elementData_915e3 wp_AL_elem))
theorem gc_AL_get_J15_check : GoodIn wp_AL_get (va_wsS RJx4a65c 118 yJ15_checkIndex_7cf53 wp_J15_check) := goodIn_sub (fun _ h => List.mem_cons_of_mem _ (List.mem_append_left _ (List.mem_append_right _ h))) (by decide +kernel)
theorem gc_AL_get_AL_elem : GoodIn wp_AL_get (wsV RJx4a65c 123 RJx4a65c yJx4a65c_elementData_915e3 wp_AL_elem) := goodIn_sub (fun _ h => List.mem_cons_of_mem _ (List.mem_append_right _ h)) (by decide +kernel)
set_option maxRecDepth 20000 in
theorem gi_AL_get : GoodIn lw_tbl wp_AL_get := (goodIn_ca (goodIn_ca (goodIn_ca (goodIn_r (.code yJx4a65c_get_915e3 cJx4a65c_get_915e3 2 (some (.object "java/lang/Object")) :: ([.fieldLink RJx4a65c 48 "java/util/ArrayList" "size" "I"] : List Cond)) [497, 91] (by decide +kernel) (by decide +kernel)) wi_wsJx4a65c) (goodIn_app (goodIn_r _ [498, 499, 67] (by decide +kernel) (by decide +kernel)) gi_J15_check)) (goodIn_app (goodIn_r _ [502, 503, 504, 51] (by decide +kernel) (by decide +kernel)) gi_AL_elem))
set_option maxHeartbeats 4000000 in
set_option maxRecDepth 100000 in
/-- get(i) -/
theorem c_AL_get (l : Launch) (dC : Nat → ClassId) (dI : Nat → Nat → Nat) (sz : Nat) (h0 : Nat) (ad : Nat) (nr : Nat) (cap : Nat) (jj : Nat) (mc : Int32) (cO : ClassId) (g : Nat → Option Nat) (qv : Nat) (qj : jj < nr) (qc : nr ≤ cap) (qn : cap < 2 ^ 31) (hg : g jj = some qv) : Met l yJx4a65c_get_915e3 wp_AL_get ({ frames := 2, cells := 0, slots := 0, locals := 60 }) (va_Pc [.ref h0, .int (nI jj)] (fun U => U.heap.size = sz ∧ va_P (dC, dI) vwCl [] U.heap ∧ va_K (dC, dI) vwCl [(cO, .object "java/lang/Object")] U ∧ va_D (fun _ => True) [] ∧ okF (dC, dI) vwCl (h0, .inr (0, [.int mc, .ref ad, .int (nI nr)])) (va_A [] sz) U.heap ∧ okF (dC, dI) vwCl (ad, .inl (cO, cap, .inr (.inr (.inr (.inr g))))) (va_A [] sz) U.heap)) (va_Qr (fun (_ : Unit) => True) (fun (_ : Unit) (ra : Nat) (t : State) => ra = qv ∧ va_P (dC, dI) vwCl [] t.heap ∧ va_K (dC, dI) vwCl [(cO, .object "java/lang/Object")] t ∧ va_D (va_A [] sz) []) (va_A [] sz)) 0 0 (va_A [] sz) := by
  refine Met.ofW (cc := cJx4a65c_get_915e3) (maxL := 2) (ret := (some (.object "java/lang/Object"))) (by decide) rfl ?_
  intro p e s m args below meth c s₁ B hml hv
  obtain ⟨rfl, hsz, hP, hK, hD0, fzA, fzR⟩ := hv
  have hx := B.exec
  have hb := B.bytes
  have hr := B.returns
  have hts := atoms_spec (ws := wp_AL_get) B.pre
  have hown : s.vm.findClass RJx4a65c = some m.cls := findClass_of_methodNamed B.named
  have hlocks := B.notSynchronized
  subst hsz
  have hD := hD0.self (sz := s.heap.size)
  generalize hAe : va_A [] s.heap.size = A at hD fzA fzR ⊢
  have hA : ∀ q : Nat, s.heap.size ≤ q → A q := fun q h => by rw [← hAe]; exact Or.inr h
  have hS : va_S A s.heap s.heap [] := va_S.rf
  have hP : va_P (dC, dI) vwCl [] s.heap := hP
  have hl := lv_entry ([.ref h0, .int (nI jj)]) (n := 2) (Nat.le_of_ble_eq_true rfl)
  rw [lg_entry_eq]
  generalize (lg_sl ([.ref h0, .int (nI jj)]) ++ List.replicate (2 - (lg_sl ([.ref h0, .int (nI jj)])).length) Slot.unset).toArray = ls at hl ⊢
  have hl : lv_has ls 2 [(0, .ref h0), (1, .int (nI jj))] := hl
  have hinJx4a65c : ∀ w ∈ u_ws RJx4a65c TJx4a65c 3, w ∈ wp_AL_get := fun _ h => List.mem_cons_of_mem _ (List.mem_append_left _ (List.mem_append_left _ (List.mem_append_right _ h)))
  refine lv_iload_n hx hb dJx4a65c_get_915e3_0 rfl (lv_at hl 1 rfl) ?_
  refine lv_aload_n hx hb dJx4a65c_get_915e3_1 rfl (lv_at hl 0 rfl) ?_
  have hPz := okF.kept fzA hS
  refine va_get (D := (dC, dI)) (ci := 0) (v := .int (nI nr)) (C := RJx4a65c) (T := TJx4a65c) (N := 3) hx hb hts hinJx4a65c hown hK hPz 0 rfl rfl 2 (by decide) (hts (.fieldLink RJx4a65c 48 "java/util/ArrayList" "size" "I") (by decide +kernel)) (fun _ h9 => h9) rfl dJx4a65c_get_915e3_2 ?_
  have hPc := hP.sub (ws' := []) [] rfl
  have hDc := hD.sub (ws' := []) [] (by decide) rfl
  have hKc := hK.sub (tys' := []) [] rfl
  have hFc := va_free (wc := []) hD hS hA [] rfl
  refine va_calli (va_runS (As := [.int (nI jj), .int (nI nr)]) (rest := []) ⟨hx, hb, hml, hown, hts⟩ (c_J15_check l dC dI _ jj nr (by omega) (by omega)) (va_cwS 2 hts gc_AL_get_J15_check rfl rfl rfl (by decide +kernel) ⟨Nat.le_of_ble_eq_true rfl, Nat.le_of_ble_eq_true rfl⟩) ⟨fun a U g mk q => by obtain ⟨q0, q1, qP, qK, qD⟩ := q; exact ⟨q0, q1, qP, va_K.moved (u := U) (U := U.calling g mk a) (Vm.Alike.refl U.vm) qK, qD⟩, fun U hU hW => ⟨rfl, by rw [hU], by rw [hU]; exact hPc, va_K.moved hW.alike hKc, hDc.weaken (fun _ _ _ _ => trivial)⟩⟩ rfl rfl hl.1 rfl (lv_room (Nat.le_of_ble_eq_true rfl)) dJx4a65c_get_915e3_5 ⟨Nat.zero_le _, Nat.zero_le _⟩) hS (fun q _ h => hFc q h) hFc (fun r_1 u t H1 locs ht hvm hw hB hz1 hk1 hS => ?_)
  obtain ⟨hP1, hK1, hD1⟩ := hB
  rw [ht] at hP1
  obtain ⟨hP, hD⟩ := va_join (wr := []) (w1 := []) hP hD [] [] rfl rfl (by decide) (by decide) hk1 hFc hP1 hD1
  generalize H1 = H at hP hS ⊢
  have hP : va_P (dC, dI) vwCl [] H := hP
  have hD : va_D A [] := hD
  obtain rfl : r_1 = (nI jj) := hw
  refine lv_pop hx hb dJx4a65c_get_915e3_8 rfl ?_
  refine lv_aload_n hx hb dJx4a65c_get_915e3_9 rfl (lv_at hl 0 rfl) ?_
  refine lv_iload_n hx hb dJx4a65c_get_915e3_10 rfl (lv_at hl 1 rfl) ?_
  have hPc := hP.sub (ws' := []) [] rfl
  have hDc := hD.sub (ws' := []) [] (by decide) rfl
  have hKc := hK.sub (tys' := [(cO, .object "java/lang/Object")]) [0] rfl
  have hFc := va_free (wc := []) hD hS hA [] rfl
  refine va_callr (va_runV (As := [.int (nI jj)]) (rest := []) ⟨hx, hb, hml, hown, hts⟩ (c_AL_elem l dC dI _ h0 ad nr cap jj mc cO g qv (by omega) (by omega) (by omega) hg) (cwV 1 hts gc_AL_get_AL_elem rfl rfl rfl (by decide +kernel) ⟨Nat.le_of_ble_eq_true rfl, Nat.le_of_ble_eq_true rfl⟩) ⟨fun a U g mk q => by obtain ⟨q0, q1, qP, qK, qD, q_fzA, q_fzR⟩ := q; exact ⟨q0, q1, qP, va_K.moved (u := U) (U := U.calling g mk a) (Vm.Alike.refl U.vm) qK, qD, q_fzA, q_fzR⟩, va_recv hKc (okF.kept fzA hS) (ci := 0) (q0 := 0) rfl rfl, fun U hU hW => ⟨rfl, by rw [hU], by rw [hU]; exact hPc, va_K.moved hW.alike hKc, hDc.weaken (fun _ _ _ _ => trivial), by rw [hU]; exact okF.pass fzA hS hFc, by rw [hU]; exact okF.pass fzR hS hFc⟩⟩ rfl rfl hl.1 rfl (lv_room (Nat.le_of_ble_eq_true rfl)) dJx4a65c_get_915e3_11 ⟨Nat.zero_le _, Nat.zero_le _⟩) hS (fun q _ h => hFc q h) hFc (fun u r_2 t H1 locs ht hvm hw hB hz1 hk1 hS => ?_)
  obtain ⟨er_2, hP1, hK1, hD1⟩ := hB
  rw [ht] at hP1
  obtain ⟨hP, hD⟩ := va_join (wr := []) (w1 := []) hP hD [] [] rfl rfl (by decide) (by decide) hk1 hFc hP1 hD1
  generalize H1 = H at hP hS ⊢
  have hP : va_P (dC, dI) vwCl [] H := hP
  have hD : va_D A [] := hD
  have er_2 := er_2.symm
  subst er_2
  have hP9 := hP.sub (ws' := []) [] rfl
  have hD9 := hD.sub (ws' := []) [] (by decide) rfl
  have hK9 := hK.sub (tys' := [(cO, .object "java/lang/Object")]) [0] rfl
  exact W.aret (v := .ref qv) hx hb hr (by first | exact Or.inl ⟨_, rfl⟩ | exact Or.inr ⟨_, rfl⟩) (Or.inr ⟨_, rfl⟩) (fun t ht hW => ⟨⟨(), qv, rfl, trivial, rfl, by rw [ht]; exact hP9, va_K.moved hW.alike hK9, hD9⟩, hS.F ht⟩) hS.2.2 dJx4a65c_get_915e3_14
