theorem dJx4a65c_add_72be8_0 : decode cJx4a65c_add_72be8 0 = .ok (.iload_n 3, 1) := by decide +kernel
theorem dJx4a65c_add_72be8_1 : decode cJx4a65c_add_72be8 1 = .ok (.aload_n 2, 1) := by decide +kernel
theorem dJx4a65c_add_72be8_2 : decode cJx4a65c_add_72be8 2 = .ok (.arraylength, 1) := by decide +kernel
theorem dJx4a65c_add_72be8_3 : decode cJx4a65c_add_72be8 3 = .ok (.if_icmp .ne 8, 3) := by decide +kernel
theorem dJx4a65c_add_72be8_6 : decode cJx4a65c_add_72be8 6 = .ok (.aload_n 0, 1) := by decide +kernel
theorem dJx4a65c_add_72be8_7 : decode cJx4a65c_add_72be8 7 = .ok (.invokevirtual 129, 3) := by decide +kernel
theorem dJx4a65c_add_72be8_10 : decode cJx4a65c_add_72be8 10 = .ok (.astore_n 2, 1) := by decide +kernel
theorem dJx4a65c_add_72be8_11 : decode cJx4a65c_add_72be8 11 = .ok (.aload_n 2, 1) := by decide +kernel
theorem dJx4a65c_add_72be8_12 : decode cJx4a65c_add_72be8 12 = .ok (.iload_n 3, 1) := by decide +kernel
theorem dJx4a65c_add_72be8_13 : decode cJx4a65c_add_72be8 13 = .ok (.aload_n 1, 1) := by decide +kernel
theorem dJx4a65c_add_72be8_14 : decode cJx4a65c_add_72be8 14 = .ok (.aastore, 1) := by decide +kernel
theorem dJx4a65c_add_72be8_15 : decode cJx4a65c_add_72be8 15 = .ok (.aload_n 0, 1) := by decide +kernel
theorem dJx4a65c_add_72be8_16 : decode cJx4a65c_add_72be8 16 = .ok (.iload_n 3, 1) := by decide +kernel
theorem dJx4a65c_add_72be8_17 : decode cJx4a65c_add_72be8 17 = .ok (.iconst 1, 1) := by decide +kernel
theorem dJx4a65c_add_72be8_18 : decode cJx4a65c_add_72be8 18 = .ok (.iadd, 1) := by decide +kernel
theorem dJx4a65c_add_72be8_19 : decode cJx4a65c_add_72be8 19 = .ok (.putfield 48, 3) := by decide +kernel
theorem dJx4a65c_add_72be8_22 : decode cJx4a65c_add_72be8 22 = .ok (.return_, 1) := by decide +kernel
theorem dJx4a65c_add_9ea2d_0 : decode cJx4a65c_add_9ea2d 0 = .ok (.aload_n 0, 1) := by decide +kernel
theorem dJx4a65c_add_9ea2d_1 : decode cJx4a65c_add_9ea2d 1 = .ok (.dup, 1) := by decide +kernel
theorem dJx4a65c_add_9ea2d_2 : decode cJx4a65c_add_9ea2d 2 = .ok (.getfield 63, 3) := by decide +kernel
theorem dJx4a65c_add_9ea2d_5 : decode cJx4a65c_add_9ea2d 5 = .ok (.iconst 1, 1) := by decide +kernel
theorem dJx4a65c_add_9ea2d_6 : decode cJx4a65c_add_9ea2d 6 = .ok (.iadd, 1) := by decide +kernel
theorem dJx4a65c_add_9ea2d_7 : decode cJx4a65c_add_9ea2d 7 = .ok (.putfield 63, 3) := by decide +kernel
theorem dJx4a65c_add_9ea2d_10 : decode cJx4a65c_add_9ea2d 10 = .ok (.aload_n 0, 1) := by decide +kernel
theorem dJx4a65c_add_9ea2d_11 : decode cJx4a65c_add_9ea2d 11 = .ok (.aload_n 1, 1) := by decide +kernel
theorem dJx4a65c_add_9ea2d_12 : decode cJx4a65c_add_9ea2d 12 = .ok (.aload_n 0, 1) := by decide +kernel
theorem dJx4a65c_add_9ea2d_13 : decode cJx4a65c_add_9ea2d 13 = .ok (.getfield 9, 3) := by decide +kernel
theorem dJx4a65c_add_9ea2d_16 : decode cJx4a65c_add_9ea2d 16 = .ok (.aload_n 0, 1) := by decide +kernel
theorem dJx4a65c_add_9ea2d_17 : decode cJx4a65c_add_9ea2d 17 = .ok (.getfield 48, 3) := by decide +kernel
theorem dJx4a65c_add_9ea2d_20 : decode cJx4a65c_add_9ea2d 20 = .ok (.invokevirtual 131, 3) := by decide +kernel
theorem dJx4a65c_add_9ea2d_23 : decode cJx4a65c_add_9ea2d 23 = .ok (.iconst 1, 1) := by decide +kernel
theorem dJx4a65c_add_9ea2d_24 : decode cJx4a65c_add_9ea2d 24 = .ok (.ireturn, 1) := by decide +kernel
def wp_AL_addE3 : List Cond := .code yJx4a65c_add_72be8 cJx4a65c_add_72be8 4 none :: (([.fieldLink RJx4a65c 48 "java/util/ArrayList" "size" "I"] : List Cond) ++ wsJx4a65c0 ++ (wsV RJx4a65c 129 RJx4a65c yJx4a65c_grow_d5877 wp_AL_growE))
theorem gc_AL_addE3_AL_growE : GoodIn wp_AL_addE3 (wsV RJx4a65c 129 RJx4a65c yJx4a65c_grow_d5877 wp_AL_growE) := goodIn_sub (fun _ h => List.mem_cons_of_mem _ (List.mem_append_right _ h)) (by decide +kernel)
set_option maxRecDepth 20000 in
theorem gi_AL_addE3 : GoodIn lw_tbl wp_AL_addE3 := (goodIn_ca (goodIn_ca (goodIn_r (.code yJx4a65c_add_72be8 cJx4a65c_add_72be8 4 none :: ([.fieldLink RJx4a65c 48 "java/util/ArrayList" "size" "I"] : List Cond)) [414, 91] (by decide +kernel) (by decide +kernel)) wi_wsJx4a65c) (goodIn_app (goodIn_r _ [415, 417, 13, 51] (by decide +kernel) (by decide +kernel)) gi_AL_growE))
set_option maxHeartbeats 4000000 in
set_option maxRecDepth 100000 in
/-- add(e, row, 0) of an empty list -/
theorem c_AL_addE3 (l : Launch) (dC : Nat → ClassId) (dI : Nat → Nat → Nat) (sz : Nat) (h0 : Nat) (mc : Int32) (v : Nat) (cO : ClassId) (ze : Nat) (mi : Nat) : Met l yJx4a65c_add_72be8 wp_AL_addE3 ({ frames := 3, cells := 1, slots := 64, locals := 120 }) (va_Pc [.ref h0, .ref v, .ref ze, .int 0] (fun U => U.heap.size = sz ∧ va_P (dC, dI) vwCl [(h0, .inr (0, [.int mc, .ref ze, .int 0]))] U.heap ∧ va_K (dC, dI) vwCl [(cO, .object "java/lang/Object")] U ∧ va_D (fun _ => True) [(h0, .inr (0, [.int mc, .ref ze, .int 0]))] ∧ okAL ze mi (va_A [(h0, .inr (0, [.int mc, .ref ze, .int 0]))] sz) U U.heap ∧ okAn (dC, dI) vwCl v (va_A [(h0, .inr (0, [.int mc, .ref ze, .int 0]))] sz) U.heap)) (va_Qv (fun (_ : Unit) => True) (fun (_ : Unit) (t : State) => ∃ (ad2 : Nat), ∃ (cap2 : Nat), ∃ (g1 : Nat → Option Nat), (1 ≤ cap2) ∧ (cap2 ≤ 64) ∧ (g1 0 = some v) ∧ (sz ≤ ad2) ∧ va_P (dC, dI) vwCl [(h0, .inr (0, [.int mc, .ref ad2, .int 1])), (ad2, .inl (cO, cap2, .inr (.inr (.inr (.inr g1)))))] t.heap ∧ va_K (dC, dI) vwCl [(cO, .object "java/lang/Object")] t ∧ va_D (va_A [(h0, .inr (0, [.int mc, .ref ze, .int 0]))] sz) [(h0, .inr (0, [.int mc, .ref ad2, .int 1])), (ad2, .inl (cO, cap2, .inr (.inr (.inr (.inr g1)))))]) (va_A [(h0, .inr (0, [.int mc, .ref ze, .int 0]))] sz)) 1 64 (va_A [(h0, .inr (0, [.int mc, .ref ze, .int 0]))] sz) := by
  refine Met.ofW (cc := cJx4a65c_add_72be8) (maxL := 4) (ret := none) (by decide) rfl ?_
  intro p e s m args below meth c s₁ B hml hv
  obtain ⟨rfl, hsz, hP, hK, hD0, hAL, hAn⟩ := hv
  have hx := B.exec
  have hb := B.bytes
  have hr := B.returns
  have hts := atoms_spec (ws := wp_AL_addE3) B.pre
  have hown : s.vm.findClass RJx4a65c = some m.cls := findClass_of_methodNamed B.named
  have hlocks := B.notSynchronized
  subst hsz
  have hD := hD0.self (sz := s.heap.size)
  generalize hAe : va_A [(h0, .inr (0, [.int mc, .ref ze, .int 0]))] s.heap.size = A at hD hAL hAn ⊢
  have hA : ∀ q : Nat, s.heap.size ≤ q → A q := fun q h => by rw [← hAe]; exact Or.inr h
  have hS : va_S A s.heap s.heap [] := va_S.rf
  have hP : va_P (dC, dI) vwCl [(h0, .inr (0, [.int mc, .ref ze, .int 0]))] s.heap := hP
  have hl := lv_entry ([.ref h0, .ref v, .ref ze, .int 0]) (n := 4) (Nat.le_of_ble_eq_true rfl)
  rw [lg_entry_eq]
  generalize (lg_sl ([.ref h0, .ref v, .ref ze, .int 0]) ++ List.replicate (4 - (lg_sl ([.ref h0, .ref v, .ref ze, .int 0])).length) Slot.unset).toArray = ls at hl ⊢
  have hl : lv_has ls 4 [(0, .ref h0), (1, .ref v), (2, .ref ze), (3, .int 0)] := hl
  have hinJx4a65c : ∀ w ∈ u_ws RJx4a65c TJx4a65c 3, w ∈ wp_AL_addE3 := fun _ h => List.mem_cons_of_mem _ (List.mem_append_left _ (List.mem_append_right _ h))
  have hZT : va_T (.object "java/lang/Object") ze 0 (fun _ => .null) A s s.heap ∧ True := ⟨hAL.2.1, trivial⟩
  refine lv_iload_n hx hb dJx4a65c_add_72be8_0 rfl (lv_at hl 3 rfl) ?_
  refine lv_aload_n hx hb dJx4a65c_add_72be8_1 rfl (lv_at hl 2 rfl) ?_
  refine va_tlen (v := nI 0) hx hb hZT.1 hS rfl dJx4a65c_add_72be8_2 ?_
  refine lv_icmp_ne (tgt := 11) hx hb dJx4a65c_add_72be8_3 (by decide) (fun c_1 => ?_) (fun c_1 => ?_)
  · exact absurd c_1 (by decide)
  · refine lv_aload_n hx hb dJx4a65c_add_72be8_6 rfl (lv_at hl 0 rfl) ?_
    have hPc := hP.sub (ws' := [(h0, .inr (0, [.int mc, .ref ze, .int 0]))]) [0] rfl
    have hDc := hD.sub (ws' := [(h0, .inr (0, [.int mc, .ref ze, .int 0]))]) [0] (by decide) rfl
    have hKc := hK.sub (tys' := [(cO, .object "java/lang/Object")]) [0] rfl
    have hFc := va_free (wc := [(h0, .inr (0, [.int mc, .ref ze, .int 0]))]) hD hS hA [0] rfl
    have hz_3 := hS.1
    refine va_callr (va_runV (As := []) (rest := []) ⟨hx, hb, hml, hown, hts⟩ (c_AL_growE l dC dI _ h0 mc cO ze mi) (cwV 0 hts gc_AL_addE3_AL_growE rfl rfl rfl (by decide +kernel) ⟨Nat.le_of_ble_eq_true rfl, Nat.le_of_ble_eq_true rfl⟩) ⟨fun a U g mk q => by obtain ⟨q0, q1, qP, qK, qD, q_hAL⟩ := q; exact ⟨q0, q1, qP, va_K.moved (u := U) (U := U.calling g mk a) (Vm.Alike.refl U.vm) qK, qD, okAL.moved (Vm.Alike.refl U.vm) q_hAL⟩, va_recv hKc hPc (ci := 0) (q0 := 0) rfl rfl, fun U hU hW => ⟨rfl, by rw [hU], by rw [hU]; exact hPc, va_K.moved hW.alike hKc, hDc.weaken (fun _ _ _ _ => trivial), by rw [hU]; exact okAL.pass hAL hW hS hFc⟩⟩ rfl rfl hl.1 rfl (lv_room (Nat.le_of_ble_eq_true rfl)) dJx4a65c_add_72be8_7 ⟨by decide, by decide⟩) hS (fun q _ h => hFc q h) hFc (fun u r_2 t H1 locs ht hvm hw hB hz1 hk1 hS => ?_)
    obtain ⟨er_2, hf_4, hP1, hK1, hD1⟩ := hB
    rw [ht] at hP1
    obtain ⟨hP, hD⟩ := va_join (wr := []) (w1 := [(h0, .inr (0, [.int mc, .ref r_2, .int 0])), (r_2, .inl (cO, 10, .inr (.inr (.inr (.inr (fun _ => none))))))]) hP hD [0] [] rfl rfl (by decide) (by decide) hk1 hFc hP1 hD1
    generalize H1 = H at hP hS ⊢
    have hP : va_P (dC, dI) vwCl [(h0, .inr (0, [.int mc, .ref r_2, .int 0])), (r_2, .inl (cO, 10, .inr (.inr (.inr (.inr (fun _ => none))))))] H := hP
    have hD : va_D A [(h0, .inr (0, [.int mc, .ref r_2, .int 0])), (r_2, .inl (cO, 10, .inr (.inr (.inr (.inr (fun _ => none))))))] := hD
    refine W.widen (k := 1) (n := 64) (by omega) (by omega) ?_
    refine lv_astore_n (lv' := [(2, .ref r_2), (0, .ref h0), (1, .ref v), (3, .int 0)]) hx hb dJx4a65c_add_72be8_10 rfl hl (by decide) rfl (fun ls hl => ?_)
    refine lv_aload_n hx hb dJx4a65c_add_72be8_11 rfl (lv_at hl 0 rfl) ?_
    refine lv_iload_n hx hb dJx4a65c_add_72be8_12 rfl (lv_at hl 3 rfl) ?_
    refine lv_aload_n hx hb dJx4a65c_add_72be8_13 rfl (lv_at hl 2 rfl) ?_
    refine va_astqM hx hb hK hP hD hS 1 0 rfl rfl (okAn.any hK hAn hS hAL.2.2.2.2.2) (show vp_in (nI 0) 10 from vp_in_nI (by decide) (by decide)) dJx4a65c_add_72be8_14 (fun H locs hP hD hS => ?_)
    have hP : va_P (dC, dI) vwCl [(h0, .inr (0, [.int mc, .ref r_2, .int 0])), (r_2, .inl (cO, 10, .inr (.inr (.inr (.inr (va_up (fun _ => none) (Int32.toNatClampNeg 0) (some v)))))))] H := hP
    have hD : va_D A [(h0, .inr (0, [.int mc, .ref r_2, .int 0])), (r_2, .inl (cO, 10, .inr (.inr (.inr (.inr (va_up (fun _ => none) (Int32.toNatClampNeg 0) (some v)))))))] := hD
    generalize eg_5 : va_up (fun _ => none) (Int32.toNatClampNeg 0) (some v) = g_5 at hP hD
    rw [show Int32.toNatClampNeg 0 = 0 from by decide] at eg_5
    refine lv_aload_n hx hb dJx4a65c_add_72be8_15 rfl (lv_at hl 1 rfl) ?_
    refine lv_iload_n hx hb dJx4a65c_add_72be8_16 rfl (lv_at hl 3 rfl) ?_
    refine lv_iconst (v := 1) hx hb dJx4a65c_add_72be8_17 (by decide) ?_
    refine lv_iadd hx hb dJx4a65c_add_72be8_18 ?_
    refine lv_topi (fun x_6 ex_6 => ?_)
    obtain rfl : x_6 = 1 := by rw [ex_6]; decide
    refine va_put (D := (dC, dI)) (ci := 0) (v := .int 1) (ty := .int) (C := RJx4a65c) (T := TJx4a65c) (N := 3) hx hb hts hinJx4a65c tyJx4a65c tyJx4a65c_ok nmJx4a65c hown hK hP hD hS 0 rfl rfl 2 (by decide) (hts (.fieldLink RJx4a65c 48 "java/util/ArrayList" "size" "I") (by decide +kernel)) (fun _ h9 => h9) rfl (by decide +kernel) rfl rfl (Nat.le_of_ble_eq_true rfl) dJx4a65c_add_72be8_19 (fun H locs hP hD hS => ?_)
    have hP : va_P (dC, dI) vwCl [(h0, .inr (0, [.int mc, .ref r_2, .int 1])), (r_2, .inl (cO, 10, .inr (.inr (.inr (.inr g_5)))))] H := hP
    have hD : va_D A [(h0, .inr (0, [.int mc, .ref r_2, .int 1])), (r_2, .inl (cO, 10, .inr (.inr (.inr (.inr g_5)))))] := hD
    have hP9 := hP.sub (ws' := [(h0, .inr (0, [.int mc, .ref r_2, .int 1])), (r_2, .inl (cO, 10, .inr (.inr (.inr (.inr g_5)))))]) [0, 1] rfl
    have hD9 := hD.sub (ws' := [(h0, .inr (0, [.int mc, .ref r_2, .int 1])), (r_2, .inl (cO, 10, .inr (.inr (.inr (.inr g_5)))))]) [0, 1] (by decide) rfl
    have hK9 := hK.sub (tys' := [(cO, .object "java/lang/Object")]) [0] rfl
    refine W.widen (k := 1) (n := 64) (by omega) (by omega) ?_
    exact W.vret hx hb hr (fun t ht hW => ⟨⟨(), rfl, trivial, r_2, 10, g_5, (by omega), (by omega), (by rw [← eg_5, va_up_self]), (okNew hAe hD 1 rfl [0] rfl (by decide)), by rw [ht]; exact hP9, va_K.moved hW.alike hK9, hD9⟩, hS.F ht⟩) hS.2.2 dJx4a65c_add_72be8_22
def wp_AL_addF3 : List Cond := .code yJx4a65c_add_72be8 cJx4a65c_add_72be8 4 none :: (([.fieldLink RJx4a65c 48 "java/util/ArrayList" "size" "I"] : List Cond) ++ wsJx4a65c0 ++ (wsV RJx4a65c 129 RJx4a65c yJx4a65c_grow_d5877 wp_AL_growF))
theorem gc_AL_addF3_AL_growF : GoodIn wp_AL_addF3 (wsV RJx4a65c 129 RJx4a65c yJx4a65c_grow_d5877 wp_AL_growF) := goodIn_sub (fun _ h => List.mem_cons_of_mem _ (List.mem_append_right _ h)) (by decide +kernel)
set_option maxRecDepth 20000 in
theorem gi_AL_addF3 : GoodIn lw_tbl wp_AL_addF3 := (goodIn_ca (goodIn_ca (goodIn_r (.code yJx4a65c_add_72be8 cJx4a65c_add_72be8 4 none :: ([.fieldLink RJx4a65c 48 "java/util/ArrayList" "size" "I"] : List Cond)) [414, 91] (by decide +kernel) (by decide +kernel)) wi_wsJx4a65c) (goodIn_app (goodIn_r _ [415, 417, 13, 51] (by decide +kernel) (by decide +kernel)) gi_AL_growF))
set_option maxHeartbeats 4000000 in
set_option maxRecDepth 100000 in
/-- add(e, row, n) of a list with a row -/
theorem c_AL_addF3 (l : Launch) (dC : Nat → ClassId) (dI : Nat → Nat → Nat) (sz : Nat) (h0 : Nat) (mc : Int32) (v : Nat) (ad : Nat) (nr : Nat) (cap : Nat) (cO : ClassId) (g : Nat → Option Nat) (ze : Nat) (mi : Nat) (q0 : 0 < nr) (q1 : nr ≤ 40) (q2 : nr ≤ cap) (q3 : cap ≤ 64) : Met l yJx4a65c_add_72be8 wp_AL_addF3 ({ frames := 5, cells := 1, slots := 64, locals := 200 }) (va_Pc [.ref h0, .ref v, .ref ad, .int (nI nr)] (fun U => U.heap.size = sz ∧ va_P (dC, dI) vwCl [(h0, .inr (0, [.int mc, .ref ad, .int (nI nr)])), (ad, .inl (cO, cap, .inr (.inr (.inr (.inr g)))))] U.heap ∧ va_K (dC, dI) vwCl [(cO, .object "java/lang/Object")] U ∧ va_D (fun _ => True) [(h0, .inr (0, [.int mc, .ref ad, .int (nI nr)])), (ad, .inl (cO, cap, .inr (.inr (.inr (.inr g)))))] ∧ okAL ze mi (va_A [(h0, .inr (0, [.int mc, .ref ad, .int (nI nr)])), (ad, .inl (cO, cap, .inr (.inr (.inr (.inr g)))))] sz) U U.heap ∧ okAn (dC, dI) vwCl v (va_A [(h0, .inr (0, [.int mc, .ref ad, .int (nI nr)])), (ad, .inl (cO, cap, .inr (.inr (.inr (.inr g)))))] sz) U.heap ∧ okAns (dC, dI) vwCl g nr (va_A [(h0, .inr (0, [.int mc, .ref ad, .int (nI nr)])), (ad, .inl (cO, cap, .inr (.inr (.inr (.inr g)))))] sz) U.heap)) (va_Qv (fun (_ : Unit) => True) (fun (_ : Unit) (t : State) => ∃ (ad2 : Nat), ∃ (cap2 : Nat), ∃ (g1 : Nat → Option Nat), (nr + 1 ≤ cap2) ∧ (cap2 ≤ 64) ∧ (g1 nr = some v) ∧ (∀ j, j < nr → g1 j = g j) ∧ (ad2 = ad ∨ sz ≤ ad2) ∧ va_P (dC, dI) vwCl [(h0, .inr (0, [.int mc, .ref ad2, .int (nI (nr + 1))])), (ad2, .inl (cO, cap2, .inr (.inr (.inr (.inr g1)))))] t.heap ∧ va_K (dC, dI) vwCl [(cO, .object "java/lang/Object")] t ∧ va_D (va_A [(h0, .inr (0, [.int mc, .ref ad, .int (nI nr)])), (ad, .inl (cO, cap, .inr (.inr (.inr (.inr g)))))] sz) [(h0, .inr (0, [.int mc, .ref ad2, .int (nI (nr + 1))])), (ad2, .inl (cO, cap2, .inr (.inr (.inr (.inr g1)))))]) (va_A [(h0, .inr (0, [.int mc, .ref ad, .int (nI nr)])), (ad, .inl (cO, cap, .inr (.inr (.inr (.inr g)))))] sz)) 1 64 (va_A [(h0, .inr (0, [.int mc, .ref ad, .int (nI nr)])), (ad, .inl (cO, cap, .inr (.inr (.inr (.inr g)))))] sz) := by
  refine Met.ofW (cc := cJx4a65c_add_72be8) (maxL := 4) (ret := none) (by decide) rfl ?_
  intro p e s m args below meth c s₁ B hml hv
  obtain ⟨rfl, hsz, hP, hK, hD0, hAL, hAn, hAs⟩ := hv
  have hx := B.exec
  have hb := B.bytes
  have hr := B.returns
  have hts := atoms_spec (ws := wp_AL_addF3) B.pre
  have hown : s.vm.findClass RJx4a65c = some m.cls := findClass_of_methodNamed B.named
  have hlocks := B.notSynchronized
  subst hsz
  have hD := hD0.self (sz := s.heap.size)
  generalize hAe : va_A [(h0, .inr (0, [.int mc, .ref ad, .int (nI nr)])), (ad, .inl (cO, cap, .inr (.inr (.inr (.inr g)))))] s.heap.size = A at hD hAL hAn hAs ⊢
  have hA : ∀ q : Nat, s.heap.size ≤ q → A q := fun q h => by rw [← hAe]; exact Or.inr h
  have hS : va_S A s.heap s.heap [] := va_S.rf
  have hP : va_P (dC, dI) vwCl [(h0, .inr (0, [.int mc, .ref ad, .int (nI nr)])), (ad, .inl (cO, cap, .inr (.inr (.inr (.inr g)))))] s.heap := hP
  have hl := lv_entry ([.ref h0, .ref v, .ref ad, .int (nI nr)]) (n := 4) (Nat.le_of_ble_eq_true rfl)
  rw [lg_entry_eq]
  generalize (lg_sl ([.ref h0, .ref v, .ref ad, .int (nI nr)]) ++ List.replicate (4 - (lg_sl ([.ref h0, .ref v, .ref ad, .int (nI nr)])).length) Slot.unset).toArray = ls at hl ⊢
  have hl : lv_has ls 4 [(0, .ref h0), (1, .ref v), (2, .ref ad), (3, .int (nI nr))] := hl
  have hinJx4a65c : ∀ w ∈ u_ws RJx4a65c TJx4a65c 3, w ∈ wp_AL_addF3 := fun _ h => List.mem_cons_of_mem _ (List.mem_append_left _ (List.mem_append_right _ h))
  have hZT : va_T (.object "java/lang/Object") ze 0 (fun _ => .null) A s s.heap ∧ True := ⟨hAL.2.1, trivial⟩
  refine lv_iload_n hx hb dJx4a65c_add_72be8_0 rfl (lv_at hl 3 rfl) ?_
  refine lv_aload_n hx hb dJx4a65c_add_72be8_1 rfl (lv_at hl 2 rfl) ?_
  refine va_alen (v := nI cap) hx hb hK hP 1 0 rfl rfl rfl dJx4a65c_add_72be8_2 ?_
  refine lv_icmp_ne (tgt := 11) hx hb dJx4a65c_add_72be8_3 (by decide) (fun c_1 => ?_) (fun c_1 => ?_)
  · have c_1 : ¬ (nr = cap) := fun h => c_1 ((nI_eq (a := nr) (b := cap) (by omega) (by omega)).mpr h)
    refine lv_aload_n hx hb dJx4a65c_add_72be8_11 rfl (lv_at hl 2 rfl) ?_
    refine lv_iload_n hx hb dJx4a65c_add_72be8_12 rfl (lv_at hl 3 rfl) ?_
    refine lv_aload_n hx hb dJx4a65c_add_72be8_13 rfl (lv_at hl 1 rfl) ?_
    refine va_astqM hx hb hK hP hD hS 1 0 rfl rfl (okAn.any hK hAn hS hAL.2.2.2.2.2) (vp_in_nI (by omega) (by omega)) dJx4a65c_add_72be8_14 (fun H locs hP hD hS => ?_)
    have hP : va_P (dC, dI) vwCl [(h0, .inr (0, [.int mc, .ref ad, .int (nI nr)])), (ad, .inl (cO, cap, .inr (.inr (.inr (.inr (va_up g (Int32.toNatClampNeg (nI nr)) (some v)))))))] H := hP
    have hD : va_D A [(h0, .inr (0, [.int mc, .ref ad, .int (nI nr)])), (ad, .inl (cO, cap, .inr (.inr (.inr (.inr (va_up g (Int32.toNatClampNeg (nI nr)) (some v)))))))] := hD
    generalize eg_2 : va_up g (Int32.toNatClampNeg (nI nr)) (some v) = g_2 at hP hD
    rw [show Int32.toNatClampNeg (nI nr) = nr from nI_clamp (by omega)] at eg_2
    refine lv_aload_n hx hb dJx4a65c_add_72be8_15 rfl (lv_at hl 0 rfl) ?_
    refine lv_iload_n hx hb dJx4a65c_add_72be8_16 rfl (lv_at hl 3 rfl) ?_
    refine lv_iconst (v := 1) hx hb dJx4a65c_add_72be8_17 (by decide) ?_
    refine lv_iadd hx hb dJx4a65c_add_72be8_18 ?_
    refine lv_topi (fun x_3 ex_3 => ?_)
    obtain rfl : x_3 = (nI (nr + 1)) := by rw [ex_3]; exact nI_add _ _
    refine va_put (D := (dC, dI)) (ci := 0) (v := .int (nI (nr + 1))) (ty := .int) (C := RJx4a65c) (T := TJx4a65c) (N := 3) hx hb hts hinJx4a65c tyJx4a65c tyJx4a65c_ok nmJx4a65c hown hK hP hD hS 0 rfl rfl 2 (by decide) (hts (.fieldLink RJx4a65c 48 "java/util/ArrayList" "size" "I") (by decide +kernel)) (fun _ h9 => h9) rfl (by decide +kernel) rfl rfl (Nat.le_of_ble_eq_true rfl) dJx4a65c_add_72be8_19 (fun H locs hP hD hS => ?_)
    have hP : va_P (dC, dI) vwCl [(h0, .inr (0, [.int mc, .ref ad, .int (nI (nr + 1))])), (ad, .inl (cO, cap, .inr (.inr (.inr (.inr g_2)))))] H := hP
    have hD : va_D A [(h0, .inr (0, [.int mc, .ref ad, .int (nI (nr + 1))])), (ad, .inl (cO, cap, .inr (.inr (.inr (.inr g_2)))))] := hD
    have hP9 := hP.sub (ws' := [(h0, .inr (0, [.int mc, .ref ad, .int (nI (nr + 1))])), (ad, .inl (cO, cap, .inr (.inr (.inr (.inr g_2)))))]) [0, 1] rfl
    have hD9 := hD.sub (ws' := [(h0, .inr (0, [.int mc, .ref ad, .int (nI (nr + 1))])), (ad, .inl (cO, cap, .inr (.inr (.inr (.inr g_2)))))]) [0, 1] (by decide) rfl
    have hK9 := hK.sub (tys' := [(cO, .object "java/lang/Object")]) [0] rfl
    refine W.widen (k := 1) (n := 64) (by omega) (by omega) ?_
    exact W.vret hx hb hr (fun t ht hW => ⟨⟨(), rfl, trivial, ad, cap, g_2, (by omega), (by omega), (by rw [← eg_2, va_up_self]), (fun j hj => by rw [← eg_2, va_up_ne _ _ (by omega)]), (Or.inl rfl), by rw [ht]; exact hP9, va_K.moved hW.alike hK9, hD9⟩, hS.F ht⟩) hS.2.2 dJx4a65c_add_72be8_22
  · have c_1 : nr = cap := (nI_eq (a := nr) (b := cap) (by omega) (by omega)).mp c_1
    subst c_1
    refine lv_aload_n hx hb dJx4a65c_add_72be8_6 rfl (lv_at hl 0 rfl) ?_
    have hPc := hP.sub (ws' := [(h0, .inr (0, [.int mc, .ref ad, .int (nI nr)])), (ad, .inl (cO, nr, .inr (.inr (.inr (.inr g)))))]) [0, 1] rfl
    have hDc := hD.sub (ws' := [(h0, .inr (0, [.int mc, .ref ad, .int (nI nr)])), (ad, .inl (cO, nr, .inr (.inr (.inr (.inr g)))))]) [0, 1] (by decide) rfl
    have hKc := hK.sub (tys' := [(cO, .object "java/lang/Object")]) [0] rfl
    have hFc := va_free (wc := [(h0, .inr (0, [.int mc, .ref ad, .int (nI nr)])), (ad, .inl (cO, nr, .inr (.inr (.inr (.inr g)))))]) hD hS hA [0, 1] rfl
    have hz_5 := hS.1
    refine va_callr (va_runV (As := []) (rest := []) ⟨hx, hb, hml, hown, hts⟩ (c_AL_growF l dC dI _ h0 mc ad nr cO g ze mi (by omega) (by omega)) (cwV 0 hts gc_AL_addF3_AL_growF rfl rfl rfl (by decide +kernel) ⟨Nat.le_of_ble_eq_true rfl, Nat.le_of_ble_eq_true rfl⟩) ⟨fun a U g mk q => by obtain ⟨q0, q1, qP, qK, qD, q_hAL, q_hAs⟩ := q; exact ⟨q0, q1, qP, va_K.moved (u := U) (U := U.calling g mk a) (Vm.Alike.refl U.vm) qK, qD, okAL.moved (Vm.Alike.refl U.vm) q_hAL, q_hAs⟩, va_recv hKc hPc (ci := 0) (q0 := 0) rfl rfl, fun U hU hW => ⟨rfl, by rw [hU], by rw [hU]; exact hPc, va_K.moved hW.alike hKc, hDc.weaken (fun _ _ _ _ => trivial), by rw [hU]; exact okAL.pass hAL hW hS hFc, by rw [hU]; exact okAns.pass hAs hS hFc⟩⟩ rfl rfl hl.1 rfl (lv_room (Nat.le_of_ble_eq_true rfl)) dJx4a65c_add_72be8_7 ⟨by decide, by decide⟩) hS (fun q _ h => hFc q h) hFc (fun u r_4 t H1 locs ht hvm hw hB hz1 hk1 hS => ?_)
    obtain ⟨er_4, cap2_6, g1_7, hf_8, hf_9, hf_10, hf_11, hP1, hK1, hD1⟩ := hB
    rw [ht] at hP1
    obtain ⟨hP, hD⟩ := va_join (wr := []) (w1 := [(h0, .inr (0, [.int mc, .ref r_4, .int (nI nr)])), (ad, .inl (cO, nr, .inr (.inr (.inr (.inr g))))), (r_4, .inl (cO, cap2_6, .inr (.inr (.inr (.inr g1_7)))))]) hP hD [0, 1] [] rfl rfl (by decide) (by decide) hk1 hFc hP1 hD1
    generalize H1 = H at hP hS ⊢
    have hP : va_P (dC, dI) vwCl [(h0, .inr (0, [.int mc, .ref r_4, .int (nI nr)])), (ad, .inl (cO, nr, .inr (.inr (.inr (.inr g))))), (r_4, .inl (cO, cap2_6, .inr (.inr (.inr (.inr g1_7)))))] H := hP
    have hD : va_D A [(h0, .inr (0, [.int mc, .ref r_4, .int (nI nr)])), (ad, .inl (cO, nr, .inr (.inr (.inr (.inr g))))), (r_4, .inl (cO, cap2_6, .inr (.inr (.inr (.inr g1_7)))))] := hD
    refine W.widen (k := 1) (n := 64) (by omega) (by omega) ?_
    refine lv_astore_n (lv' := [(2, .ref r_4), (0, .ref h0), (1, .ref v), (3, .int (nI nr))]) hx hb dJx4a65c_add_72be8_10 rfl hl (by decide) rfl (fun ls hl => ?_)
    refine lv_aload_n hx hb dJx4a65c_add_72be8_11 rfl (lv_at hl 0 rfl) ?_
    refine lv_iload_n hx hb dJx4a65c_add_72be8_12 rfl (lv_at hl 3 rfl) ?_
    refine lv_aload_n hx hb dJx4a65c_add_72be8_13 rfl (lv_at hl 2 rfl) ?_
    refine va_astqM hx hb hK hP hD hS 2 0 rfl rfl (okAn.any hK hAn hS hAL.2.2.2.2.2) (vp_in_nI (by omega) (by omega)) dJx4a65c_add_72be8_14 (fun H locs hP hD hS => ?_)
    have hP : va_P (dC, dI) vwCl [(h0, .inr (0, [.int mc, .ref r_4, .int (nI nr)])), (ad, .inl (cO, nr, .inr (.inr (.inr (.inr g))))), (r_4, .inl (cO, cap2_6, .inr (.inr (.inr (.inr (va_up g1_7 (Int32.toNatClampNeg (nI nr)) (some v)))))))] H := hP
    have hD : va_D A [(h0, .inr (0, [.int mc, .ref r_4, .int (nI nr)])), (ad, .inl (cO, nr, .inr (.inr (.inr (.inr g))))), (r_4, .inl (cO, cap2_6, .inr (.inr (.inr (.inr (va_up g1_7 (Int32.toNatClampNeg (nI nr)) (some v)))))))] := hD
    generalize eg_12 : va_up g1_7 (Int32.toNatClampNeg (nI nr)) (some v) = g_12 at hP hD
    rw [show Int32.toNatClampNeg (nI nr) = nr from nI_clamp (by omega)] at eg_12
    refine lv_aload_n hx hb dJx4a65c_add_72be8_15 rfl (lv_at hl 1 rfl) ?_
    refine lv_iload_n hx hb dJx4a65c_add_72be8_16 rfl (lv_at hl 3 rfl) ?_
    refine lv_iconst (v := 1) hx hb dJx4a65c_add_72be8_17 (by decide) ?_
    refine lv_iadd hx hb dJx4a65c_add_72be8_18 ?_
    refine lv_topi (fun x_13 ex_13 => ?_)
    obtain rfl : x_13 = (nI (nr + 1)) := by rw [ex_13]; exact nI_add _ _
    refine va_put (D := (dC, dI)) (ci := 0) (v := .int (nI (nr + 1))) (ty := .int) (C := RJx4a65c) (T := TJx4a65c) (N := 3) hx hb hts hinJx4a65c tyJx4a65c tyJx4a65c_ok nmJx4a65c hown hK hP hD hS 0 rfl rfl 2 (by decide) (hts (.fieldLink RJx4a65c 48 "java/util/ArrayList" "size" "I") (by decide +kernel)) (fun _ h9 => h9) rfl (by decide +kernel) rfl rfl (Nat.le_of_ble_eq_true rfl) dJx4a65c_add_72be8_19 (fun H locs hP hD hS => ?_)
    have hP : va_P (dC, dI) vwCl [(h0, .inr (0, [.int mc, .ref r_4, .int (nI (nr + 1))])), (ad, .inl (cO, nr, .inr (.inr (.inr (.inr g))))), (r_4, .inl (cO, cap2_6, .inr (.inr (.inr (.inr g_12)))))] H := hP
    have hD : va_D A [(h0, .inr (0, [.int mc, .ref r_4, .int (nI (nr + 1))])), (ad, .inl (cO, nr, .inr (.inr (.inr (.inr g))))), (r_4, .inl (cO, cap2_6, .inr (.inr (.inr (.inr g_12)))))] := hD
    have hP9 := hP.sub (ws' := [(h0, .inr (0, [.int mc, .ref r_4, .int (nI (nr + 1))])), (r_4, .inl (cO, cap2_6, .inr (.inr (.inr (.inr g_12)))))]) [0, 2] rfl
    have hD9 := hD.sub (ws' := [(h0, .inr (0, [.int mc, .ref r_4, .int (nI (nr + 1))])), (r_4, .inl (cO, cap2_6, .inr (.inr (.inr (.inr g_12)))))]) [0, 2] (by decide) rfl
    have hK9 := hK.sub (tys' := [(cO, .object "java/lang/Object")]) [0] rfl
    refine W.widen (k := 1) (n := 64) (by omega) (by omega) ?_
    exact W.vret hx hb hr (fun t ht hW => ⟨⟨(), rfl, trivial, r_4, cap2_6, g_12, (by omega), (by omega), (by rw [← eg_12, va_up_self]), (fun j hj => by rw [← eg_12, va_up_ne _ _ (by omega)]; exact hf_10 j hj), (Or.inr (okNew hAe hD 2 rfl [0, 1] rfl (by decide))), by rw [ht]; exact hP9, va_K.moved hW.alike hK9, hD9⟩, hS.F ht⟩) hS.2.2 dJx4a65c_add_72be8_22
def wp_AL_addE : List Cond := .code yJx4a65c_add_9ea2d cJx4a65c_add_9ea2d 2 (some .boolean) :: (([.fieldLink RJx4a65c 63 "java/util/ArrayList" "modCount" "I", .sameField "java/util/ArrayList" "java/util/AbstractList" "modCount" "I", .fieldLink RJx4a65c 9 "java/util/ArrayList" "elementData" "[Ljava/lang/Object;", .fieldLink RJx4a65c 48 "java/util/ArrayList" "size" "I"] : List Cond) ++ wsJx4a65c0 ++ (wsV RJx4a65c 131 RJx4a65c yJx4a65c_add_72be8 wp_AL_addE3))
theorem gc_AL_addE_AL_addE3 : GoodIn wp_AL_addE (wsV RJx4a65c 131 RJx4a65c yJx4a65c_add_72be8 wp_AL_addE3) := goodIn_sub (fun _ h => List.mem_cons_of_mem _ (List.mem_append_right _ h)) (by decide +kernel)
set_option maxRecDepth 20000 in
theorem gi_AL_addE : GoodIn lw_tbl wp_AL_addE := (goodIn_ca (goodIn_ca (goodIn_r (.code yJx4a65c_add_9ea2d cJx4a65c_add_9ea2d 2 (some .boolean) :: ([.fieldLink RJx4a65c 63 "java/util/ArrayList" "modCount" "I", .sameField "java/util/ArrayList" "java/util/AbstractList" "modCount" "I", .fieldLink RJx4a65c 9 "java/util/ArrayList" "elementData" "[Ljava/lang/Object;", .fieldLink RJx4a65c 48 "java/util/ArrayList" "size" "I"] : List Cond)) [410, 93, 94, 90, 91] (by decide +kernel) (by decide +kernel)) wi_wsJx4a65c) (goodIn_app (goodIn_r _ [411, 413, 12, 51] (by decide +kernel) (by decide +kernel)) gi_AL_addE3))
set_option maxHeartbeats 4000000 in
set_option maxRecDepth 100000 in
/-- add(e) of an empty list -/
theorem c_AL_addE (l : Launch) (dC : Nat → ClassId) (dI : Nat → Nat → Nat) (sz : Nat) (h0 : Nat) (mc : Int32) (v : Nat) (cO : ClassId) (ze : Nat) (mi : Nat) : Met l yJx4a65c_add_9ea2d wp_AL_addE ({ frames := 4, cells := 1, slots := 64, locals := 160 }) (va_Pc [.ref h0, .ref v] (fun U => U.heap.size = sz ∧ va_P (dC, dI) vwCl [(h0, .inr (0, [.int mc, .ref ze, .int 0]))] U.heap ∧ va_K (dC, dI) vwCl [(cO, .object "java/lang/Object")] U ∧ va_D (fun _ => True) [(h0, .inr (0, [.int mc, .ref ze, .int 0]))] ∧ okAL ze mi (va_A [(h0, .inr (0, [.int mc, .ref ze, .int 0]))] sz) U U.heap ∧ okAn (dC, dI) vwCl v (va_A [(h0, .inr (0, [.int mc, .ref ze, .int 0]))] sz) U.heap)) (va_Qi (fun (r : Int32) (_ : Unit) => r = 1) (fun (_ : Unit) (t : State) => ∃ (ad2 : Nat), ∃ (cap2 : Nat), ∃ (g1 : Nat → Option Nat), ∃ (mc2 : Int32), (1 ≤ cap2) ∧ (cap2 ≤ 64) ∧ (g1 0 = some v) ∧ (sz ≤ ad2) ∧ va_P (dC, dI) vwCl [(h0, .inr (0, [.int mc2, .ref ad2, .int 1])), (ad2, .inl (cO, cap2, .inr (.inr (.inr (.inr g1)))))] t.heap ∧ va_K (dC, dI) vwCl [(cO, .object "java/lang/Object")] t ∧ va_D (va_A [(h0, .inr (0, [.int mc, .ref ze, .int 0]))] sz) [(h0, .inr (0, [.int mc2, .ref ad2, .int 1])), (ad2, .inl (cO, cap2, .inr (.inr (.inr (.inr g1)))))]) (va_A [(h0, .inr (0, [.int mc, .ref ze, .int 0]))] sz)) 1 64 (va_A [(h0, .inr (0, [.int mc, .ref ze, .int 0]))] sz) := by
  refine Met.ofW (cc := cJx4a65c_add_9ea2d) (maxL := 2) (ret := (some .boolean)) (by decide) rfl ?_
  intro p e s m args below meth c s₁ B hml hv
  obtain ⟨rfl, hsz, hP, hK, hD0, hAL, hAn⟩ := hv
  have hx := B.exec
  have hb := B.bytes
  have hr := B.returns
  have hts := atoms_spec (ws := wp_AL_addE) B.pre
  have hown : s.vm.findClass RJx4a65c = some m.cls := findClass_of_methodNamed B.named
  have hlocks := B.notSynchronized
  subst hsz
  have hD := hD0.self (sz := s.heap.size)
  generalize hAe : va_A [(h0, .inr (0, [.int mc, .ref ze, .int 0]))] s.heap.size = A at hD hAL hAn ⊢
  have hA : ∀ q : Nat, s.heap.size ≤ q → A q := fun q h => by rw [← hAe]; exact Or.inr h
  have hS : va_S A s.heap s.heap [] := va_S.rf
  have hP : va_P (dC, dI) vwCl [(h0, .inr (0, [.int mc, .ref ze, .int 0]))] s.heap := hP
  have hl := lv_entry ([.ref h0, .ref v]) (n := 2) (Nat.le_of_ble_eq_true rfl)
  rw [lg_entry_eq]
  generalize (lg_sl ([.ref h0, .ref v]) ++ List.replicate (2 - (lg_sl ([.ref h0, .ref v])).length) Slot.unset).toArray = ls at hl ⊢
  have hl : lv_has ls 2 [(0, .ref h0), (1, .ref v)] := hl
  have hinJx4a65c : ∀ w ∈ u_ws RJx4a65c TJx4a65c 3, w ∈ wp_AL_addE := fun _ h => List.mem_cons_of_mem _ (List.mem_append_left _ (List.mem_append_right _ h))
  have hZT : va_T (.object "java/lang/Object") ze 0 (fun _ => .null) A s s.heap ∧ True := ⟨hAL.2.1, trivial⟩
  refine lv_aload_n hx hb dJx4a65c_add_9ea2d_0 rfl (lv_at hl 0 rfl) ?_
  refine lv_dup hx hb dJx4a65c_add_9ea2d_1 rfl ?_
  refine va_get (D := (dC, dI)) (ci := 0) (v := .int mc) (C := RJx4a65c) (T := TJx4a65c) (N := 3) hx hb hts hinJx4a65c hown hK hP 0 rfl rfl 0 (by decide) (hts (.fieldLink RJx4a65c 63 "java/util/ArrayList" "modCount" "I") (by decide +kernel)) (fun x9 h9 => u_same (hts (.sameField "java/util/ArrayList" "java/util/AbstractList" "modCount" "I") (by decide +kernel)) x9 h9) rfl dJx4a65c_add_9ea2d_2 ?_
  refine lv_iconst (v := 1) hx hb dJx4a65c_add_9ea2d_5 (by decide) ?_
  refine lv_iadd hx hb dJx4a65c_add_9ea2d_6 ?_
  refine lv_topi (fun x_1 ex_1 => ?_)
  refine va_put (D := (dC, dI)) (ci := 0) (v := .int x_1) (ty := .int) (C := RJx4a65c) (T := TJx4a65c) (N := 3) hx hb hts hinJx4a65c tyJx4a65c tyJx4a65c_ok nmJx4a65c hown hK hP hD hS 0 rfl rfl 0 (by decide) (hts (.fieldLink RJx4a65c 63 "java/util/ArrayList" "modCount" "I") (by decide +kernel)) (fun x9 h9 => u_same (hts (.sameField "java/util/ArrayList" "java/util/AbstractList" "modCount" "I") (by decide +kernel)) x9 h9) rfl (by decide +kernel) rfl rfl (Nat.le_of_ble_eq_true rfl) dJx4a65c_add_9ea2d_7 (fun H locs hP hD hS => ?_)
  have hP : va_P (dC, dI) vwCl [(h0, .inr (0, [.int x_1, .ref ze, .int 0]))] H := hP
  have hD : va_D A [(h0, .inr (0, [.int x_1, .ref ze, .int 0]))] := hD
  refine lv_aload_n hx hb dJx4a65c_add_9ea2d_10 rfl (lv_at hl 0 rfl) ?_
  refine lv_aload_n hx hb dJx4a65c_add_9ea2d_11 rfl (lv_at hl 1 rfl) ?_
  refine lv_aload_n hx hb dJx4a65c_add_9ea2d_12 rfl (lv_at hl 0 rfl) ?_
  refine va_get (D := (dC, dI)) (ci := 0) (v := .ref ze) (C := RJx4a65c) (T := TJx4a65c) (N := 3) hx hb hts hinJx4a65c hown hK hP 0 rfl rfl 1 (by decide) (hts (.fieldLink RJx4a65c 9 "java/util/ArrayList" "elementData" "[Ljava/lang/Object;") (by decide +kernel)) (fun _ h9 => h9) rfl dJx4a65c_add_9ea2d_13 ?_
  refine lv_aload_n hx hb dJx4a65c_add_9ea2d_16 rfl (lv_at hl 0 rfl) ?_
  refine va_get (D := (dC, dI)) (ci := 0) (v := .int 0) (C := RJx4a65c) (T := TJx4a65c) (N := 3) hx hb hts hinJx4a65c hown hK hP 0 rfl rfl 2 (by decide) (hts (.fieldLink RJx4a65c 48 "java/util/ArrayList" "size" "I") (by decide +kernel)) (fun _ h9 => h9) rfl dJx4a65c_add_9ea2d_17 ?_
  have hPc := hP.sub (ws' := [(h0, .inr (0, [.int x_1, .ref ze, .int 0]))]) [0] rfl
  have hDc := hD.sub (ws' := [(h0, .inr (0, [.int x_1, .ref ze, .int 0]))]) [0] (by decide) rfl
  have hKc := hK.sub (tys' := [(cO, .object "java/lang/Object")]) [0] rfl
  have hFc := va_free (wc := [(h0, .inr (0, [.int x_1, .ref ze, .int 0]))]) hD hS hA [0] rfl
  have hz_2 := hS.1
  refine va_callv (va_runV (As := [.ref v, .ref ze, .int 0]) (rest := []) ⟨hx, hb, hml, hown, hts⟩ (c_AL_addE3 l dC dI _ h0 x_1 v cO ze mi) (cwV 3 hts gc_AL_addE_AL_addE3 rfl rfl rfl (by decide +kernel) ⟨Nat.le_of_ble_eq_true rfl, Nat.le_of_ble_eq_true rfl⟩) ⟨fun a U g mk q => by obtain ⟨q0, q1, qP, qK, qD, q_hAL, q_hAn⟩ := q; exact ⟨q0, q1, qP, va_K.moved (u := U) (U := U.calling g mk a) (Vm.Alike.refl U.vm) qK, qD, okAL.moved (Vm.Alike.refl U.vm) q_hAL, q_hAn⟩, va_recv hKc hPc (ci := 0) (q0 := 0) rfl rfl, fun U hU hW => ⟨rfl, by rw [hU], by rw [hU]; exact hPc, va_K.moved hW.alike hKc, hDc.weaken (fun _ _ _ _ => trivial), by rw [hU]; exact okAL.pass hAL hW hS hFc, by rw [hU]; exact okAn.pass hAn hS hFc⟩⟩ rfl rfl hl.1 rfl (lv_room (Nat.le_of_ble_eq_true rfl)) dJx4a65c_add_9ea2d_20 ⟨by decide, by decide⟩) hS (fun q _ h => hFc q h) hFc (fun u t H1 locs ht hvm hw hB hz1 hk1 hS => ?_)
  obtain ⟨ad2_3, cap2_4, g1_5, hf_6, hf_7, hf_8, hf_9, hP1, hK1, hD1⟩ := hB
  rw [ht] at hP1
  obtain ⟨hP, hD⟩ := va_join (wr := []) (w1 := [(h0, .inr (0, [.int x_1, .ref ad2_3, .int 1])), (ad2_3, .inl (cO, cap2_4, .inr (.inr (.inr (.inr g1_5)))))]) hP hD [0] [] rfl rfl (by decide) (by decide) hk1 hFc hP1 hD1
  generalize H1 = H at hP hS ⊢
  have hP : va_P (dC, dI) vwCl [(h0, .inr (0, [.int x_1, .ref ad2_3, .int 1])), (ad2_3, .inl (cO, cap2_4, .inr (.inr (.inr (.inr g1_5)))))] H := hP
  have hD : va_D A [(h0, .inr (0, [.int x_1, .ref ad2_3, .int 1])), (ad2_3, .inl (cO, cap2_4, .inr (.inr (.inr (.inr g1_5)))))] := hD
  refine W.widen (k := 1) (n := 64) (by omega) (by omega) ?_
  refine lv_iconst (v := 1) hx hb dJx4a65c_add_9ea2d_23 (by decide) ?_
  have hP9 := hP.sub (ws' := [(h0, .inr (0, [.int x_1, .ref ad2_3, .int 1])), (ad2_3, .inl (cO, cap2_4, .inr (.inr (.inr (.inr g1_5)))))]) [0, 1] rfl
  have hD9 := hD.sub (ws' := [(h0, .inr (0, [.int x_1, .ref ad2_3, .int 1])), (ad2_3, .inl (cO, cap2_4, .inr (.inr (.inr (.inr g1_5)))))]) [0, 1] (by decide) rfl
  have hK9 := hK.sub (tys' := [(cO, .object "java/lang/Object")]) [0] rfl
  refine W.widen (k := 1) (n := 64) (by omega) (by omega) ?_
  exact W.zret (v := 1) (ty := .boolean) hx hb hr rfl (fun t ht hW => ⟨⟨1, (), rfl, rfl, ad2_3, cap2_4, g1_5, x_1, (by omega), (by omega), (by assumption), (okNew hAe hD 1 rfl [0] rfl (by decide)), by rw [ht]; exact hP9, va_K.moved hW.alike hK9, hD9⟩, hS.F ht⟩) hS.2.2 dJx4a65c_add_9ea2d_24
def wp_AL_addF : List Cond := .code yJx4a65c_add_9ea2d cJx4a65c_add_9ea2d 2 (some .boolean) :: (([.fieldLink RJx4a65c 63 "java/util/ArrayList" "modCount" "I", .sameField "java/util/ArrayList" "java/util/AbstractList" "modCount" "I", .fieldLink RJx4a65c 9 "java/util/ArrayList" "elementData" "[Ljava/lang/Object;", .fieldLink RJx4a65c 48 "java/util/ArrayList" "size" "I"] : List Cond) ++ wsJx4a65c0 ++ (wsV RJx4a65c 131 RJx4a65c yJx4a65c_add_72be8 wp_AL_addF3))
theorem gc_AL_addF_AL_addF3 : GoodIn wp_AL_addF (wsV RJx4a65c 131 RJx4a65c yJx4a65c_add_72be8 wp_AL_addF3) := goodIn_sub (fun _ h => List.mem_cons_of_mem _ (List.mem_append_right _ h)) (by decide +kernel)
set_option maxRecDepth 20000 in
theorem gi_AL_addF : GoodIn lw_tbl wp_AL_addF := (goodIn_ca (goodIn_ca (goodIn_r (.code yJx4a65c_add_9ea2d cJx4a65c_add_9ea2d 2 (some .boolean) :: ([.fieldLink RJx4a65c 63 "java/util/ArrayList" "modCount" "I", .sameField "java/util/ArrayList" "java/util/AbstractList" "modCount" "I", .fieldLink RJx4a65c 9 "java/util/ArrayList" "elementData" "[Ljava/lang/Object;", .fieldLink RJx4a65c 48 "java/util/ArrayList" "size" "I"] : List Cond)) [410, 93, 94, 90, 91] (by decide +kernel) (by decide +kernel)) wi_wsJx4a65c) (goodIn_app (goodIn_r _ [411, 413, 12, 51] (by decide +kernel) (by decide +kernel)) gi_AL_addF3))
set_option maxHeartbeats 4000000 in
set_option maxRecDepth 100000 in
/-- add(e) of a list with a row -/
theorem c_AL_addF (l : Launch) (dC : Nat → ClassId) (dI : Nat → Nat → Nat) (sz : Nat) (h0 : Nat) (mc : Int32) (v : Nat) (ad : Nat) (nr : Nat) (cap : Nat) (cO : ClassId) (g : Nat → Option Nat) (ze : Nat) (mi : Nat) (q0 : 0 < nr) (q1 : nr ≤ 40) (q2 : nr ≤ cap) (q3 : cap ≤ 64) : Met l yJx4a65c_add_9ea2d wp_AL_addF ({ frames := 6, cells := 1, slots := 64, locals := 240 }) (va_Pc [.ref h0, .ref v] (fun U => U.heap.size = sz ∧ va_P (dC, dI) vwCl [(h0, .inr (0, [.int mc, .ref ad, .int (nI nr)])), (ad, .inl (cO, cap, .inr (.inr (.inr (.inr g)))))] U.heap ∧ va_K (dC, dI) vwCl [(cO, .object "java/lang/Object")] U ∧ va_D (fun _ => True) [(h0, .inr (0, [.int mc, .ref ad, .int (nI nr)])), (ad, .inl (cO, cap, .inr (.inr (.inr (.inr g)))))] ∧ okAL ze mi (va_A [(h0, .inr (0, [.int mc, .ref ad, .int (nI nr)])), (ad, .inl (cO, cap, .inr (.inr (.inr (.inr g)))))] sz) U U.heap ∧ okAn (dC, dI) vwCl v (va_A [(h0, .inr (0, [.int mc, .ref ad, .int (nI nr)])), (ad, .inl (cO, cap, .inr (.inr (.inr (.inr g)))))] sz) U.heap ∧ okAns (dC, dI) vwCl g nr (va_A [(h0, .inr (0, [.int mc, .ref ad, .int (nI nr)])), (ad, .inl (cO, cap, .inr (.inr (.inr (.inr g)))))] sz) U.heap)) (va_Qi (fun (r : Int32) (_ : Unit) => r = 1) (fun (_ : Unit) (t : State) => ∃ (ad2 : Nat), ∃ (cap2 : Nat), ∃ (g1 : Nat → Option Nat), ∃ (mc2 : Int32), (nr + 1 ≤ cap2) ∧ (cap2 ≤ 64) ∧ (g1 nr = some v) ∧ (∀ j, j < nr → g1 j = g j) ∧ (ad2 = ad ∨ sz ≤ ad2) ∧ va_P (dC, dI) vwCl [(h0, .inr (0, [.int mc2, .ref ad2, .int (nI (nr + 1))])), (ad2, .inl (cO, cap2, .inr (.inr (.inr (.inr g1)))))] t.heap ∧ va_K (dC, dI) vwCl [(cO, .object "java/lang/Object")] t ∧ va_D (va_A [(h0, .inr (0, [.int mc, .ref ad, .int (nI nr)])), (ad, .inl (cO, cap, .inr (.inr (.inr (.inr g)))))] sz) [(h0, .inr (0, [.int mc2, .ref ad2, .int (nI (nr + 1))])), (ad2, .inl (cO, cap2, .inr (.inr (.inr (.inr g1)))))]) (va_A [(h0, .inr (0, [.int mc, .ref ad, .int (nI nr)])), (ad, .inl (cO, cap, .inr (.inr (.inr (.inr g)))))] sz)) 1 64 (va_A [(h0, .inr (0, [.int mc, .ref ad, .int (nI nr)])), (ad, .inl (cO, cap, .inr (.inr (.inr (.inr g)))))] sz) := by
  refine Met.ofW (cc := cJx4a65c_add_9ea2d) (maxL := 2) (ret := (some .boolean)) (by decide) rfl ?_
  intro p e s m args below meth c s₁ B hml hv
  obtain ⟨rfl, hsz, hP, hK, hD0, hAL, hAn, hAs⟩ := hv
  have hx := B.exec
  have hb := B.bytes
  have hr := B.returns
  have hts := atoms_spec (ws := wp_AL_addF) B.pre
  have hown : s.vm.findClass RJx4a65c = some m.cls := findClass_of_methodNamed B.named
  have hlocks := B.notSynchronized
  subst hsz
  have hD := hD0.self (sz := s.heap.size)
  generalize hAe : va_A [(h0, .inr (0, [.int mc, .ref ad, .int (nI nr)])), (ad, .inl (cO, cap, .inr (.inr (.inr (.inr g)))))] s.heap.size = A at hD hAL hAn hAs ⊢
  have hA : ∀ q : Nat, s.heap.size ≤ q → A q := fun q h => by rw [← hAe]; exact Or.inr h
  have hS : va_S A s.heap s.heap [] := va_S.rf
  have hP : va_P (dC, dI) vwCl [(h0, .inr (0, [.int mc, .ref ad, .int (nI nr)])), (ad, .inl (cO, cap, .inr (.inr (.inr (.inr g)))))] s.heap := hP
  have hl := lv_entry ([.ref h0, .ref v]) (n := 2) (Nat.le_of_ble_eq_true rfl)
  rw [lg_entry_eq]
  generalize (lg_sl ([.ref h0, .ref v]) ++ List.replicate (2 - (lg_sl ([.ref h0, .ref v])).length) Slot.unset).toArray = ls at hl ⊢
  have hl : lv_has ls 2 [(0, .ref h0), (1, .ref v)] := hl
  have hinJx4a65c : ∀ w ∈ u_ws RJx4a65c TJx4a65c 3, w ∈ wp_AL_addF := fun _ h => List.mem_cons_of_mem _ (List.mem_append_left _ (List.mem_append_right _ h))
  have hZT : va_T (.object "java/lang/Object") ze 0 (fun _ => .null) A s s.heap ∧ True := ⟨hAL.2.1, trivial⟩
  refine lv_aload_n hx hb dJx4a65c_add_9ea2d_0 rfl (lv_at hl 0 rfl) ?_
  refine lv_dup hx hb dJx4a65c_add_9ea2d_1 rfl ?_
  refine va_get (D := (dC, dI)) (ci := 0) (v := .int mc) (C := RJx4a65c) (T := TJx4a65c) (N := 3) hx hb hts hinJx4a65c hown hK hP 0 rfl rfl 0 (by decide) (hts (.fieldLink RJx4a65c 63 "java/util/ArrayList" "modCount" "I") (by decide +kernel)) (fun x9 h9 => u_same (hts (.sameField "java/util/ArrayList" "java/util/AbstractList" "modCount" "I") (by decide +kernel)) x9 h9) rfl dJx4a65c_add_9ea2d_2 ?_
  refine lv_iconst (v := 1) hx hb dJx4a65c_add_9ea2d_5 (by decide) ?_
  refine lv_iadd hx hb dJx4a65c_add_9ea2d_6 ?_
  refine lv_topi (fun x_1 ex_1 => ?_)
  refine va_put (D := (dC, dI)) (ci := 0) (v := .int x_1) (ty := .int) (C := RJx4a65c) (T := TJx4a65c) (N := 3) hx hb hts hinJx4a65c tyJx4a65c tyJx4a65c_ok nmJx4a65c hown hK hP hD hS 0 rfl rfl 0 (by decide) (hts (.fieldLink RJx4a65c 63 "java/util/ArrayList" "modCount" "I") (by decide +kernel)) (fun x9 h9 => u_same (hts (.sameField "java/util/ArrayList" "java/util/AbstractList" "modCount" "I") (by decide +kernel)) x9 h9) rfl (by decide +kernel) rfl rfl (Nat.le_of_ble_eq_true rfl) dJx4a65c_add_9ea2d_7 (fun H locs hP hD hS => ?_)
  have hP : va_P (dC, dI) vwCl [(h0, .inr (0, [.int x_1, .ref ad, .int (nI nr)])), (ad, .inl (cO, cap, .inr (.inr (.inr (.inr g)))))] H := hP
  have hD : va_D A [(h0, .inr (0, [.int x_1, .ref ad, .int (nI nr)])), (ad, .inl (cO, cap, .inr (.inr (.inr (.inr g)))))] := hD
  refine lv_aload_n hx hb dJx4a65c_add_9ea2d_10 rfl (lv_at hl 0 rfl) ?_
  refine lv_aload_n hx hb dJx4a65c_add_9ea2d_11 rfl (lv_at hl 1 rfl) ?_
  refine lv_aload_n hx hb dJx4a65c_add_9ea2d_12 rfl (lv_at hl 0 rfl) ?_
  refine va_get (D := (dC, dI)) (ci := 0) (v := .ref ad) (C := RJx4a65c) (T := TJx4a65c) (N := 3) hx hb hts hinJx4a65c hown hK hP 0 rfl rfl 1 (by decide) (hts (.fieldLink RJx4a65c 9 "java/util/ArrayList" "elementData" "[Ljava/lang/Object;") (by decide +kernel)) (fun _ h9 => h9) rfl dJx4a65c_add_9ea2d_13 ?_
  refine lv_aload_n hx hb dJx4a65c_add_9ea2d_16 rfl (lv_at hl 0 rfl) ?_
  refine va_get (D := (dC, dI)) (ci := 0) (v := .int (nI nr)) (C := RJx4a65c) (T := TJx4a65c) (N := 3) hx hb hts hinJx4a65c hown hK hP 0 rfl rfl 2 (by decide) (hts (.fieldLink RJx4a65c 48 "java/util/ArrayList" "size" "I") (by decide +kernel)) (fun _ h9 => h9) rfl dJx4a65c_add_9ea2d_17 ?_
  have hPc := hP.sub (ws' := [(h0, .inr (0, [.int x_1, .ref ad, .int (nI nr)])), (ad, .inl (cO, cap, .inr (.inr (.inr (.inr g)))))]) [0, 1] rfl
  have hDc := hD.sub (ws' := [(h0, .inr (0, [.int x_1, .ref ad, .int (nI nr)])), (ad, .inl (cO, cap, .inr (.inr (.inr (.inr g)))))]) [0, 1] (by decide) rfl
  have hKc := hK.sub (tys' := [(cO, .object "java/lang/Object")]) [0] rfl
  have hFc := va_free (wc := [(h0, .inr (0, [.int x_1, .ref ad, .int (nI nr)])), (ad, .inl (cO, cap, .inr (.inr (.inr (.inr g)))))]) hD hS hA [0, 1] rfl
  have hz_2 := hS.1
  refine va_callv (va_runV (As := [.ref v, .ref ad, .int (nI nr)]) (rest := []) ⟨hx, hb, hml, hown, hts⟩ (c_AL_addF3 l dC dI _ h0 x_1 v ad nr cap cO g ze mi (by omega) (by omega) (by omega) (by omega)) (cwV 3 hts gc_AL_addF_AL_addF3 rfl rfl rfl (by decide +kernel) ⟨Nat.le_of_ble_eq_true rfl, Nat.le_of_ble_eq_true rfl⟩) ⟨fun a U g mk q => by obtain ⟨q0, q1, qP, qK, qD, q_hAL, q_hAn, q_hAs⟩ := q; exact ⟨q0, q1, qP, va_K.moved (u := U) (U := U.calling g mk a) (Vm.Alike.refl U.vm) qK, qD, okAL.moved (Vm.Alike.refl U.vm) q_hAL, q_hAn, q_hAs⟩, va_recv hKc hPc (ci := 0) (q0 := 0) rfl rfl, fun U hU hW => ⟨rfl, by rw [hU], by rw [hU]; exact hPc, va_K.moved hW.alike hKc, hDc.weaken (fun _ _ _ _ => trivial), by rw [hU]; exact okAL.pass hAL hW hS hFc, by rw [hU]; exact okAn.pass hAn hS hFc, by rw [hU]; exact okAns.pass hAs hS hFc⟩⟩ rfl rfl hl.1 rfl (lv_room (Nat.le_of_ble_eq_true rfl)) dJx4a65c_add_9ea2d_20 ⟨by decide, by decide⟩) hS (fun q _ h => hFc q h) hFc (fun u t H1 locs ht hvm hw hB hz1 hk1 hS => ?_)
  obtain ⟨ad2_3, cap2_4, g1_5, hf_6, hf_7, hf_8, hf_9, hf_10, hP1, hK1, hD1⟩ := hB
  rw [ht] at hP1
  obtain ⟨hP, hD⟩ := va_join (wr := []) (w1 := [(h0, .inr (0, [.int x_1, .ref ad2_3, .int (nI (nr + 1))])), (ad2_3, .inl (cO, cap2_4, .inr (.inr (.inr (.inr g1_5)))))]) hP hD [0, 1] [] rfl rfl (by decide) (by decide) hk1 hFc hP1 hD1
  generalize H1 = H at hP hS ⊢
  have hP : va_P (dC, dI) vwCl [(h0, .inr (0, [.int x_1, .ref ad2_3, .int (nI (nr + 1))])), (ad2_3, .inl (cO, cap2_4, .inr (.inr (.inr (.inr g1_5)))))] H := hP
  have hD : va_D A [(h0, .inr (0, [.int x_1, .ref ad2_3, .int (nI (nr + 1))])), (ad2_3, .inl (cO, cap2_4, .inr (.inr (.inr (.inr g1_5)))))] := hD
  refine W.widen (k := 1) (n := 64) (by omega) (by omega) ?_
  refine lv_iconst (v := 1) hx hb dJx4a65c_add_9ea2d_23 (by decide) ?_
  have hP9 := hP.sub (ws' := [(h0, .inr (0, [.int x_1, .ref ad2_3, .int (nI (nr + 1))])), (ad2_3, .inl (cO, cap2_4, .inr (.inr (.inr (.inr g1_5)))))]) [0, 1] rfl
  have hD9 := hD.sub (ws' := [(h0, .inr (0, [.int x_1, .ref ad2_3, .int (nI (nr + 1))])), (ad2_3, .inl (cO, cap2_4, .inr (.inr (.inr (.inr g1_5)))))]) [0, 1] (by decide) rfl
  have hK9 := hK.sub (tys' := [(cO, .object "java/lang/Object")]) [0] rfl
  refine W.widen (k := 1) (n := 64) (by omega) (by omega) ?_
  exact W.zret (v := 1) (ty := .boolean) hx hb hr rfl (fun t ht hW => ⟨⟨1, (), rfl, rfl, ad2_3, cap2_4, g1_5, x_1, (by omega), (by omega), (by assumption), (by assumption), (hf_10.imp id (Nat.le_trans hz_2)), by rw [ht]; exact hP9, va_K.moved hW.alike hK9, hD9⟩, hS.F ht⟩) hS.2.2 dJx4a65c_add_9ea2d_24
