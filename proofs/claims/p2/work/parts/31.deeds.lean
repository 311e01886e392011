theorem dX1_clear_0 : decode cX1_clear 0 = .ok (.aload_n 0, 1) := by decide +kernel
theorem dX1_clear_1 : decode cX1_clear 1 = .ok (.getfield 9, 3) := by decide +kernel
theorem dX1_clear_4 : decode cX1_clear 4 = .ok (.iconst (-1), 1) := by decide +kernel
theorem dX1_clear_5 : decode cX1_clear 5 = .ok (.invokestatic 24, 3) := by decide +kernel
theorem dX1_clear_8 : decode cX1_clear 8 = .ok (.aload_n 0, 1) := by decide +kernel
theorem dX1_clear_9 : decode cX1_clear 9 = .ok (.getfield 15, 3) := by decide +kernel
theorem dX1_clear_12 : decode cX1_clear 12 = .ok (.iconst (-1), 1) := by decide +kernel
theorem dX1_clear_13 : decode cX1_clear 13 = .ok (.invokestatic 24, 3) := by decide +kernel
theorem dX1_clear_16 : decode cX1_clear 16 = .ok (.aload_n 0, 1) := by decide +kernel
theorem dX1_clear_17 : decode cX1_clear 17 = .ok (.getfield 18, 3) := by decide +kernel
theorem dX1_clear_20 : decode cX1_clear 20 = .ok (.iconst 0, 1) := by decide +kernel
theorem dX1_clear_21 : decode cX1_clear 21 = .ok (.invokestatic 24, 3) := by decide +kernel
theorem dX1_clear_24 : decode cX1_clear 24 = .ok (.aload_n 0, 1) := by decide +kernel
theorem dX1_clear_25 : decode cX1_clear 25 = .ok (.getfield 21, 3) := by decide +kernel
theorem dX1_clear_28 : decode cX1_clear 28 = .ok (.iconst 0, 1) := by decide +kernel
theorem dX1_clear_29 : decode cX1_clear 29 = .ok (.invokestatic 24, 3) := by decide +kernel
theorem dX1_clear_32 : decode cX1_clear 32 = .ok (.return_, 1) := by decide +kernel
theorem dX1_give_0 : decode cX1_give 0 = .ok (.aload_n 0, 1) := by decide +kernel
theorem dX1_give_1 : decode cX1_give 1 = .ok (.getfield 9, 3) := by decide +kernel
theorem dX1_give_4 : decode cX1_give 4 = .ok (.iload_n 1, 1) := by decide +kernel
theorem dX1_give_5 : decode cX1_give 5 = .ok (.iload_n 2, 1) := by decide +kernel
theorem dX1_give_6 : decode cX1_give 6 = .ok (.iastore, 1) := by decide +kernel
theorem dX1_give_7 : decode cX1_give 7 = .ok (.aload_n 0, 1) := by decide +kernel
theorem dX1_give_8 : decode cX1_give 8 = .ok (.getfield 15, 3) := by decide +kernel
theorem dX1_give_11 : decode cX1_give 11 = .ok (.iload_n 1, 1) := by decide +kernel
theorem dX1_give_12 : decode cX1_give 12 = .ok (.iload_n 3, 1) := by decide +kernel
theorem dX1_give_13 : decode cX1_give 13 = .ok (.iastore, 1) := by decide +kernel
theorem dX1_give_14 : decode cX1_give 14 = .ok (.aload_n 0, 1) := by decide +kernel
theorem dX1_give_15 : decode cX1_give 15 = .ok (.getfield 18, 3) := by decide +kernel
theorem dX1_give_18 : decode cX1_give 18 = .ok (.iload_n 1, 1) := by decide +kernel
theorem dX1_give_19 : decode cX1_give 19 = .ok (.iconst 0, 1) := by decide +kernel
theorem dX1_give_20 : decode cX1_give 20 = .ok (.iastore, 1) := by decide +kernel
theorem dX1_give_21 : decode cX1_give 21 = .ok (.return_, 1) := by decide +kernel
theorem dX1_isOwed_0 : decode cX1_isOwed 0 = .ok (.aload_n 0, 1) := by decide +kernel
theorem dX1_isOwed_1 : decode cX1_isOwed 1 = .ok (.getfield 9, 3) := by decide +kernel
theorem dX1_isOwed_4 : decode cX1_isOwed 4 = .ok (.iload_n 2, 1) := by decide +kernel
theorem dX1_isOwed_5 : decode cX1_isOwed 5 = .ok (.iaload, 1) := by decide +kernel
theorem dX1_isOwed_6 : decode cX1_isOwed 6 = .ok (.iload_n 1, 1) := by decide +kernel
theorem dX1_isOwed_7 : decode cX1_isOwed 7 = .ok (.if_icmp .ne 16, 3) := by decide +kernel
theorem dX1_isOwed_23 : decode cX1_isOwed 23 = .ok (.iconst 0, 1) := by decide +kernel
theorem dX1_isOwed_24 : decode cX1_isOwed 24 = .ok (.ireturn, 1) := by decide +kernel
theorem dX1_isOwed_10 : decode cX1_isOwed 10 = .ok (.aload_n 0, 1) := by decide +kernel
theorem dX1_isOwed_11 : decode cX1_isOwed 11 = .ok (.getfield 18, 3) := by decide +kernel
theorem dX1_isOwed_14 : decode cX1_isOwed 14 = .ok (.iload_n 2, 1) := by decide +kernel
theorem dX1_isOwed_15 : decode cX1_isOwed 15 = .ok (.iaload, 1) := by decide +kernel
theorem dX1_isOwed_16 : decode cX1_isOwed 16 = .ok (.ifCond .ne 7, 3) := by decide +kernel
theorem dX1_isOwed_19 : decode cX1_isOwed 19 = .ok (.iconst 1, 1) := by decide +kernel
theorem dX1_isOwed_20 : decode cX1_isOwed 20 = .ok (.goto 4, 3) := by decide +kernel
theorem dX1_lastDayOf_0 : decode cX1_lastDayOf 0 = .ok (.aload_n 0, 1) := by decide +kernel
theorem dX1_lastDayOf_1 : decode cX1_lastDayOf 1 = .ok (.getfield 15, 3) := by decide +kernel
theorem dX1_lastDayOf_4 : decode cX1_lastDayOf 4 = .ok (.iload_n 1, 1) := by decide +kernel
theorem dX1_lastDayOf_5 : decode cX1_lastDayOf 5 = .ok (.iaload, 1) := by decide +kernel
theorem dX1_lastDayOf_6 : decode cX1_lastDayOf 6 = .ok (.iconst (-1), 1) := by decide +kernel
theorem dX1_lastDayOf_7 : decode cX1_lastDayOf 7 = .ok (.if_icmp .ne 9, 3) := by decide +kernel
theorem dX1_lastDayOf_16 : decode cX1_lastDayOf 16 = .ok (.aload_n 0, 1) := by decide +kernel
theorem dX1_lastDayOf_17 : decode cX1_lastDayOf 17 = .ok (.getfield 15, 3) := by decide +kernel
theorem dX1_lastDayOf_20 : decode cX1_lastDayOf 20 = .ok (.iload_n 1, 1) := by decide +kernel
theorem dX1_lastDayOf_21 : decode cX1_lastDayOf 21 = .ok (.iaload, 1) := by decide +kernel
theorem dX1_lastDayOf_22 : decode cX1_lastDayOf 22 = .ok (.ireturn, 1) := by decide +kernel
theorem dX1_lastDayOf_10 : decode cX1_lastDayOf 10 = .ok (.sipush 1000, 3) := by decide +kernel
theorem dX1_lastDayOf_13 : decode cX1_lastDayOf 13 = .ok (.goto 9, 3) := by decide +kernel
theorem dX1_isAhead_0 : decode cX1_isAhead 0 = .ok (.aload_n 0, 1) := by decide +kernel
theorem dX1_isAhead_1 : decode cX1_isAhead 1 = .ok (.iload_n 1, 1) := by decide +kernel
theorem dX1_isAhead_2 : decode cX1_isAhead 2 = .ok (.invokevirtual 63, 3) := by decide +kernel
theorem dX1_isAhead_5 : decode cX1_isAhead 5 = .ok (.istore_n 3, 1) := by decide +kernel
theorem dX1_isAhead_6 : decode cX1_isAhead 6 = .ok (.aload_n 0, 1) := by decide +kernel
theorem dX1_isAhead_7 : decode cX1_isAhead 7 = .ok (.iload_n 2, 1) := by decide +kernel
theorem dX1_isAhead_8 : decode cX1_isAhead 8 = .ok (.invokevirtual 63, 3) := by decide +kernel
theorem dX1_isAhead_11 : decode cX1_isAhead 11 = .ok (.istore 4, 2) := by decide +kernel
theorem dX1_isAhead_13 : decode cX1_isAhead 13 = .ok (.iload_n 3, 1) := by decide +kernel
theorem dX1_isAhead_14 : decode cX1_isAhead 14 = .ok (.iload 4, 2) := by decide +kernel
theorem dX1_isAhead_16 : decode cX1_isAhead 16 = .ok (.if_icmp .lt 14, 3) := by decide +kernel
theorem dX1_isAhead_30 : decode cX1_isAhead 30 = .ok (.iconst 1, 1) := by decide +kernel
theorem dX1_isAhead_31 : decode cX1_isAhead 31 = .ok (.goto 4, 3) := by decide +kernel
theorem dX1_isAhead_35 : decode cX1_isAhead 35 = .ok (.ireturn, 1) := by decide +kernel
theorem dX1_isAhead_19 : decode cX1_isAhead 19 = .ok (.iload_n 3, 1) := by decide +kernel
theorem dX1_isAhead_20 : decode cX1_isAhead 20 = .ok (.iload 4, 2) := by decide +kernel
theorem dX1_isAhead_22 : decode cX1_isAhead 22 = .ok (.if_icmp .ne 12, 3) := by decide +kernel
theorem dX1_isAhead_34 : decode cX1_isAhead 34 = .ok (.iconst 0, 1) := by decide +kernel
theorem dX1_isAhead_25 : decode cX1_isAhead 25 = .ok (.iload_n 1, 1) := by decide +kernel
theorem dX1_isAhead_26 : decode cX1_isAhead 26 = .ok (.iload_n 2, 1) := by decide +kernel
theorem dX1_isAhead_27 : decode cX1_isAhead 27 = .ok (.if_icmp .ge 7, 3) := by decide +kernel
theorem dX1_placeOf_5 : decode cX1_placeOf 5 = .ok (.iload 4, 2) := by decide +kernel
theorem dX1_placeOf_7 : decode cX1_placeOf 7 = .ok (.bipush 40, 2) := by decide +kernel
theorem dX1_placeOf_9 : decode cX1_placeOf 9 = .ok (.if_icmp .ge 32, 3) := by decide +kernel
theorem dX1_placeOf_12 : decode cX1_placeOf 12 = .ok (.aload_n 0, 1) := by decide +kernel
theorem dX1_placeOf_13 : decode cX1_placeOf 13 = .ok (.iload_n 1, 1) := by decide +kernel
theorem dX1_placeOf_14 : decode cX1_placeOf 14 = .ok (.iload 4, 2) := by decide +kernel
theorem dX1_placeOf_16 : decode cX1_placeOf 16 = .ok (.invokevirtual 56, 3) := by decide +kernel
theorem dX1_placeOf_19 : decode cX1_placeOf 19 = .ok (.ifCond .eq 16, 3) := by decide +kernel
theorem dX1_placeOf_35 : decode cX1_placeOf 35 = .ok (.iinc 4 1, 3) := by decide +kernel
theorem dX1_placeOf_38 : decode cX1_placeOf 38 = .ok (.goto (-33), 3) := by decide +kernel
theorem dX1_placeOf_22 : decode cX1_placeOf 22 = .ok (.aload_n 0, 1) := by decide +kernel
theorem dX1_placeOf_23 : decode cX1_placeOf 23 = .ok (.iload 4, 2) := by decide +kernel
theorem dX1_placeOf_25 : decode cX1_placeOf 25 = .ok (.iload_n 2, 1) := by decide +kernel
theorem dX1_placeOf_26 : decode cX1_placeOf 26 = .ok (.invokevirtual 60, 3) := by decide +kernel
theorem dX1_placeOf_29 : decode cX1_placeOf 29 = .ok (.ifCond .eq 6, 3) := by decide +kernel
theorem dX1_placeOf_32 : decode cX1_placeOf 32 = .ok (.iinc 3 1, 3) := by decide +kernel
theorem dX1_placeOf_0 : decode cX1_placeOf 0 = .ok (.iconst 0, 1) := by decide +kernel
theorem dX1_placeOf_1 : decode cX1_placeOf 1 = .ok (.istore_n 3, 1) := by decide +kernel
theorem dX1_placeOf_2 : decode cX1_placeOf 2 = .ok (.iconst 0, 1) := by decide +kernel
theorem dX1_placeOf_3 : decode cX1_placeOf 3 = .ok (.istore 4, 2) := by decide +kernel
theorem dX1_placeOf_41 : decode cX1_placeOf 41 = .ok (.iload_n 3, 1) := by decide +kernel
theorem dX1_placeOf_42 : decode cX1_placeOf 42 = .ok (.ireturn, 1) := by decide +kernel
def wp_D_clear : List Cond := .code yX1_clear cX1_clear 1 none :: (([.fieldLink RX1 9 "AgreedTalks$Deeds" "holders" "[I", .fieldLink RX1 15 "AgreedTalks$Deeds" "dueDays" "[I", .fieldLink RX1 18 "AgreedTalks$Deeds" "finished" "[I", .fieldLink RX1 21 "AgreedTalks$Deeds" "requests" "[I"] : List Cond) ++ wsX10 ++ (va_wsS RX1 24 yJ7_fill_53178 wp_fill))
theorem gc_D_clear_fill : GoodIn wp_D_clear (va_wsS RX1 24 yJ7_fill_53178 wp_fill) := goodIn_sub (fun _ h => List.mem_cons_of_mem _ (List.mem_append_right _ h)) (by decide +kernel)
set_option maxRecDepth 20000 in
theorem gi_D_clear : GoodIn lw_tbl wp_D_clear := (goodIn_ca (goodIn_ca (goodIn_r (.code yX1_clear cX1_clear 1 none :: ([.fieldLink RX1 9 "AgreedTalks$Deeds" "holders" "[I", .fieldLink RX1 15 "AgreedTalks$Deeds" "dueDays" "[I", .fieldLink RX1 18 "AgreedTalks$Deeds" "finished" "[I", .fieldLink RX1 21 "AgreedTalks$Deeds" "requests" "[I"] : List Cond)) [520, 142, 144, 146, 148] (by decide +kernel) (by decide +kernel)) wi_wsX1) (goodIn_app (goodIn_r _ [521, 187, 56] (by decide +kernel) (by decide +kernel)) gi_fill))
set_option maxHeartbeats 4000000 in
set_option maxRecDepth 100000 in
/-- Deeds.clear -/
theorem c_D_clear (l : Launch) (dC : Nat → ClassId) (dI : Nat → Nat → Nat) (sz : Nat) (h0 : Nat) (d0 : Nat) (d1 : Nat) (d2 : Nat) (d3 : Nat) (cd0 : ClassId) (cd1 : ClassId) (cd2 : ClassId) (cd3 : ClassId) (v1 : Nat → Int32) (v2 : Nat → Int32) (v3 : Nat → Int32) (v4 : Nat → Int32) : Met l yX1_clear wp_D_clear ({ frames := 1, cells := 0, slots := 0, locals := 40 }) (va_Pc [.ref h0] (fun U => U.heap.size = sz ∧ va_P (dC, dI) vwCl [(h0, .inr (2, [.ref d0, .ref d1, .ref d2, .ref d3])), (d0, .inl (cd0, 40, .inl v1)), (d1, .inl (cd1, 40, .inl v2)), (d2, .inl (cd2, 40, .inl v3)), (d3, .inl (cd3, 480, .inl v4))] U.heap ∧ va_K (dC, dI) vwCl [(cd0, .int), (cd1, .int), (cd2, .int), (cd3, .int)] U ∧ va_D (fun _ => True) [(h0, .inr (2, [.ref d0, .ref d1, .ref d2, .ref d3])), (d0, .inl (cd0, 40, .inl v1)), (d1, .inl (cd1, 40, .inl v2)), (d2, .inl (cd2, 40, .inl v3)), (d3, .inl (cd3, 480, .inl v4))])) (va_Qv (fun (_ : Unit) => True) (fun (_ : Unit) (t : State) => ∃ (w1 : Nat → Int32), ∃ (w2 : Nat → Int32), ∃ (w3 : Nat → Int32), ∃ (w4 : Nat → Int32), va_P (dC, dI) vwCl [(h0, .inr (2, [.ref d0, .ref d1, .ref d2, .ref d3])), (d0, .inl (cd0, 40, .inl w1)), (d1, .inl (cd1, 40, .inl w2)), (d2, .inl (cd2, 40, .inl w3)), (d3, .inl (cd3, 480, .inl w4))] t.heap ∧ va_K (dC, dI) vwCl [(cd0, .int), (cd1, .int), (cd2, .int), (cd3, .int)] t ∧ va_D (va_A [(h0, .inr (2, [.ref d0, .ref d1, .ref d2, .ref d3])), (d0, .inl (cd0, 40, .inl v1)), (d1, .inl (cd1, 40, .inl v2)), (d2, .inl (cd2, 40, .inl v3)), (d3, .inl (cd3, 480, .inl v4))] sz) [(h0, .inr (2, [.ref d0, .ref d1, .ref d2, .ref d3])), (d0, .inl (cd0, 40, .inl w1)), (d1, .inl (cd1, 40, .inl w2)), (d2, .inl (cd2, 40, .inl w3)), (d3, .inl (cd3, 480, .inl w4))]) (va_A [(h0, .inr (2, [.ref d0, .ref d1, .ref d2, .ref d3])), (d0, .inl (cd0, 40, .inl v1)), (d1, .inl (cd1, 40, .inl v2)), (d2, .inl (cd2, 40, .inl v3)), (d3, .inl (cd3, 480, .inl v4))] sz)) 0 0 (va_A [(h0, .inr (2, [.ref d0, .ref d1, .ref d2, .ref d3])), (d0, .inl (cd0, 40, .inl v1)), (d1, .inl (cd1, 40, .inl v2)), (d2, .inl (cd2, 40, .inl v3)), (d3, .inl (cd3, 480, .inl v4))] sz) := by
  refine Met.ofW (cc := cX1_clear) (maxL := 1) (ret := none) (by decide) rfl ?_
  intro p e s m args below meth c s₁ B hml hv
  obtain ⟨rfl, hsz, hP, hK, hD0⟩ := hv
  have hx := B.exec
  have hb := B.bytes
  have hr := B.returns
  have hts := atoms_spec (ws := wp_D_clear) B.pre
  have hown : s.vm.findClass RX1 = some m.cls := findClass_of_methodNamed B.named
  have hlocks := B.notSynchronized
  subst hsz
  have hD := hD0.self (sz := s.heap.size)
  generalize hAe : va_A [(h0, .inr (2, [.ref d0, .ref d1, .ref d2, .ref d3])), (d0, .inl (cd0, 40, .inl v1)), (d1, .inl (cd1, 40, .inl v2)), (d2, .inl (cd2, 40, .inl v3)), (d3, .inl (cd3, 480, .inl v4))] s.heap.size = A at hD ⊢
  have hA : ∀ q : Nat, s.heap.size ≤ q → A q := fun q h => by rw [← hAe]; exact Or.inr h
  have hS : va_S A s.heap s.heap [] := va_S.rf
  have hP : va_P (dC, dI) vwCl [(h0, .inr (2, [.ref d0, .ref d1, .ref d2, .ref d3])), (d0, .inl (cd0, 40, .inl v1)), (d1, .inl (cd1, 40, .inl v2)), (d2, .inl (cd2, 40, .inl v3)), (d3, .inl (cd3, 480, .inl v4))] s.heap := hP
  have hl := lv_entry ([.ref h0]) (n := 1) (Nat.le_of_ble_eq_true rfl)
  rw [lg_entry_eq]
  generalize (lg_sl ([.ref h0]) ++ List.replicate (1 - (lg_sl ([.ref h0])).length) Slot.unset).toArray = ls at hl ⊢
  have hl : lv_has ls 1 [(0, .ref h0)] := hl
  have hinX1 : ∀ w ∈ u_ws RX1 TX1 4, w ∈ wp_D_clear := fun _ h => List.mem_cons_of_mem _ (List.mem_append_left _ (List.mem_append_right _ h))
  refine lv_aload_n hx hb dX1_clear_0 rfl (lv_at hl 0 rfl) ?_
  refine va_get (D := (dC, dI)) (ci := 2) (v := .ref d0) (C := RX1) (T := TX1) (N := 4) hx hb hts hinX1 hown hK hP 0 rfl rfl 0 (by decide) (hts (.fieldLink RX1 9 "AgreedTalks$Deeds" "holders" "[I") (by decide +kernel)) (fun _ h9 => h9) rfl dX1_clear_1 ?_
  refine lv_iconst (v := (-1)) hx hb dX1_clear_4 (by decide) ?_
  have hPc := hP.sub (ws' := [(d0, .inl (cd0, 40, .inl v1))]) [1] rfl
  have hDc := hD.sub (ws' := [(d0, .inl (cd0, 40, .inl v1))]) [1] (by decide) rfl
  have hKc := hK.sub (tys' := [(cd0, .int)]) [0] rfl
  have hFc := va_free (wc := [(d0, .inl (cd0, 40, .inl v1))]) hD hS hA [1] rfl
  refine va_callv (va_runS (As := [.ref d0, .int (-1)]) (rest := []) ⟨hx, hb, hml, hown, hts⟩ (c_fill l dC dI _ d0 (-1) cd0 40 v1 (by decide)) (va_cwS 2 hts gc_D_clear_fill rfl rfl rfl (by decide +kernel) ⟨Nat.le_of_ble_eq_true rfl, Nat.le_of_ble_eq_true rfl⟩) ⟨fun a U g mk q => by obtain ⟨q0, q1, qP, qK, qD⟩ := q; exact ⟨q0, q1, qP, va_K.moved (u := U) (U := U.calling g mk a) (Vm.Alike.refl U.vm) qK, qD⟩, fun U hU hW => ⟨rfl, by rw [hU], by rw [hU]; exact hPc, va_K.moved hW.alike hKc, hDc.weaken (fun _ _ _ _ => trivial)⟩⟩ rfl rfl hl.1 rfl (lv_room (Nat.le_of_ble_eq_true rfl)) dX1_clear_5 ⟨Nat.zero_le _, Nat.zero_le _⟩) hS (fun q _ h => hFc q h) hFc (fun u t H1 locs ht hvm hw hB hz1 hk1 hS => ?_)
  obtain ⟨g0_1, hP1, hK1, hD1⟩ := hB
  rw [ht] at hP1
  obtain ⟨hP, hD⟩ := va_join (wr := [(h0, .inr (2, [.ref d0, .ref d1, .ref d2, .ref d3])), (d1, .inl (cd1, 40, .inl v2)), (d2, .inl (cd2, 40, .inl v3)), (d3, .inl (cd3, 480, .inl v4))]) (w1 := [(d0, .inl (cd0, 40, .inl g0_1))]) hP hD [1] [0, 2, 3, 4] rfl rfl (by decide) (by decide) hk1 hFc hP1 hD1
  generalize H1 = H at hP hS ⊢
  have hP : va_P (dC, dI) vwCl [(h0, .inr (2, [.ref d0, .ref d1, .ref d2, .ref d3])), (d1, .inl (cd1, 40, .inl v2)), (d2, .inl (cd2, 40, .inl v3)), (d3, .inl (cd3, 480, .inl v4)), (d0, .inl (cd0, 40, .inl g0_1))] H := hP
  have hD : va_D A [(h0, .inr (2, [.ref d0, .ref d1, .ref d2, .ref d3])), (d1, .inl (cd1, 40, .inl v2)), (d2, .inl (cd2, 40, .inl v3)), (d3, .inl (cd3, 480, .inl v4)), (d0, .inl (cd0, 40, .inl g0_1))] := hD
  refine lv_aload_n hx hb dX1_clear_8 rfl (lv_at hl 0 rfl) ?_
  refine va_get (D := (dC, dI)) (ci := 2) (v := .ref d1) (C := RX1) (T := TX1) (N := 4) hx hb hts hinX1 hown hK hP 0 rfl rfl 1 (by decide) (hts (.fieldLink RX1 15 "AgreedTalks$Deeds" "dueDays" "[I") (by decide +kernel)) (fun _ h9 => h9) rfl dX1_clear_9 ?_
  refine lv_iconst (v := (-1)) hx hb dX1_clear_12 (by decide) ?_
  have hPc := hP.sub (ws' := [(d1, .inl (cd1, 40, .inl v2))]) [1] rfl
  have hDc := hD.sub (ws' := [(d1, .inl (cd1, 40, .inl v2))]) [1] (by decide) rfl
  have hKc := hK.sub (tys' := [(cd1, .int)]) [1] rfl
  have hFc := va_free (wc := [(d1, .inl (cd1, 40, .inl v2))]) hD hS hA [1] rfl
  refine va_callv (va_runS (As := [.ref d1, .int (-1)]) (rest := []) ⟨hx, hb, hml, hown, hts⟩ (c_fill l dC dI _ d1 (-1) cd1 40 v2 (by decide)) (va_cwS 2 hts gc_D_clear_fill rfl rfl rfl (by decide +kernel) ⟨Nat.le_of_ble_eq_true rfl, Nat.le_of_ble_eq_true rfl⟩) ⟨fun a U g mk q => by obtain ⟨q0, q1, qP, qK, qD⟩ := q; exact ⟨q0, q1, qP, va_K.moved (u := U) (U := U.calling g mk a) (Vm.Alike.refl U.vm) qK, qD⟩, fun U hU hW => ⟨rfl, by rw [hU], by rw [hU]; exact hPc, va_K.moved hW.alike hKc, hDc.weaken (fun _ _ _ _ => trivial)⟩⟩ rfl rfl hl.1 rfl (lv_room (Nat.le_of_ble_eq_true rfl)) dX1_clear_13 ⟨Nat.zero_le _, Nat.zero_le _⟩) hS (fun q _ h => hFc q h) hFc (fun u t H1 locs ht hvm hw hB hz1 hk1 hS => ?_)
  obtain ⟨g0_2, hP1, hK1, hD1⟩ := hB
  rw [ht] at hP1
  obtain ⟨hP, hD⟩ := va_join (wr := [(h0, .inr (2, [.ref d0, .ref d1, .ref d2, .ref d3])), (d2, .inl (cd2, 40, .inl v3)), (d3, .inl (cd3, 480, .inl v4)), (d0, .inl (cd0, 40, .inl g0_1))]) (w1 := [(d1, .inl (cd1, 40, .inl g0_2))]) hP hD [1] [0, 2, 3, 4] rfl rfl (by decide) (by decide) hk1 hFc hP1 hD1
  generalize H1 = H at hP hS ⊢
  have hP : va_P (dC, dI) vwCl [(h0, .inr (2, [.ref d0, .ref d1, .ref d2, .ref d3])), (d2, .inl (cd2, 40, .inl v3)), (d3, .inl (cd3, 480, .inl v4)), (d0, .inl (cd0, 40, .inl g0_1)), (d1, .inl (cd1, 40, .inl g0_2))] H := hP
  have hD : va_D A [(h0, .inr (2, [.ref d0, .ref d1, .ref d2, .ref d3])), (d2, .inl (cd2, 40, .inl v3)), (d3, .inl (cd3, 480, .inl v4)), (d0, .inl (cd0, 40, .inl g0_1)), (d1, .inl (cd1, 40, .inl g0_2))] := hD
  refine lv_aload_n hx hb dX1_clear_16 rfl (lv_at hl 0 rfl) ?_
  refine va_get (D := (dC, dI)) (ci := 2) (v := .ref d2) (C := RX1) (T := TX1) (N := 4) hx hb hts hinX1 hown hK hP 0 rfl rfl 2 (by decide) (hts (.fieldLink RX1 18 "AgreedTalks$Deeds" "finished" "[I") (by decide +kernel)) (fun _ h9 => h9) rfl dX1_clear_17 ?_
  refine lv_iconst (v := 0) hx hb dX1_clear_20 (by decide) ?_
  have hPc := hP.sub (ws' := [(d2, .inl (cd2, 40, .inl v3))]) [1] rfl
  have hDc := hD.sub (ws' := [(d2, .inl (cd2, 40, .inl v3))]) [1] (by decide) rfl
  have hKc := hK.sub (tys' := [(cd2, .int)]) [2] rfl
  have hFc := va_free (wc := [(d2, .inl (cd2, 40, .inl v3))]) hD hS hA [1] rfl
  refine va_callv (va_runS (As := [.ref d2, .int 0]) (rest := []) ⟨hx, hb, hml, hown, hts⟩ (c_fill l dC dI _ d2 0 cd2 40 v3 (by decide)) (va_cwS 2 hts gc_D_clear_fill rfl rfl rfl (by decide +kernel) ⟨Nat.le_of_ble_eq_true rfl, Nat.le_of_ble_eq_true rfl⟩) ⟨fun a U g mk q => by obtain ⟨q0, q1, qP, qK, qD⟩ := q; exact ⟨q0, q1, qP, va_K.moved (u := U) (U := U.calling g mk a) (Vm.Alike.refl U.vm) qK, qD⟩, fun U hU hW => ⟨rfl, by rw [hU], by rw [hU]; exact hPc, va_K.moved hW.alike hKc, hDc.weaken (fun _ _ _ _ => trivial)⟩⟩ rfl rfl hl.1 rfl (lv_room (Nat.le_of_ble_eq_true rfl)) dX1_clear_21 ⟨Nat.zero_le _, Nat.zero_le _⟩) hS (fun q _ h => hFc q h) hFc (fun u t H1 locs ht hvm hw hB hz1 hk1 hS => ?_)
  obtain ⟨g0_3, hP1, hK1, hD1⟩ := hB
  rw [ht] at hP1
  obtain ⟨hP, hD⟩ := va_join (wr := [(h0, .inr (2, [.ref d0, .ref d1, .ref d2, .ref d3])), (d3, .inl (cd3, 480, .inl v4)), (d0, .inl (cd0, 40, .inl g0_1)), (d1, .inl (cd1, 40, .inl g0_2))]) (w1 := [(d2, .inl (cd2, 40, .inl g0_3))]) hP hD [1] [0, 2, 3, 4] rfl rfl (by decide) (by decide) hk1 hFc hP1 hD1
  generalize H1 = H at hP hS ⊢
  have hP : va_P (dC, dI) vwCl [(h0, .inr (2, [.ref d0, .ref d1, .ref d2, .ref d3])), (d3, .inl (cd3, 480, .inl v4)), (d0, .inl (cd0, 40, .inl g0_1)), (d1, .inl (cd1, 40, .inl g0_2)), (d2, .inl (cd2, 40, .inl g0_3))] H := hP
  have hD : va_D A [(h0, .inr (2, [.ref d0, .ref d1, .ref d2, .ref d3])), (d3, .inl (cd3, 480, .inl v4)), (d0, .inl (cd0, 40, .inl g0_1)), (d1, .inl (cd1, 40, .inl g0_2)), (d2, .inl (cd2, 40, .inl g0_3))] := hD
  refine lv_aload_n hx hb dX1_clear_24 rfl (lv_at hl 0 rfl) ?_
  refine va_get (D := (dC, dI)) (ci := 2) (v := .ref d3) (C := RX1) (T := TX1) (N := 4) hx hb hts hinX1 hown hK hP 0 rfl rfl 3 (by decide) (hts (.fieldLink RX1 21 "AgreedTalks$Deeds" "requests" "[I") (by decide +kernel)) (fun _ h9 => h9) rfl dX1_clear_25 ?_
  refine lv_iconst (v := 0) hx hb dX1_clear_28 (by decide) ?_
  have hPc := hP.sub (ws' := [(d3, .inl (cd3, 480, .inl v4))]) [1] rfl
  have hDc := hD.sub (ws' := [(d3, .inl (cd3, 480, .inl v4))]) [1] (by decide) rfl
  have hKc := hK.sub (tys' := [(cd3, .int)]) [3] rfl
  have hFc := va_free (wc := [(d3, .inl (cd3, 480, .inl v4))]) hD hS hA [1] rfl
  refine va_callv (va_runS (As := [.ref d3, .int 0]) (rest := []) ⟨hx, hb, hml, hown, hts⟩ (c_fill l dC dI _ d3 0 cd3 480 v4 (by decide)) (va_cwS 2 hts gc_D_clear_fill rfl rfl rfl (by decide +kernel) ⟨Nat.le_of_ble_eq_true rfl, Nat.le_of_ble_eq_true rfl⟩) ⟨fun a U g mk q => by obtain ⟨q0, q1, qP, qK, qD⟩ := q; exact ⟨q0, q1, qP, va_K.moved (u := U) (U := U.calling g mk a) (Vm.Alike.refl U.vm) qK, qD⟩, fun U hU hW => ⟨rfl, by rw [hU], by rw [hU]; exact hPc, va_K.moved hW.alike hKc, hDc.weaken (fun _ _ _ _ => trivial)⟩⟩ rfl rfl hl.1 rfl (lv_room (Nat.le_of_ble_eq_true rfl)) dX1_clear_29 ⟨Nat.zero_le _, Nat.zero_le _⟩) hS (fun q _ h => hFc q h) hFc (fun u t H1 locs ht hvm hw hB hz1 hk1 hS => ?_)
  obtain ⟨g0_4, hP1, hK1, hD1⟩ := hB
  rw [ht] at hP1
  obtain ⟨hP, hD⟩ := va_join (wr := [(h0, .inr (2, [.ref d0, .ref d1, .ref d2, .ref d3])), (d0, .inl (cd0, 40, .inl g0_1)), (d1, .inl (cd1, 40, .inl g0_2)), (d2, .inl (cd2, 40, .inl g0_3))]) (w1 := [(d3, .inl (cd3, 480, .inl g0_4))]) hP hD [1] [0, 2, 3, 4] rfl rfl (by decide) (by decide) hk1 hFc hP1 hD1
  generalize H1 = H at hP hS ⊢
  have hP : va_P (dC, dI) vwCl [(h0, .inr (2, [.ref d0, .ref d1, .ref d2, .ref d3])), (d0, .inl (cd0, 40, .inl g0_1)), (d1, .inl (cd1, 40, .inl g0_2)), (d2, .inl (cd2, 40, .inl g0_3)), (d3, .inl (cd3, 480, .inl g0_4))] H := hP
  have hD : va_D A [(h0, .inr (2, [.ref d0, .ref d1, .ref d2, .ref d3])), (d0, .inl (cd0, 40, .inl g0_1)), (d1, .inl (cd1, 40, .inl g0_2)), (d2, .inl (cd2, 40, .inl g0_3)), (d3, .inl (cd3, 480, .inl g0_4))] := hD
  have hP9 := hP.sub (ws' := [(h0, .inr (2, [.ref d0, .ref d1, .ref d2, .ref d3])), (d0, .inl (cd0, 40, .inl g0_1)), (d1, .inl (cd1, 40, .inl g0_2)), (d2, .inl (cd2, 40, .inl g0_3)), (d3, .inl (cd3, 480, .inl g0_4))]) [0, 1, 2, 3, 4] rfl
  have hD9 := hD.sub (ws' := [(h0, .inr (2, [.ref d0, .ref d1, .ref d2, .ref d3])), (d0, .inl (cd0, 40, .inl g0_1)), (d1, .inl (cd1, 40, .inl g0_2)), (d2, .inl (cd2, 40, .inl g0_3)), (d3, .inl (cd3, 480, .inl g0_4))]) [0, 1, 2, 3, 4] (by decide) rfl
  have hK9 := hK.sub (tys' := [(cd0, .int), (cd1, .int), (cd2, .int), (cd3, .int)]) [0, 1, 2, 3] rfl
  exact W.vret hx hb hr (fun t ht hW => ⟨⟨(), rfl, trivial, g0_1, g0_2, g0_3, g0_4, by rw [ht]; exact hP9, va_K.moved hW.alike hK9, hD9⟩, hS.F ht⟩) hS.2.2 dX1_clear_32
def wp_D_give : List Cond := .code yX1_give cX1_give 4 none :: (([.fieldLink RX1 9 "AgreedTalks$Deeds" "holders" "[I", .fieldLink RX1 15 "AgreedTalks$Deeds" "dueDays" "[I", .fieldLink RX1 18 "AgreedTalks$Deeds" "finished" "[I"] : List Cond) ++ wsX10)
set_option maxRecDepth 20000 in
theorem gi_D_give : GoodIn lw_tbl wp_D_give := (goodIn_ca (goodIn_r (.code yX1_give cX1_give 4 none :: ([.fieldLink RX1 9 "AgreedTalks$Deeds" "holders" "[I", .fieldLink RX1 15 "AgreedTalks$Deeds" "dueDays" "[I", .fieldLink RX1 18 "AgreedTalks$Deeds" "finished" "[I"] : List Cond)) [545, 142, 144, 146] (by decide +kernel) (by decide +kernel)) wi_wsX1)
set_option maxHeartbeats 4000000 in
set_option maxRecDepth 100000 in
/-- give -/
theorem c_D_give (l : Launch) (dC : Nat → ClassId) (dI : Nat → Nat → Nat) (sz : Nat) (h0 : Nat) (d0 : Nat) (d1 : Nat) (d2 : Nat) (d3 : Nat) (cd0 : ClassId) (cd1 : ClassId) (cd2 : ClassId) (cd3 : ClassId) (v1 : Nat → Int32) (v2 : Nat → Int32) (v3 : Nat → Int32) (v4 : Nat → Int32) (de : Nat) (p1 : Int32) (p2 : Int32) (qde : de < 40) : Met l yX1_give wp_D_give ({ frames := 0, cells := 0, slots := 0, locals := 0 }) (va_Pc [.ref h0, .int (nI de), .int p1, .int p2] (fun U => U.heap.size = sz ∧ va_P (dC, dI) vwCl [(h0, .inr (2, [.ref d0, .ref d1, .ref d2, .ref d3])), (d0, .inl (cd0, 40, .inl v1)), (d1, .inl (cd1, 40, .inl v2)), (d2, .inl (cd2, 40, .inl v3)), (d3, .inl (cd3, 480, .inl v4))] U.heap ∧ va_K (dC, dI) vwCl [(cd0, .int), (cd1, .int), (cd2, .int), (cd3, .int)] U ∧ va_D (fun _ => True) [(h0, .inr (2, [.ref d0, .ref d1, .ref d2, .ref d3])), (d0, .inl (cd0, 40, .inl v1)), (d1, .inl (cd1, 40, .inl v2)), (d2, .inl (cd2, 40, .inl v3)), (d3, .inl (cd3, 480, .inl v4))])) (va_Qv (fun (_ : Unit) => True) (fun (_ : Unit) (t : State) => ∃ (w1 : Nat → Int32), ∃ (w2 : Nat → Int32), ∃ (w3 : Nat → Int32), ∃ (w4 : Nat → Int32), va_P (dC, dI) vwCl [(h0, .inr (2, [.ref d0, .ref d1, .ref d2, .ref d3])), (d0, .inl (cd0, 40, .inl w1)), (d1, .inl (cd1, 40, .inl w2)), (d2, .inl (cd2, 40, .inl w3)), (d3, .inl (cd3, 480, .inl w4))] t.heap ∧ va_K (dC, dI) vwCl [(cd0, .int), (cd1, .int), (cd2, .int), (cd3, .int)] t ∧ va_D (va_A [(h0, .inr (2, [.ref d0, .ref d1, .ref d2, .ref d3])), (d0, .inl (cd0, 40, .inl v1)), (d1, .inl (cd1, 40, .inl v2)), (d2, .inl (cd2, 40, .inl v3)), (d3, .inl (cd3, 480, .inl v4))] sz) [(h0, .inr (2, [.ref d0, .ref d1, .ref d2, .ref d3])), (d0, .inl (cd0, 40, .inl w1)), (d1, .inl (cd1, 40, .inl w2)), (d2, .inl (cd2, 40, .inl w3)), (d3, .inl (cd3, 480, .inl w4))]) (va_A [(h0, .inr (2, [.ref d0, .ref d1, .ref d2, .ref d3])), (d0, .inl (cd0, 40, .inl v1)), (d1, .inl (cd1, 40, .inl v2)), (d2, .inl (cd2, 40, .inl v3)), (d3, .inl (cd3, 480, .inl v4))] sz)) 0 0 (va_A [(h0, .inr (2, [.ref d0, .ref d1, .ref d2, .ref d3])), (d0, .inl (cd0, 40, .inl v1)), (d1, .inl (cd1, 40, .inl v2)), (d2, .inl (cd2, 40, .inl v3)), (d3, .inl (cd3, 480, .inl v4))] sz) := by
  refine Met.ofW (cc := cX1_give) (maxL := 4) (ret := none) (by decide) rfl ?_
  intro p e s m args below meth c s₁ B hml hv
  obtain ⟨rfl, hsz, hP, hK, hD0⟩ := hv
  have hx := B.exec
  have hb := B.bytes
  have hr := B.returns
  have hts := atoms_spec (ws := wp_D_give) B.pre
  have hown : s.vm.findClass RX1 = some m.cls := findClass_of_methodNamed B.named
  have hlocks := B.notSynchronized
  subst hsz
  have hD := hD0.self (sz := s.heap.size)
  generalize hAe : va_A [(h0, .inr (2, [.ref d0, .ref d1, .ref d2, .ref d3])), (d0, .inl (cd0, 40, .inl v1)), (d1, .inl (cd1, 40, .inl v2)), (d2, .inl (cd2, 40, .inl v3)), (d3, .inl (cd3, 480, .inl v4))] s.heap.size = A at hD ⊢
  have hA : ∀ q : Nat, s.heap.size ≤ q → A q := fun q h => by rw [← hAe]; exact Or.inr h
  have hS : va_S A s.heap s.heap [] := va_S.rf
  have hP : va_P (dC, dI) vwCl [(h0, .inr (2, [.ref d0, .ref d1, .ref d2, .ref d3])), (d0, .inl (cd0, 40, .inl v1)), (d1, .inl (cd1, 40, .inl v2)), (d2, .inl (cd2, 40, .inl v3)), (d3, .inl (cd3, 480, .inl v4))] s.heap := hP
  have hl := lv_entry ([.ref h0, .int (nI de), .int p1, .int p2]) (n := 4) (Nat.le_of_ble_eq_true rfl)
  rw [lg_entry_eq]
  generalize (lg_sl ([.ref h0, .int (nI de), .int p1, .int p2]) ++ List.replicate (4 - (lg_sl ([.ref h0, .int (nI de), .int p1, .int p2])).length) Slot.unset).toArray = ls at hl ⊢
  have hl : lv_has ls 4 [(0, .ref h0), (1, .int (nI de)), (2, .int p1), (3, .int p2)] := hl
  have hinX1 : ∀ w ∈ u_ws RX1 TX1 4, w ∈ wp_D_give := fun _ h => List.mem_cons_of_mem _ (List.mem_append_right _ h)
  refine lv_aload_n hx hb dX1_give_0 rfl (lv_at hl 0 rfl) ?_
  refine va_get (D := (dC, dI)) (ci := 2) (v := .ref d0) (C := RX1) (T := TX1) (N := 4) hx hb hts hinX1 hown hK hP 0 rfl rfl 0 (by decide) (hts (.fieldLink RX1 9 "AgreedTalks$Deeds" "holders" "[I") (by decide +kernel)) (fun _ h9 => h9) rfl dX1_give_1 ?_
  refine lv_iload_n hx hb dX1_give_4 rfl (lv_at hl 1 rfl) ?_
  refine lv_iload_n hx hb dX1_give_5 rfl (lv_at hl 2 rfl) ?_
  refine va_iast hx hb hK hP hD hS 1 0 rfl rfl (vp_in_nI (by omega) (by omega)) dX1_give_6 (fun H locs hP hD hS => ?_)
  have hP : va_P (dC, dI) vwCl [(h0, .inr (2, [.ref d0, .ref d1, .ref d2, .ref d3])), (d0, .inl (cd0, 40, .inl (upd v1 (Int32.toNatClampNeg (nI de)) p1))), (d1, .inl (cd1, 40, .inl v2)), (d2, .inl (cd2, 40, .inl v3)), (d3, .inl (cd3, 480, .inl v4))] H := hP
  have hD : va_D A [(h0, .inr (2, [.ref d0, .ref d1, .ref d2, .ref d3])), (d0, .inl (cd0, 40, .inl (upd v1 (Int32.toNatClampNeg (nI de)) p1))), (d1, .inl (cd1, 40, .inl v2)), (d2, .inl (cd2, 40, .inl v3)), (d3, .inl (cd3, 480, .inl v4))] := hD
  generalize ef_1 : upd v1 (Int32.toNatClampNeg (nI de)) p1 = f_1 at hP hD
  rw [show Int32.toNatClampNeg (nI de) = de from nI_clamp (by omega)] at ef_1
  refine lv_aload_n hx hb dX1_give_7 rfl (lv_at hl 0 rfl) ?_
  refine va_get (D := (dC, dI)) (ci := 2) (v := .ref d1) (C := RX1) (T := TX1) (N := 4) hx hb hts hinX1 hown hK hP 0 rfl rfl 1 (by decide) (hts (.fieldLink RX1 15 "AgreedTalks$Deeds" "dueDays" "[I") (by decide +kernel)) (fun _ h9 => h9) rfl dX1_give_8 ?_
  refine lv_iload_n hx hb dX1_give_11 rfl (lv_at hl 1 rfl) ?_
  refine lv_iload_n hx hb dX1_give_12 rfl (lv_at hl 3 rfl) ?_
  refine va_iast hx hb hK hP hD hS 2 1 rfl rfl (vp_in_nI (by omega) (by omega)) dX1_give_13 (fun H locs hP hD hS => ?_)
  have hP : va_P (dC, dI) vwCl [(h0, .inr (2, [.ref d0, .ref d1, .ref d2, .ref d3])), (d0, .inl (cd0, 40, .inl f_1)), (d1, .inl (cd1, 40, .inl (upd v2 (Int32.toNatClampNeg (nI de)) p2))), (d2, .inl (cd2, 40, .inl v3)), (d3, .inl (cd3, 480, .inl v4))] H := hP
  have hD : va_D A [(h0, .inr (2, [.ref d0, .ref d1, .ref d2, .ref d3])), (d0, .inl (cd0, 40, .inl f_1)), (d1, .inl (cd1, 40, .inl (upd v2 (Int32.toNatClampNeg (nI de)) p2))), (d2, .inl (cd2, 40, .inl v3)), (d3, .inl (cd3, 480, .inl v4))] := hD
  generalize ef_2 : upd v2 (Int32.toNatClampNeg (nI de)) p2 = f_2 at hP hD
  rw [show Int32.toNatClampNeg (nI de) = de from nI_clamp (by omega)] at ef_2
  refine lv_aload_n hx hb dX1_give_14 rfl (lv_at hl 0 rfl) ?_
  refine va_get (D := (dC, dI)) (ci := 2) (v := .ref d2) (C := RX1) (T := TX1) (N := 4) hx hb hts hinX1 hown hK hP 0 rfl rfl 2 (by decide) (hts (.fieldLink RX1 18 "AgreedTalks$Deeds" "finished" "[I") (by decide +kernel)) (fun _ h9 => h9) rfl dX1_give_15 ?_
  refine lv_iload_n hx hb dX1_give_18 rfl (lv_at hl 1 rfl) ?_
  refine lv_iconst (v := 0) hx hb dX1_give_19 (by decide) ?_
  refine va_iast hx hb hK hP hD hS 3 2 rfl rfl (vp_in_nI (by omega) (by omega)) dX1_give_20 (fun H locs hP hD hS => ?_)
  have hP : va_P (dC, dI) vwCl [(h0, .inr (2, [.ref d0, .ref d1, .ref d2, .ref d3])), (d0, .inl (cd0, 40, .inl f_1)), (d1, .inl (cd1, 40, .inl f_2)), (d2, .inl (cd2, 40, .inl (upd v3 (Int32.toNatClampNeg (nI de)) 0))), (d3, .inl (cd3, 480, .inl v4))] H := hP
  have hD : va_D A [(h0, .inr (2, [.ref d0, .ref d1, .ref d2, .ref d3])), (d0, .inl (cd0, 40, .inl f_1)), (d1, .inl (cd1, 40, .inl f_2)), (d2, .inl (cd2, 40, .inl (upd v3 (Int32.toNatClampNeg (nI de)) 0))), (d3, .inl (cd3, 480, .inl v4))] := hD
  generalize ef_3 : upd v3 (Int32.toNatClampNeg (nI de)) 0 = f_3 at hP hD
  rw [show Int32.toNatClampNeg (nI de) = de from nI_clamp (by omega)] at ef_3
  have hP9 := hP.sub (ws' := [(h0, .inr (2, [.ref d0, .ref d1, .ref d2, .ref d3])), (d0, .inl (cd0, 40, .inl f_1)), (d1, .inl (cd1, 40, .inl f_2)), (d2, .inl (cd2, 40, .inl f_3)), (d3, .inl (cd3, 480, .inl v4))]) [0, 1, 2, 3, 4] rfl
  have hD9 := hD.sub (ws' := [(h0, .inr (2, [.ref d0, .ref d1, .ref d2, .ref d3])), (d0, .inl (cd0, 40, .inl f_1)), (d1, .inl (cd1, 40, .inl f_2)), (d2, .inl (cd2, 40, .inl f_3)), (d3, .inl (cd3, 480, .inl v4))]) [0, 1, 2, 3, 4] (by decide) rfl
  have hK9 := hK.sub (tys' := [(cd0, .int), (cd1, .int), (cd2, .int), (cd3, .int)]) [0, 1, 2, 3] rfl
  exact W.vret hx hb hr (fun t ht hW => ⟨⟨(), rfl, trivial, f_1, f_2, f_3, v4, by rw [ht]; exact hP9, va_K.moved hW.alike hK9, hD9⟩, hS.F ht⟩) hS.2.2 dX1_give_21
def wp_D_isOwed : List Cond := .code yX1_isOwed cX1_isOwed 3 (some .boolean) :: (([.fieldLink RX1 9 "AgreedTalks$Deeds" "holders" "[I", .fieldLink RX1 18 "AgreedTalks$Deeds" "finished" "[I"] : List Cond) ++ wsX10)
set_option maxRecDepth 20000 in
theorem gi_D_isOwed : GoodIn lw_tbl wp_D_isOwed := (goodIn_ca (goodIn_r (.code yX1_isOwed cX1_isOwed 3 (some .boolean) :: ([.fieldLink RX1 9 "AgreedTalks$Deeds" "holders" "[I", .fieldLink RX1 18 "AgreedTalks$Deeds" "finished" "[I"] : List Cond)) [607, 142, 146] (by decide +kernel) (by decide +kernel)) wi_wsX1)
set_option maxHeartbeats 4000000 in
set_option maxRecDepth 100000 in
/-- isOwed -/
theorem c_D_isOwed (l : Launch) (dC : Nat → ClassId) (dI : Nat → Nat → Nat) (sz : Nat) (h0 : Nat) (d0 : Nat) (d1 : Nat) (d2 : Nat) (d3 : Nat) (cd0 : ClassId) (cd1 : ClassId) (cd2 : ClassId) (cd3 : ClassId) (v1 : Nat → Int32) (v2 : Nat → Int32) (v3 : Nat → Int32) (v4 : Nat → Int32) (p0 : Int32) (de : Nat) (qde : de < 40) : Met l yX1_isOwed wp_D_isOwed ({ frames := 0, cells := 0, slots := 0, locals := 0 }) (va_Pc [.ref h0, .int p0, .int (nI de)] (fun U => U.heap.size = sz ∧ va_P (dC, dI) vwCl [(h0, .inr (2, [.ref d0, .ref d1, .ref d2, .ref d3])), (d0, .inl (cd0, 40, .inl v1)), (d1, .inl (cd1, 40, .inl v2)), (d2, .inl (cd2, 40, .inl v3)), (d3, .inl (cd3, 480, .inl v4))] U.heap ∧ va_K (dC, dI) vwCl [(cd0, .int), (cd1, .int), (cd2, .int), (cd3, .int)] U ∧ va_D (fun _ => True) [(h0, .inr (2, [.ref d0, .ref d1, .ref d2, .ref d3])), (d0, .inl (cd0, 40, .inl v1)), (d1, .inl (cd1, 40, .inl v2)), (d2, .inl (cd2, 40, .inl v3)), (d3, .inl (cd3, 480, .inl v4))])) (va_Qi (fun (r : Int32) (_ : Unit) => r = 0 ∨ r = 1) (fun (_ : Unit) (t : State) => va_P (dC, dI) vwCl [(h0, .inr (2, [.ref d0, .ref d1, .ref d2, .ref d3])), (d0, .inl (cd0, 40, .inl v1)), (d1, .inl (cd1, 40, .inl v2)), (d2, .inl (cd2, 40, .inl v3)), (d3, .inl (cd3, 480, .inl v4))] t.heap ∧ va_K (dC, dI) vwCl [(cd0, .int), (cd1, .int), (cd2, .int), (cd3, .int)] t ∧ va_D (va_A [(h0, .inr (2, [.ref d0, .ref d1, .ref d2, .ref d3])), (d0, .inl (cd0, 40, .inl v1)), (d1, .inl (cd1, 40, .inl v2)), (d2, .inl (cd2, 40, .inl v3)), (d3, .inl (cd3, 480, .inl v4))] sz) [(h0, .inr (2, [.ref d0, .ref d1, .ref d2, .ref d3])), (d0, .inl (cd0, 40, .inl v1)), (d1, .inl (cd1, 40, .inl v2)), (d2, .inl (cd2, 40, .inl v3)), (d3, .inl (cd3, 480, .inl v4))]) (va_A [(h0, .inr (2, [.ref d0, .ref d1, .ref d2, .ref d3])), (d0, .inl (cd0, 40, .inl v1)), (d1, .inl (cd1, 40, .inl v2)), (d2, .inl (cd2, 40, .inl v3)), (d3, .inl (cd3, 480, .inl v4))] sz)) 0 0 (va_A [(h0, .inr (2, [.ref d0, .ref d1, .ref d2, .ref d3])), (d0, .inl (cd0, 40, .inl v1)), (d1, .inl (cd1, 40, .inl v2)), (d2, .inl (cd2, 40, .inl v3)), (d3, .inl (cd3, 480, .inl v4))] sz) := by
  refine Met.ofW (cc := cX1_isOwed) (maxL := 3) (ret := (some .boolean)) (by decide) rfl ?_
  intro p e s m args below meth c s₁ B hml hv
  obtain ⟨rfl, hsz, hP, hK, hD0⟩ := hv
  have hx := B.exec
  have hb := B.bytes
  have hr := B.returns
  have hts := atoms_spec (ws := wp_D_isOwed) B.pre
  have hown : s.vm.findClass RX1 = some m.cls := findClass_of_methodNamed B.named
  have hlocks := B.notSynchronized
  subst hsz
  have hD := hD0.self (sz := s.heap.size)
  generalize hAe : va_A [(h0, .inr (2, [.ref d0, .ref d1, .ref d2, .ref d3])), (d0, .inl (cd0, 40, .inl v1)), (d1, .inl (cd1, 40, .inl v2)), (d2, .inl (cd2, 40, .inl v3)), (d3, .inl (cd3, 480, .inl v4))] s.heap.size = A at hD ⊢
  have hA : ∀ q : Nat, s.heap.size ≤ q → A q := fun q h => by rw [← hAe]; exact Or.inr h
  have hS : va_S A s.heap s.heap [] := va_S.rf
  have hP : va_P (dC, dI) vwCl [(h0, .inr (2, [.ref d0, .ref d1, .ref d2, .ref d3])), (d0, .inl (cd0, 40, .inl v1)), (d1, .inl (cd1, 40, .inl v2)), (d2, .inl (cd2, 40, .inl v3)), (d3, .inl (cd3, 480, .inl v4))] s.heap := hP
  have hl := lv_entry ([.ref h0, .int p0, .int (nI de)]) (n := 3) (Nat.le_of_ble_eq_true rfl)
  rw [lg_entry_eq]
  generalize (lg_sl ([.ref h0, .int p0, .int (nI de)]) ++ List.replicate (3 - (lg_sl ([.ref h0, .int p0, .int (nI de)])).length) Slot.unset).toArray = ls at hl ⊢
  have hl : lv_has ls 3 [(0, .ref h0), (1, .int p0), (2, .int (nI de))] := hl
  have hinX1 : ∀ w ∈ u_ws RX1 TX1 4, w ∈ wp_D_isOwed := fun _ h => List.mem_cons_of_mem _ (List.mem_append_right _ h)
  refine lv_aload_n hx hb dX1_isOwed_0 rfl (lv_at hl 0 rfl) ?_
  refine va_get (D := (dC, dI)) (ci := 2) (v := .ref d0) (C := RX1) (T := TX1) (N := 4) hx hb hts hinX1 hown hK hP 0 rfl rfl 0 (by decide) (hts (.fieldLink RX1 9 "AgreedTalks$Deeds" "holders" "[I") (by decide +kernel)) (fun _ h9 => h9) rfl dX1_isOwed_1 ?_
  refine lv_iload_n hx hb dX1_isOwed_4 rfl (lv_at hl 2 rfl) ?_
  refine va_iald hx hb hK hP 1 0 rfl rfl (vp_in_nI (by omega) (by omega)) dX1_isOwed_5 ?_
  refine lv_topi (fun x_1 ex_1 => ?_)
  rw [show (Int32.toNatClampNeg (nI de)) = de from nI_clamp (by omega)] at ex_1
  refine lv_iload_n hx hb dX1_isOwed_6 rfl (lv_at hl 1 rfl) ?_
  refine lv_icmp_ne (tgt := 23) hx hb dX1_isOwed_7 (by decide) (fun c_2 => ?_) (fun c_2 => ?_)
  · refine lv_iconst (v := 0) hx hb dX1_isOwed_23 (by decide) ?_
    have hP9 := hP.sub (ws' := [(h0, .inr (2, [.ref d0, .ref d1, .ref d2, .ref d3])), (d0, .inl (cd0, 40, .inl v1)), (d1, .inl (cd1, 40, .inl v2)), (d2, .inl (cd2, 40, .inl v3)), (d3, .inl (cd3, 480, .inl v4))]) [0, 1, 2, 3, 4] rfl
    have hD9 := hD.sub (ws' := [(h0, .inr (2, [.ref d0, .ref d1, .ref d2, .ref d3])), (d0, .inl (cd0, 40, .inl v1)), (d1, .inl (cd1, 40, .inl v2)), (d2, .inl (cd2, 40, .inl v3)), (d3, .inl (cd3, 480, .inl v4))]) [0, 1, 2, 3, 4] (by decide) rfl
    have hK9 := hK.sub (tys' := [(cd0, .int), (cd1, .int), (cd2, .int), (cd3, .int)]) [0, 1, 2, 3] rfl
    exact W.zret (v := 0) (ty := .boolean) hx hb hr rfl (fun t ht hW => ⟨⟨0, (), rfl, Or.inl rfl, by rw [ht]; exact hP9, va_K.moved hW.alike hK9, hD9⟩, hS.F ht⟩) hS.2.2 dX1_isOwed_24
  · refine lv_aload_n hx hb dX1_isOwed_10 rfl (lv_at hl 0 rfl) ?_
    refine va_get (D := (dC, dI)) (ci := 2) (v := .ref d2) (C := RX1) (T := TX1) (N := 4) hx hb hts hinX1 hown hK hP 0 rfl rfl 2 (by decide) (hts (.fieldLink RX1 18 "AgreedTalks$Deeds" "finished" "[I") (by decide +kernel)) (fun _ h9 => h9) rfl dX1_isOwed_11 ?_
    refine lv_iload_n hx hb dX1_isOwed_14 rfl (lv_at hl 2 rfl) ?_
    refine va_iald hx hb hK hP 3 2 rfl rfl (vp_in_nI (by omega) (by omega)) dX1_isOwed_15 ?_
    refine lv_topi (fun x_3 ex_3 => ?_)
    rw [show (Int32.toNatClampNeg (nI de)) = de from nI_clamp (by omega)] at ex_3
    refine lv_if_ne (tgt := 23) hx hb dX1_isOwed_16 (by decide) (fun c_4 => ?_) (fun c_4 => ?_)
    · refine lv_iconst (v := 0) hx hb dX1_isOwed_23 (by decide) ?_
      have hP9 := hP.sub (ws' := [(h0, .inr (2, [.ref d0, .ref d1, .ref d2, .ref d3])), (d0, .inl (cd0, 40, .inl v1)), (d1, .inl (cd1, 40, .inl v2)), (d2, .inl (cd2, 40, .inl v3)), (d3, .inl (cd3, 480, .inl v4))]) [0, 1, 2, 3, 4] rfl
      have hD9 := hD.sub (ws' := [(h0, .inr (2, [.ref d0, .ref d1, .ref d2, .ref d3])), (d0, .inl (cd0, 40, .inl v1)), (d1, .inl (cd1, 40, .inl v2)), (d2, .inl (cd2, 40, .inl v3)), (d3, .inl (cd3, 480, .inl v4))]) [0, 1, 2, 3, 4] (by decide) rfl
      have hK9 := hK.sub (tys' := [(cd0, .int), (cd1, .int), (cd2, .int), (cd3, .int)]) [0, 1, 2, 3] rfl
      exact W.zret (v := 0) (ty := .boolean) hx hb hr rfl (fun t ht hW => ⟨⟨0, (), rfl, Or.inl rfl, by rw [ht]; exact hP9, va_K.moved hW.alike hK9, hD9⟩, hS.F ht⟩) hS.2.2 dX1_isOwed_24
    · refine lv_iconst (v := 1) hx hb dX1_isOwed_19 (by decide) ?_
      refine lv_goto (tgt := 24) hx hb dX1_isOwed_20 (by decide) ?_
      have hP9 := hP.sub (ws' := [(h0, .inr (2, [.ref d0, .ref d1, .ref d2, .ref d3])), (d0, .inl (cd0, 40, .inl v1)), (d1, .inl (cd1, 40, .inl v2)), (d2, .inl (cd2, 40, .inl v3)), (d3, .inl (cd3, 480, .inl v4))]) [0, 1, 2, 3, 4] rfl
      have hD9 := hD.sub (ws' := [(h0, .inr (2, [.ref d0, .ref d1, .ref d2, .ref d3])), (d0, .inl (cd0, 40, .inl v1)), (d1, .inl (cd1, 40, .inl v2)), (d2, .inl (cd2, 40, .inl v3)), (d3, .inl (cd3, 480, .inl v4))]) [0, 1, 2, 3, 4] (by decide) rfl
      have hK9 := hK.sub (tys' := [(cd0, .int), (cd1, .int), (cd2, .int), (cd3, .int)]) [0, 1, 2, 3] rfl
      exact W.zret (v := 1) (ty := .boolean) hx hb hr rfl (fun t ht hW => ⟨⟨1, (), rfl, Or.inr rfl, by rw [ht]; exact hP9, va_K.moved hW.alike hK9, hD9⟩, hS.F ht⟩) hS.2.2 dX1_isOwed_24
def wp_D_lastDayOf : List Cond := .code yX1_lastDayOf cX1_lastDayOf 2 (some .int) :: (([.fieldLink RX1 15 "AgreedTalks$Deeds" "dueDays" "[I"] : List Cond) ++ wsX10)
set_option maxRecDepth 20000 in
theorem gi_D_lastDayOf : GoodIn lw_tbl wp_D_lastDayOf := (goodIn_ca (goodIn_r (.code yX1_lastDayOf cX1_lastDayOf 2 (some .int) :: ([.fieldLink RX1 15 "AgreedTalks$Deeds" "dueDays" "[I"] : List Cond)) [620, 144] (by decide +kernel) (by decide +kernel)) wi_wsX1)
set_option maxHeartbeats 4000000 in
set_option maxRecDepth 100000 in
/-- lastDayOf -/
theorem c_D_lastDayOf (l : Launch) (dC : Nat → ClassId) (dI : Nat → Nat → Nat) (sz : Nat) (h0 : Nat) (d0 : Nat) (d1 : Nat) (d2 : Nat) (d3 : Nat) (cd0 : ClassId) (cd1 : ClassId) (cd2 : ClassId) (cd3 : ClassId) (v1 : Nat → Int32) (v2 : Nat → Int32) (v3 : Nat → Int32) (v4 : Nat → Int32) (de : Nat) (qde : de < 40) : Met l yX1_lastDayOf wp_D_lastDayOf ({ frames := 0, cells := 0, slots := 0, locals := 0 }) (va_Pc [.ref h0, .int (nI de)] (fun U => U.heap.size = sz ∧ va_P (dC, dI) vwCl [(h0, .inr (2, [.ref d0, .ref d1, .ref d2, .ref d3])), (d0, .inl (cd0, 40, .inl v1)), (d1, .inl (cd1, 40, .inl v2)), (d2, .inl (cd2, 40, .inl v3)), (d3, .inl (cd3, 480, .inl v4))] U.heap ∧ va_K (dC, dI) vwCl [(cd0, .int), (cd1, .int), (cd2, .int), (cd3, .int)] U ∧ va_D (fun _ => True) [(h0, .inr (2, [.ref d0, .ref d1, .ref d2, .ref d3])), (d0, .inl (cd0, 40, .inl v1)), (d1, .inl (cd1, 40, .inl v2)), (d2, .inl (cd2, 40, .inl v3)), (d3, .inl (cd3, 480, .inl v4))])) (va_Qi (fun (r : Int32) (_ : Unit) => True) (fun (_ : Unit) (t : State) => va_P (dC, dI) vwCl [(h0, .inr (2, [.ref d0, .ref d1, .ref d2, .ref d3])), (d0, .inl (cd0, 40, .inl v1)), (d1, .inl (cd1, 40, .inl v2)), (d2, .inl (cd2, 40, .inl v3)), (d3, .inl (cd3, 480, .inl v4))] t.heap ∧ va_K (dC, dI) vwCl [(cd0, .int), (cd1, .int), (cd2, .int), (cd3, .int)] t ∧ va_D (va_A [(h0, .inr (2, [.ref d0, .ref d1, .ref d2, .ref d3])), (d0, .inl (cd0, 40, .inl v1)), (d1, .inl (cd1, 40, .inl v2)), (d2, .inl (cd2, 40, .inl v3)), (d3, .inl (cd3, 480, .inl v4))] sz) [(h0, .inr (2, [.ref d0, .ref d1, .ref d2, .ref d3])), (d0, .inl (cd0, 40, .inl v1)), (d1, .inl (cd1, 40, .inl v2)), (d2, .inl (cd2, 40, .inl v3)), (d3, .inl (cd3, 480, .inl v4))]) (va_A [(h0, .inr (2, [.ref d0, .ref d1, .ref d2, .ref d3])), (d0, .inl (cd0, 40, .inl v1)), (d1, .inl (cd1, 40, .inl v2)), (d2, .inl (cd2, 40, .inl v3)), (d3, .inl (cd3, 480, .inl v4))] sz)) 0 0 (va_A [(h0, .inr (2, [.ref d0, .ref d1, .ref d2, .ref d3])), (d0, .inl (cd0, 40, .inl v1)), (d1, .inl (cd1, 40, .inl v2)), (d2, .inl (cd2, 40, .inl v3)), (d3, .inl (cd3, 480, .inl v4))] sz) := by
  refine Met.ofW (cc := cX1_lastDayOf) (maxL := 2) (ret := (some .int)) (by decide) rfl ?_
  intro p e s m args below meth c s₁ B hml hv
  obtain ⟨rfl, hsz, hP, hK, hD0⟩ := hv
  have hx := B.exec
  have hb := B.bytes
  have hr := B.returns
  have hts := atoms_spec (ws := wp_D_lastDayOf) B.pre
  have hown : s.vm.findClass RX1 = some m.cls := findClass_of_methodNamed B.named
  have hlocks := B.notSynchronized
  subst hsz
  have hD := hD0.self (sz := s.heap.size)
  generalize hAe : va_A [(h0, .inr (2, [.ref d0, .ref d1, .ref d2, .ref d3])), (d0, .inl (cd0, 40, .inl v1)), (d1, .inl (cd1, 40, .inl v2)), (d2, .inl (cd2, 40, .inl v3)), (d3, .inl (cd3, 480, .inl v4))] s.heap.size = A at hD ⊢
  have hA : ∀ q : Nat, s.heap.size ≤ q → A q := fun q h => by rw [← hAe]; exact Or.inr h
  have hS : va_S A s.heap s.heap [] := va_S.rf
  have hP : va_P (dC, dI) vwCl [(h0, .inr (2, [.ref d0, .ref d1, .ref d2, .ref d3])), (d0, .inl (cd0, 40, .inl v1)), (d1, .inl (cd1, 40, .inl v2)), (d2, .inl (cd2, 40, .inl v3)), (d3, .inl (cd3, 480, .inl v4))] s.heap := hP
  have hl := lv_entry ([.ref h0, .int (nI de)]) (n := 2) (Nat.le_of_ble_eq_true rfl)
  rw [lg_entry_eq]
  generalize (lg_sl ([.ref h0, .int (nI de)]) ++ List.replicate (2 - (lg_sl ([.ref h0, .int (nI de)])).length) Slot.unset).toArray = ls at hl ⊢
  have hl : lv_has ls 2 [(0, .ref h0), (1, .int (nI de))] := hl
  have hinX1 : ∀ w ∈ u_ws RX1 TX1 4, w ∈ wp_D_lastDayOf := fun _ h => List.mem_cons_of_mem _ (List.mem_append_right _ h)
  refine lv_aload_n hx hb dX1_lastDayOf_0 rfl (lv_at hl 0 rfl) ?_
  refine va_get (D := (dC, dI)) (ci := 2) (v := .ref d1) (C := RX1) (T := TX1) (N := 4) hx hb hts hinX1 hown hK hP 0 rfl rfl 1 (by decide) (hts (.fieldLink RX1 15 "AgreedTalks$Deeds" "dueDays" "[I") (by decide +kernel)) (fun _ h9 => h9) rfl dX1_lastDayOf_1 ?_
  refine lv_iload_n hx hb dX1_lastDayOf_4 rfl (lv_at hl 1 rfl) ?_
  refine va_iald hx hb hK hP 2 1 rfl rfl (vp_in_nI (by omega) (by omega)) dX1_lastDayOf_5 ?_
  refine lv_topi (fun x_1 ex_1 => ?_)
  rw [show (Int32.toNatClampNeg (nI de)) = de from nI_clamp (by omega)] at ex_1
  refine lv_iconst (v := (-1)) hx hb dX1_lastDayOf_6 (by decide) ?_
  refine lv_icmp_ne (tgt := 16) hx hb dX1_lastDayOf_7 (by decide) (fun c_2 => ?_) (fun c_2 => ?_)
  · refine lv_aload_n hx hb dX1_lastDayOf_16 rfl (lv_at hl 0 rfl) ?_
    refine va_get (D := (dC, dI)) (ci := 2) (v := .ref d1) (C := RX1) (T := TX1) (N := 4) hx hb hts hinX1 hown hK hP 0 rfl rfl 1 (by decide) (hts (.fieldLink RX1 15 "AgreedTalks$Deeds" "dueDays" "[I") (by decide +kernel)) (fun _ h9 => h9) rfl dX1_lastDayOf_17 ?_
    refine lv_iload_n hx hb dX1_lastDayOf_20 rfl (lv_at hl 1 rfl) ?_
    refine va_iald hx hb hK hP 2 1 rfl rfl (vp_in_nI (by omega) (by omega)) dX1_lastDayOf_21 ?_
    refine lv_topi (fun x_3 ex_3 => ?_)
    rw [show (Int32.toNatClampNeg (nI de)) = de from nI_clamp (by omega)] at ex_3
    have hP9 := hP.sub (ws' := [(h0, .inr (2, [.ref d0, .ref d1, .ref d2, .ref d3])), (d0, .inl (cd0, 40, .inl v1)), (d1, .inl (cd1, 40, .inl v2)), (d2, .inl (cd2, 40, .inl v3)), (d3, .inl (cd3, 480, .inl v4))]) [0, 1, 2, 3, 4] rfl
    have hD9 := hD.sub (ws' := [(h0, .inr (2, [.ref d0, .ref d1, .ref d2, .ref d3])), (d0, .inl (cd0, 40, .inl v1)), (d1, .inl (cd1, 40, .inl v2)), (d2, .inl (cd2, 40, .inl v3)), (d3, .inl (cd3, 480, .inl v4))]) [0, 1, 2, 3, 4] (by decide) rfl
    have hK9 := hK.sub (tys' := [(cd0, .int), (cd1, .int), (cd2, .int), (cd3, .int)]) [0, 1, 2, 3] rfl
    exact W.iret (v := x_3) hx hb hr (fun t ht hW => ⟨⟨x_3, (), rfl, trivial, by rw [ht]; exact hP9, va_K.moved hW.alike hK9, hD9⟩, hS.F ht⟩) hS.2.2 dX1_lastDayOf_22
  · refine lv_sipush (v := 1000) hx hb dX1_lastDayOf_10 (by decide) ?_
    refine lv_goto (tgt := 22) hx hb dX1_lastDayOf_13 (by decide) ?_
    have hP9 := hP.sub (ws' := [(h0, .inr (2, [.ref d0, .ref d1, .ref d2, .ref d3])), (d0, .inl (cd0, 40, .inl v1)), (d1, .inl (cd1, 40, .inl v2)), (d2, .inl (cd2, 40, .inl v3)), (d3, .inl (cd3, 480, .inl v4))]) [0, 1, 2, 3, 4] rfl
    have hD9 := hD.sub (ws' := [(h0, .inr (2, [.ref d0, .ref d1, .ref d2, .ref d3])), (d0, .inl (cd0, 40, .inl v1)), (d1, .inl (cd1, 40, .inl v2)), (d2, .inl (cd2, 40, .inl v3)), (d3, .inl (cd3, 480, .inl v4))]) [0, 1, 2, 3, 4] (by decide) rfl
    have hK9 := hK.sub (tys' := [(cd0, .int), (cd1, .int), (cd2, .int), (cd3, .int)]) [0, 1, 2, 3] rfl
    exact W.iret (v := 1000) hx hb hr (fun t ht hW => ⟨⟨1000, (), rfl, trivial, by rw [ht]; exact hP9, va_K.moved hW.alike hK9, hD9⟩, hS.F ht⟩) hS.2.2 dX1_lastDayOf_22
def wp_D_isAhead : List Cond := .code yX1_isAhead cX1_isAhead 5 (some .boolean) :: (([] : List Cond) ++ (wsV RX1 63 RX1 yX1_lastDayOf wp_D_lastDayOf))
theorem gc_D_isAhead_D_lastDayOf : GoodIn wp_D_isAhead (wsV RX1 63 RX1 yX1_lastDayOf wp_D_lastDayOf) := goodIn_sub (fun _ h => List.mem_cons_of_mem _ (List.mem_append_right _ h)) (by decide +kernel)
set_option maxRecDepth 20000 in
theorem gi_D_isAhead : GoodIn lw_tbl wp_D_isAhead := (goodIn_ca (goodIn_r (.code yX1_isAhead cX1_isAhead 5 (some .boolean) :: ([] : List Cond)) [616] (by decide +kernel) (by decide +kernel)) (goodIn_app (goodIn_r _ [617, 618, 619, 54] (by decide +kernel) (by decide +kernel)) gi_D_lastDayOf))
set_option maxHeartbeats 4000000 in
set_option maxRecDepth 100000 in
/-- isAhead -/
theorem c_D_isAhead (l : Launch) (dC : Nat → ClassId) (dI : Nat → Nat → Nat) (sz : Nat) (h0 : Nat) (d0 : Nat) (d1 : Nat) (d2 : Nat) (d3 : Nat) (cd0 : ClassId) (cd1 : ClassId) (cd2 : ClassId) (cd3 : ClassId) (v1 : Nat → Int32) (v2 : Nat → Int32) (v3 : Nat → Int32) (v4 : Nat → Int32) (de : Nat) (df : Nat) (qde : de < 40) (qdf : df < 40) : Met l yX1_isAhead wp_D_isAhead ({ frames := 1, cells := 0, slots := 0, locals := 30 }) (va_Pc [.ref h0, .int (nI de), .int (nI df)] (fun U => U.heap.size = sz ∧ va_P (dC, dI) vwCl [(h0, .inr (2, [.ref d0, .ref d1, .ref d2, .ref d3])), (d0, .inl (cd0, 40, .inl v1)), (d1, .inl (cd1, 40, .inl v2)), (d2, .inl (cd2, 40, .inl v3)), (d3, .inl (cd3, 480, .inl v4))] U.heap ∧ va_K (dC, dI) vwCl [(cd0, .int), (cd1, .int), (cd2, .int), (cd3, .int)] U ∧ va_D (fun _ => True) [(h0, .inr (2, [.ref d0, .ref d1, .ref d2, .ref d3])), (d0, .inl (cd0, 40, .inl v1)), (d1, .inl (cd1, 40, .inl v2)), (d2, .inl (cd2, 40, .inl v3)), (d3, .inl (cd3, 480, .inl v4))])) (va_Qi (fun (r : Int32) (_ : Unit) => r = 0 ∨ r = 1) (fun (_ : Unit) (t : State) => va_P (dC, dI) vwCl [(h0, .inr (2, [.ref d0, .ref d1, .ref d2, .ref d3])), (d0, .inl (cd0, 40, .inl v1)), (d1, .inl (cd1, 40, .inl v2)), (d2, .inl (cd2, 40, .inl v3)), (d3, .inl (cd3, 480, .inl v4))] t.heap ∧ va_K (dC, dI) vwCl [(cd0, .int), (cd1, .int), (cd2, .int), (cd3, .int)] t ∧ va_D (va_A [(h0, .inr (2, [.ref d0, .ref d1, .ref d2, .ref d3])), (d0, .inl (cd0, 40, .inl v1)), (d1, .inl (cd1, 40, .inl v2)), (d2, .inl (cd2, 40, .inl v3)), (d3, .inl (cd3, 480, .inl v4))] sz) [(h0, .inr (2, [.ref d0, .ref d1, .ref d2, .ref d3])), (d0, .inl (cd0, 40, .inl v1)), (d1, .inl (cd1, 40, .inl v2)), (d2, .inl (cd2, 40, .inl v3)), (d3, .inl (cd3, 480, .inl v4))]) (va_A [(h0, .inr (2, [.ref d0, .ref d1, .ref d2, .ref d3])), (d0, .inl (cd0, 40, .inl v1)), (d1, .inl (cd1, 40, .inl v2)), (d2, .inl (cd2, 40, .inl v3)), (d3, .inl (cd3, 480, .inl v4))] sz)) 0 0 (va_A [(h0, .inr (2, [.ref d0, .ref d1, .ref d2, .ref d3])), (d0, .inl (cd0, 40, .inl v1)), (d1, .inl (cd1, 40, .inl v2)), (d2, .inl (cd2, 40, .inl v3)), (d3, .inl (cd3, 480, .inl v4))] sz) := by
  refine Met.ofW (cc := cX1_isAhead) (maxL := 5) (ret := (some .boolean)) (by decide) rfl ?_
  intro p e s m args below meth c s₁ B hml hv
  obtain ⟨rfl, hsz, hP, hK, hD0⟩ := hv
  have hx := B.exec
  have hb := B.bytes
  have hr := B.returns
  have hts := atoms_spec (ws := wp_D_isAhead) B.pre
  have hown : s.vm.findClass RX1 = some m.cls := findClass_of_methodNamed B.named
  have hlocks := B.notSynchronized
  subst hsz
  have hD := hD0.self (sz := s.heap.size)
  generalize hAe : va_A [(h0, .inr (2, [.ref d0, .ref d1, .ref d2, .ref d3])), (d0, .inl (cd0, 40, .inl v1)), (d1, .inl (cd1, 40, .inl v2)), (d2, .inl (cd2, 40, .inl v3)), (d3, .inl (cd3, 480, .inl v4))] s.heap.size = A at hD ⊢
  have hA : ∀ q : Nat, s.heap.size ≤ q → A q := fun q h => by rw [← hAe]; exact Or.inr h
  have hS : va_S A s.heap s.heap [] := va_S.rf
  have hP : va_P (dC, dI) vwCl [(h0, .inr (2, [.ref d0, .ref d1, .ref d2, .ref d3])), (d0, .inl (cd0, 40, .inl v1)), (d1, .inl (cd1, 40, .inl v2)), (d2, .inl (cd2, 40, .inl v3)), (d3, .inl (cd3, 480, .inl v4))] s.heap := hP
  have hl := lv_entry ([.ref h0, .int (nI de), .int (nI df)]) (n := 5) (Nat.le_of_ble_eq_true rfl)
  rw [lg_entry_eq]
  generalize (lg_sl ([.ref h0, .int (nI de), .int (nI df)]) ++ List.replicate (5 - (lg_sl ([.ref h0, .int (nI de), .int (nI df)])).length) Slot.unset).toArray = ls at hl ⊢
  have hl : lv_has ls 5 [(0, .ref h0), (1, .int (nI de)), (2, .int (nI df))] := hl
  refine lv_aload_n hx hb dX1_isAhead_0 rfl (lv_at hl 0 rfl) ?_
  refine lv_iload_n hx hb dX1_isAhead_1 rfl (lv_at hl 1 rfl) ?_
  have hPc := hP.sub (ws' := [(h0, .inr (2, [.ref d0, .ref d1, .ref d2, .ref d3])), (d0, .inl (cd0, 40, .inl v1)), (d1, .inl (cd1, 40, .inl v2)), (d2, .inl (cd2, 40, .inl v3)), (d3, .inl (cd3, 480, .inl v4))]) [0, 1, 2, 3, 4] rfl
  have hDc := hD.sub (ws' := [(h0, .inr (2, [.ref d0, .ref d1, .ref d2, .ref d3])), (d0, .inl (cd0, 40, .inl v1)), (d1, .inl (cd1, 40, .inl v2)), (d2, .inl (cd2, 40, .inl v3)), (d3, .inl (cd3, 480, .inl v4))]) [0, 1, 2, 3, 4] (by decide) rfl
  have hKc := hK.sub (tys' := [(cd0, .int), (cd1, .int), (cd2, .int), (cd3, .int)]) [0, 1, 2, 3] rfl
  have hFc := va_free (wc := [(h0, .inr (2, [.ref d0, .ref d1, .ref d2, .ref d3])), (d0, .inl (cd0, 40, .inl v1)), (d1, .inl (cd1, 40, .inl v2)), (d2, .inl (cd2, 40, .inl v3)), (d3, .inl (cd3, 480, .inl v4))]) hD hS hA [0, 1, 2, 3, 4] rfl
  refine va_calli (va_runV (As := [.int (nI de)]) (rest := []) ⟨hx, hb, hml, hown, hts⟩ (c_D_lastDayOf l dC dI _ h0 d0 d1 d2 d3 cd0 cd1 cd2 cd3 v1 v2 v3 v4 de (by omega)) (cwV 1 hts gc_D_isAhead_D_lastDayOf rfl rfl rfl (by decide +kernel) ⟨Nat.le_of_ble_eq_true rfl, Nat.le_of_ble_eq_true rfl⟩) ⟨fun a U g mk q => by obtain ⟨q0, q1, qP, qK, qD⟩ := q; exact ⟨q0, q1, qP, va_K.moved (u := U) (U := U.calling g mk a) (Vm.Alike.refl U.vm) qK, qD⟩, va_recv hKc hPc (ci := 2) (q0 := 0) rfl rfl, fun U hU hW => ⟨rfl, by rw [hU], by rw [hU]; exact hPc, va_K.moved hW.alike hKc, hDc.weaken (fun _ _ _ _ => trivial)⟩⟩ rfl rfl hl.1 rfl (lv_room (Nat.le_of_ble_eq_true rfl)) dX1_isAhead_2 ⟨Nat.zero_le _, Nat.zero_le _⟩) hS (fun q _ h => hFc q h) hFc (fun r_1 u t H1 locs ht hvm hw hB hz1 hk1 hS => ?_)
  obtain ⟨hP1, hK1, hD1⟩ := hB
  rw [ht] at hP1
  obtain ⟨hP, hD⟩ := va_join (wr := []) (w1 := [(h0, .inr (2, [.ref d0, .ref d1, .ref d2, .ref d3])), (d0, .inl (cd0, 40, .inl v1)), (d1, .inl (cd1, 40, .inl v2)), (d2, .inl (cd2, 40, .inl v3)), (d3, .inl (cd3, 480, .inl v4))]) hP hD [0, 1, 2, 3, 4] [] rfl rfl (by decide) (by decide) hk1 hFc hP1 hD1
  generalize H1 = H at hP hS ⊢
  have hP : va_P (dC, dI) vwCl [(h0, .inr (2, [.ref d0, .ref d1, .ref d2, .ref d3])), (d0, .inl (cd0, 40, .inl v1)), (d1, .inl (cd1, 40, .inl v2)), (d2, .inl (cd2, 40, .inl v3)), (d3, .inl (cd3, 480, .inl v4))] H := hP
  have hD : va_D A [(h0, .inr (2, [.ref d0, .ref d1, .ref d2, .ref d3])), (d0, .inl (cd0, 40, .inl v1)), (d1, .inl (cd1, 40, .inl v2)), (d2, .inl (cd2, 40, .inl v3)), (d3, .inl (cd3, 480, .inl v4))] := hD
  have hr_1 := hw
  try dsimp only at hr_1
  refine lv_istore_n (lv' := [(3, .int r_1), (0, .ref h0), (1, .int (nI de)), (2, .int (nI df))]) hx hb dX1_isAhead_5 rfl hl (by decide) rfl (fun ls hl => ?_)
  refine lv_aload_n hx hb dX1_isAhead_6 rfl (lv_at hl 1 rfl) ?_
  refine lv_iload_n hx hb dX1_isAhead_7 rfl (lv_at hl 3 rfl) ?_
  have hPc := hP.sub (ws' := [(h0, .inr (2, [.ref d0, .ref d1, .ref d2, .ref d3])), (d0, .inl (cd0, 40, .inl v1)), (d1, .inl (cd1, 40, .inl v2)), (d2, .inl (cd2, 40, .inl v3)), (d3, .inl (cd3, 480, .inl v4))]) [0, 1, 2, 3, 4] rfl
  have hDc := hD.sub (ws' := [(h0, .inr (2, [.ref d0, .ref d1, .ref d2, .ref d3])), (d0, .inl (cd0, 40, .inl v1)), (d1, .inl (cd1, 40, .inl v2)), (d2, .inl (cd2, 40, .inl v3)), (d3, .inl (cd3, 480, .inl v4))]) [0, 1, 2, 3, 4] (by decide) rfl
  have hKc := hK.sub (tys' := [(cd0, .int), (cd1, .int), (cd2, .int), (cd3, .int)]) [0, 1, 2, 3] rfl
  have hFc := va_free (wc := [(h0, .inr (2, [.ref d0, .ref d1, .ref d2, .ref d3])), (d0, .inl (cd0, 40, .inl v1)), (d1, .inl (cd1, 40, .inl v2)), (d2, .inl (cd2, 40, .inl v3)), (d3, .inl (cd3, 480, .inl v4))]) hD hS hA [0, 1, 2, 3, 4] rfl
  refine va_calli (va_runV (As := [.int (nI df)]) (rest := []) ⟨hx, hb, hml, hown, hts⟩ (c_D_lastDayOf l dC dI _ h0 d0 d1 d2 d3 cd0 cd1 cd2 cd3 v1 v2 v3 v4 df (by omega)) (cwV 1 hts gc_D_isAhead_D_lastDayOf rfl rfl rfl (by decide +kernel) ⟨Nat.le_of_ble_eq_true rfl, Nat.le_of_ble_eq_true rfl⟩) ⟨fun a U g mk q => by obtain ⟨q0, q1, qP, qK, qD⟩ := q; exact ⟨q0, q1, qP, va_K.moved (u := U) (U := U.calling g mk a) (Vm.Alike.refl U.vm) qK, qD⟩, va_recv hKc hPc (ci := 2) (q0 := 0) rfl rfl, fun U hU hW => ⟨rfl, by rw [hU], by rw [hU]; exact hPc, va_K.moved hW.alike hKc, hDc.weaken (fun _ _ _ _ => trivial)⟩⟩ rfl rfl hl.1 rfl (lv_room (Nat.le_of_ble_eq_true rfl)) dX1_isAhead_8 ⟨Nat.zero_le _, Nat.zero_le _⟩) hS (fun q _ h => hFc q h) hFc (fun r_2 u t H1 locs ht hvm hw hB hz1 hk1 hS => ?_)
  obtain ⟨hP1, hK1, hD1⟩ := hB
  rw [ht] at hP1
  obtain ⟨hP, hD⟩ := va_join (wr := []) (w1 := [(h0, .inr (2, [.ref d0, .ref d1, .ref d2, .ref d3])), (d0, .inl (cd0, 40, .inl v1)), (d1, .inl (cd1, 40, .inl v2)), (d2, .inl (cd2, 40, .inl v3)), (d3, .inl (cd3, 480, .inl v4))]) hP hD [0, 1, 2, 3, 4] [] rfl rfl (by decide) (by decide) hk1 hFc hP1 hD1
  generalize H1 = H at hP hS ⊢
  have hP : va_P (dC, dI) vwCl [(h0, .inr (2, [.ref d0, .ref d1, .ref d2, .ref d3])), (d0, .inl (cd0, 40, .inl v1)), (d1, .inl (cd1, 40, .inl v2)), (d2, .inl (cd2, 40, .inl v3)), (d3, .inl (cd3, 480, .inl v4))] H := hP
  have hD : va_D A [(h0, .inr (2, [.ref d0, .ref d1, .ref d2, .ref d3])), (d0, .inl (cd0, 40, .inl v1)), (d1, .inl (cd1, 40, .inl v2)), (d2, .inl (cd2, 40, .inl v3)), (d3, .inl (cd3, 480, .inl v4))] := hD
  have hr_2 := hw
  try dsimp only at hr_2
  refine lv_istore (lv' := [(4, .int r_2), (3, .int r_1), (0, .ref h0), (1, .int (nI de)), (2, .int (nI df))]) hx hb dX1_isAhead_11 hl (by decide) rfl (fun ls hl => ?_)
  refine lv_iload_n hx hb dX1_isAhead_13 rfl (lv_at hl 1 rfl) ?_
  refine lv_iload hx hb dX1_isAhead_14 (lv_at hl 0 rfl) ?_
  refine lv_icmp_lt (tgt := 30) hx hb dX1_isAhead_16 (by decide) (fun c_3 => ?_) (fun c_3 => ?_)
  · refine lv_iconst (v := 1) hx hb dX1_isAhead_30 (by decide) ?_
    refine lv_goto (tgt := 35) hx hb dX1_isAhead_31 (by decide) ?_
    have hP9 := hP.sub (ws' := [(h0, .inr (2, [.ref d0, .ref d1, .ref d2, .ref d3])), (d0, .inl (cd0, 40, .inl v1)), (d1, .inl (cd1, 40, .inl v2)), (d2, .inl (cd2, 40, .inl v3)), (d3, .inl (cd3, 480, .inl v4))]) [0, 1, 2, 3, 4] rfl
    have hD9 := hD.sub (ws' := [(h0, .inr (2, [.ref d0, .ref d1, .ref d2, .ref d3])), (d0, .inl (cd0, 40, .inl v1)), (d1, .inl (cd1, 40, .inl v2)), (d2, .inl (cd2, 40, .inl v3)), (d3, .inl (cd3, 480, .inl v4))]) [0, 1, 2, 3, 4] (by decide) rfl
    have hK9 := hK.sub (tys' := [(cd0, .int), (cd1, .int), (cd2, .int), (cd3, .int)]) [0, 1, 2, 3] rfl
    exact W.zret (v := 1) (ty := .boolean) hx hb hr rfl (fun t ht hW => ⟨⟨1, (), rfl, Or.inr rfl, by rw [ht]; exact hP9, va_K.moved hW.alike hK9, hD9⟩, hS.F ht⟩) hS.2.2 dX1_isAhead_35
  · refine lv_iload_n hx hb dX1_isAhead_19 rfl (lv_at hl 1 rfl) ?_
    refine lv_iload hx hb dX1_isAhead_20 (lv_at hl 0 rfl) ?_
    refine lv_icmp_ne (tgt := 34) hx hb dX1_isAhead_22 (by decide) (fun c_4 => ?_) (fun c_4 => ?_)
    · refine lv_iconst (v := 0) hx hb dX1_isAhead_34 (by decide) ?_
      have hP9 := hP.sub (ws' := [(h0, .inr (2, [.ref d0, .ref d1, .ref d2, .ref d3])), (d0, .inl (cd0, 40, .inl v1)), (d1, .inl (cd1, 40, .inl v2)), (d2, .inl (cd2, 40, .inl v3)), (d3, .inl (cd3, 480, .inl v4))]) [0, 1, 2, 3, 4] rfl
      have hD9 := hD.sub (ws' := [(h0, .inr (2, [.ref d0, .ref d1, .ref d2, .ref d3])), (d0, .inl (cd0, 40, .inl v1)), (d1, .inl (cd1, 40, .inl v2)), (d2, .inl (cd2, 40, .inl v3)), (d3, .inl (cd3, 480, .inl v4))]) [0, 1, 2, 3, 4] (by decide) rfl
      have hK9 := hK.sub (tys' := [(cd0, .int), (cd1, .int), (cd2, .int), (cd3, .int)]) [0, 1, 2, 3] rfl
      exact W.zret (v := 0) (ty := .boolean) hx hb hr rfl (fun t ht hW => ⟨⟨0, (), rfl, Or.inl rfl, by rw [ht]; exact hP9, va_K.moved hW.alike hK9, hD9⟩, hS.F ht⟩) hS.2.2 dX1_isAhead_35
    · refine lv_iload_n hx hb dX1_isAhead_25 rfl (lv_at hl 3 rfl) ?_
      refine lv_iload_n hx hb dX1_isAhead_26 rfl (lv_at hl 4 rfl) ?_
      refine lv_icmp_ge (tgt := 34) hx hb dX1_isAhead_27 (by decide) (fun c_5 => ?_) (fun c_5 => ?_)
      · have c_5 : df ≤ de := (nI_leI (a := df) (b := de) (by omega) (by omega)).mp c_5
        refine lv_iconst (v := 0) hx hb dX1_isAhead_34 (by decide) ?_
        have hP9 := hP.sub (ws' := [(h0, .inr (2, [.ref d0, .ref d1, .ref d2, .ref d3])), (d0, .inl (cd0, 40, .inl v1)), (d1, .inl (cd1, 40, .inl v2)), (d2, .inl (cd2, 40, .inl v3)), (d3, .inl (cd3, 480, .inl v4))]) [0, 1, 2, 3, 4] rfl
        have hD9 := hD.sub (ws' := [(h0, .inr (2, [.ref d0, .ref d1, .ref d2, .ref d3])), (d0, .inl (cd0, 40, .inl v1)), (d1, .inl (cd1, 40, .inl v2)), (d2, .inl (cd2, 40, .inl v3)), (d3, .inl (cd3, 480, .inl v4))]) [0, 1, 2, 3, 4] (by decide) rfl
        have hK9 := hK.sub (tys' := [(cd0, .int), (cd1, .int), (cd2, .int), (cd3, .int)]) [0, 1, 2, 3] rfl
        exact W.zret (v := 0) (ty := .boolean) hx hb hr rfl (fun t ht hW => ⟨⟨0, (), rfl, Or.inl rfl, by rw [ht]; exact hP9, va_K.moved hW.alike hK9, hD9⟩, hS.F ht⟩) hS.2.2 dX1_isAhead_35
      · have c_5 : ¬ (df ≤ de) := fun h => c_5 ((nI_leI (a := df) (b := de) (by omega) (by omega)).mpr h)
        refine lv_iconst (v := 1) hx hb dX1_isAhead_30 (by decide) ?_
        refine lv_goto (tgt := 35) hx hb dX1_isAhead_31 (by decide) ?_
        have hP9 := hP.sub (ws' := [(h0, .inr (2, [.ref d0, .ref d1, .ref d2, .ref d3])), (d0, .inl (cd0, 40, .inl v1)), (d1, .inl (cd1, 40, .inl v2)), (d2, .inl (cd2, 40, .inl v3)), (d3, .inl (cd3, 480, .inl v4))]) [0, 1, 2, 3, 4] rfl
        have hD9 := hD.sub (ws' := [(h0, .inr (2, [.ref d0, .ref d1, .ref d2, .ref d3])), (d0, .inl (cd0, 40, .inl v1)), (d1, .inl (cd1, 40, .inl v2)), (d2, .inl (cd2, 40, .inl v3)), (d3, .inl (cd3, 480, .inl v4))]) [0, 1, 2, 3, 4] (by decide) rfl
        have hK9 := hK.sub (tys' := [(cd0, .int), (cd1, .int), (cd2, .int), (cd3, .int)]) [0, 1, 2, 3] rfl
        exact W.zret (v := 1) (ty := .boolean) hx hb hr rfl (fun t ht hW => ⟨⟨1, (), rfl, Or.inr rfl, by rw [ht]; exact hP9, va_K.moved hW.alike hK9, hD9⟩, hS.F ht⟩) hS.2.2 dX1_isAhead_35
def wp_D_placeOf : List Cond := .code yX1_placeOf cX1_placeOf 5 (some .int) :: (([] : List Cond) ++ (wsV RX1 56 RX1 yX1_isOwed wp_D_isOwed) ++ (wsV RX1 60 RX1 yX1_isAhead wp_D_isAhead))
theorem gc_D_placeOf_D_isOwed : GoodIn wp_D_placeOf (wsV RX1 56 RX1 yX1_isOwed wp_D_isOwed) := goodIn_sub (fun _ h => List.mem_cons_of_mem _ (List.mem_append_left _ (List.mem_append_right _ h))) (by decide +kernel)
theorem gc_D_placeOf_D_isAhead : GoodIn wp_D_placeOf (wsV RX1 60 RX1 yX1_isAhead wp_D_isAhead) := goodIn_sub (fun _ h => List.mem_cons_of_mem _ (List.mem_append_right _ h)) (by decide +kernel)
set_option maxRecDepth 20000 in
theorem gi_D_placeOf : GoodIn lw_tbl wp_D_placeOf := (goodIn_ca (goodIn_ca (goodIn_r (.code yX1_placeOf cX1_placeOf 5 (some .int) :: ([] : List Cond)) [611] (by decide +kernel) (by decide +kernel)) (goodIn_app (goodIn_r _ [612, 605, 606, 54] (by decide +kernel) (by decide +kernel)) gi_D_isOwed)) (goodIn_app (goodIn_r _ [613, 615, 22, 54] (by decide +kernel) (by decide +kernel)) gi_D_isAhead))
set_option maxHeartbeats 4000000 in
set_option maxRecDepth 100000 in
theorem sg_D_placeOf_5 {p : Program} {l : Launch} {e : Env} {s : State} {m : MethodId} {args : Array Value} {below : List Frame} {meth : Method} {c : Code} {Q : State → Prop} {A : Nat → Prop} {dC : Nat → ClassId} {dI : Nat → Nat → Nat} (h0 : Nat) (d0 : Nat) (d1 : Nat) (d2 : Nat) (d3 : Nat) (cd0 : ClassId) (cd1 : ClassId) (cd2 : ClassId) (cd3 : ClassId) (v1 : Nat → Int32) (v2 : Nat → Int32) (v3 : Nat → Int32) (v4 : Nat → Int32) (p0 : Int32) (de : Nat) (qde : de < 40) (hx : p.tables.exec = Jvm.exec) (hb : c.code = cX1_placeOf) (hml : c.maxLocals = 5) (hown : s.vm.findClass RX1 = some m.cls) (hts : ∀ w ∈ wp_D_placeOf, w.before args s = true) (hK : va_K (dC, dI) vwCl [(cd0, .int), (cd1, .int), (cd2, .int), (cd3, .int)] s) (hA : ∀ q : Nat, s.heap.size ≤ q → A q) (kk_41 : ∀ (ah : Int32) (H : Heap) (locs : List Loc) (ls : Array Slot), okPD (dC, dI) vwCl A [(h0, .inr (2, [.ref d0, .ref d1, .ref d2, .ref d3])), (d0, .inl (cd0, 40, .inl v1)), (d1, .inl (cd1, 40, .inl v2)), (d2, .inl (cd2, 40, .inl v3)), (d3, .inl (cd3, 480, .inl v4))] H → va_S A s.heap H locs → lv_has ls 5 [(0, .ref h0), (3, .int ah)] → W p l e ({ frames := 2, cells := 0, slots := 0, locals := 60 } : Room) s m args below meth c H locs 0 0 Q (F0 m 41 ls [])) : ∀ (n : Nat) (ah : Int32) (i9 : Nat) (H : Heap) (locs : List Loc) (ls : Array Slot), 40 - i9 < n → (i9 ≤ 40) → okPD (dC, dI) vwCl A [(h0, .inr (2, [.ref d0, .ref d1, .ref d2, .ref d3])), (d0, .inl (cd0, 40, .inl v1)), (d1, .inl (cd1, 40, .inl v2)), (d2, .inl (cd2, 40, .inl v3)), (d3, .inl (cd3, 480, .inl v4))] H → va_S A s.heap H locs → lv_has ls 5 [(0, .ref h0), (1, .int p0), (2, .int (nI de)), (3, .int ah), (4, .int (nI i9))] → W p l e ({ frames := 2, cells := 0, slots := 0, locals := 60 } : Room) s m args below meth c H locs 0 0 Q (F0 m 5 ls []) := by
  intro n
  induction n with
  | zero =>
    intro ah i9 H locs ls hn
    exact absurd hn (Nat.not_lt_zero _)
  | succ n ih =>
    intro ah i9 H locs ls hn hi hPD hS hl
    obtain ⟨hP, hD⟩ := hPD
    refine lv_iload hx hb dX1_placeOf_5 (lv_at hl 4 rfl) ?_
    refine lv_bipush (v := 40) hx hb dX1_placeOf_7 (by decide) ?_
    refine lv_icmp_ge (tgt := 41) hx hb dX1_placeOf_9 (by decide) (fun c_1 => ?_) (fun c_1 => ?_)
    · have c_1 : 40 ≤ i9 := (nI_leI (a := 40) (b := i9) (by omega) (by omega)).mp c_1
      exact kk_41 ah _ _ _  ⟨hP, hD⟩ hS (lv_sub hl [0, 3] rfl)
    · have c_1 : ¬ (40 ≤ i9) := fun h => c_1 ((nI_leI (a := 40) (b := i9) (by omega) (by omega)).mpr h)
      refine lv_aload_n hx hb dX1_placeOf_12 rfl (lv_at hl 0 rfl) ?_
      refine lv_iload_n hx hb dX1_placeOf_13 rfl (lv_at hl 1 rfl) ?_
      refine lv_iload hx hb dX1_placeOf_14 (lv_at hl 4 rfl) ?_
      have hPc := hP.sub (ws' := [(h0, .inr (2, [.ref d0, .ref d1, .ref d2, .ref d3])), (d0, .inl (cd0, 40, .inl v1)), (d1, .inl (cd1, 40, .inl v2)), (d2, .inl (cd2, 40, .inl v3)), (d3, .inl (cd3, 480, .inl v4))]) [0, 1, 2, 3, 4] rfl
      have hDc := hD.sub (ws' := [(h0, .inr (2, [.ref d0, .ref d1, .ref d2, .ref d3])), (d0, .inl (cd0, 40, .inl v1)), (d1, .inl (cd1, 40, .inl v2)), (d2, .inl (cd2, 40, .inl v3)), (d3, .inl (cd3, 480, .inl v4))]) [0, 1, 2, 3, 4] (by decide) rfl
      have hKc := hK.sub (tys' := [(cd0, .int), (cd1, .int), (cd2, .int), (cd3, .int)]) [0, 1, 2, 3] rfl
      have hFc := va_free (wc := [(h0, .inr (2, [.ref d0, .ref d1, .ref d2, .ref d3])), (d0, .inl (cd0, 40, .inl v1)), (d1, .inl (cd1, 40, .inl v2)), (d2, .inl (cd2, 40, .inl v3)), (d3, .inl (cd3, 480, .inl v4))]) hD hS hA [0, 1, 2, 3, 4] rfl
      refine va_calli (va_runV (As := [.int p0, .int (nI i9)]) (rest := []) ⟨hx, hb, hml, hown, hts⟩ (c_D_isOwed l dC dI _ h0 d0 d1 d2 d3 cd0 cd1 cd2 cd3 v1 v2 v3 v4 p0 i9 (by omega)) (cwV 2 hts gc_D_placeOf_D_isOwed rfl rfl rfl (by decide +kernel) ⟨Nat.le_of_ble_eq_true rfl, Nat.le_of_ble_eq_true rfl⟩) ⟨fun a U g mk q => by obtain ⟨q0, q1, qP, qK, qD⟩ := q; exact ⟨q0, q1, qP, va_K.moved (u := U) (U := U.calling g mk a) (Vm.Alike.refl U.vm) qK, qD⟩, va_recv hKc hPc (ci := 2) (q0 := 0) rfl rfl, fun U hU hW => ⟨rfl, by rw [hU], by rw [hU]; exact hPc, va_K.moved hW.alike hKc, hDc.weaken (fun _ _ _ _ => trivial)⟩⟩ rfl rfl hl.1 rfl (lv_room (Nat.le_of_ble_eq_true rfl)) dX1_placeOf_16 ⟨Nat.zero_le _, Nat.zero_le _⟩) hS (fun q _ h => hFc q h) hFc (fun r_2 u t H1 locs ht hvm hw hB hz1 hk1 hS => ?_)
      obtain ⟨hP1, hK1, hD1⟩ := hB
      rw [ht] at hP1
      obtain ⟨hP, hD⟩ := va_join (wr := []) (w1 := [(h0, .inr (2, [.ref d0, .ref d1, .ref d2, .ref d3])), (d0, .inl (cd0, 40, .inl v1)), (d1, .inl (cd1, 40, .inl v2)), (d2, .inl (cd2, 40, .inl v3)), (d3, .inl (cd3, 480, .inl v4))]) hP hD [0, 1, 2, 3, 4] [] rfl rfl (by decide) (by decide) hk1 hFc hP1 hD1
      generalize H1 = H at hP hS ⊢
      have hP : va_P (dC, dI) vwCl [(h0, .inr (2, [.ref d0, .ref d1, .ref d2, .ref d3])), (d0, .inl (cd0, 40, .inl v1)), (d1, .inl (cd1, 40, .inl v2)), (d2, .inl (cd2, 40, .inl v3)), (d3, .inl (cd3, 480, .inl v4))] H := hP
      have hD : va_D A [(h0, .inr (2, [.ref d0, .ref d1, .ref d2, .ref d3])), (d0, .inl (cd0, 40, .inl v1)), (d1, .inl (cd1, 40, .inl v2)), (d2, .inl (cd2, 40, .inl v3)), (d3, .inl (cd3, 480, .inl v4))] := hD
      have hr_2 := hw
      try dsimp only at hr_2
      refine lv_if_eq (tgt := 35) hx hb dX1_placeOf_19 (by decide) (fun c_3 => ?_) (fun c_3 => ?_)
      · refine lv_iinc (v := (nI (i9 + 1))) (lv' := [(4, .int (nI (i9 + 1))), (0, .ref h0), (1, .int p0), (2, .int (nI de)), (3, .int ah)]) hx hb dX1_placeOf_35 hl (k := 4) rfl (nI_1 _) (by decide) rfl (fun ls hl => ?_)
        refine lv_goto (tgt := 5) hx hb dX1_placeOf_38 (by decide) ?_
        exact ih ah (i9 + 1) _ _ _ (by omega) (by omega) ⟨hP, hD⟩ hS (lv_sub hl [1, 2, 3, 4, 0] rfl)
      · refine lv_aload_n hx hb dX1_placeOf_22 rfl (lv_at hl 0 rfl) ?_
        refine lv_iload hx hb dX1_placeOf_23 (lv_at hl 4 rfl) ?_
        refine lv_iload_n hx hb dX1_placeOf_25 rfl (lv_at hl 2 rfl) ?_
        have hPc := hP.sub (ws' := [(h0, .inr (2, [.ref d0, .ref d1, .ref d2, .ref d3])), (d0, .inl (cd0, 40, .inl v1)), (d1, .inl (cd1, 40, .inl v2)), (d2, .inl (cd2, 40, .inl v3)), (d3, .inl (cd3, 480, .inl v4))]) [0, 1, 2, 3, 4] rfl
        have hDc := hD.sub (ws' := [(h0, .inr (2, [.ref d0, .ref d1, .ref d2, .ref d3])), (d0, .inl (cd0, 40, .inl v1)), (d1, .inl (cd1, 40, .inl v2)), (d2, .inl (cd2, 40, .inl v3)), (d3, .inl (cd3, 480, .inl v4))]) [0, 1, 2, 3, 4] (by decide) rfl
        have hKc := hK.sub (tys' := [(cd0, .int), (cd1, .int), (cd2, .int), (cd3, .int)]) [0, 1, 2, 3] rfl
        have hFc := va_free (wc := [(h0, .inr (2, [.ref d0, .ref d1, .ref d2, .ref d3])), (d0, .inl (cd0, 40, .inl v1)), (d1, .inl (cd1, 40, .inl v2)), (d2, .inl (cd2, 40, .inl v3)), (d3, .inl (cd3, 480, .inl v4))]) hD hS hA [0, 1, 2, 3, 4] rfl
        refine va_calli (va_runV (As := [.int (nI i9), .int (nI de)]) (rest := []) ⟨hx, hb, hml, hown, hts⟩ (c_D_isAhead l dC dI _ h0 d0 d1 d2 d3 cd0 cd1 cd2 cd3 v1 v2 v3 v4 i9 de (by omega) (by omega)) (cwV 2 hts gc_D_placeOf_D_isAhead rfl rfl rfl (by decide +kernel) ⟨Nat.le_of_ble_eq_true rfl, Nat.le_of_ble_eq_true rfl⟩) ⟨fun a U g mk q => by obtain ⟨q0, q1, qP, qK, qD⟩ := q; exact ⟨q0, q1, qP, va_K.moved (u := U) (U := U.calling g mk a) (Vm.Alike.refl U.vm) qK, qD⟩, va_recv hKc hPc (ci := 2) (q0 := 0) rfl rfl, fun U hU hW => ⟨rfl, by rw [hU], by rw [hU]; exact hPc, va_K.moved hW.alike hKc, hDc.weaken (fun _ _ _ _ => trivial)⟩⟩ rfl rfl hl.1 rfl (lv_room (Nat.le_of_ble_eq_true rfl)) dX1_placeOf_26 ⟨Nat.zero_le _, Nat.zero_le _⟩) hS (fun q _ h => hFc q h) hFc (fun r_4 u t H1 locs ht hvm hw hB hz1 hk1 hS => ?_)
        obtain ⟨hP1, hK1, hD1⟩ := hB
        rw [ht] at hP1
        obtain ⟨hP, hD⟩ := va_join (wr := []) (w1 := [(h0, .inr (2, [.ref d0, .ref d1, .ref d2, .ref d3])), (d0, .inl (cd0, 40, .inl v1)), (d1, .inl (cd1, 40, .inl v2)), (d2, .inl (cd2, 40, .inl v3)), (d3, .inl (cd3, 480, .inl v4))]) hP hD [0, 1, 2, 3, 4] [] rfl rfl (by decide) (by decide) hk1 hFc hP1 hD1
        generalize H1 = H at hP hS ⊢
        have hP : va_P (dC, dI) vwCl [(h0, .inr (2, [.ref d0, .ref d1, .ref d2, .ref d3])), (d0, .inl (cd0, 40, .inl v1)), (d1, .inl (cd1, 40, .inl v2)), (d2, .inl (cd2, 40, .inl v3)), (d3, .inl (cd3, 480, .inl v4))] H := hP
        have hD : va_D A [(h0, .inr (2, [.ref d0, .ref d1, .ref d2, .ref d3])), (d0, .inl (cd0, 40, .inl v1)), (d1, .inl (cd1, 40, .inl v2)), (d2, .inl (cd2, 40, .inl v3)), (d3, .inl (cd3, 480, .inl v4))] := hD
        have hr_4 := hw
        try dsimp only at hr_4
        refine lv_if_eq (tgt := 35) hx hb dX1_placeOf_29 (by decide) (fun c_5 => ?_) (fun c_5 => ?_)
        · refine lv_iinc (v := (nI (i9 + 1))) (lv' := [(4, .int (nI (i9 + 1))), (0, .ref h0), (1, .int p0), (2, .int (nI de)), (3, .int ah)]) hx hb dX1_placeOf_35 hl (k := 4) rfl (nI_1 _) (by decide) rfl (fun ls hl => ?_)
          refine lv_goto (tgt := 5) hx hb dX1_placeOf_38 (by decide) ?_
          exact ih ah (i9 + 1) _ _ _ (by omega) (by omega) ⟨hP, hD⟩ hS (lv_sub hl [1, 2, 3, 4, 0] rfl)
        · obtain ⟨x_6, ex_6⟩ : ∃ y : Int32, y = ah + Int32.ofInt 1 := ⟨_, rfl⟩
          refine lv_iinc (v := x_6) (lv' := [(3, .int x_6), (0, .ref h0), (1, .int p0), (2, .int (nI de)), (4, .int (nI i9))]) hx hb dX1_placeOf_32 hl (k := 3) rfl ex_6.symm (by decide) rfl (fun ls hl => ?_)
          refine lv_iinc (v := (nI (i9 + 1))) (lv' := [(4, .int (nI (i9 + 1))), (3, .int x_6), (0, .ref h0), (1, .int p0), (2, .int (nI de))]) hx hb dX1_placeOf_35 hl (k := 4) rfl (nI_1 _) (by decide) rfl (fun ls hl => ?_)
          refine lv_goto (tgt := 5) hx hb dX1_placeOf_38 (by decide) ?_
          exact ih x_6 (i9 + 1) _ _ _ (by omega) (by omega) ⟨hP, hD⟩ hS (lv_sub hl [2, 3, 4, 1, 0] rfl)
set_option maxHeartbeats 4000000 in
set_option maxRecDepth 100000 in
/-- placeOf -/
theorem c_D_placeOf (l : Launch) (dC : Nat → ClassId) (dI : Nat → Nat → Nat) (sz : Nat) (h0 : Nat) (d0 : Nat) (d1 : Nat) (d2 : Nat) (d3 : Nat) (cd0 : ClassId) (cd1 : ClassId) (cd2 : ClassId) (cd3 : ClassId) (v1 : Nat → Int32) (v2 : Nat → Int32) (v3 : Nat → Int32) (v4 : Nat → Int32) (p0 : Int32) (de : Nat) (qde : de < 40) : Met l yX1_placeOf wp_D_placeOf ({ frames := 2, cells := 0, slots := 0, locals := 60 }) (va_Pc [.ref h0, .int p0, .int (nI de)] (fun U => U.heap.size = sz ∧ va_P (dC, dI) vwCl [(h0, .inr (2, [.ref d0, .ref d1, .ref d2, .ref d3])), (d0, .inl (cd0, 40, .inl v1)), (d1, .inl (cd1, 40, .inl v2)), (d2, .inl (cd2, 40, .inl v3)), (d3, .inl (cd3, 480, .inl v4))] U.heap ∧ va_K (dC, dI) vwCl [(cd0, .int), (cd1, .int), (cd2, .int), (cd3, .int)] U ∧ va_D (fun _ => True) [(h0, .inr (2, [.ref d0, .ref d1, .ref d2, .ref d3])), (d0, .inl (cd0, 40, .inl v1)), (d1, .inl (cd1, 40, .inl v2)), (d2, .inl (cd2, 40, .inl v3)), (d3, .inl (cd3, 480, .inl v4))])) (va_Qi (fun (r : Int32) (_ : Unit) => True) (fun (_ : Unit) (t : State) => va_P (dC, dI) vwCl [(h0, .inr (2, [.ref d0, .ref d1, .ref d2, .ref d3])), (d0, .inl (cd0, 40, .inl v1)), (d1, .inl (cd1, 40, .inl v2)), (d2, .inl (cd2, 40, .inl v3)), (d3, .inl (cd3, 480, .inl v4))] t.heap ∧ va_K (dC, dI) vwCl [(cd0, .int), (cd1, .int), (cd2, .int), (cd3, .int)] t ∧ va_D (va_A [(h0, .inr (2, [.ref d0, .ref d1, .ref d2, .ref d3])), (d0, .inl (cd0, 40, .inl v1)), (d1, .inl (cd1, 40, .inl v2)), (d2, .inl (cd2, 40, .inl v3)), (d3, .inl (cd3, 480, .inl v4))] sz) [(h0, .inr (2, [.ref d0, .ref d1, .ref d2, .ref d3])), (d0, .inl (cd0, 40, .inl v1)), (d1, .inl (cd1, 40, .inl v2)), (d2, .inl (cd2, 40, .inl v3)), (d3, .inl (cd3, 480, .inl v4))]) (va_A [(h0, .inr (2, [.ref d0, .ref d1, .ref d2, .ref d3])), (d0, .inl (cd0, 40, .inl v1)), (d1, .inl (cd1, 40, .inl v2)), (d2, .inl (cd2, 40, .inl v3)), (d3, .inl (cd3, 480, .inl v4))] sz)) 0 0 (va_A [(h0, .inr (2, [.ref d0, .ref d1, .ref d2, .ref d3])), (d0, .inl (cd0, 40, .inl v1)), (d1, .inl (cd1, 40, .inl v2)), (d2, .inl (cd2, 40, .inl v3)), (d3, .inl (cd3, 480, .inl v4))] sz) := by
  refine Met.ofW (cc := cX1_placeOf) (maxL := 5) (ret := (some .int)) (by decide) rfl ?_
  intro p e s m args below meth c s₁ B hml hv
  obtain ⟨rfl, hsz, hP, hK, hD0⟩ := hv
  have hx := B.exec
  have hb := B.bytes
  have hr := B.returns
  have hts := atoms_spec (ws := wp_D_placeOf) B.pre
  have hown : s.vm.findClass RX1 = some m.cls := findClass_of_methodNamed B.named
  have hlocks := B.notSynchronized
  subst hsz
  have hD := hD0.self (sz := s.heap.size)
  generalize hAe : va_A [(h0, .inr (2, [.ref d0, .ref d1, .ref d2, .ref d3])), (d0, .inl (cd0, 40, .inl v1)), (d1, .inl (cd1, 40, .inl v2)), (d2, .inl (cd2, 40, .inl v3)), (d3, .inl (cd3, 480, .inl v4))] s.heap.size = A at hD ⊢
  have hA : ∀ q : Nat, s.heap.size ≤ q → A q := fun q h => by rw [← hAe]; exact Or.inr h
  have hS : va_S A s.heap s.heap [] := va_S.rf
  have hP : va_P (dC, dI) vwCl [(h0, .inr (2, [.ref d0, .ref d1, .ref d2, .ref d3])), (d0, .inl (cd0, 40, .inl v1)), (d1, .inl (cd1, 40, .inl v2)), (d2, .inl (cd2, 40, .inl v3)), (d3, .inl (cd3, 480, .inl v4))] s.heap := hP
  have hl := lv_entry ([.ref h0, .int p0, .int (nI de)]) (n := 5) (Nat.le_of_ble_eq_true rfl)
  rw [lg_entry_eq]
  generalize (lg_sl ([.ref h0, .int p0, .int (nI de)]) ++ List.replicate (5 - (lg_sl ([.ref h0, .int p0, .int (nI de)])).length) Slot.unset).toArray = ls at hl ⊢
  have hl : lv_has ls 5 [(0, .ref h0), (1, .int p0), (2, .int (nI de))] := hl
  refine lv_iconst (v := 0) hx hb dX1_placeOf_0 (by decide) ?_
  refine lv_istore_n (lv' := [(3, .int 0), (0, .ref h0), (1, .int p0), (2, .int (nI de))]) hx hb dX1_placeOf_1 rfl hl (by decide) rfl (fun ls hl => ?_)
  refine lv_iconst (v := 0) hx hb dX1_placeOf_2 (by decide) ?_
  refine lv_istore (lv' := [(4, .int 0), (3, .int 0), (0, .ref h0), (1, .int p0), (2, .int (nI de))]) hx hb dX1_placeOf_3 hl (by decide) rfl (fun ls hl => ?_)
  refine sg_D_placeOf_5 h0 d0 d1 d2 d3 cd0 cd1 cd2 cd3 v1 v2 v3 v4 p0 de qde hx hb hml hown hts hK hA (fun ah_7 H locs ls  hPD hS hl => ?_) ((40 - 0) + 1) 0 0 _ _ _ (Nat.lt_succ_self _) (by omega) ⟨hP, hD⟩ hS (lv_sub hl [2, 3, 4, 1, 0] rfl)
  obtain ⟨hP, hD⟩ := hPD
  refine lv_iload_n hx hb dX1_placeOf_41 rfl (lv_at hl 1 rfl) ?_
  have hP9 := hP.sub (ws' := [(h0, .inr (2, [.ref d0, .ref d1, .ref d2, .ref d3])), (d0, .inl (cd0, 40, .inl v1)), (d1, .inl (cd1, 40, .inl v2)), (d2, .inl (cd2, 40, .inl v3)), (d3, .inl (cd3, 480, .inl v4))]) [0, 1, 2, 3, 4] rfl
  have hD9 := hD.sub (ws' := [(h0, .inr (2, [.ref d0, .ref d1, .ref d2, .ref d3])), (d0, .inl (cd0, 40, .inl v1)), (d1, .inl (cd1, 40, .inl v2)), (d2, .inl (cd2, 40, .inl v3)), (d3, .inl (cd3, 480, .inl v4))]) [0, 1, 2, 3, 4] (by decide) rfl
  have hK9 := hK.sub (tys' := [(cd0, .int), (cd1, .int), (cd2, .int), (cd3, .int)]) [0, 1, 2, 3] rfl
  exact W.iret (v := ah_7) hx hb hr (fun t ht hW => ⟨⟨ah_7, (), rfl, trivial, by rw [ht]; exact hP9, va_K.moved hW.alike hK9, hD9⟩, hS.F ht⟩) hS.2.2 dX1_placeOf_42
