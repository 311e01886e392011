set_option maxRecDepth 20000 in
theorem gl_X6_word : GoodIn lw_tbl (wsV RL 58 RX6 yX6_word wp_X6_word) := goodIn_app (goodIn_r _ [583, 584, 585, 48] (by decide +kernel) (by decide +kernel)) gi_X6_word
set_option maxRecDepth 20000 in
theorem gl_X7_word : GoodIn lw_tbl (wsV RL 61 RX7 yX7_word wp_X7_word) := goodIn_app (goodIn_r _ [939, 940, 941, 57] (by decide +kernel) (by decide +kernel)) gi_X7_word
set_option maxHeartbeats 4000000 in
set_option maxRecDepth 100000 in
/-- the law, case 10 -/
theorem lc_10 {p : Program} {l : Launch} {e : Env} {s : State} {m : MethodId} {below : List Frame} {meth : Method} {c : Code} {dC : Nat → ClassId} {dI : Nat → Nat → Nat} {b : Nat} {xs : Nat → Int32} {A : Nat → Prop} {H : Heap} {locs : List Loc} {ls : Array Slot} (C0 : lw_At p s m meth c b 6 xs) (hAe : A = fun q : Nat => s.heap.size ≤ q) {h0 a0 a1 a2 a3 a4 a5 a6 ab h1 b3 b4 b6 b7 b8 b9 b10 b11 b12 b13 b15 b16 b17 b18 b19 b20 b21 b34 b35 b37 b38 b39 b40 b41 : Nat} {ve : Value} {cA cB cD cC cT : ClassId} (hK : va_K (dC, dI) vwCl [(cA, .int), (cB, .int), (cD, .int), (cC, .int), (cT, .int)] s) (hP : va_P (dC, dI) vwCl [(h0, .inr (7, [.ref a0, .ref a1, .ref a2, .ref a3, .ref a4, .ref a5, .ref a6, .int 0, .int (-1), .int (-1), .int 0])), (a0, .inl (cA, 30, .inl (fun _ => 0))), (a2, .inr (0, [.int 0, ve, .int 0])), (a3, .inr (6, [.ref ab, .int 0])), (ab, .inl (cB, 300, .inl (fun _ => 0))), (h1, .inr (8, [.int 0, .int 0, .int 0, .ref b3, .ref b4, .int 0, .ref b6, .ref b7, .ref b8, .ref b9, .ref b10, .ref b11, .ref b12, .ref b13, .int 0, .ref b15, .ref b16, .ref b17, .ref b18, .ref b19, .ref b20, .ref b21, .int 0, .int 0, .int 0, .int 0, .long 0, .int (-1), .int 0, .int 0, .int 0, .int 0, .int 0, .int 0, .ref b34, .ref b35, .int 0, .ref b37, .ref b38, .ref b39, .ref b40, .ref b41])), (b3, .inl (cD, 30, .inl (fun _ => 0))), (b4, .inl (cC, 30, .inl (fun _ => 0))), (b21, .inl (cT, 300, .inl (fun _ => 0)))] H) (hD : va_D A [(h0, .inr (7, [.ref a0, .ref a1, .ref a2, .ref a3, .ref a4, .ref a5, .ref a6, .int 0, .int (-1), .int (-1), .int 0])), (a0, .inl (cA, 30, .inl (fun _ => 0))), (a2, .inr (0, [.int 0, ve, .int 0])), (a3, .inr (6, [.ref ab, .int 0])), (ab, .inl (cB, 300, .inl (fun _ => 0))), (h1, .inr (8, [.int 0, .int 0, .int 0, .ref b3, .ref b4, .int 0, .ref b6, .ref b7, .ref b8, .ref b9, .ref b10, .ref b11, .ref b12, .ref b13, .int 0, .ref b15, .ref b16, .ref b17, .ref b18, .ref b19, .ref b20, .ref b21, .int 0, .int 0, .int 0, .int 0, .long 0, .int (-1), .int 0, .int 0, .int 0, .int 0, .int 0, .int 0, .ref b34, .ref b35, .int 0, .ref b37, .ref b38, .ref b39, .ref b40, .ref b41])), (b3, .inl (cD, 30, .inl (fun _ => 0))), (b4, .inl (cC, 30, .inl (fun _ => 0))), (b21, .inl (cT, 300, .inl (fun _ => 0)))]) (hS : va_S A s.heap H locs) (hl : lv_has ls 4 [(3, .int 0), (2, .ref h1), (1, .ref h0), (0, .ref b)]) : W p l e room_1 s m #[Value.ref b] below meth c H locs 43 9030 (lw_Z below #[Value.ref b] s) (F0 m 448 ls []) := by
  obtain ⟨hx, hb, hr, hml, hown, hts0, hX, hbl, hlocks, hgv⟩ := id C0
  have hts : ∀ w ∈ lw_tbl, w.before #[Value.ref b] s = true := hts0
  have hA : ∀ q : Nat, s.heap.size ≤ q → A q := fun q h => by rw [hAe]; exact h
  have hbA : ¬ A b := by rw [hAe]; exact Nat.not_le.mpr hbl
  refine lv_aload_n hx hb dL_law_448 rfl (lv_at hl 2 rfl) ?_
  refine lv_aload_n hx hb dL_law_449 rfl (lv_at hl 3 rfl) ?_
  refine lv_iload_n hx hb dL_law_450 rfl (lv_at hl 0 rfl) ?_
  refine lv_iconst (v := 1) hx hb dL_law_451 (by decide) ?_
  refine lv_iadd hx hb dL_law_452 ?_
  refine lv_topi (fun x_1 ex_1 => ?_)
  obtain rfl : x_1 = 1 := by rw [ex_1]; decide
  refine va_sld hx hb hX hbl hbA hS (show vp_in (nI 1) 6 from vp_in_nI (by decide) (by decide)) dL_law_453 ?_
  refine lv_aload_n hx hb dL_law_454 rfl (lv_at hl 3 rfl) ?_
  refine lv_iload_n hx hb dL_law_455 rfl (lv_at hl 0 rfl) ?_
  refine lv_iconst (v := 2) hx hb dL_law_456 (by decide) ?_
  refine lv_iadd hx hb dL_law_457 ?_
  refine lv_topi (fun x_2 ex_2 => ?_)
  obtain rfl : x_2 = 2 := by rw [ex_2]; decide
  refine va_sld hx hb hX hbl hbA hS (show vp_in (nI 2) 6 from vp_in_nI (by decide) (by decide)) dL_law_458 ?_
  refine lv_aload_n hx hb dL_law_459 rfl (lv_at hl 3 rfl) ?_
  refine lv_iload_n hx hb dL_law_460 rfl (lv_at hl 0 rfl) ?_
  refine lv_iconst (v := 3) hx hb dL_law_461 (by decide) ?_
  refine lv_iadd hx hb dL_law_462 ?_
  refine lv_topi (fun x_3 ex_3 => ?_)
  obtain rfl : x_3 = 3 := by rw [ex_3]; decide
  refine va_sld hx hb hX hbl hbA hS (show vp_in (nI 3) 6 from vp_in_nI (by decide) (by decide)) dL_law_463 ?_
  have hPc := hP.sub (ws' := [(h0, .inr (7, [.ref a0, .ref a1, .ref a2, .ref a3, .ref a4, .ref a5, .ref a6, .int 0, .int (-1), .int (-1), .int 0]))]) [0] rfl
  have hDc := hD.sub (ws' := [(h0, .inr (7, [.ref a0, .ref a1, .ref a2, .ref a3, .ref a4, .ref a5, .ref a6, .int 0, .int (-1), .int (-1), .int 0]))]) [0] (by decide) rfl
  have hKc := hK.sub (tys' := []) [] rfl
  have hFc := va_free (wc := [(h0, .inr (7, [.ref a0, .ref a1, .ref a2, .ref a3, .ref a4, .ref a5, .ref a6, .int 0, .int (-1), .int (-1), .int 0]))]) hD hS hA [0] rfl
  refine va_calli (va_runV (As := [.int (xs (Int32.toNatClampNeg 1)), .int (xs (Int32.toNatClampNeg 2)), .int (xs (Int32.toNatClampNeg 3))]) (rest := []) ⟨hx, hb, hml, hown, hts⟩ (c_X6_word l dC dI _ h0 a0 a1 a2 a3 a4 a5 a6 (xs (Int32.toNatClampNeg 1)) (xs (Int32.toNatClampNeg 2)) (xs (Int32.toNatClampNeg 3))) (cwV 3 hts gl_X6_word rfl rfl rfl (by decide +kernel) ⟨Nat.le_of_ble_eq_true rfl, Nat.le_of_ble_eq_true rfl⟩) ⟨fun a U g mk q => by obtain ⟨q0, q1, qP, qK, qD⟩ := q; exact ⟨q0, q1, qP, va_K.moved (u := U) (U := U.calling g mk a) (Vm.Alike.refl U.vm) qK, qD⟩, va_recv hKc hPc (ci := 7) (q0 := 0) rfl rfl, fun U hU hW => ⟨rfl, by rw [hU], by rw [hU]; exact hPc, va_K.moved hW.alike hKc, hDc.weaken (fun _ _ _ _ => trivial)⟩⟩ rfl rfl hl.1 rfl (lv_room (Nat.le_of_ble_eq_true rfl)) dL_law_464 ⟨by decide, by decide⟩) hS (fun q _ h => hFc q h) hFc (fun r_4 u t H1 locs ht hvm hw hB hz1 hk1 hS => ?_)
  obtain ⟨hP1, hK1, hD1⟩ := hB
  rw [ht] at hP1
  obtain ⟨hP, hD⟩ := va_join (wr := [(a0, .inl (cA, 30, .inl (fun _ => 0))), (a2, .inr (0, [.int 0, ve, .int 0])), (a3, .inr (6, [.ref ab, .int 0])), (ab, .inl (cB, 300, .inl (fun _ => 0))), (h1, .inr (8, [.int 0, .int 0, .int 0, .ref b3, .ref b4, .int 0, .ref b6, .ref b7, .ref b8, .ref b9, .ref b10, .ref b11, .ref b12, .ref b13, .int 0, .ref b15, .ref b16, .ref b17, .ref b18, .ref b19, .ref b20, .ref b21, .int 0, .int 0, .int 0, .int 0, .long 0, .int (-1), .int 0, .int 0, .int 0, .int 0, .int 0, .int 0, .ref b34, .ref b35, .int 0, .ref b37, .ref b38, .ref b39, .ref b40, .ref b41])), (b3, .inl (cD, 30, .inl (fun _ => 0))), (b4, .inl (cC, 30, .inl (fun _ => 0))), (b21, .inl (cT, 300, .inl (fun _ => 0)))]) (w1 := []) hP hD [0] [1, 2, 3, 4, 5, 6, 7, 8] rfl rfl (by decide) (by decide) hk1 hFc hP1 hD1
  generalize H1 = H at hP hS ⊢
  have hP : va_P (dC, dI) vwCl [(a0, .inl (cA, 30, .inl (fun _ => 0))), (a2, .inr (0, [.int 0, ve, .int 0])), (a3, .inr (6, [.ref ab, .int 0])), (ab, .inl (cB, 300, .inl (fun _ => 0))), (h1, .inr (8, [.int 0, .int 0, .int 0, .ref b3, .ref b4, .int 0, .ref b6, .ref b7, .ref b8, .ref b9, .ref b10, .ref b11, .ref b12, .ref b13, .int 0, .ref b15, .ref b16, .ref b17, .ref b18, .ref b19, .ref b20, .ref b21, .int 0, .int 0, .int 0, .int 0, .long 0, .int (-1), .int 0, .int 0, .int 0, .int 0, .int 0, .int 0, .ref b34, .ref b35, .int 0, .ref b37, .ref b38, .ref b39, .ref b40, .ref b41])), (b3, .inl (cD, 30, .inl (fun _ => 0))), (b4, .inl (cC, 30, .inl (fun _ => 0))), (b21, .inl (cT, 300, .inl (fun _ => 0)))] H := hP
  have hD : va_D A [(a0, .inl (cA, 30, .inl (fun _ => 0))), (a2, .inr (0, [.int 0, ve, .int 0])), (a3, .inr (6, [.ref ab, .int 0])), (ab, .inl (cB, 300, .inl (fun _ => 0))), (h1, .inr (8, [.int 0, .int 0, .int 0, .ref b3, .ref b4, .int 0, .ref b6, .ref b7, .ref b8, .ref b9, .ref b10, .ref b11, .ref b12, .ref b13, .int 0, .ref b15, .ref b16, .ref b17, .ref b18, .ref b19, .ref b20, .ref b21, .int 0, .int 0, .int 0, .int 0, .long 0, .int (-1), .int 0, .int 0, .int 0, .int 0, .int 0, .int 0, .ref b34, .ref b35, .int 0, .ref b37, .ref b38, .ref b39, .ref b40, .ref b41])), (b3, .inl (cD, 30, .inl (fun _ => 0))), (b4, .inl (cC, 30, .inl (fun _ => 0))), (b21, .inl (cT, 300, .inl (fun _ => 0)))] := hD
  obtain rfl : r_4 = (-1) := hw
  refine lv_aload_n hx hb dL_law_467 rfl (lv_at hl 1 rfl) ?_
  refine lv_aload_n hx hb dL_law_468 rfl (lv_at hl 3 rfl) ?_
  refine lv_iload_n hx hb dL_law_469 rfl (lv_at hl 0 rfl) ?_
  refine lv_iconst (v := 1) hx hb dL_law_470 (by decide) ?_
  refine lv_iadd hx hb dL_law_471 ?_
  refine lv_topi (fun x_5 ex_5 => ?_)
  obtain rfl : x_5 = 1 := by rw [ex_5]; decide
  refine va_sld hx hb hX hbl hbA hS (show vp_in (nI 1) 6 from vp_in_nI (by decide) (by decide)) dL_law_472 ?_
  refine lv_aload_n hx hb dL_law_473 rfl (lv_at hl 3 rfl) ?_
  refine lv_iload_n hx hb dL_law_474 rfl (lv_at hl 0 rfl) ?_
  refine lv_iconst (v := 2) hx hb dL_law_475 (by decide) ?_
  refine lv_iadd hx hb dL_law_476 ?_
  refine lv_topi (fun x_6 ex_6 => ?_)
  obtain rfl : x_6 = 2 := by rw [ex_6]; decide
  refine va_sld hx hb hX hbl hbA hS (show vp_in (nI 2) 6 from vp_in_nI (by decide) (by decide)) dL_law_477 ?_
  refine lv_aload_n hx hb dL_law_478 rfl (lv_at hl 3 rfl) ?_
  refine lv_iload_n hx hb dL_law_479 rfl (lv_at hl 0 rfl) ?_
  refine lv_iconst (v := 3) hx hb dL_law_480 (by decide) ?_
  refine lv_iadd hx hb dL_law_481 ?_
  refine lv_topi (fun x_7 ex_7 => ?_)
  obtain rfl : x_7 = 3 := by rw [ex_7]; decide
  refine va_sld hx hb hX hbl hbA hS (show vp_in (nI 3) 6 from vp_in_nI (by decide) (by decide)) dL_law_482 ?_
  have hPc := hP.sub (ws' := [(h1, .inr (8, [.int 0, .int 0, .int 0, .ref b3, .ref b4, .int 0, .ref b6, .ref b7, .ref b8, .ref b9, .ref b10, .ref b11, .ref b12, .ref b13, .int 0, .ref b15, .ref b16, .ref b17, .ref b18, .ref b19, .ref b20, .ref b21, .int 0, .int 0, .int 0, .int 0, .long 0, .int (-1), .int 0, .int 0, .int 0, .int 0, .int 0, .int 0, .ref b34, .ref b35, .int 0, .ref b37, .ref b38, .ref b39, .ref b40, .ref b41]))]) [4] rfl
  have hDc := hD.sub (ws' := [(h1, .inr (8, [.int 0, .int 0, .int 0, .ref b3, .ref b4, .int 0, .ref b6, .ref b7, .ref b8, .ref b9, .ref b10, .ref b11, .ref b12, .ref b13, .int 0, .ref b15, .ref b16, .ref b17, .ref b18, .ref b19, .ref b20, .ref b21, .int 0, .int 0, .int 0, .int 0, .long 0, .int (-1), .int 0, .int 0, .int 0, .int 0, .int 0, .int 0, .ref b34, .ref b35, .int 0, .ref b37, .ref b38, .ref b39, .ref b40, .ref b41]))]) [4] (by decide) rfl
  have hKc := hK.sub (tys' := []) [] rfl
  have hFc := va_free (wc := [(h1, .inr (8, [.int 0, .int 0, .int 0, .ref b3, .ref b4, .int 0, .ref b6, .ref b7, .ref b8, .ref b9, .ref b10, .ref b11, .ref b12, .ref b13, .int 0, .ref b15, .ref b16, .ref b17, .ref b18, .ref b19, .ref b20, .ref b21, .int 0, .int 0, .int 0, .int 0, .long 0, .int (-1), .int 0, .int 0, .int 0, .int 0, .int 0, .int 0, .ref b34, .ref b35, .int 0, .ref b37, .ref b38, .ref b39, .ref b40, .ref b41]))]) hD hS hA [4] rfl
  refine va_calli (va_runV (As := [.int (xs (Int32.toNatClampNeg 1)), .int (xs (Int32.toNatClampNeg 2)), .int (xs (Int32.toNatClampNeg 3))]) (rest := [.int (-1)]) ⟨hx, hb, hml, hown, hts⟩ (c_X7_word l dC dI _ h1 b3 b4 b6 b7 b8 b9 b10 b11 b12 b13 b15 b16 b17 b18 b19 b20 b21 b34 b35 b37 b38 b39 b40 b41 (xs (Int32.toNatClampNeg 1)) (xs (Int32.toNatClampNeg 2)) (xs (Int32.toNatClampNeg 3))) (cwV 3 hts gl_X7_word rfl rfl rfl (by decide +kernel) ⟨Nat.le_of_ble_eq_true rfl, Nat.le_of_ble_eq_true rfl⟩) ⟨fun a U g mk q => by obtain ⟨q0, q1, qP, qK, qD⟩ := q; exact ⟨q0, q1, qP, va_K.moved (u := U) (U := U.calling g mk a) (Vm.Alike.refl U.vm) qK, qD⟩, va_recv hKc hPc (ci := 8) (q0 := 0) rfl rfl, fun U hU hW => ⟨rfl, by rw [hU], by rw [hU]; exact hPc, va_K.moved hW.alike hKc, hDc.weaken (fun _ _ _ _ => trivial)⟩⟩ rfl rfl hl.1 rfl (lv_room (Nat.le_of_ble_eq_true rfl)) dL_law_483 ⟨by decide, by decide⟩) hS (fun q _ h => hFc q h) hFc (fun r_8 u t H1 locs ht hvm hw hB hz1 hk1 hS => ?_)
  obtain ⟨hP1, hK1, hD1⟩ := hB
  rw [ht] at hP1
  obtain ⟨hP, hD⟩ := va_join (wr := [(a0, .inl (cA, 30, .inl (fun _ => 0))), (a2, .inr (0, [.int 0, ve, .int 0])), (a3, .inr (6, [.ref ab, .int 0])), (ab, .inl (cB, 300, .inl (fun _ => 0))), (b3, .inl (cD, 30, .inl (fun _ => 0))), (b4, .inl (cC, 30, .inl (fun _ => 0))), (b21, .inl (cT, 300, .inl (fun _ => 0)))]) (w1 := []) hP hD [4] [0, 1, 2, 3, 5, 6, 7] rfl rfl (by decide) (by decide) hk1 hFc hP1 hD1
  generalize H1 = H at hP hS ⊢
  have hP : va_P (dC, dI) vwCl [(a0, .inl (cA, 30, .inl (fun _ => 0))), (a2, .inr (0, [.int 0, ve, .int 0])), (a3, .inr (6, [.ref ab, .int 0])), (ab, .inl (cB, 300, .inl (fun _ => 0))), (b3, .inl (cD, 30, .inl (fun _ => 0))), (b4, .inl (cC, 30, .inl (fun _ => 0))), (b21, .inl (cT, 300, .inl (fun _ => 0)))] H := hP
  have hD : va_D A [(a0, .inl (cA, 30, .inl (fun _ => 0))), (a2, .inr (0, [.int 0, ve, .int 0])), (a3, .inr (6, [.ref ab, .int 0])), (ab, .inl (cB, 300, .inl (fun _ => 0))), (b3, .inl (cD, 30, .inl (fun _ => 0))), (b4, .inl (cC, 30, .inl (fun _ => 0))), (b21, .inl (cT, 300, .inl (fun _ => 0)))] := hD
  obtain rfl : r_8 = (-1) := hw
  refine lv_icmp_eq (tgt := 768) hx hb dL_law_486 (by decide) (fun c_9 => ?_) (fun c_9 => ?_)
  · exact lc_end (dC := dC) (dI := dI) C0 hAe hS hl
  · exact absurd c_9 (by decide)
set_option maxRecDepth 20000 in
theorem gl_X6_stands : GoodIn lw_tbl (wsV RL 62 RX6 yX6_stands wp_X6_stands) := goodIn_app (goodIn_r _ [587, 588, 589, 48] (by decide +kernel) (by decide +kernel)) gi_X6_stands
set_option maxRecDepth 20000 in
theorem gl_X7_stands : GoodIn lw_tbl (wsV RL 65 RX7 yX7_stands wp_X7_stands) := goodIn_app (goodIn_r _ [951, 952, 953, 57] (by decide +kernel) (by decide +kernel)) gi_X7_stands
set_option maxHeartbeats 4000000 in
set_option maxRecDepth 100000 in
/-- the law, case 11 -/
theorem lc_11 {p : Program} {l : Launch} {e : Env} {s : State} {m : MethodId} {below : List Frame} {meth : Method} {c : Code} {dC : Nat → ClassId} {dI : Nat → Nat → Nat} {b : Nat} {xs : Nat → Int32} {A : Nat → Prop} {H : Heap} {locs : List Loc} {ls : Array Slot} (C0 : lw_At p s m meth c b 6 xs) (hAe : A = fun q : Nat => s.heap.size ≤ q) {h0 a0 a1 a2 a3 a4 a5 a6 ab h1 b3 b4 b6 b7 b8 b9 b10 b11 b12 b13 b15 b16 b17 b18 b19 b20 b21 b34 b35 b37 b38 b39 b40 b41 : Nat} {ve : Value} {cA cB cD cC cT : ClassId} (hK : va_K (dC, dI) vwCl [(cA, .int), (cB, .int), (cD, .int), (cC, .int), (cT, .int)] s) (hP : va_P (dC, dI) vwCl [(h0, .inr (7, [.ref a0, .ref a1, .ref a2, .ref a3, .ref a4, .ref a5, .ref a6, .int 0, .int (-1), .int (-1), .int 0])), (a0, .inl (cA, 30, .inl (fun _ => 0))), (a2, .inr (0, [.int 0, ve, .int 0])), (a3, .inr (6, [.ref ab, .int 0])), (ab, .inl (cB, 300, .inl (fun _ => 0))), (h1, .inr (8, [.int 0, .int 0, .int 0, .ref b3, .ref b4, .int 0, .ref b6, .ref b7, .ref b8, .ref b9, .ref b10, .ref b11, .ref b12, .ref b13, .int 0, .ref b15, .ref b16, .ref b17, .ref b18, .ref b19, .ref b20, .ref b21, .int 0, .int 0, .int 0, .int 0, .long 0, .int (-1), .int 0, .int 0, .int 0, .int 0, .int 0, .int 0, .ref b34, .ref b35, .int 0, .ref b37, .ref b38, .ref b39, .ref b40, .ref b41])), (b3, .inl (cD, 30, .inl (fun _ => 0))), (b4, .inl (cC, 30, .inl (fun _ => 0))), (b21, .inl (cT, 300, .inl (fun _ => 0)))] H) (hD : va_D A [(h0, .inr (7, [.ref a0, .ref a1, .ref a2, .ref a3, .ref a4, .ref a5, .ref a6, .int 0, .int (-1), .int (-1), .int 0])), (a0, .inl (cA, 30, .inl (fun _ => 0))), (a2, .inr (0, [.int 0, ve, .int 0])), (a3, .inr (6, [.ref ab, .int 0])), (ab, .inl (cB, 300, .inl (fun _ => 0))), (h1, .inr (8, [.int 0, .int 0, .int 0, .ref b3, .ref b4, .int 0, .ref b6, .ref b7, .ref b8, .ref b9, .ref b10, .ref b11, .ref b12, .ref b13, .int 0, .ref b15, .ref b16, .ref b17, .ref b18, .ref b19, .ref b20, .ref b21, .int 0, .int 0, .int 0, .int 0, .long 0, .int (-1), .int 0, .int 0, .int 0, .int 0, .int 0, .int 0, .ref b34, .ref b35, .int 0, .ref b37, .ref b38, .ref b39, .ref b40, .ref b41])), (b3, .inl (cD, 30, .inl (fun _ => 0))), (b4, .inl (cC, 30, .inl (fun _ => 0))), (b21, .inl (cT, 300, .inl (fun _ => 0)))]) (hS : va_S A s.heap H locs) (hl : lv_has ls 4 [(3, .int 0), (2, .ref h1), (1, .ref h0), (0, .ref b)]) : W p l e room_1 s m #[Value.ref b] below meth c H locs 43 9030 (lw_Z below #[Value.ref b] s) (F0 m 491 ls []) := by
  obtain ⟨hx, hb, hr, hml, hown, hts0, hX, hbl, hlocks, hgv⟩ := id C0
  have hts : ∀ w ∈ lw_tbl, w.before #[Value.ref b] s = true := hts0
  have hA : ∀ q : Nat, s.heap.size ≤ q → A q := fun q h => by rw [hAe]; exact h
  have hbA : ¬ A b := by rw [hAe]; exact Nat.not_le.mpr hbl
  refine lv_aload_n hx hb dL_law_491 rfl (lv_at hl 2 rfl) ?_
  refine lv_aload_n hx hb dL_law_492 rfl (lv_at hl 3 rfl) ?_
  refine lv_iload_n hx hb dL_law_493 rfl (lv_at hl 0 rfl) ?_
  refine lv_iconst (v := 1) hx hb dL_law_494 (by decide) ?_
  refine lv_iadd hx hb dL_law_495 ?_
  refine lv_topi (fun x_1 ex_1 => ?_)
  obtain rfl : x_1 = 1 := by rw [ex_1]; decide
  refine va_sld hx hb hX hbl hbA hS (show vp_in (nI 1) 6 from vp_in_nI (by decide) (by decide)) dL_law_496 ?_
  refine lv_aload_n hx hb dL_law_497 rfl (lv_at hl 3 rfl) ?_
  refine lv_iload_n hx hb dL_law_498 rfl (lv_at hl 0 rfl) ?_
  refine lv_iconst (v := 2) hx hb dL_law_499 (by decide) ?_
  refine lv_iadd hx hb dL_law_500 ?_
  refine lv_topi (fun x_2 ex_2 => ?_)
  obtain rfl : x_2 = 2 := by rw [ex_2]; decide
  refine va_sld hx hb hX hbl hbA hS (show vp_in (nI 2) 6 from vp_in_nI (by decide) (by decide)) dL_law_501 ?_
  have hPc := hP.sub (ws' := [(h0, .inr (7, [.ref a0, .ref a1, .ref a2, .ref a3, .ref a4, .ref a5, .ref a6, .int 0, .int (-1), .int (-1), .int 0]))]) [0] rfl
  have hDc := hD.sub (ws' := [(h0, .inr (7, [.ref a0, .ref a1, .ref a2, .ref a3, .ref a4, .ref a5, .ref a6, .int 0, .int (-1), .int (-1), .int 0]))]) [0] (by decide) rfl
  have hKc := hK.sub (tys' := []) [] rfl
  have hFc := va_free (wc := [(h0, .inr (7, [.ref a0, .ref a1, .ref a2, .ref a3, .ref a4, .ref a5, .ref a6, .int 0, .int (-1), .int (-1), .int 0]))]) hD hS hA [0] rfl
  refine va_calli (va_runV (As := [.int (xs (Int32.toNatClampNeg 1)), .int (xs (Int32.toNatClampNeg 2))]) (rest := []) ⟨hx, hb, hml, hown, hts⟩ (c_X6_stands l dC dI _ h0 a0 a1 a2 a3 a4 a5 a6 (xs (Int32.toNatClampNeg 1)) (xs (Int32.toNatClampNeg 2))) (cwV 2 hts gl_X6_stands rfl rfl rfl (by decide +kernel) ⟨Nat.le_of_ble_eq_true rfl, Nat.le_of_ble_eq_true rfl⟩) ⟨fun a U g mk q => by obtain ⟨q0, q1, qP, qK, qD⟩ := q; exact ⟨q0, q1, qP, va_K.moved (u := U) (U := U.calling g mk a) (Vm.Alike.refl U.vm) qK, qD⟩, va_recv hKc hPc (ci := 7) (q0 := 0) rfl rfl, fun U hU hW => ⟨rfl, by rw [hU], by rw [hU]; exact hPc, va_K.moved hW.alike hKc, hDc.weaken (fun _ _ _ _ => trivial)⟩⟩ rfl rfl hl.1 rfl (lv_room (Nat.le_of_ble_eq_true rfl)) dL_law_502 ⟨by decide, by decide⟩) hS (fun q _ h => hFc q h) hFc (fun r_3 u t H1 locs ht hvm hw hB hz1 hk1 hS => ?_)
  obtain ⟨hP1, hK1, hD1⟩ := hB
  rw [ht] at hP1
  obtain ⟨hP, hD⟩ := va_join (wr := [(a0, .inl (cA, 30, .inl (fun _ => 0))), (a2, .inr (0, [.int 0, ve, .int 0])), (a3, .inr (6, [.ref ab, .int 0])), (ab, .inl (cB, 300, .inl (fun _ => 0))), (h1, .inr (8, [.int 0, .int 0, .int 0, .ref b3, .ref b4, .int 0, .ref b6, .ref b7, .ref b8, .ref b9, .ref b10, .ref b11, .ref b12, .ref b13, .int 0, .ref b15, .ref b16, .ref b17, .ref b18, .ref b19, .ref b20, .ref b21, .int 0, .int 0, .int 0, .int 0, .long 0, .int (-1), .int 0, .int 0, .int 0, .int 0, .int 0, .int 0, .ref b34, .ref b35, .int 0, .ref b37, .ref b38, .ref b39, .ref b40, .ref b41])), (b3, .inl (cD, 30, .inl (fun _ => 0))), (b4, .inl (cC, 30, .inl (fun _ => 0))), (b21, .inl (cT, 300, .inl (fun _ => 0)))]) (w1 := []) hP hD [0] [1, 2, 3, 4, 5, 6, 7, 8] rfl rfl (by decide) (by decide) hk1 hFc hP1 hD1
  generalize H1 = H at hP hS ⊢
  have hP : va_P (dC, dI) vwCl [(a0, .inl (cA, 30, .inl (fun _ => 0))), (a2, .inr (0, [.int 0, ve, .int 0])), (a3, .inr (6, [.ref ab, .int 0])), (ab, .inl (cB, 300, .inl (fun _ => 0))), (h1, .inr (8, [.int 0, .int 0, .int 0, .ref b3, .ref b4, .int 0, .ref b6, .ref b7, .ref b8, .ref b9, .ref b10, .ref b11, .ref b12, .ref b13, .int 0, .ref b15, .ref b16, .ref b17, .ref b18, .ref b19, .ref b20, .ref b21, .int 0, .int 0, .int 0, .int 0, .long 0, .int (-1), .int 0, .int 0, .int 0, .int 0, .int 0, .int 0, .ref b34, .ref b35, .int 0, .ref b37, .ref b38, .ref b39, .ref b40, .ref b41])), (b3, .inl (cD, 30, .inl (fun _ => 0))), (b4, .inl (cC, 30, .inl (fun _ => 0))), (b21, .inl (cT, 300, .inl (fun _ => 0)))] H := hP
  have hD : va_D A [(a0, .inl (cA, 30, .inl (fun _ => 0))), (a2, .inr (0, [.int 0, ve, .int 0])), (a3, .inr (6, [.ref ab, .int 0])), (ab, .inl (cB, 300, .inl (fun _ => 0))), (h1, .inr (8, [.int 0, .int 0, .int 0, .ref b3, .ref b4, .int 0, .ref b6, .ref b7, .ref b8, .ref b9, .ref b10, .ref b11, .ref b12, .ref b13, .int 0, .ref b15, .ref b16, .ref b17, .ref b18, .ref b19, .ref b20, .ref b21, .int 0, .int 0, .int 0, .int 0, .long 0, .int (-1), .int 0, .int 0, .int 0, .int 0, .int 0, .int 0, .ref b34, .ref b35, .int 0, .ref b37, .ref b38, .ref b39, .ref b40, .ref b41])), (b3, .inl (cD, 30, .inl (fun _ => 0))), (b4, .inl (cC, 30, .inl (fun _ => 0))), (b21, .inl (cT, 300, .inl (fun _ => 0)))] := hD
  obtain rfl : r_3 = (-1) := hw
  refine lv_aload_n hx hb dL_law_505 rfl (lv_at hl 1 rfl) ?_
  refine lv_aload_n hx hb dL_law_506 rfl (lv_at hl 3 rfl) ?_
  refine lv_iload_n hx hb dL_law_507 rfl (lv_at hl 0 rfl) ?_
  refine lv_iconst (v := 1) hx hb dL_law_508 (by decide) ?_
  refine lv_iadd hx hb dL_law_509 ?_
  refine lv_topi (fun x_4 ex_4 => ?_)
  obtain rfl : x_4 = 1 := by rw [ex_4]; decide
  refine va_sld hx hb hX hbl hbA hS (show vp_in (nI 1) 6 from vp_in_nI (by decide) (by decide)) dL_law_510 ?_
  refine lv_aload_n hx hb dL_law_511 rfl (lv_at hl 3 rfl) ?_
  refine lv_iload_n hx hb dL_law_512 rfl (lv_at hl 0 rfl) ?_
  refine lv_iconst (v := 2) hx hb dL_law_513 (by decide) ?_
  refine lv_iadd hx hb dL_law_514 ?_
  refine lv_topi (fun x_5 ex_5 => ?_)
  obtain rfl : x_5 = 2 := by rw [ex_5]; decide
  refine va_sld hx hb hX hbl hbA hS (show vp_in (nI 2) 6 from vp_in_nI (by decide) (by decide)) dL_law_515 ?_
  have hPc := hP.sub (ws' := [(h1, .inr (8, [.int 0, .int 0, .int 0, .ref b3, .ref b4, .int 0, .ref b6, .ref b7, .ref b8, .ref b9, .ref b10, .ref b11, .ref b12, .ref b13, .int 0, .ref b15, .ref b16, .ref b17, .ref b18, .ref b19, .ref b20, .ref b21, .int 0, .int 0, .int 0, .int 0, .long 0, .int (-1), .int 0, .int 0, .int 0, .int 0, .int 0, .int 0, .ref b34, .ref b35, .int 0, .ref b37, .ref b38, .ref b39, .ref b40, .ref b41]))]) [4] rfl
  have hDc := hD.sub (ws' := [(h1, .inr (8, [.int 0, .int 0, .int 0, .ref b3, .ref b4, .int 0, .ref b6, .ref b7, .ref b8, .ref b9, .ref b10, .ref b11, .ref b12, .ref b13, .int 0, .ref b15, .ref b16, .ref b17, .ref b18, .ref b19, .ref b20, .ref b21, .int 0, .int 0, .int 0, .int 0, .long 0, .int (-1), .int 0, .int 0, .int 0, .int 0, .int 0, .int 0, .ref b34, .ref b35, .int 0, .ref b37, .ref b38, .ref b39, .ref b40, .ref b41]))]) [4] (by decide) rfl
  have hKc := hK.sub (tys' := []) [] rfl
  have hFc := va_free (wc := [(h1, .inr (8, [.int 0, .int 0, .int 0, .ref b3, .ref b4, .int 0, .ref b6, .ref b7, .ref b8, .ref b9, .ref b10, .ref b11, .ref b12, .ref b13, .int 0, .ref b15, .ref b16, .ref b17, .ref b18, .ref b19, .ref b20, .ref b21, .int 0, .int 0, .int 0, .int 0, .long 0, .int (-1), .int 0, .int 0, .int 0, .int 0, .int 0, .int 0, .ref b34, .ref b35, .int 0, .ref b37, .ref b38, .ref b39, .ref b40, .ref b41]))]) hD hS hA [4] rfl
  refine va_calli (va_runV (As := [.int (xs (Int32.toNatClampNeg 1)), .int (xs (Int32.toNatClampNeg 2))]) (rest := [.int (-1)]) ⟨hx, hb, hml, hown, hts⟩ (c_X7_stands l dC dI _ h1 b3 b4 b6 b7 b8 b9 b10 b11 b12 b13 b15 b16 b17 b18 b19 b20 b21 b34 b35 b37 b38 b39 b40 b41 (xs (Int32.toNatClampNeg 1)) (xs (Int32.toNatClampNeg 2))) (cwV 2 hts gl_X7_stands rfl rfl rfl (by decide +kernel) ⟨Nat.le_of_ble_eq_true rfl, Nat.le_of_ble_eq_true rfl⟩) ⟨fun a U g mk q => by obtain ⟨q0, q1, qP, qK, qD⟩ := q; exact ⟨q0, q1, qP, va_K.moved (u := U) (U := U.calling g mk a) (Vm.Alike.refl U.vm) qK, qD⟩, va_recv hKc hPc (ci := 8) (q0 := 0) rfl rfl, fun U hU hW => ⟨rfl, by rw [hU], by rw [hU]; exact hPc, va_K.moved hW.alike hKc, hDc.weaken (fun _ _ _ _ => trivial)⟩⟩ rfl rfl hl.1 rfl (lv_room (Nat.le_of_ble_eq_true rfl)) dL_law_516 ⟨by decide, by decide⟩) hS (fun q _ h => hFc q h) hFc (fun r_6 u t H1 locs ht hvm hw hB hz1 hk1 hS => ?_)
  obtain ⟨hP1, hK1, hD1⟩ := hB
  rw [ht] at hP1
  obtain ⟨hP, hD⟩ := va_join (wr := [(a0, .inl (cA, 30, .inl (fun _ => 0))), (a2, .inr (0, [.int 0, ve, .int 0])), (a3, .inr (6, [.ref ab, .int 0])), (ab, .inl (cB, 300, .inl (fun _ => 0))), (b3, .inl (cD, 30, .inl (fun _ => 0))), (b4, .inl (cC, 30, .inl (fun _ => 0))), (b21, .inl (cT, 300, .inl (fun _ => 0)))]) (w1 := []) hP hD [4] [0, 1, 2, 3, 5, 6, 7] rfl rfl (by decide) (by decide) hk1 hFc hP1 hD1
  generalize H1 = H at hP hS ⊢
  have hP : va_P (dC, dI) vwCl [(a0, .inl (cA, 30, .inl (fun _ => 0))), (a2, .inr (0, [.int 0, ve, .int 0])), (a3, .inr (6, [.ref ab, .int 0])), (ab, .inl (cB, 300, .inl (fun _ => 0))), (b3, .inl (cD, 30, .inl (fun _ => 0))), (b4, .inl (cC, 30, .inl (fun _ => 0))), (b21, .inl (cT, 300, .inl (fun _ => 0)))] H := hP
  have hD : va_D A [(a0, .inl (cA, 30, .inl (fun _ => 0))), (a2, .inr (0, [.int 0, ve, .int 0])), (a3, .inr (6, [.ref ab, .int 0])), (ab, .inl (cB, 300, .inl (fun _ => 0))), (b3, .inl (cD, 30, .inl (fun _ => 0))), (b4, .inl (cC, 30, .inl (fun _ => 0))), (b21, .inl (cT, 300, .inl (fun _ => 0)))] := hD
  obtain rfl : r_6 = (-1) := hw
  refine lv_icmp_eq (tgt := 768) hx hb dL_law_519 (by decide) (fun c_7 => ?_) (fun c_7 => ?_)
  · exact lc_end (dC := dC) (dI := dI) C0 hAe hS hl
  · exact absurd c_7 (by decide)
set_option maxRecDepth 20000 in
theorem gl_X6_state : GoodIn lw_tbl (wsV RL 66 RX6 yX6_state wp_X6_state) := goodIn_app (goodIn_r _ [592, 593, 594, 48] (by decide +kernel) (by decide +kernel)) gi_X6_state
set_option maxRecDepth 20000 in
theorem gl_X7_state : GoodIn lw_tbl (wsV RL 69 RX7 yX7_state wp_X7_state) := goodIn_app (goodIn_r _ [955, 956, 957, 57] (by decide +kernel) (by decide +kernel)) gi_X7_state
set_option maxHeartbeats 4000000 in
set_option maxRecDepth 100000 in
/-- the law, case 12 -/
theorem lc_12 {p : Program} {l : Launch} {e : Env} {s : State} {m : MethodId} {below : List Frame} {meth : Method} {c : Code} {dC : Nat → ClassId} {dI : Nat → Nat → Nat} {b : Nat} {xs : Nat → Int32} {A : Nat → Prop} {H : Heap} {locs : List Loc} {ls : Array Slot} (C0 : lw_At p s m meth c b 6 xs) (hAe : A = fun q : Nat => s.heap.size ≤ q) {h0 a0 a1 a2 a3 a4 a5 a6 ab h1 b3 b4 b6 b7 b8 b9 b10 b11 b12 b13 b15 b16 b17 b18 b19 b20 b21 b34 b35 b37 b38 b39 b40 b41 : Nat} {ve : Value} {cA cB cD cC cT : ClassId} (hK : va_K (dC, dI) vwCl [(cA, .int), (cB, .int), (cD, .int), (cC, .int), (cT, .int)] s) (hP : va_P (dC, dI) vwCl [(h0, .inr (7, [.ref a0, .ref a1, .ref a2, .ref a3, .ref a4, .ref a5, .ref a6, .int 0, .int (-1), .int (-1), .int 0])), (a0, .inl (cA, 30, .inl (fun _ => 0))), (a2, .inr (0, [.int 0, ve, .int 0])), (a3, .inr (6, [.ref ab, .int 0])), (ab, .inl (cB, 300, .inl (fun _ => 0))), (h1, .inr (8, [.int 0, .int 0, .int 0, .ref b3, .ref b4, .int 0, .ref b6, .ref b7, .ref b8, .ref b9, .ref b10, .ref b11, .ref b12, .ref b13, .int 0, .ref b15, .ref b16, .ref b17, .ref b18, .ref b19, .ref b20, .ref b21, .int 0, .int 0, .int 0, .int 0, .long 0, .int (-1), .int 0, .int 0, .int 0, .int 0, .int 0, .int 0, .ref b34, .ref b35, .int 0, .ref b37, .ref b38, .ref b39, .ref b40, .ref b41])), (b3, .inl (cD, 30, .inl (fun _ => 0))), (b4, .inl (cC, 30, .inl (fun _ => 0))), (b21, .inl (cT, 300, .inl (fun _ => 0)))] H) (hD : va_D A [(h0, .inr (7, [.ref a0, .ref a1, .ref a2, .ref a3, .ref a4, .ref a5, .ref a6, .int 0, .int (-1), .int (-1), .int 0])), (a0, .inl (cA, 30, .inl (fun _ => 0))), (a2, .inr (0, [.int 0, ve, .int 0])), (a3, .inr (6, [.ref ab, .int 0])), (ab, .inl (cB, 300, .inl (fun _ => 0))), (h1, .inr (8, [.int 0, .int 0, .int 0, .ref b3, .ref b4, .int 0, .ref b6, .ref b7, .ref b8, .ref b9, .ref b10, .ref b11, .ref b12, .ref b13, .int 0, .ref b15, .ref b16, .ref b17, .ref b18, .ref b19, .ref b20, .ref b21, .int 0, .int 0, .int 0, .int 0, .long 0, .int (-1), .int 0, .int 0, .int 0, .int 0, .int 0, .int 0, .ref b34, .ref b35, .int 0, .ref b37, .ref b38, .ref b39, .ref b40, .ref b41])), (b3, .inl (cD, 30, .inl (fun _ => 0))), (b4, .inl (cC, 30, .inl (fun _ => 0))), (b21, .inl (cT, 300, .inl (fun _ => 0)))]) (hS : va_S A s.heap H locs) (hl : lv_has ls 4 [(3, .int 0), (2, .ref h1), (1, .ref h0), (0, .ref b)]) : W p l e room_1 s m #[Value.ref b] below meth c H locs 43 9030 (lw_Z below #[Value.ref b] s) (F0 m 524 ls []) := by
  obtain ⟨hx, hb, hr, hml, hown, hts0, hX, hbl, hlocks, hgv⟩ := id C0
  have hts : ∀ w ∈ lw_tbl, w.before #[Value.ref b] s = true := hts0
  have hA : ∀ q : Nat, s.heap.size ≤ q → A q := fun q h => by rw [hAe]; exact h
  have hbA : ¬ A b := by rw [hAe]; exact Nat.not_le.mpr hbl
  refine lv_aload_n hx hb dL_law_524 rfl (lv_at hl 2 rfl) ?_
  refine lv_aload_n hx hb dL_law_525 rfl (lv_at hl 3 rfl) ?_
  refine lv_iload_n hx hb dL_law_526 rfl (lv_at hl 0 rfl) ?_
  refine lv_iconst (v := 1) hx hb dL_law_527 (by decide) ?_
  refine lv_iadd hx hb dL_law_528 ?_
  refine lv_topi (fun x_1 ex_1 => ?_)
  obtain rfl : x_1 = 1 := by rw [ex_1]; decide
  refine va_sld hx hb hX hbl hbA hS (show vp_in (nI 1) 6 from vp_in_nI (by decide) (by decide)) dL_law_529 ?_
  refine lv_aload_n hx hb dL_law_530 rfl (lv_at hl 3 rfl) ?_
  refine lv_iload_n hx hb dL_law_531 rfl (lv_at hl 0 rfl) ?_
  refine lv_iconst (v := 2) hx hb dL_law_532 (by decide) ?_
  refine lv_iadd hx hb dL_law_533 ?_
  refine lv_topi (fun x_2 ex_2 => ?_)
  obtain rfl : x_2 = 2 := by rw [ex_2]; decide
  refine va_sld hx hb hX hbl hbA hS (show vp_in (nI 2) 6 from vp_in_nI (by decide) (by decide)) dL_law_534 ?_
  have hPc := hP.sub (ws' := [(h0, .inr (7, [.ref a0, .ref a1, .ref a2, .ref a3, .ref a4, .ref a5, .ref a6, .int 0, .int (-1), .int (-1), .int 0]))]) [0] rfl
  have hDc := hD.sub (ws' := [(h0, .inr (7, [.ref a0, .ref a1, .ref a2, .ref a3, .ref a4, .ref a5, .ref a6, .int 0, .int (-1), .int (-1), .int 0]))]) [0] (by decide) rfl
  have hKc := hK.sub (tys' := []) [] rfl
  have hFc := va_free (wc := [(h0, .inr (7, [.ref a0, .ref a1, .ref a2, .ref a3, .ref a4, .ref a5, .ref a6, .int 0, .int (-1), .int (-1), .int 0]))]) hD hS hA [0] rfl
  refine va_calli (va_runV (As := [.int (xs (Int32.toNatClampNeg 1)), .int (xs (Int32.toNatClampNeg 2))]) (rest := []) ⟨hx, hb, hml, hown, hts⟩ (c_X6_state l dC dI _ h0 a0 a1 a2 a3 a4 a5 a6 (xs (Int32.toNatClampNeg 1)) (xs (Int32.toNatClampNeg 2))) (cwV 2 hts gl_X6_state rfl rfl rfl (by decide +kernel) ⟨Nat.le_of_ble_eq_true rfl, Nat.le_of_ble_eq_true rfl⟩) ⟨fun a U g mk q => by obtain ⟨q0, q1, qP, qK, qD⟩ := q; exact ⟨q0, q1, qP, va_K.moved (u := U) (U := U.calling g mk a) (Vm.Alike.refl U.vm) qK, qD⟩, va_recv hKc hPc (ci := 7) (q0 := 0) rfl rfl, fun U hU hW => ⟨rfl, by rw [hU], by rw [hU]; exact hPc, va_K.moved hW.alike hKc, hDc.weaken (fun _ _ _ _ => trivial)⟩⟩ rfl rfl hl.1 rfl (lv_room (Nat.le_of_ble_eq_true rfl)) dL_law_535 ⟨by decide, by decide⟩) hS (fun q _ h => hFc q h) hFc (fun r_3 u t H1 locs ht hvm hw hB hz1 hk1 hS => ?_)
  obtain ⟨hP1, hK1, hD1⟩ := hB
  rw [ht] at hP1
  obtain ⟨hP, hD⟩ := va_join (wr := [(a0, .inl (cA, 30, .inl (fun _ => 0))), (a2, .inr (0, [.int 0, ve, .int 0])), (a3, .inr (6, [.ref ab, .int 0])), (ab, .inl (cB, 300, .inl (fun _ => 0))), (h1, .inr (8, [.int 0, .int 0, .int 0, .ref b3, .ref b4, .int 0, .ref b6, .ref b7, .ref b8, .ref b9, .ref b10, .ref b11, .ref b12, .ref b13, .int 0, .ref b15, .ref b16, .ref b17, .ref b18, .ref b19, .ref b20, .ref b21, .int 0, .int 0, .int 0, .int 0, .long 0, .int (-1), .int 0, .int 0, .int 0, .int 0, .int 0, .int 0, .ref b34, .ref b35, .int 0, .ref b37, .ref b38, .ref b39, .ref b40, .ref b41])), (b3, .inl (cD, 30, .inl (fun _ => 0))), (b4, .inl (cC, 30, .inl (fun _ => 0))), (b21, .inl (cT, 300, .inl (fun _ => 0)))]) (w1 := []) hP hD [0] [1, 2, 3, 4, 5, 6, 7, 8] rfl rfl (by decide) (by decide) hk1 hFc hP1 hD1
  generalize H1 = H at hP hS ⊢
  have hP : va_P (dC, dI) vwCl [(a0, .inl (cA, 30, .inl (fun _ => 0))), (a2, .inr (0, [.int 0, ve, .int 0])), (a3, .inr (6, [.ref ab, .int 0])), (ab, .inl (cB, 300, .inl (fun _ => 0))), (h1, .inr (8, [.int 0, .int 0, .int 0, .ref b3, .ref b4, .int 0, .ref b6, .ref b7, .ref b8, .ref b9, .ref b10, .ref b11, .ref b12, .ref b13, .int 0, .ref b15, .ref b16, .ref b17, .ref b18, .ref b19, .ref b20, .ref b21, .int 0, .int 0, .int 0, .int 0, .long 0, .int (-1), .int 0, .int 0, .int 0, .int 0, .int 0, .int 0, .ref b34, .ref b35, .int 0, .ref b37, .ref b38, .ref b39, .ref b40, .ref b41])), (b3, .inl (cD, 30, .inl (fun _ => 0))), (b4, .inl (cC, 30, .inl (fun _ => 0))), (b21, .inl (cT, 300, .inl (fun _ => 0)))] H := hP
  have hD : va_D A [(a0, .inl (cA, 30, .inl (fun _ => 0))), (a2, .inr (0, [.int 0, ve, .int 0])), (a3, .inr (6, [.ref ab, .int 0])), (ab, .inl (cB, 300, .inl (fun _ => 0))), (h1, .inr (8, [.int 0, .int 0, .int 0, .ref b3, .ref b4, .int 0, .ref b6, .ref b7, .ref b8, .ref b9, .ref b10, .ref b11, .ref b12, .ref b13, .int 0, .ref b15, .ref b16, .ref b17, .ref b18, .ref b19, .ref b20, .ref b21, .int 0, .int 0, .int 0, .int 0, .long 0, .int (-1), .int 0, .int 0, .int 0, .int 0, .int 0, .int 0, .ref b34, .ref b35, .int 0, .ref b37, .ref b38, .ref b39, .ref b40, .ref b41])), (b3, .inl (cD, 30, .inl (fun _ => 0))), (b4, .inl (cC, 30, .inl (fun _ => 0))), (b21, .inl (cT, 300, .inl (fun _ => 0)))] := hD
  obtain rfl : r_3 = (-1) := hw
  refine lv_aload_n hx hb dL_law_538 rfl (lv_at hl 1 rfl) ?_
  refine lv_aload_n hx hb dL_law_539 rfl (lv_at hl 3 rfl) ?_
  refine lv_iload_n hx hb dL_law_540 rfl (lv_at hl 0 rfl) ?_
  refine lv_iconst (v := 1) hx hb dL_law_541 (by decide) ?_
  refine lv_iadd hx hb dL_law_542 ?_
  refine lv_topi (fun x_4 ex_4 => ?_)
  obtain rfl : x_4 = 1 := by rw [ex_4]; decide
  refine va_sld hx hb hX hbl hbA hS (show vp_in (nI 1) 6 from vp_in_nI (by decide) (by decide)) dL_law_543 ?_
  refine lv_aload_n hx hb dL_law_544 rfl (lv_at hl 3 rfl) ?_
  refine lv_iload_n hx hb dL_law_545 rfl (lv_at hl 0 rfl) ?_
  refine lv_iconst (v := 2) hx hb dL_law_546 (by decide) ?_
  refine lv_iadd hx hb dL_law_547 ?_
  refine lv_topi (fun x_5 ex_5 => ?_)
  obtain rfl : x_5 = 2 := by rw [ex_5]; decide
  refine va_sld hx hb hX hbl hbA hS (show vp_in (nI 2) 6 from vp_in_nI (by decide) (by decide)) dL_law_548 ?_
  have hPc := hP.sub (ws' := [(h1, .inr (8, [.int 0, .int 0, .int 0, .ref b3, .ref b4, .int 0, .ref b6, .ref b7, .ref b8, .ref b9, .ref b10, .ref b11, .ref b12, .ref b13, .int 0, .ref b15, .ref b16, .ref b17, .ref b18, .ref b19, .ref b20, .ref b21, .int 0, .int 0, .int 0, .int 0, .long 0, .int (-1), .int 0, .int 0, .int 0, .int 0, .int 0, .int 0, .ref b34, .ref b35, .int 0, .ref b37, .ref b38, .ref b39, .ref b40, .ref b41]))]) [4] rfl
  have hDc := hD.sub (ws' := [(h1, .inr (8, [.int 0, .int 0, .int 0, .ref b3, .ref b4, .int 0, .ref b6, .ref b7, .ref b8, .ref b9, .ref b10, .ref b11, .ref b12, .ref b13, .int 0, .ref b15, .ref b16, .ref b17, .ref b18, .ref b19, .ref b20, .ref b21, .int 0, .int 0, .int 0, .int 0, .long 0, .int (-1), .int 0, .int 0, .int 0, .int 0, .int 0, .int 0, .ref b34, .ref b35, .int 0, .ref b37, .ref b38, .ref b39, .ref b40, .ref b41]))]) [4] (by decide) rfl
  have hKc := hK.sub (tys' := []) [] rfl
  have hFc := va_free (wc := [(h1, .inr (8, [.int 0, .int 0, .int 0, .ref b3, .ref b4, .int 0, .ref b6, .ref b7, .ref b8, .ref b9, .ref b10, .ref b11, .ref b12, .ref b13, .int 0, .ref b15, .ref b16, .ref b17, .ref b18, .ref b19, .ref b20, .ref b21, .int 0, .int 0, .int 0, .int 0, .long 0, .int (-1), .int 0, .int 0, .int 0, .int 0, .int 0, .int 0, .ref b34, .ref b35, .int 0, .ref b37, .ref b38, .ref b39, .ref b40, .ref b41]))]) hD hS hA [4] rfl
  refine va_calli (va_runV (As := [.int (xs (Int32.toNatClampNeg 1)), .int (xs (Int32.toNatClampNeg 2))]) (rest := [.int (-1)]) ⟨hx, hb, hml, hown, hts⟩ (c_X7_state l dC dI _ h1 b3 b4 b6 b7 b8 b9 b10 b11 b12 b13 b15 b16 b17 b18 b19 b20 b21 b34 b35 b37 b38 b39 b40 b41 (xs (Int32.toNatClampNeg 1)) (xs (Int32.toNatClampNeg 2))) (cwV 2 hts gl_X7_state rfl rfl rfl (by decide +kernel) ⟨Nat.le_of_ble_eq_true rfl, Nat.le_of_ble_eq_true rfl⟩) ⟨fun a U g mk q => by obtain ⟨q0, q1, qP, qK, qD⟩ := q; exact ⟨q0, q1, qP, va_K.moved (u := U) (U := U.calling g mk a) (Vm.Alike.refl U.vm) qK, qD⟩, va_recv hKc hPc (ci := 8) (q0 := 0) rfl rfl, fun U hU hW => ⟨rfl, by rw [hU], by rw [hU]; exact hPc, va_K.moved hW.alike hKc, hDc.weaken (fun _ _ _ _ => trivial)⟩⟩ rfl rfl hl.1 rfl (lv_room (Nat.le_of_ble_eq_true rfl)) dL_law_549 ⟨by decide, by decide⟩) hS (fun q _ h => hFc q h) hFc (fun r_6 u t H1 locs ht hvm hw hB hz1 hk1 hS => ?_)
  obtain ⟨hP1, hK1, hD1⟩ := hB
  rw [ht] at hP1
  obtain ⟨hP, hD⟩ := va_join (wr := [(a0, .inl (cA, 30, .inl (fun _ => 0))), (a2, .inr (0, [.int 0, ve, .int 0])), (a3, .inr (6, [.ref ab, .int 0])), (ab, .inl (cB, 300, .inl (fun _ => 0))), (b3, .inl (cD, 30, .inl (fun _ => 0))), (b4, .inl (cC, 30, .inl (fun _ => 0))), (b21, .inl (cT, 300, .inl (fun _ => 0)))]) (w1 := []) hP hD [4] [0, 1, 2, 3, 5, 6, 7] rfl rfl (by decide) (by decide) hk1 hFc hP1 hD1
  generalize H1 = H at hP hS ⊢
  have hP : va_P (dC, dI) vwCl [(a0, .inl (cA, 30, .inl (fun _ => 0))), (a2, .inr (0, [.int 0, ve, .int 0])), (a3, .inr (6, [.ref ab, .int 0])), (ab, .inl (cB, 300, .inl (fun _ => 0))), (b3, .inl (cD, 30, .inl (fun _ => 0))), (b4, .inl (cC, 30, .inl (fun _ => 0))), (b21, .inl (cT, 300, .inl (fun _ => 0)))] H := hP
  have hD : va_D A [(a0, .inl (cA, 30, .inl (fun _ => 0))), (a2, .inr (0, [.int 0, ve, .int 0])), (a3, .inr (6, [.ref ab, .int 0])), (ab, .inl (cB, 300, .inl (fun _ => 0))), (b3, .inl (cD, 30, .inl (fun _ => 0))), (b4, .inl (cC, 30, .inl (fun _ => 0))), (b21, .inl (cT, 300, .inl (fun _ => 0)))] := hD
  obtain rfl : r_6 = (-1) := hw
  refine lv_icmp_eq (tgt := 768) hx hb dL_law_552 (by decide) (fun c_7 => ?_) (fun c_7 => ?_)
  · exact lc_end (dC := dC) (dI := dI) C0 hAe hS hl
  · exact absurd c_7 (by decide)
set_option maxRecDepth 20000 in
theorem gl_X6_changes : GoodIn lw_tbl (wsV RL 70 RX6 yX6_changes wp_X6_changes) := goodIn_app (goodIn_r _ [596, 597, 598, 48] (by decide +kernel) (by decide +kernel)) gi_X6_changes
set_option maxRecDepth 20000 in
theorem gl_X7_changes : GoodIn lw_tbl (wsV RL 73 RX7 yX7_changes wp_X7_changes) := goodIn_app (goodIn_r _ [959, 960, 961, 57] (by decide +kernel) (by decide +kernel)) gi_X7_changes
set_option maxHeartbeats 4000000 in
set_option maxRecDepth 100000 in
/-- the law, case 13 -/
theorem lc_13 {p : Program} {l : Launch} {e : Env} {s : State} {m : MethodId} {below : List Frame} {meth : Method} {c : Code} {dC : Nat → ClassId} {dI : Nat → Nat → Nat} {b : Nat} {xs : Nat → Int32} {A : Nat → Prop} {H : Heap} {locs : List Loc} {ls : Array Slot} (C0 : lw_At p s m meth c b 6 xs) (hAe : A = fun q : Nat => s.heap.size ≤ q) {h0 a0 a1 a2 a3 a4 a5 a6 ab h1 b3 b4 b6 b7 b8 b9 b10 b11 b12 b13 b15 b16 b17 b18 b19 b20 b21 b34 b35 b37 b38 b39 b40 b41 : Nat} {ve : Value} {cA cB cD cC cT : ClassId} (hK : va_K (dC, dI) vwCl [(cA, .int), (cB, .int), (cD, .int), (cC, .int), (cT, .int)] s) (hP : va_P (dC, dI) vwCl [(h0, .inr (7, [.ref a0, .ref a1, .ref a2, .ref a3, .ref a4, .ref a5, .ref a6, .int 0, .int (-1), .int (-1), .int 0])), (a0, .inl (cA, 30, .inl (fun _ => 0))), (a2, .inr (0, [.int 0, ve, .int 0])), (a3, .inr (6, [.ref ab, .int 0])), (ab, .inl (cB, 300, .inl (fun _ => 0))), (h1, .inr (8, [.int 0, .int 0, .int 0, .ref b3, .ref b4, .int 0, .ref b6, .ref b7, .ref b8, .ref b9, .ref b10, .ref b11, .ref b12, .ref b13, .int 0, .ref b15, .ref b16, .ref b17, .ref b18, .ref b19, .ref b20, .ref b21, .int 0, .int 0, .int 0, .int 0, .long 0, .int (-1), .int 0, .int 0, .int 0, .int 0, .int 0, .int 0, .ref b34, .ref b35, .int 0, .ref b37, .ref b38, .ref b39, .ref b40, .ref b41])), (b3, .inl (cD, 30, .inl (fun _ => 0))), (b4, .inl (cC, 30, .inl (fun _ => 0))), (b21, .inl (cT, 300, .inl (fun _ => 0)))] H) (hD : va_D A [(h0, .inr (7, [.ref a0, .ref a1, .ref a2, .ref a3, .ref a4, .ref a5, .ref a6, .int 0, .int (-1), .int (-1), .int 0])), (a0, .inl (cA, 30, .inl (fun _ => 0))), (a2, .inr (0, [.int 0, ve, .int 0])), (a3, .inr (6, [.ref ab, .int 0])), (ab, .inl (cB, 300, .inl (fun _ => 0))), (h1, .inr (8, [.int 0, .int 0, .int 0, .ref b3, .ref b4, .int 0, .ref b6, .ref b7, .ref b8, .ref b9, .ref b10, .ref b11, .ref b12, .ref b13, .int 0, .ref b15, .ref b16, .ref b17, .ref b18, .ref b19, .ref b20, .ref b21, .int 0, .int 0, .int 0, .int 0, .long 0, .int (-1), .int 0, .int 0, .int 0, .int 0, .int 0, .int 0, .ref b34, .ref b35, .int 0, .ref b37, .ref b38, .ref b39, .ref b40, .ref b41])), (b3, .inl (cD, 30, .inl (fun _ => 0))), (b4, .inl (cC, 30, .inl (fun _ => 0))), (b21, .inl (cT, 300, .inl (fun _ => 0)))]) (hS : va_S A s.heap H locs) (hl : lv_has ls 4 [(3, .int 0), (2, .ref h1), (1, .ref h0), (0, .ref b)]) : W p l e room_1 s m #[Value.ref b] below meth c H locs 43 9030 (lw_Z below #[Value.ref b] s) (F0 m 557 ls []) := by
  obtain ⟨hx, hb, hr, hml, hown, hts0, hX, hbl, hlocks, hgv⟩ := id C0
  have hts : ∀ w ∈ lw_tbl, w.before #[Value.ref b] s = true := hts0
  have hA : ∀ q : Nat, s.heap.size ≤ q → A q := fun q h => by rw [hAe]; exact h
  have hbA : ¬ A b := by rw [hAe]; exact Nat.not_le.mpr hbl
  refine lv_aload_n hx hb dL_law_557 rfl (lv_at hl 2 rfl) ?_
  refine lv_aload_n hx hb dL_law_558 rfl (lv_at hl 3 rfl) ?_
  refine lv_iload_n hx hb dL_law_559 rfl (lv_at hl 0 rfl) ?_
  refine lv_iconst (v := 1) hx hb dL_law_560 (by decide) ?_
  refine lv_iadd hx hb dL_law_561 ?_
  refine lv_topi (fun x_1 ex_1 => ?_)
  obtain rfl : x_1 = 1 := by rw [ex_1]; decide
  refine va_sld hx hb hX hbl hbA hS (show vp_in (nI 1) 6 from vp_in_nI (by decide) (by decide)) dL_law_562 ?_
  refine lv_aload_n hx hb dL_law_563 rfl (lv_at hl 3 rfl) ?_
  refine lv_iload_n hx hb dL_law_564 rfl (lv_at hl 0 rfl) ?_
  refine lv_iconst (v := 2) hx hb dL_law_565 (by decide) ?_
  refine lv_iadd hx hb dL_law_566 ?_
  refine lv_topi (fun x_2 ex_2 => ?_)
  obtain rfl : x_2 = 2 := by rw [ex_2]; decide
  refine va_sld hx hb hX hbl hbA hS (show vp_in (nI 2) 6 from vp_in_nI (by decide) (by decide)) dL_law_567 ?_
  refine lv_aload_n hx hb dL_law_568 rfl (lv_at hl 3 rfl) ?_
  refine lv_iload_n hx hb dL_law_569 rfl (lv_at hl 0 rfl) ?_
  refine lv_iconst (v := 3) hx hb dL_law_570 (by decide) ?_
  refine lv_iadd hx hb dL_law_571 ?_
  refine lv_topi (fun x_3 ex_3 => ?_)
  obtain rfl : x_3 = 3 := by rw [ex_3]; decide
  refine va_sld hx hb hX hbl hbA hS (show vp_in (nI 3) 6 from vp_in_nI (by decide) (by decide)) dL_law_572 ?_
  have hPc := hP.sub (ws' := [(h0, .inr (7, [.ref a0, .ref a1, .ref a2, .ref a3, .ref a4, .ref a5, .ref a6, .int 0, .int (-1), .int (-1), .int 0]))]) [0] rfl
  have hDc := hD.sub (ws' := [(h0, .inr (7, [.ref a0, .ref a1, .ref a2, .ref a3, .ref a4, .ref a5, .ref a6, .int 0, .int (-1), .int (-1), .int 0]))]) [0] (by decide) rfl
  have hKc := hK.sub (tys' := []) [] rfl
  have hFc := va_free (wc := [(h0, .inr (7, [.ref a0, .ref a1, .ref a2, .ref a3, .ref a4, .ref a5, .ref a6, .int 0, .int (-1), .int (-1), .int 0]))]) hD hS hA [0] rfl
  refine va_calli (va_runV (As := [.int (xs (Int32.toNatClampNeg 1)), .int (xs (Int32.toNatClampNeg 2)), .int (xs (Int32.toNatClampNeg 3))]) (rest := []) ⟨hx, hb, hml, hown, hts⟩ (c_X6_changes l dC dI _ h0 a0 a1 a2 a3 a4 a5 a6 (xs (Int32.toNatClampNeg 1)) (xs (Int32.toNatClampNeg 2)) (xs (Int32.toNatClampNeg 3))) (cwV 3 hts gl_X6_changes rfl rfl rfl (by decide +kernel) ⟨Nat.le_of_ble_eq_true rfl, Nat.le_of_ble_eq_true rfl⟩) ⟨fun a U g mk q => by obtain ⟨q0, q1, qP, qK, qD⟩ := q; exact ⟨q0, q1, qP, va_K.moved (u := U) (U := U.calling g mk a) (Vm.Alike.refl U.vm) qK, qD⟩, va_recv hKc hPc (ci := 7) (q0 := 0) rfl rfl, fun U hU hW => ⟨rfl, by rw [hU], by rw [hU]; exact hPc, va_K.moved hW.alike hKc, hDc.weaken (fun _ _ _ _ => trivial)⟩⟩ rfl rfl hl.1 rfl (lv_room (Nat.le_of_ble_eq_true rfl)) dL_law_573 ⟨by decide, by decide⟩) hS (fun q _ h => hFc q h) hFc (fun r_4 u t H1 locs ht hvm hw hB hz1 hk1 hS => ?_)
  obtain ⟨hP1, hK1, hD1⟩ := hB
  rw [ht] at hP1
  obtain ⟨hP, hD⟩ := va_join (wr := [(a0, .inl (cA, 30, .inl (fun _ => 0))), (a2, .inr (0, [.int 0, ve, .int 0])), (a3, .inr (6, [.ref ab, .int 0])), (ab, .inl (cB, 300, .inl (fun _ => 0))), (h1, .inr (8, [.int 0, .int 0, .int 0, .ref b3, .ref b4, .int 0, .ref b6, .ref b7, .ref b8, .ref b9, .ref b10, .ref b11, .ref b12, .ref b13, .int 0, .ref b15, .ref b16, .ref b17, .ref b18, .ref b19, .ref b20, .ref b21, .int 0, .int 0, .int 0, .int 0, .long 0, .int (-1), .int 0, .int 0, .int 0, .int 0, .int 0, .int 0, .ref b34, .ref b35, .int 0, .ref b37, .ref b38, .ref b39, .ref b40, .ref b41])), (b3, .inl (cD, 30, .inl (fun _ => 0))), (b4, .inl (cC, 30, .inl (fun _ => 0))), (b21, .inl (cT, 300, .inl (fun _ => 0)))]) (w1 := []) hP hD [0] [1, 2, 3, 4, 5, 6, 7, 8] rfl rfl (by decide) (by decide) hk1 hFc hP1 hD1
  generalize H1 = H at hP hS ⊢
  have hP : va_P (dC, dI) vwCl [(a0, .inl (cA, 30, .inl (fun _ => 0))), (a2, .inr (0, [.int 0, ve, .int 0])), (a3, .inr (6, [.ref ab, .int 0])), (ab, .inl (cB, 300, .inl (fun _ => 0))), (h1, .inr (8, [.int 0, .int 0, .int 0, .ref b3, .ref b4, .int 0, .ref b6, .ref b7, .ref b8, .ref b9, .ref b10, .ref b11, .ref b12, .ref b13, .int 0, .ref b15, .ref b16, .ref b17, .ref b18, .ref b19, .ref b20, .ref b21, .int 0, .int 0, .int 0, .int 0, .long 0, .int (-1), .int 0, .int 0, .int 0, .int 0, .int 0, .int 0, .ref b34, .ref b35, .int 0, .ref b37, .ref b38, .ref b39, .ref b40, .ref b41])), (b3, .inl (cD, 30, .inl (fun _ => 0))), (b4, .inl (cC, 30, .inl (fun _ => 0))), (b21, .inl (cT, 300, .inl (fun _ => 0)))] H := hP
  have hD : va_D A [(a0, .inl (cA, 30, .inl (fun _ => 0))), (a2, .inr (0, [.int 0, ve, .int 0])), (a3, .inr (6, [.ref ab, .int 0])), (ab, .inl (cB, 300, .inl (fun _ => 0))), (h1, .inr (8, [.int 0, .int 0, .int 0, .ref b3, .ref b4, .int 0, .ref b6, .ref b7, .ref b8, .ref b9, .ref b10, .ref b11, .ref b12, .ref b13, .int 0, .ref b15, .ref b16, .ref b17, .ref b18, .ref b19, .ref b20, .ref b21, .int 0, .int 0, .int 0, .int 0, .long 0, .int (-1), .int 0, .int 0, .int 0, .int 0, .int 0, .int 0, .ref b34, .ref b35, .int 0, .ref b37, .ref b38, .ref b39, .ref b40, .ref b41])), (b3, .inl (cD, 30, .inl (fun _ => 0))), (b4, .inl (cC, 30, .inl (fun _ => 0))), (b21, .inl (cT, 300, .inl (fun _ => 0)))] := hD
  obtain rfl : r_4 = (-1) := hw
  refine lv_aload_n hx hb dL_law_576 rfl (lv_at hl 1 rfl) ?_
  refine lv_aload_n hx hb dL_law_577 rfl (lv_at hl 3 rfl) ?_
  refine lv_iload_n hx hb dL_law_578 rfl (lv_at hl 0 rfl) ?_
  refine lv_iconst (v := 1) hx hb dL_law_579 (by decide) ?_
  refine lv_iadd hx hb dL_law_580 ?_
  refine lv_topi (fun x_5 ex_5 => ?_)
  obtain rfl : x_5 = 1 := by rw [ex_5]; decide
  refine va_sld hx hb hX hbl hbA hS (show vp_in (nI 1) 6 from vp_in_nI (by decide) (by decide)) dL_law_581 ?_
  refine lv_aload_n hx hb dL_law_582 rfl (lv_at hl 3 rfl) ?_
  refine lv_iload_n hx hb dL_law_583 rfl (lv_at hl 0 rfl) ?_
  refine lv_iconst (v := 2) hx hb dL_law_584 (by decide) ?_
  refine lv_iadd hx hb dL_law_585 ?_
  refine lv_topi (fun x_6 ex_6 => ?_)
  obtain rfl : x_6 = 2 := by rw [ex_6]; decide
  refine va_sld hx hb hX hbl hbA hS (show vp_in (nI 2) 6 from vp_in_nI (by decide) (by decide)) dL_law_586 ?_
  refine lv_aload_n hx hb dL_law_587 rfl (lv_at hl 3 rfl) ?_
  refine lv_iload_n hx hb dL_law_588 rfl (lv_at hl 0 rfl) ?_
  refine lv_iconst (v := 3) hx hb dL_law_589 (by decide) ?_
  refine lv_iadd hx hb dL_law_590 ?_
  refine lv_topi (fun x_7 ex_7 => ?_)
  obtain rfl : x_7 = 3 := by rw [ex_7]; decide
  refine va_sld hx hb hX hbl hbA hS (show vp_in (nI 3) 6 from vp_in_nI (by decide) (by decide)) dL_law_591 ?_
  have hPc := hP.sub (ws' := [(h1, .inr (8, [.int 0, .int 0, .int 0, .ref b3, .ref b4, .int 0, .ref b6, .ref b7, .ref b8, .ref b9, .ref b10, .ref b11, .ref b12, .ref b13, .int 0, .ref b15, .ref b16, .ref b17, .ref b18, .ref b19, .ref b20, .ref b21, .int 0, .int 0, .int 0, .int 0, .long 0, .int (-1), .int 0, .int 0, .int 0, .int 0, .int 0, .int 0, .ref b34, .ref b35, .int 0, .ref b37, .ref b38, .ref b39, .ref b40, .ref b41]))]) [4] rfl
  have hDc := hD.sub (ws' := [(h1, .inr (8, [.int 0, .int 0, .int 0, .ref b3, .ref b4, .int 0, .ref b6, .ref b7, .ref b8, .ref b9, .ref b10, .ref b11, .ref b12, .ref b13, .int 0, .ref b15, .ref b16, .ref b17, .ref b18, .ref b19, .ref b20, .ref b21, .int 0, .int 0, .int 0, .int 0, .long 0, .int (-1), .int 0, .int 0, .int 0, .int 0, .int 0, .int 0, .ref b34, .ref b35, .int 0, .ref b37, .ref b38, .ref b39, .ref b40, .ref b41]))]) [4] (by decide) rfl
  have hKc := hK.sub (tys' := []) [] rfl
  have hFc := va_free (wc := [(h1, .inr (8, [.int 0, .int 0, .int 0, .ref b3, .ref b4, .int 0, .ref b6, .ref b7, .ref b8, .ref b9, .ref b10, .ref b11, .ref b12, .ref b13, .int 0, .ref b15, .ref b16, .ref b17, .ref b18, .ref b19, .ref b20, .ref b21, .int 0, .int 0, .int 0, .int 0, .long 0, .int (-1), .int 0, .int 0, .int 0, .int 0, .int 0, .int 0, .ref b34, .ref b35, .int 0, .ref b37, .ref b38, .ref b39, .ref b40, .ref b41]))]) hD hS hA [4] rfl
  refine va_calli (va_runV (As := [.int (xs (Int32.toNatClampNeg 1)), .int (xs (Int32.toNatClampNeg 2)), .int (xs (Int32.toNatClampNeg 3))]) (rest := [.int (-1)]) ⟨hx, hb, hml, hown, hts⟩ (c_X7_changes l dC dI _ h1 b3 b4 b6 b7 b8 b9 b10 b11 b12 b13 b15 b16 b17 b18 b19 b20 b21 b34 b35 b37 b38 b39 b40 b41 (xs (Int32.toNatClampNeg 1)) (xs (Int32.toNatClampNeg 2)) (xs (Int32.toNatClampNeg 3))) (cwV 3 hts gl_X7_changes rfl rfl rfl (by decide +kernel) ⟨Nat.le_of_ble_eq_true rfl, Nat.le_of_ble_eq_true rfl⟩) ⟨fun a U g mk q => by obtain ⟨q0, q1, qP, qK, qD⟩ := q; exact ⟨q0, q1, qP, va_K.moved (u := U) (U := U.calling g mk a) (Vm.Alike.refl U.vm) qK, qD⟩, va_recv hKc hPc (ci := 8) (q0 := 0) rfl rfl, fun U hU hW => ⟨rfl, by rw [hU], by rw [hU]; exact hPc, va_K.moved hW.alike hKc, hDc.weaken (fun _ _ _ _ => trivial)⟩⟩ rfl rfl hl.1 rfl (lv_room (Nat.le_of_ble_eq_true rfl)) dL_law_592 ⟨by decide, by decide⟩) hS (fun q _ h => hFc q h) hFc (fun r_8 u t H1 locs ht hvm hw hB hz1 hk1 hS => ?_)
  obtain ⟨hP1, hK1, hD1⟩ := hB
  rw [ht] at hP1
  obtain ⟨hP, hD⟩ := va_join (wr := [(a0, .inl (cA, 30, .inl (fun _ => 0))), (a2, .inr (0, [.int 0, ve, .int 0])), (a3, .inr (6, [.ref ab, .int 0])), (ab, .inl (cB, 300, .inl (fun _ => 0))), (b3, .inl (cD, 30, .inl (fun _ => 0))), (b4, .inl (cC, 30, .inl (fun _ => 0))), (b21, .inl (cT, 300, .inl (fun _ => 0)))]) (w1 := []) hP hD [4] [0, 1, 2, 3, 5, 6, 7] rfl rfl (by decide) (by decide) hk1 hFc hP1 hD1
  generalize H1 = H at hP hS ⊢
  have hP : va_P (dC, dI) vwCl [(a0, .inl (cA, 30, .inl (fun _ => 0))), (a2, .inr (0, [.int 0, ve, .int 0])), (a3, .inr (6, [.ref ab, .int 0])), (ab, .inl (cB, 300, .inl (fun _ => 0))), (b3, .inl (cD, 30, .inl (fun _ => 0))), (b4, .inl (cC, 30, .inl (fun _ => 0))), (b21, .inl (cT, 300, .inl (fun _ => 0)))] H := hP
  have hD : va_D A [(a0, .inl (cA, 30, .inl (fun _ => 0))), (a2, .inr (0, [.int 0, ve, .int 0])), (a3, .inr (6, [.ref ab, .int 0])), (ab, .inl (cB, 300, .inl (fun _ => 0))), (b3, .inl (cD, 30, .inl (fun _ => 0))), (b4, .inl (cC, 30, .inl (fun _ => 0))), (b21, .inl (cT, 300, .inl (fun _ => 0)))] := hD
  obtain rfl : r_8 = (-1) := hw
  refine lv_icmp_eq (tgt := 768) hx hb dL_law_595 (by decide) (fun c_9 => ?_) (fun c_9 => ?_)
  · exact lc_end (dC := dC) (dI := dI) C0 hAe hS hl
  · exact absurd c_9 (by decide)
set_option maxRecDepth 20000 in
theorem gl_X6_theirs : GoodIn lw_tbl (wsV RL 74 RX6 yX6_theirs wp_X6_theirs) := goodIn_app (goodIn_r _ [600, 601, 602, 48] (by decide +kernel) (by decide +kernel)) gi_X6_theirs
set_option maxRecDepth 20000 in
theorem gl_X7_theirs : GoodIn lw_tbl (wsV RL 77 RX7 yX7_theirs wp_X7_theirs) := goodIn_app (goodIn_r _ [927, 928, 929, 57] (by decide +kernel) (by decide +kernel)) gi_X7_theirs
set_option maxHeartbeats 4000000 in
set_option maxRecDepth 100000 in
/-- the law, case 14 -/
theorem lc_14 {p : Program} {l : Launch} {e : Env} {s : State} {m : MethodId} {below : List Frame} {meth : Method} {c : Code} {dC : Nat → ClassId} {dI : Nat → Nat → Nat} {b : Nat} {xs : Nat → Int32} {A : Nat → Prop} {H : Heap} {locs : List Loc} {ls : Array Slot} (C0 : lw_At p s m meth c b 6 xs) (hAe : A = fun q : Nat => s.heap.size ≤ q) {h0 a0 a1 a2 a3 a4 a5 a6 ab h1 b3 b4 b6 b7 b8 b9 b10 b11 b12 b13 b15 b16 b17 b18 b19 b20 b21 b34 b35 b37 b38 b39 b40 b41 : Nat} {ve : Value} {cA cB cD cC cT : ClassId} (hK : va_K (dC, dI) vwCl [(cA, .int), (cB, .int), (cD, .int), (cC, .int), (cT, .int)] s) (hP : va_P (dC, dI) vwCl [(h0, .inr (7, [.ref a0, .ref a1, .ref a2, .ref a3, .ref a4, .ref a5, .ref a6, .int 0, .int (-1), .int (-1), .int 0])), (a0, .inl (cA, 30, .inl (fun _ => 0))), (a2, .inr (0, [.int 0, ve, .int 0])), (a3, .inr (6, [.ref ab, .int 0])), (ab, .inl (cB, 300, .inl (fun _ => 0))), (h1, .inr (8, [.int 0, .int 0, .int 0, .ref b3, .ref b4, .int 0, .ref b6, .ref b7, .ref b8, .ref b9, .ref b10, .ref b11, .ref b12, .ref b13, .int 0, .ref b15, .ref b16, .ref b17, .ref b18, .ref b19, .ref b20, .ref b21, .int 0, .int 0, .int 0, .int 0, .long 0, .int (-1), .int 0, .int 0, .int 0, .int 0, .int 0, .int 0, .ref b34, .ref b35, .int 0, .ref b37, .ref b38, .ref b39, .ref b40, .ref b41])), (b3, .inl (cD, 30, .inl (fun _ => 0))), (b4, .inl (cC, 30, .inl (fun _ => 0))), (b21, .inl (cT, 300, .inl (fun _ => 0)))] H) (hD : va_D A [(h0, .inr (7, [.ref a0, .ref a1, .ref a2, .ref a3, .ref a4, .ref a5, .ref a6, .int 0, .int (-1), .int (-1), .int 0])), (a0, .inl (cA, 30, .inl (fun _ => 0))), (a2, .inr (0, [.int 0, ve, .int 0])), (a3, .inr (6, [.ref ab, .int 0])), (ab, .inl (cB, 300, .inl (fun _ => 0))), (h1, .inr (8, [.int 0, .int 0, .int 0, .ref b3, .ref b4, .int 0, .ref b6, .ref b7, .ref b8, .ref b9, .ref b10, .ref b11, .ref b12, .ref b13, .int 0, .ref b15, .ref b16, .ref b17, .ref b18, .ref b19, .ref b20, .ref b21, .int 0, .int 0, .int 0, .int 0, .long 0, .int (-1), .int 0, .int 0, .int 0, .int 0, .int 0, .int 0, .ref b34, .ref b35, .int 0, .ref b37, .ref b38, .ref b39, .ref b40, .ref b41])), (b3, .inl (cD, 30, .inl (fun _ => 0))), (b4, .inl (cC, 30, .inl (fun _ => 0))), (b21, .inl (cT, 300, .inl (fun _ => 0)))]) (hS : va_S A s.heap H locs) (hl : lv_has ls 4 [(3, .int 0), (2, .ref h1), (1, .ref h0), (0, .ref b)]) : W p l e room_1 s m #[Value.ref b] below meth c H locs 43 9030 (lw_Z below #[Value.ref b] s) (F0 m 600 ls []) := by
  obtain ⟨hx, hb, hr, hml, hown, hts0, hX, hbl, hlocks, hgv⟩ := id C0
  have hts : ∀ w ∈ lw_tbl, w.before #[Value.ref b] s = true := hts0
  have hA : ∀ q : Nat, s.heap.size ≤ q → A q := fun q h => by rw [hAe]; exact h
  have hbA : ¬ A b := by rw [hAe]; exact Nat.not_le.mpr hbl
  refine lv_aload_n hx hb dL_law_600 rfl (lv_at hl 2 rfl) ?_
  refine lv_aload_n hx hb dL_law_601 rfl (lv_at hl 3 rfl) ?_
  refine lv_iload_n hx hb dL_law_602 rfl (lv_at hl 0 rfl) ?_
  refine lv_iconst (v := 1) hx hb dL_law_603 (by decide) ?_
  refine lv_iadd hx hb dL_law_604 ?_
  refine lv_topi (fun x_1 ex_1 => ?_)
  obtain rfl : x_1 = 1 := by rw [ex_1]; decide
  refine va_sld hx hb hX hbl hbA hS (show vp_in (nI 1) 6 from vp_in_nI (by decide) (by decide)) dL_law_605 ?_
  refine lv_aload_n hx hb dL_law_606 rfl (lv_at hl 3 rfl) ?_
  refine lv_iload_n hx hb dL_law_607 rfl (lv_at hl 0 rfl) ?_
  refine lv_iconst (v := 2) hx hb dL_law_608 (by decide) ?_
  refine lv_iadd hx hb dL_law_609 ?_
  refine lv_topi (fun x_2 ex_2 => ?_)
  obtain rfl : x_2 = 2 := by rw [ex_2]; decide
  refine va_sld hx hb hX hbl hbA hS (show vp_in (nI 2) 6 from vp_in_nI (by decide) (by decide)) dL_law_610 ?_
  refine lv_aload_n hx hb dL_law_611 rfl (lv_at hl 3 rfl) ?_
  refine lv_iload_n hx hb dL_law_612 rfl (lv_at hl 0 rfl) ?_
  refine lv_iconst (v := 3) hx hb dL_law_613 (by decide) ?_
  refine lv_iadd hx hb dL_law_614 ?_
  refine lv_topi (fun x_3 ex_3 => ?_)
  obtain rfl : x_3 = 3 := by rw [ex_3]; decide
  refine va_sld hx hb hX hbl hbA hS (show vp_in (nI 3) 6 from vp_in_nI (by decide) (by decide)) dL_law_615 ?_
  have hPc := hP.sub (ws' := [(h0, .inr (7, [.ref a0, .ref a1, .ref a2, .ref a3, .ref a4, .ref a5, .ref a6, .int 0, .int (-1), .int (-1), .int 0]))]) [0] rfl
  have hDc := hD.sub (ws' := [(h0, .inr (7, [.ref a0, .ref a1, .ref a2, .ref a3, .ref a4, .ref a5, .ref a6, .int 0, .int (-1), .int (-1), .int 0]))]) [0] (by decide) rfl
  have hKc := hK.sub (tys' := []) [] rfl
  have hFc := va_free (wc := [(h0, .inr (7, [.ref a0, .ref a1, .ref a2, .ref a3, .ref a4, .ref a5, .ref a6, .int 0, .int (-1), .int (-1), .int 0]))]) hD hS hA [0] rfl
  refine va_calli (va_runV (As := [.int (xs (Int32.toNatClampNeg 1)), .int (xs (Int32.toNatClampNeg 2)), .int (xs (Int32.toNatClampNeg 3))]) (rest := []) ⟨hx, hb, hml, hown, hts⟩ (c_X6_theirs l dC dI _ h0 a0 a1 a2 a3 a4 a5 a6 (xs (Int32.toNatClampNeg 1)) (xs (Int32.toNatClampNeg 2)) (xs (Int32.toNatClampNeg 3))) (cwV 3 hts gl_X6_theirs rfl rfl rfl (by decide +kernel) ⟨Nat.le_of_ble_eq_true rfl, Nat.le_of_ble_eq_true rfl⟩) ⟨fun a U g mk q => by obtain ⟨q0, q1, qP, qK, qD⟩ := q; exact ⟨q0, q1, qP, va_K.moved (u := U) (U := U.calling g mk a) (Vm.Alike.refl U.vm) qK, qD⟩, va_recv hKc hPc (ci := 7) (q0 := 0) rfl rfl, fun U hU hW => ⟨rfl, by rw [hU], by rw [hU]; exact hPc, va_K.moved hW.alike hKc, hDc.weaken (fun _ _ _ _ => trivial)⟩⟩ rfl rfl hl.1 rfl (lv_room (Nat.le_of_ble_eq_true rfl)) dL_law_616 ⟨by decide, by decide⟩) hS (fun q _ h => hFc q h) hFc (fun r_4 u t H1 locs ht hvm hw hB hz1 hk1 hS => ?_)
  obtain ⟨hP1, hK1, hD1⟩ := hB
  rw [ht] at hP1
  obtain ⟨hP, hD⟩ := va_join (wr := [(a0, .inl (cA, 30, .inl (fun _ => 0))), (a2, .inr (0, [.int 0, ve, .int 0])), (a3, .inr (6, [.ref ab, .int 0])), (ab, .inl (cB, 300, .inl (fun _ => 0))), (h1, .inr (8, [.int 0, .int 0, .int 0, .ref b3, .ref b4, .int 0, .ref b6, .ref b7, .ref b8, .ref b9, .ref b10, .ref b11, .ref b12, .ref b13, .int 0, .ref b15, .ref b16, .ref b17, .ref b18, .ref b19, .ref b20, .ref b21, .int 0, .int 0, .int 0, .int 0, .long 0, .int (-1), .int 0, .int 0, .int 0, .int 0, .int 0, .int 0, .ref b34, .ref b35, .int 0, .ref b37, .ref b38, .ref b39, .ref b40, .ref b41])), (b3, .inl (cD, 30, .inl (fun _ => 0))), (b4, .inl (cC, 30, .inl (fun _ => 0))), (b21, .inl (cT, 300, .inl (fun _ => 0)))]) (w1 := []) hP hD [0] [1, 2, 3, 4, 5, 6, 7, 8] rfl rfl (by decide) (by decide) hk1 hFc hP1 hD1
  generalize H1 = H at hP hS ⊢
  have hP : va_P (dC, dI) vwCl [(a0, .inl (cA, 30, .inl (fun _ => 0))), (a2, .inr (0, [.int 0, ve, .int 0])), (a3, .inr (6, [.ref ab, .int 0])), (ab, .inl (cB, 300, .inl (fun _ => 0))), (h1, .inr (8, [.int 0, .int 0, .int 0, .ref b3, .ref b4, .int 0, .ref b6, .ref b7, .ref b8, .ref b9, .ref b10, .ref b11, .ref b12, .ref b13, .int 0, .ref b15, .ref b16, .ref b17, .ref b18, .ref b19, .ref b20, .ref b21, .int 0, .int 0, .int 0, .int 0, .long 0, .int (-1), .int 0, .int 0, .int 0, .int 0, .int 0, .int 0, .ref b34, .ref b35, .int 0, .ref b37, .ref b38, .ref b39, .ref b40, .ref b41])), (b3, .inl (cD, 30, .inl (fun _ => 0))), (b4, .inl (cC, 30, .inl (fun _ => 0))), (b21, .inl (cT, 300, .inl (fun _ => 0)))] H := hP
  have hD : va_D A [(a0, .inl (cA, 30, .inl (fun _ => 0))), (a2, .inr (0, [.int 0, ve, .int 0])), (a3, .inr (6, [.ref ab, .int 0])), (ab, .inl (cB, 300, .inl (fun _ => 0))), (h1, .inr (8, [.int 0, .int 0, .int 0, .ref b3, .ref b4, .int 0, .ref b6, .ref b7, .ref b8, .ref b9, .ref b10, .ref b11, .ref b12, .ref b13, .int 0, .ref b15, .ref b16, .ref b17, .ref b18, .ref b19, .ref b20, .ref b21, .int 0, .int 0, .int 0, .int 0, .long 0, .int (-1), .int 0, .int 0, .int 0, .int 0, .int 0, .int 0, .ref b34, .ref b35, .int 0, .ref b37, .ref b38, .ref b39, .ref b40, .ref b41])), (b3, .inl (cD, 30, .inl (fun _ => 0))), (b4, .inl (cC, 30, .inl (fun _ => 0))), (b21, .inl (cT, 300, .inl (fun _ => 0)))] := hD
  obtain rfl : r_4 = (-1) := hw
  refine lv_aload_n hx hb dL_law_619 rfl (lv_at hl 1 rfl) ?_
  refine lv_aload_n hx hb dL_law_620 rfl (lv_at hl 3 rfl) ?_
  refine lv_iload_n hx hb dL_law_621 rfl (lv_at hl 0 rfl) ?_
  refine lv_iconst (v := 1) hx hb dL_law_622 (by decide) ?_
  refine lv_iadd hx hb dL_law_623 ?_
  refine lv_topi (fun x_5 ex_5 => ?_)
  obtain rfl : x_5 = 1 := by rw [ex_5]; decide
  refine va_sld hx hb hX hbl hbA hS (show vp_in (nI 1) 6 from vp_in_nI (by decide) (by decide)) dL_law_624 ?_
  refine lv_aload_n hx hb dL_law_625 rfl (lv_at hl 3 rfl) ?_
  refine lv_iload_n hx hb dL_law_626 rfl (lv_at hl 0 rfl) ?_
  refine lv_iconst (v := 2) hx hb dL_law_627 (by decide) ?_
  refine lv_iadd hx hb dL_law_628 ?_
  refine lv_topi (fun x_6 ex_6 => ?_)
  obtain rfl : x_6 = 2 := by rw [ex_6]; decide
  refine va_sld hx hb hX hbl hbA hS (show vp_in (nI 2) 6 from vp_in_nI (by decide) (by decide)) dL_law_629 ?_
  refine lv_aload_n hx hb dL_law_630 rfl (lv_at hl 3 rfl) ?_
  refine lv_iload_n hx hb dL_law_631 rfl (lv_at hl 0 rfl) ?_
  refine lv_iconst (v := 3) hx hb dL_law_632 (by decide) ?_
  refine lv_iadd hx hb dL_law_633 ?_
  refine lv_topi (fun x_7 ex_7 => ?_)
  obtain rfl : x_7 = 3 := by rw [ex_7]; decide
  refine va_sld hx hb hX hbl hbA hS (show vp_in (nI 3) 6 from vp_in_nI (by decide) (by decide)) dL_law_634 ?_
  have hPc := hP.sub (ws' := [(h1, .inr (8, [.int 0, .int 0, .int 0, .ref b3, .ref b4, .int 0, .ref b6, .ref b7, .ref b8, .ref b9, .ref b10, .ref b11, .ref b12, .ref b13, .int 0, .ref b15, .ref b16, .ref b17, .ref b18, .ref b19, .ref b20, .ref b21, .int 0, .int 0, .int 0, .int 0, .long 0, .int (-1), .int 0, .int 0, .int 0, .int 0, .int 0, .int 0, .ref b34, .ref b35, .int 0, .ref b37, .ref b38, .ref b39, .ref b40, .ref b41]))]) [4] rfl
  have hDc := hD.sub (ws' := [(h1, .inr (8, [.int 0, .int 0, .int 0, .ref b3, .ref b4, .int 0, .ref b6, .ref b7, .ref b8, .ref b9, .ref b10, .ref b11, .ref b12, .ref b13, .int 0, .ref b15, .ref b16, .ref b17, .ref b18, .ref b19, .ref b20, .ref b21, .int 0, .int 0, .int 0, .int 0, .long 0, .int (-1), .int 0, .int 0, .int 0, .int 0, .int 0, .int 0, .ref b34, .ref b35, .int 0, .ref b37, .ref b38, .ref b39, .ref b40, .ref b41]))]) [4] (by decide) rfl
  have hKc := hK.sub (tys' := []) [] rfl
  have hFc := va_free (wc := [(h1, .inr (8, [.int 0, .int 0, .int 0, .ref b3, .ref b4, .int 0, .ref b6, .ref b7, .ref b8, .ref b9, .ref b10, .ref b11, .ref b12, .ref b13, .int 0, .ref b15, .ref b16, .ref b17, .ref b18, .ref b19, .ref b20, .ref b21, .int 0, .int 0, .int 0, .int 0, .long 0, .int (-1), .int 0, .int 0, .int 0, .int 0, .int 0, .int 0, .ref b34, .ref b35, .int 0, .ref b37, .ref b38, .ref b39, .ref b40, .ref b41]))]) hD hS hA [4] rfl
  refine va_calli (va_runV (As := [.int (xs (Int32.toNatClampNeg 1)), .int (xs (Int32.toNatClampNeg 2)), .int (xs (Int32.toNatClampNeg 3))]) (rest := [.int (-1)]) ⟨hx, hb, hml, hown, hts⟩ (c_X7_theirs l dC dI _ h1 b3 b4 b6 b7 b8 b9 b10 b11 b12 b13 b15 b16 b17 b18 b19 b20 b21 b34 b35 b37 b38 b39 b40 b41 (xs (Int32.toNatClampNeg 1)) (xs (Int32.toNatClampNeg 2)) (xs (Int32.toNatClampNeg 3))) (cwV 3 hts gl_X7_theirs rfl rfl rfl (by decide +kernel) ⟨Nat.le_of_ble_eq_true rfl, Nat.le_of_ble_eq_true rfl⟩) ⟨fun a U g mk q => by obtain ⟨q0, q1, qP, qK, qD⟩ := q; exact ⟨q0, q1, qP, va_K.moved (u := U) (U := U.calling g mk a) (Vm.Alike.refl U.vm) qK, qD⟩, va_recv hKc hPc (ci := 8) (q0 := 0) rfl rfl, fun U hU hW => ⟨rfl, by rw [hU], by rw [hU]; exact hPc, va_K.moved hW.alike hKc, hDc.weaken (fun _ _ _ _ => trivial)⟩⟩ rfl rfl hl.1 rfl (lv_room (Nat.le_of_ble_eq_true rfl)) dL_law_635 ⟨by decide, by decide⟩) hS (fun q _ h => hFc q h) hFc (fun r_8 u t H1 locs ht hvm hw hB hz1 hk1 hS => ?_)
  obtain ⟨hP1, hK1, hD1⟩ := hB
  rw [ht] at hP1
  obtain ⟨hP, hD⟩ := va_join (wr := [(a0, .inl (cA, 30, .inl (fun _ => 0))), (a2, .inr (0, [.int 0, ve, .int 0])), (a3, .inr (6, [.ref ab, .int 0])), (ab, .inl (cB, 300, .inl (fun _ => 0))), (b3, .inl (cD, 30, .inl (fun _ => 0))), (b4, .inl (cC, 30, .inl (fun _ => 0))), (b21, .inl (cT, 300, .inl (fun _ => 0)))]) (w1 := []) hP hD [4] [0, 1, 2, 3, 5, 6, 7] rfl rfl (by decide) (by decide) hk1 hFc hP1 hD1
  generalize H1 = H at hP hS ⊢
  have hP : va_P (dC, dI) vwCl [(a0, .inl (cA, 30, .inl (fun _ => 0))), (a2, .inr (0, [.int 0, ve, .int 0])), (a3, .inr (6, [.ref ab, .int 0])), (ab, .inl (cB, 300, .inl (fun _ => 0))), (b3, .inl (cD, 30, .inl (fun _ => 0))), (b4, .inl (cC, 30, .inl (fun _ => 0))), (b21, .inl (cT, 300, .inl (fun _ => 0)))] H := hP
  have hD : va_D A [(a0, .inl (cA, 30, .inl (fun _ => 0))), (a2, .inr (0, [.int 0, ve, .int 0])), (a3, .inr (6, [.ref ab, .int 0])), (ab, .inl (cB, 300, .inl (fun _ => 0))), (b3, .inl (cD, 30, .inl (fun _ => 0))), (b4, .inl (cC, 30, .inl (fun _ => 0))), (b21, .inl (cT, 300, .inl (fun _ => 0)))] := hD
  obtain rfl : r_8 = (-1) := hw
  refine lv_icmp_eq (tgt := 768) hx hb dL_law_638 (by decide) (fun c_9 => ?_) (fun c_9 => ?_)
  · exact lc_end (dC := dC) (dI := dI) C0 hAe hS hl
  · exact absurd c_9 (by decide)
