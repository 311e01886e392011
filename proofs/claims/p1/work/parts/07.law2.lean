set_option maxRecDepth 20000 in
theorem gl_X6_of : GoodIn lw_tbl (wsV RL 36 RX6 yX6_of wp_X6_of) := goodIn_app (goodIn_r _ [486, 487, 488, 48] (by decide +kernel) (by decide +kernel)) gi_X6_of
set_option maxRecDepth 20000 in
theorem gl_X7_of : GoodIn lw_tbl (wsV RL 40 RX7 yX7_of wp_X7_of) := goodIn_app (goodIn_r _ [888, 889, 890, 57] (by decide +kernel) (by decide +kernel)) gi_X7_of
set_option maxHeartbeats 4000000 in
set_option maxRecDepth 100000 in
/-- the law, case 5 -/
theorem lc_5 {p : Program} {l : Launch} {e : Env} {s : State} {m : MethodId} {below : List Frame} {meth : Method} {c : Code} {dC : Nat → ClassId} {dI : Nat → Nat → Nat} {b : Nat} {xs : Nat → Int32} {A : Nat → Prop} {H : Heap} {locs : List Loc} {ls : Array Slot} (C0 : lw_At p s m meth c b 6 xs) (hAe : A = fun q : Nat => s.heap.size ≤ q) {h0 a0 a1 a2 a3 a4 a5 a6 ab h1 b3 b4 b6 b7 b8 b9 b10 b11 b12 b13 b15 b16 b17 b18 b19 b20 b21 b34 b35 b37 b38 b39 b40 b41 : Nat} {ve : Value} {cA cB cD cC cT : ClassId} (hK : va_K (dC, dI) vwCl [(cA, .int), (cB, .int), (cD, .int), (cC, .int), (cT, .int)] s) (hP : va_P (dC, dI) vwCl [(h0, .inr (7, [.ref a0, .ref a1, .ref a2, .ref a3, .ref a4, .ref a5, .ref a6, .int 0, .int (-1), .int (-1), .int 0])), (a0, .inl (cA, 30, .inl (fun _ => 0))), (a2, .inr (0, [.int 0, ve, .int 0])), (a3, .inr (6, [.ref ab, .int 0])), (ab, .inl (cB, 300, .inl (fun _ => 0))), (h1, .inr (8, [.int 0, .int 0, .int 0, .ref b3, .ref b4, .int 0, .ref b6, .ref b7, .ref b8, .ref b9, .ref b10, .ref b11, .ref b12, .ref b13, .int 0, .ref b15, .ref b16, .ref b17, .ref b18, .ref b19, .ref b20, .ref b21, .int 0, .int 0, .int 0, .int 0, .long 0, .int (-1), .int 0, .int 0, .int 0, .int 0, .int 0, .int 0, .ref b34, .ref b35, .int 0, .ref b37, .ref b38, .ref b39, .ref b40, .ref b41])), (b3, .inl (cD, 30, .inl (fun _ => 0))), (b4, .inl (cC, 30, .inl (fun _ => 0))), (b21, .inl (cT, 300, .inl (fun _ => 0)))] H) (hD : va_D A [(h0, .inr (7, [.ref a0, .ref a1, .ref a2, .ref a3, .ref a4, .ref a5, .ref a6, .int 0, .int (-1), .int (-1), .int 0])), (a0, .inl (cA, 30, .inl (fun _ => 0))), (a2, .inr (0, [.int 0, ve, .int 0])), (a3, .inr (6, [.ref ab, .int 0])), (ab, .inl (cB, 300, .inl (fun _ => 0))), (h1, .inr (8, [.int 0, .int 0, .int 0, .ref b3, .ref b4, .int 0, .ref b6, .ref b7, .ref b8, .ref b9, .ref b10, .ref b11, .ref b12, .ref b13, .int 0, .ref b15, .ref b16, .ref b17, .ref b18, .ref b19, .ref b20, .ref b21, .int 0, .int 0, .int 0, .int 0, .long 0, .int (-1), .int 0, .int 0, .int 0, .int 0, .int 0, .int 0, .ref b34, .ref b35, .int 0, .ref b37, .ref b38, .ref b39, .ref b40, .ref b41])), (b3, .inl (cD, 30, .inl (fun _ => 0))), (b4, .inl (cC, 30, .inl (fun _ => 0))), (b21, .inl (cT, 300, .inl (fun _ => 0)))]) (hS : va_S A s.heap H locs) (hl : lv_has ls 4 [(3, .int 0), (2, .ref h1), (1, .ref h0), (0, .ref b)]) : W p l e room_1 s m #[Value.ref b] below meth c H locs 43 9030 (lw_Z below #[Value.ref b] s) (F0 m 273 ls []) := by
  obtain ⟨hx, hb, hr, hml, hown, hts0, hX, hbl, hlocks, hgv⟩ := id C0
  have hts : ∀ w ∈ lw_tbl, w.before #[Value.ref b] s = true := hts0
  have hA : ∀ q : Nat, s.heap.size ≤ q → A q := fun q h => by rw [hAe]; exact h
  have hbA : ¬ A b := by rw [hAe]; exact Nat.not_le.mpr hbl
  refine lv_aload_n hx hb dL_law_273 rfl (lv_at hl 2 rfl) ?_
  refine lv_aload_n hx hb dL_law_274 rfl (lv_at hl 3 rfl) ?_
  refine lv_iload_n hx hb dL_law_275 rfl (lv_at hl 0 rfl) ?_
  refine lv_iconst (v := 1) hx hb dL_law_276 (by decide) ?_
  refine lv_iadd hx hb dL_law_277 ?_
  refine lv_topi (fun x_1 ex_1 => ?_)
  obtain rfl : x_1 = 1 := by rw [ex_1]; decide
  refine va_sld hx hb hX hbl hbA hS (show vp_in (nI 1) 6 from vp_in_nI (by decide) (by decide)) dL_law_278 ?_
  refine lv_aload_n hx hb dL_law_279 rfl (lv_at hl 3 rfl) ?_
  refine lv_iload_n hx hb dL_law_280 rfl (lv_at hl 0 rfl) ?_
  refine lv_iconst (v := 2) hx hb dL_law_281 (by decide) ?_
  refine lv_iadd hx hb dL_law_282 ?_
  refine lv_topi (fun x_2 ex_2 => ?_)
  obtain rfl : x_2 = 2 := by rw [ex_2]; decide
  refine va_sld hx hb hX hbl hbA hS (show vp_in (nI 2) 6 from vp_in_nI (by decide) (by decide)) dL_law_283 ?_
  have hPc := hP.sub (ws' := [(h0, .inr (7, [.ref a0, .ref a1, .ref a2, .ref a3, .ref a4, .ref a5, .ref a6, .int 0, .int (-1), .int (-1), .int 0])), (a2, .inr (0, [.int 0, ve, .int 0]))]) [0, 2] rfl
  have hDc := hD.sub (ws' := [(h0, .inr (7, [.ref a0, .ref a1, .ref a2, .ref a3, .ref a4, .ref a5, .ref a6, .int 0, .int (-1), .int (-1), .int 0])), (a2, .inr (0, [.int 0, ve, .int 0]))]) [0, 2] (by decide) rfl
  have hKc := hK.sub (tys' := []) [] rfl
  have hFc := va_free (wc := [(h0, .inr (7, [.ref a0, .ref a1, .ref a2, .ref a3, .ref a4, .ref a5, .ref a6, .int 0, .int (-1), .int (-1), .int 0])), (a2, .inr (0, [.int 0, ve, .int 0]))]) hD hS hA [0, 2] rfl
  refine va_calli (va_runV (As := [.int (xs (Int32.toNatClampNeg 1)), .int (xs (Int32.toNatClampNeg 2))]) (rest := []) ⟨hx, hb, hml, hown, hts⟩ (c_X6_of l dC dI _ h0 a0 a1 a2 a3 a4 a5 a6 (xs (Int32.toNatClampNeg 1)) (xs (Int32.toNatClampNeg 2)) ve) (cwV 2 hts gl_X6_of rfl rfl rfl (by decide +kernel) ⟨Nat.le_of_ble_eq_true rfl, Nat.le_of_ble_eq_true rfl⟩) ⟨fun a U g mk q => by obtain ⟨q0, q1, qP, qK, qD⟩ := q; exact ⟨q0, q1, qP, va_K.moved (u := U) (U := U.calling g mk a) (Vm.Alike.refl U.vm) qK, qD⟩, va_recv hKc hPc (ci := 7) (q0 := 0) rfl rfl, fun U hU hW => ⟨rfl, by rw [hU], by rw [hU]; exact hPc, va_K.moved hW.alike hKc, hDc.weaken (fun _ _ _ _ => trivial)⟩⟩ rfl rfl hl.1 rfl (lv_room (Nat.le_of_ble_eq_true rfl)) dL_law_284 ⟨by decide, by decide⟩) hS (fun q _ h => hFc q h) hFc (fun r_3 u t H1 locs ht hvm hw hB hz1 hk1 hS => ?_)
  obtain ⟨hP1, hK1, hD1⟩ := hB
  rw [ht] at hP1
  obtain ⟨hP, hD⟩ := va_join (wr := [(a0, .inl (cA, 30, .inl (fun _ => 0))), (a3, .inr (6, [.ref ab, .int 0])), (ab, .inl (cB, 300, .inl (fun _ => 0))), (h1, .inr (8, [.int 0, .int 0, .int 0, .ref b3, .ref b4, .int 0, .ref b6, .ref b7, .ref b8, .ref b9, .ref b10, .ref b11, .ref b12, .ref b13, .int 0, .ref b15, .ref b16, .ref b17, .ref b18, .ref b19, .ref b20, .ref b21, .int 0, .int 0, .int 0, .int 0, .long 0, .int (-1), .int 0, .int 0, .int 0, .int 0, .int 0, .int 0, .ref b34, .ref b35, .int 0, .ref b37, .ref b38, .ref b39, .ref b40, .ref b41])), (b3, .inl (cD, 30, .inl (fun _ => 0))), (b4, .inl (cC, 30, .inl (fun _ => 0))), (b21, .inl (cT, 300, .inl (fun _ => 0)))]) (w1 := []) hP hD [0, 2] [1, 3, 4, 5, 6, 7, 8] rfl rfl (by decide) (by decide) hk1 hFc hP1 hD1
  generalize H1 = H at hP hS ⊢
  have hP : va_P (dC, dI) vwCl [(a0, .inl (cA, 30, .inl (fun _ => 0))), (a3, .inr (6, [.ref ab, .int 0])), (ab, .inl (cB, 300, .inl (fun _ => 0))), (h1, .inr (8, [.int 0, .int 0, .int 0, .ref b3, .ref b4, .int 0, .ref b6, .ref b7, .ref b8, .ref b9, .ref b10, .ref b11, .ref b12, .ref b13, .int 0, .ref b15, .ref b16, .ref b17, .ref b18, .ref b19, .ref b20, .ref b21, .int 0, .int 0, .int 0, .int 0, .long 0, .int (-1), .int 0, .int 0, .int 0, .int 0, .int 0, .int 0, .ref b34, .ref b35, .int 0, .ref b37, .ref b38, .ref b39, .ref b40, .ref b41])), (b3, .inl (cD, 30, .inl (fun _ => 0))), (b4, .inl (cC, 30, .inl (fun _ => 0))), (b21, .inl (cT, 300, .inl (fun _ => 0)))] H := hP
  have hD : va_D A [(a0, .inl (cA, 30, .inl (fun _ => 0))), (a3, .inr (6, [.ref ab, .int 0])), (ab, .inl (cB, 300, .inl (fun _ => 0))), (h1, .inr (8, [.int 0, .int 0, .int 0, .ref b3, .ref b4, .int 0, .ref b6, .ref b7, .ref b8, .ref b9, .ref b10, .ref b11, .ref b12, .ref b13, .int 0, .ref b15, .ref b16, .ref b17, .ref b18, .ref b19, .ref b20, .ref b21, .int 0, .int 0, .int 0, .int 0, .long 0, .int (-1), .int 0, .int 0, .int 0, .int 0, .int 0, .int 0, .ref b34, .ref b35, .int 0, .ref b37, .ref b38, .ref b39, .ref b40, .ref b41])), (b3, .inl (cD, 30, .inl (fun _ => 0))), (b4, .inl (cC, 30, .inl (fun _ => 0))), (b21, .inl (cT, 300, .inl (fun _ => 0)))] := hD
  obtain rfl : r_3 = (-1) := hw
  refine lv_aload_n hx hb dL_law_287 rfl (lv_at hl 1 rfl) ?_
  refine lv_aload_n hx hb dL_law_288 rfl (lv_at hl 3 rfl) ?_
  refine lv_iload_n hx hb dL_law_289 rfl (lv_at hl 0 rfl) ?_
  refine lv_iconst (v := 1) hx hb dL_law_290 (by decide) ?_
  refine lv_iadd hx hb dL_law_291 ?_
  refine lv_topi (fun x_4 ex_4 => ?_)
  obtain rfl : x_4 = 1 := by rw [ex_4]; decide
  refine va_sld hx hb hX hbl hbA hS (show vp_in (nI 1) 6 from vp_in_nI (by decide) (by decide)) dL_law_292 ?_
  refine lv_aload_n hx hb dL_law_293 rfl (lv_at hl 3 rfl) ?_
  refine lv_iload_n hx hb dL_law_294 rfl (lv_at hl 0 rfl) ?_
  refine lv_iconst (v := 2) hx hb dL_law_295 (by decide) ?_
  refine lv_iadd hx hb dL_law_296 ?_
  refine lv_topi (fun x_5 ex_5 => ?_)
  obtain rfl : x_5 = 2 := by rw [ex_5]; decide
  refine va_sld hx hb hX hbl hbA hS (show vp_in (nI 2) 6 from vp_in_nI (by decide) (by decide)) dL_law_297 ?_
  have hPc := hP.sub (ws' := [(h1, .inr (8, [.int 0, .int 0, .int 0, .ref b3, .ref b4, .int 0, .ref b6, .ref b7, .ref b8, .ref b9, .ref b10, .ref b11, .ref b12, .ref b13, .int 0, .ref b15, .ref b16, .ref b17, .ref b18, .ref b19, .ref b20, .ref b21, .int 0, .int 0, .int 0, .int 0, .long 0, .int (-1), .int 0, .int 0, .int 0, .int 0, .int 0, .int 0, .ref b34, .ref b35, .int 0, .ref b37, .ref b38, .ref b39, .ref b40, .ref b41]))]) [3] rfl
  have hDc := hD.sub (ws' := [(h1, .inr (8, [.int 0, .int 0, .int 0, .ref b3, .ref b4, .int 0, .ref b6, .ref b7, .ref b8, .ref b9, .ref b10, .ref b11, .ref b12, .ref b13, .int 0, .ref b15, .ref b16, .ref b17, .ref b18, .ref b19, .ref b20, .ref b21, .int 0, .int 0, .int 0, .int 0, .long 0, .int (-1), .int 0, .int 0, .int 0, .int 0, .int 0, .int 0, .ref b34, .ref b35, .int 0, .ref b37, .ref b38, .ref b39, .ref b40, .ref b41]))]) [3] (by decide) rfl
  have hKc := hK.sub (tys' := []) [] rfl
  have hFc := va_free (wc := [(h1, .inr (8, [.int 0, .int 0, .int 0, .ref b3, .ref b4, .int 0, .ref b6, .ref b7, .ref b8, .ref b9, .ref b10, .ref b11, .ref b12, .ref b13, .int 0, .ref b15, .ref b16, .ref b17, .ref b18, .ref b19, .ref b20, .ref b21, .int 0, .int 0, .int 0, .int 0, .long 0, .int (-1), .int 0, .int 0, .int 0, .int 0, .int 0, .int 0, .ref b34, .ref b35, .int 0, .ref b37, .ref b38, .ref b39, .ref b40, .ref b41]))]) hD hS hA [3] rfl
  refine va_calli (va_runV (As := [.int (xs (Int32.toNatClampNeg 1)), .int (xs (Int32.toNatClampNeg 2))]) (rest := [.int (-1)]) ⟨hx, hb, hml, hown, hts⟩ (c_X7_of l dC dI _ h1 b3 b4 b6 b7 b8 b9 b10 b11 b12 b13 b15 b16 b17 b18 b19 b20 b21 b34 b35 b37 b38 b39 b40 b41 (xs (Int32.toNatClampNeg 1)) (xs (Int32.toNatClampNeg 2))) (cwV 2 hts gl_X7_of rfl rfl rfl (by decide +kernel) ⟨Nat.le_of_ble_eq_true rfl, Nat.le_of_ble_eq_true rfl⟩) ⟨fun a U g mk q => by obtain ⟨q0, q1, qP, qK, qD⟩ := q; exact ⟨q0, q1, qP, va_K.moved (u := U) (U := U.calling g mk a) (Vm.Alike.refl U.vm) qK, qD⟩, va_recv hKc hPc (ci := 8) (q0 := 0) rfl rfl, fun U hU hW => ⟨rfl, by rw [hU], by rw [hU]; exact hPc, va_K.moved hW.alike hKc, hDc.weaken (fun _ _ _ _ => trivial)⟩⟩ rfl rfl hl.1 rfl (lv_room (Nat.le_of_ble_eq_true rfl)) dL_law_298 ⟨by decide, by decide⟩) hS (fun q _ h => hFc q h) hFc (fun r_6 u t H1 locs ht hvm hw hB hz1 hk1 hS => ?_)
  obtain ⟨hP1, hK1, hD1⟩ := hB
  rw [ht] at hP1
  obtain ⟨hP, hD⟩ := va_join (wr := [(a0, .inl (cA, 30, .inl (fun _ => 0))), (a3, .inr (6, [.ref ab, .int 0])), (ab, .inl (cB, 300, .inl (fun _ => 0))), (b3, .inl (cD, 30, .inl (fun _ => 0))), (b4, .inl (cC, 30, .inl (fun _ => 0))), (b21, .inl (cT, 300, .inl (fun _ => 0)))]) (w1 := []) hP hD [3] [0, 1, 2, 4, 5, 6] rfl rfl (by decide) (by decide) hk1 hFc hP1 hD1
  generalize H1 = H at hP hS ⊢
  have hP : va_P (dC, dI) vwCl [(a0, .inl (cA, 30, .inl (fun _ => 0))), (a3, .inr (6, [.ref ab, .int 0])), (ab, .inl (cB, 300, .inl (fun _ => 0))), (b3, .inl (cD, 30, .inl (fun _ => 0))), (b4, .inl (cC, 30, .inl (fun _ => 0))), (b21, .inl (cT, 300, .inl (fun _ => 0)))] H := hP
  have hD : va_D A [(a0, .inl (cA, 30, .inl (fun _ => 0))), (a3, .inr (6, [.ref ab, .int 0])), (ab, .inl (cB, 300, .inl (fun _ => 0))), (b3, .inl (cD, 30, .inl (fun _ => 0))), (b4, .inl (cC, 30, .inl (fun _ => 0))), (b21, .inl (cT, 300, .inl (fun _ => 0)))] := hD
  obtain rfl : r_6 = (-1) := hw
  refine lv_icmp_eq (tgt := 768) hx hb dL_law_301 (by decide) (fun c_7 => ?_) (fun c_7 => ?_)
  · exact lc_end (dC := dC) (dI := dI) C0 hAe hS hl
  · exact absurd c_7 (by decide)
set_option maxRecDepth 20000 in
theorem gl_X6_holder : GoodIn lw_tbl (wsV RL 41 RX6 yX6_holder wp_X6_holder) := goodIn_app (goodIn_r _ [506, 507, 508, 48] (by decide +kernel) (by decide +kernel)) gi_X6_holder
set_option maxRecDepth 20000 in
theorem gl_X7_holder : GoodIn lw_tbl (wsV RL 44 RX7 yX7_holder wp_X7_holder) := goodIn_app (goodIn_r _ [896, 897, 898, 57] (by decide +kernel) (by decide +kernel)) gi_X7_holder
set_option maxHeartbeats 4000000 in
set_option maxRecDepth 100000 in
/-- the law, case 6 -/
theorem lc_6 {p : Program} {l : Launch} {e : Env} {s : State} {m : MethodId} {below : List Frame} {meth : Method} {c : Code} {dC : Nat → ClassId} {dI : Nat → Nat → Nat} {b : Nat} {xs : Nat → Int32} {A : Nat → Prop} {H : Heap} {locs : List Loc} {ls : Array Slot} (C0 : lw_At p s m meth c b 6 xs) (hAe : A = fun q : Nat => s.heap.size ≤ q) {h0 a0 a1 a2 a3 a4 a5 a6 ab h1 b3 b4 b6 b7 b8 b9 b10 b11 b12 b13 b15 b16 b17 b18 b19 b20 b21 b34 b35 b37 b38 b39 b40 b41 : Nat} {ve : Value} {cA cB cD cC cT : ClassId} (hK : va_K (dC, dI) vwCl [(cA, .int), (cB, .int), (cD, .int), (cC, .int), (cT, .int)] s) (hP : va_P (dC, dI) vwCl [(h0, .inr (7, [.ref a0, .ref a1, .ref a2, .ref a3, .ref a4, .ref a5, .ref a6, .int 0, .int (-1), .int (-1), .int 0])), (a0, .inl (cA, 30, .inl (fun _ => 0))), (a2, .inr (0, [.int 0, ve, .int 0])), (a3, .inr (6, [.ref ab, .int 0])), (ab, .inl (cB, 300, .inl (fun _ => 0))), (h1, .inr (8, [.int 0, .int 0, .int 0, .ref b3, .ref b4, .int 0, .ref b6, .ref b7, .ref b8, .ref b9, .ref b10, .ref b11, .ref b12, .ref b13, .int 0, .ref b15, .ref b16, .ref b17, .ref b18, .ref b19, .ref b20, .ref b21, .int 0, .int 0, .int 0, .int 0, .long 0, .int (-1), .int 0, .int 0, .int 0, .int 0, .int 0, .int 0, .ref b34, .ref b35, .int 0, .ref b37, .ref b38, .ref b39, .ref b40, .ref b41])), (b3, .inl (cD, 30, .inl (fun _ => 0))), (b4, .inl (cC, 30, .inl (fun _ => 0))), (b21, .inl (cT, 300, .inl (fun _ => 0)))] H) (hD : va_D A [(h0, .inr (7, [.ref a0, .ref a1, .ref a2, .ref a3, .ref a4, .ref a5, .ref a6, .int 0, .int (-1), .int (-1), .int 0])), (a0, .inl (cA, 30, .inl (fun _ => 0))), (a2, .inr (0, [.int 0, ve, .int 0])), (a3, .inr (6, [.ref ab, .int 0])), (ab, .inl (cB, 300, .inl (fun _ => 0))), (h1, .inr (8, [.int 0, .int 0, .int 0, .ref b3, .ref b4, .int 0, .ref b6, .ref b7, .ref b8, .ref b9, .ref b10, .ref b11, .ref b12, .ref b13, .int 0, .ref b15, .ref b16, .ref b17, .ref b18, .ref b19, .ref b20, .ref b21, .int 0, .int 0, .int 0, .int 0, .long 0, .int (-1), .int 0, .int 0, .int 0, .int 0, .int 0, .int 0, .ref b34, .ref b35, .int 0, .ref b37, .ref b38, .ref b39, .ref b40, .ref b41])), (b3, .inl (cD, 30, .inl (fun _ => 0))), (b4, .inl (cC, 30, .inl (fun _ => 0))), (b21, .inl (cT, 300, .inl (fun _ => 0)))]) (hS : va_S A s.heap H locs) (hl : lv_has ls 4 [(3, .int 0), (2, .ref h1), (1, .ref h0), (0, .ref b)]) : W p l e room_1 s m #[Value.ref b] below meth c H locs 43 9030 (lw_Z below #[Value.ref b] s) (F0 m 306 ls []) := by
  obtain ⟨hx, hb, hr, hml, hown, hts0, hX, hbl, hlocks, hgv⟩ := id C0
  have hts : ∀ w ∈ lw_tbl, w.before #[Value.ref b] s = true := hts0
  have hA : ∀ q : Nat, s.heap.size ≤ q → A q := fun q h => by rw [hAe]; exact h
  have hbA : ¬ A b := by rw [hAe]; exact Nat.not_le.mpr hbl
  refine lv_aload_n hx hb dL_law_306 rfl (lv_at hl 2 rfl) ?_
  refine lv_aload_n hx hb dL_law_307 rfl (lv_at hl 3 rfl) ?_
  refine lv_iload_n hx hb dL_law_308 rfl (lv_at hl 0 rfl) ?_
  refine lv_iconst (v := 1) hx hb dL_law_309 (by decide) ?_
  refine lv_iadd hx hb dL_law_310 ?_
  refine lv_topi (fun x_1 ex_1 => ?_)
  obtain rfl : x_1 = 1 := by rw [ex_1]; decide
  refine va_sld hx hb hX hbl hbA hS (show vp_in (nI 1) 6 from vp_in_nI (by decide) (by decide)) dL_law_311 ?_
  refine lv_aload_n hx hb dL_law_312 rfl (lv_at hl 3 rfl) ?_
  refine lv_iload_n hx hb dL_law_313 rfl (lv_at hl 0 rfl) ?_
  refine lv_iconst (v := 2) hx hb dL_law_314 (by decide) ?_
  refine lv_iadd hx hb dL_law_315 ?_
  refine lv_topi (fun x_2 ex_2 => ?_)
  obtain rfl : x_2 = 2 := by rw [ex_2]; decide
  refine va_sld hx hb hX hbl hbA hS (show vp_in (nI 2) 6 from vp_in_nI (by decide) (by decide)) dL_law_316 ?_
  have hPc := hP.sub (ws' := [(h0, .inr (7, [.ref a0, .ref a1, .ref a2, .ref a3, .ref a4, .ref a5, .ref a6, .int 0, .int (-1), .int (-1), .int 0]))]) [0] rfl
  have hDc := hD.sub (ws' := [(h0, .inr (7, [.ref a0, .ref a1, .ref a2, .ref a3, .ref a4, .ref a5, .ref a6, .int 0, .int (-1), .int (-1), .int 0]))]) [0] (by decide) rfl
  have hKc := hK.sub (tys' := []) [] rfl
  have hFc := va_free (wc := [(h0, .inr (7, [.ref a0, .ref a1, .ref a2, .ref a3, .ref a4, .ref a5, .ref a6, .int 0, .int (-1), .int (-1), .int 0]))]) hD hS hA [0] rfl
  refine va_calli (va_runV (As := [.int (xs (Int32.toNatClampNeg 1)), .int (xs (Int32.toNatClampNeg 2))]) (rest := []) ⟨hx, hb, hml, hown, hts⟩ (c_X6_holder l dC dI _ h0 a0 a1 a2 a3 a4 a5 a6 (xs (Int32.toNatClampNeg 1)) (xs (Int32.toNatClampNeg 2))) (cwV 2 hts gl_X6_holder rfl rfl rfl (by decide +kernel) ⟨Nat.le_of_ble_eq_true rfl, Nat.le_of_ble_eq_true rfl⟩) ⟨fun a U g mk q => by obtain ⟨q0, q1, qP, qK, qD⟩ := q; exact ⟨q0, q1, qP, va_K.moved (u := U) (U := U.calling g mk a) (Vm.Alike.refl U.vm) qK, qD⟩, va_recv hKc hPc (ci := 7) (q0 := 0) rfl rfl, fun U hU hW => ⟨rfl, by rw [hU], by rw [hU]; exact hPc, va_K.moved hW.alike hKc, hDc.weaken (fun _ _ _ _ => trivial)⟩⟩ rfl rfl hl.1 rfl (lv_room (Nat.le_of_ble_eq_true rfl)) dL_law_317 ⟨by decide, by decide⟩) hS (fun q _ h => hFc q h) hFc (fun r_3 u t H1 locs ht hvm hw hB hz1 hk1 hS => ?_)
  obtain ⟨hP1, hK1, hD1⟩ := hB
  rw [ht] at hP1
  obtain ⟨hP, hD⟩ := va_join (wr := [(a0, .inl (cA, 30, .inl (fun _ => 0))), (a2, .inr (0, [.int 0, ve, .int 0])), (a3, .inr (6, [.ref ab, .int 0])), (ab, .inl (cB, 300, .inl (fun _ => 0))), (h1, .inr (8, [.int 0, .int 0, .int 0, .ref b3, .ref b4, .int 0, .ref b6, .ref b7, .ref b8, .ref b9, .ref b10, .ref b11, .ref b12, .ref b13, .int 0, .ref b15, .ref b16, .ref b17, .ref b18, .ref b19, .ref b20, .ref b21, .int 0, .int 0, .int 0, .int 0, .long 0, .int (-1), .int 0, .int 0, .int 0, .int 0, .int 0, .int 0, .ref b34, .ref b35, .int 0, .ref b37, .ref b38, .ref b39, .ref b40, .ref b41])), (b3, .inl (cD, 30, .inl (fun _ => 0))), (b4, .inl (cC, 30, .inl (fun _ => 0))), (b21, .inl (cT, 300, .inl (fun _ => 0)))]) (w1 := []) hP hD [0] [1, 2, 3, 4, 5, 6, 7, 8] rfl rfl (by decide) (by decide) hk1 hFc hP1 hD1
  generalize H1 = H at hP hS ⊢
  have hP : va_P (dC, dI) vwCl [(a0, .inl (cA, 30, .inl (fun _ => 0))), (a2, .inr (0, [.int 0, ve, .int 0])), (a3, .inr (6, [.ref ab, .int 0])), (ab, .inl (cB, 300, .inl (fun _ => 0))), (h1, .inr (8, [.int 0, .int 0, .int 0, .ref b3, .ref b4, .int 0, .ref b6, .ref b7, .ref b8, .ref b9, .ref b10, .ref b11, .ref b12, .ref b13, .int 0, .ref b15, .ref b16, .ref b17, .ref b18, .ref b19, .ref b20, .ref b21, .int 0, .int 0, .int 0, .int 0, .long 0, .int (-1), .int 0, .int 0, .int 0, .int 0, .int 0, .int 0, .ref b34, .ref b35, .int 0, .ref b37, .ref b38, .ref b39, .ref b40, .ref b41])), (b3, .inl (cD, 30, .inl (fun _ => 0))), (b4, .inl (cC, 30, .inl (fun _ => 0))), (b21, .inl (cT, 300, .inl (fun _ => 0)))] H := hP
  have hD : va_D A [(a0, .inl (cA, 30, .inl (fun _ => 0))), (a2, .inr (0, [.int 0, ve, .int 0])), (a3, .inr (6, [.ref ab, .int 0])), (ab, .inl (cB, 300, .inl (fun _ => 0))), (h1, .inr (8, [.int 0, .int 0, .int 0, .ref b3, .ref b4, .int 0, .ref b6, .ref b7, .ref b8, .ref b9, .ref b10, .ref b11, .ref b12, .ref b13, .int 0, .ref b15, .ref b16, .ref b17, .ref b18, .ref b19, .ref b20, .ref b21, .int 0, .int 0, .int 0, .int 0, .long 0, .int (-1), .int 0, .int 0, .int 0, .int 0, .int 0, .int 0, .ref b34, .ref b35, .int 0, .ref b37, .ref b38, .ref b39, .ref b40, .ref b41])), (b3, .inl (cD, 30, .inl (fun _ => 0))), (b4, .inl (cC, 30, .inl (fun _ => 0))), (b21, .inl (cT, 300, .inl (fun _ => 0)))] := hD
  obtain rfl : r_3 = (-1) := hw
  refine lv_aload_n hx hb dL_law_320 rfl (lv_at hl 1 rfl) ?_
  refine lv_aload_n hx hb dL_law_321 rfl (lv_at hl 3 rfl) ?_
  refine lv_iload_n hx hb dL_law_322 rfl (lv_at hl 0 rfl) ?_
  refine lv_iconst (v := 1) hx hb dL_law_323 (by decide) ?_
  refine lv_iadd hx hb dL_law_324 ?_
  refine lv_topi (fun x_4 ex_4 => ?_)
  obtain rfl : x_4 = 1 := by rw [ex_4]; decide
  refine va_sld hx hb hX hbl hbA hS (show vp_in (nI 1) 6 from vp_in_nI (by decide) (by decide)) dL_law_325 ?_
  refine lv_aload_n hx hb dL_law_326 rfl (lv_at hl 3 rfl) ?_
  refine lv_iload_n hx hb dL_law_327 rfl (lv_at hl 0 rfl) ?_
  refine lv_iconst (v := 2) hx hb dL_law_328 (by decide) ?_
  refine lv_iadd hx hb dL_law_329 ?_
  refine lv_topi (fun x_5 ex_5 => ?_)
  obtain rfl : x_5 = 2 := by rw [ex_5]; decide
  refine va_sld hx hb hX hbl hbA hS (show vp_in (nI 2) 6 from vp_in_nI (by decide) (by decide)) dL_law_330 ?_
  have hPc := hP.sub (ws' := [(h1, .inr (8, [.int 0, .int 0, .int 0, .ref b3, .ref b4, .int 0, .ref b6, .ref b7, .ref b8, .ref b9, .ref b10, .ref b11, .ref b12, .ref b13, .int 0, .ref b15, .ref b16, .ref b17, .ref b18, .ref b19, .ref b20, .ref b21, .int 0, .int 0, .int 0, .int 0, .long 0, .int (-1), .int 0, .int 0, .int 0, .int 0, .int 0, .int 0, .ref b34, .ref b35, .int 0, .ref b37, .ref b38, .ref b39, .ref b40, .ref b41]))]) [4] rfl
  have hDc := hD.sub (ws' := [(h1, .inr (8, [.int 0, .int 0, .int 0, .ref b3, .ref b4, .int 0, .ref b6, .ref b7, .ref b8, .ref b9, .ref b10, .ref b11, .ref b12, .ref b13, .int 0, .ref b15, .ref b16, .ref b17, .ref b18, .ref b19, .ref b20, .ref b21, .int 0, .int 0, .int 0, .int 0, .long 0, .int (-1), .int 0, .int 0, .int 0, .int 0, .int 0, .int 0, .ref b34, .ref b35, .int 0, .ref b37, .ref b38, .ref b39, .ref b40, .ref b41]))]) [4] (by decide) rfl
  have hKc := hK.sub (tys' := []) [] rfl
  have hFc := va_free (wc := [(h1, .inr (8, [.int 0, .int 0, .int 0, .ref b3, .ref b4, .int 0, .ref b6, .ref b7, .ref b8, .ref b9, .ref b10, .ref b11, .ref b12, .ref b13, .int 0, .ref b15, .ref b16, .ref b17, .ref b18, .ref b19, .ref b20, .ref b21, .int 0, .int 0, .int 0, .int 0, .long 0, .int (-1), .int 0, .int 0, .int 0, .int 0, .int 0, .int 0, .ref b34, .ref b35, .int 0, .ref b37, .ref b38, .ref b39, .ref b40, .ref b41]))]) hD hS hA [4] rfl
  refine va_calli (va_runV (As := [.int (xs (Int32.toNatClampNeg 1)), .int (xs (Int32.toNatClampNeg 2))]) (rest := [.int (-1)]) ⟨hx, hb, hml, hown, hts⟩ (c_X7_holder l dC dI _ h1 b3 b4 b6 b7 b8 b9 b10 b11 b12 b13 b15 b16 b17 b18 b19 b20 b21 b34 b35 b37 b38 b39 b40 b41 (xs (Int32.toNatClampNeg 1)) (xs (Int32.toNatClampNeg 2))) (cwV 2 hts gl_X7_holder rfl rfl rfl (by decide +kernel) ⟨Nat.le_of_ble_eq_true rfl, Nat.le_of_ble_eq_true rfl⟩) ⟨fun a U g mk q => by obtain ⟨q0, q1, qP, qK, qD⟩ := q; exact ⟨q0, q1, qP, va_K.moved (u := U) (U := U.calling g mk a) (Vm.Alike.refl U.vm) qK, qD⟩, va_recv hKc hPc (ci := 8) (q0 := 0) rfl rfl, fun U hU hW => ⟨rfl, by rw [hU], by rw [hU]; exact hPc, va_K.moved hW.alike hKc, hDc.weaken (fun _ _ _ _ => trivial)⟩⟩ rfl rfl hl.1 rfl (lv_room (Nat.le_of_ble_eq_true rfl)) dL_law_331 ⟨by decide, by decide⟩) hS (fun q _ h => hFc q h) hFc (fun r_6 u t H1 locs ht hvm hw hB hz1 hk1 hS => ?_)
  obtain ⟨hP1, hK1, hD1⟩ := hB
  rw [ht] at hP1
  obtain ⟨hP, hD⟩ := va_join (wr := [(a0, .inl (cA, 30, .inl (fun _ => 0))), (a2, .inr (0, [.int 0, ve, .int 0])), (a3, .inr (6, [.ref ab, .int 0])), (ab, .inl (cB, 300, .inl (fun _ => 0))), (b3, .inl (cD, 30, .inl (fun _ => 0))), (b4, .inl (cC, 30, .inl (fun _ => 0))), (b21, .inl (cT, 300, .inl (fun _ => 0)))]) (w1 := []) hP hD [4] [0, 1, 2, 3, 5, 6, 7] rfl rfl (by decide) (by decide) hk1 hFc hP1 hD1
  generalize H1 = H at hP hS ⊢
  have hP : va_P (dC, dI) vwCl [(a0, .inl (cA, 30, .inl (fun _ => 0))), (a2, .inr (0, [.int 0, ve, .int 0])), (a3, .inr (6, [.ref ab, .int 0])), (ab, .inl (cB, 300, .inl (fun _ => 0))), (b3, .inl (cD, 30, .inl (fun _ => 0))), (b4, .inl (cC, 30, .inl (fun _ => 0))), (b21, .inl (cT, 300, .inl (fun _ => 0)))] H := hP
  have hD : va_D A [(a0, .inl (cA, 30, .inl (fun _ => 0))), (a2, .inr (0, [.int 0, ve, .int 0])), (a3, .inr (6, [.ref ab, .int 0])), (ab, .inl (cB, 300, .inl (fun _ => 0))), (b3, .inl (cD, 30, .inl (fun _ => 0))), (b4, .inl (cC, 30, .inl (fun _ => 0))), (b21, .inl (cT, 300, .inl (fun _ => 0)))] := hD
  obtain rfl : r_6 = (-1) := hw
  refine lv_icmp_eq (tgt := 768) hx hb dL_law_334 (by decide) (fun c_7 => ?_) (fun c_7 => ?_)
  · exact lc_end (dC := dC) (dI := dI) C0 hAe hS hl
  · exact absurd c_7 (by decide)
set_option maxRecDepth 20000 in
theorem gl_X6_due : GoodIn lw_tbl (wsV RL 45 RX6 yX6_due wp_X6_due) := goodIn_app (goodIn_r _ [569, 570, 571, 48] (by decide +kernel) (by decide +kernel)) gi_X6_due
set_option maxRecDepth 20000 in
theorem gl_X7_due : GoodIn lw_tbl (wsV RL 48 RX7 yX7_due wp_X7_due) := goodIn_app (goodIn_r _ [911, 912, 913, 57] (by decide +kernel) (by decide +kernel)) gi_X7_due
set_option maxHeartbeats 4000000 in
set_option maxRecDepth 100000 in
/-- the law, case 7 -/
theorem lc_7 {p : Program} {l : Launch} {e : Env} {s : State} {m : MethodId} {below : List Frame} {meth : Method} {c : Code} {dC : Nat → ClassId} {dI : Nat → Nat → Nat} {b : Nat} {xs : Nat → Int32} {A : Nat → Prop} {H : Heap} {locs : List Loc} {ls : Array Slot} (C0 : lw_At p s m meth c b 6 xs) (hAe : A = fun q : Nat => s.heap.size ≤ q) {h0 a0 a1 a2 a3 a4 a5 a6 ab h1 b3 b4 b6 b7 b8 b9 b10 b11 b12 b13 b15 b16 b17 b18 b19 b20 b21 b34 b35 b37 b38 b39 b40 b41 : Nat} {ve : Value} {cA cB cD cC cT : ClassId} (hK : va_K (dC, dI) vwCl [(cA, .int), (cB, .int), (cD, .int), (cC, .int), (cT, .int)] s) (hP : va_P (dC, dI) vwCl [(h0, .inr (7, [.ref a0, .ref a1, .ref a2, .ref a3, .ref a4, .ref a5, .ref a6, .int 0, .int (-1), .int (-1), .int 0])), (a0, .inl (cA, 30, .inl (fun _ => 0))), (a2, .inr (0, [.int 0, ve, .int 0])), (a3, .inr (6, [.ref ab, .int 0])), (ab, .inl (cB, 300, .inl (fun _ => 0))), (h1, .inr (8, [.int 0, .int 0, .int 0, .ref b3, .ref b4, .int 0, .ref b6, .ref b7, .ref b8, .ref b9, .ref b10, .ref b11, .ref b12, .ref b13, .int 0, .ref b15, .ref b16, .ref b17, .ref b18, .ref b19, .ref b20, .ref b21, .int 0, .int 0, .int 0, .int 0, .long 0, .int (-1), .int 0, .int 0, .int 0, .int 0, .int 0, .int 0, .ref b34, .ref b35, .int 0, .ref b37, .ref b38, .ref b39, .ref b40, .ref b41])), (b3, .inl (cD, 30, .inl (fun _ => 0))), (b4, .inl (cC, 30, .inl (fun _ => 0))), (b21, .inl (cT, 300, .inl (fun _ => 0)))] H) (hD : va_D A [(h0, .inr (7, [.ref a0, .ref a1, .ref a2, .ref a3, .ref a4, .ref a5, .ref a6, .int 0, .int (-1), .int (-1), .int 0])), (a0, .inl (cA, 30, .inl (fun _ => 0))), (a2, .inr (0, [.int 0, ve, .int 0])), (a3, .inr (6, [.ref ab, .int 0])), (ab, .inl (cB, 300, .inl (fun _ => 0))), (h1, .inr (8, [.int 0, .int 0, .int 0, .ref b3, .ref b4, .int 0, .ref b6, .ref b7, .ref b8, .ref b9, .ref b10, .ref b11, .ref b12, .ref b13, .int 0, .ref b15, .ref b16, .ref b17, .ref b18, .ref b19, .ref b20, .ref b21, .int 0, .int 0, .int 0, .int 0, .long 0, .int (-1), .int 0, .int 0, .int 0, .int 0, .int 0, .int 0, .ref b34, .ref b35, .int 0, .ref b37, .ref b38, .ref b39, .ref b40, .ref b41])), (b3, .inl (cD, 30, .inl (fun _ => 0))), (b4, .inl (cC, 30, .inl (fun _ => 0))), (b21, .inl (cT, 300, .inl (fun _ => 0)))]) (hS : va_S A s.heap H locs) (hl : lv_has ls 4 [(3, .int 0), (2, .ref h1), (1, .ref h0), (0, .ref b)]) : W p l e room_1 s m #[Value.ref b] below meth c H locs 43 9030 (lw_Z below #[Value.ref b] s) (F0 m 339 ls []) := by
  obtain ⟨hx, hb, hr, hml, hown, hts0, hX, hbl, hlocks, hgv⟩ := id C0
  have hts : ∀ w ∈ lw_tbl, w.before #[Value.ref b] s = true := hts0
  have hA : ∀ q : Nat, s.heap.size ≤ q → A q := fun q h => by rw [hAe]; exact h
  have hbA : ¬ A b := by rw [hAe]; exact Nat.not_le.mpr hbl
  refine lv_aload_n hx hb dL_law_339 rfl (lv_at hl 2 rfl) ?_
  refine lv_aload_n hx hb dL_law_340 rfl (lv_at hl 3 rfl) ?_
  refine lv_iload_n hx hb dL_law_341 rfl (lv_at hl 0 rfl) ?_
  refine lv_iconst (v := 1) hx hb dL_law_342 (by decide) ?_
  refine lv_iadd hx hb dL_law_343 ?_
  refine lv_topi (fun x_1 ex_1 => ?_)
  obtain rfl : x_1 = 1 := by rw [ex_1]; decide
  refine va_sld hx hb hX hbl hbA hS (show vp_in (nI 1) 6 from vp_in_nI (by decide) (by decide)) dL_law_344 ?_
  refine lv_aload_n hx hb dL_law_345 rfl (lv_at hl 3 rfl) ?_
  refine lv_iload_n hx hb dL_law_346 rfl (lv_at hl 0 rfl) ?_
  refine lv_iconst (v := 2) hx hb dL_law_347 (by decide) ?_
  refine lv_iadd hx hb dL_law_348 ?_
  refine lv_topi (fun x_2 ex_2 => ?_)
  obtain rfl : x_2 = 2 := by rw [ex_2]; decide
  refine va_sld hx hb hX hbl hbA hS (show vp_in (nI 2) 6 from vp_in_nI (by decide) (by decide)) dL_law_349 ?_
  have hPc := hP.sub (ws' := [(h0, .inr (7, [.ref a0, .ref a1, .ref a2, .ref a3, .ref a4, .ref a5, .ref a6, .int 0, .int (-1), .int (-1), .int 0]))]) [0] rfl
  have hDc := hD.sub (ws' := [(h0, .inr (7, [.ref a0, .ref a1, .ref a2, .ref a3, .ref a4, .ref a5, .ref a6, .int 0, .int (-1), .int (-1), .int 0]))]) [0] (by decide) rfl
  have hKc := hK.sub (tys' := []) [] rfl
  have hFc := va_free (wc := [(h0, .inr (7, [.ref a0, .ref a1, .ref a2, .ref a3, .ref a4, .ref a5, .ref a6, .int 0, .int (-1), .int (-1), .int 0]))]) hD hS hA [0] rfl
  refine va_calli (va_runV (As := [.int (xs (Int32.toNatClampNeg 1)), .int (xs (Int32.toNatClampNeg 2))]) (rest := []) ⟨hx, hb, hml, hown, hts⟩ (c_X6_due l dC dI _ h0 a0 a1 a2 a3 a4 a5 a6 (xs (Int32.toNatClampNeg 1)) (xs (Int32.toNatClampNeg 2))) (cwV 2 hts gl_X6_due rfl rfl rfl (by decide +kernel) ⟨Nat.le_of_ble_eq_true rfl, Nat.le_of_ble_eq_true rfl⟩) ⟨fun a U g mk q => by obtain ⟨q0, q1, qP, qK, qD⟩ := q; exact ⟨q0, q1, qP, va_K.moved (u := U) (U := U.calling g mk a) (Vm.Alike.refl U.vm) qK, qD⟩, va_recv hKc hPc (ci := 7) (q0 := 0) rfl rfl, fun U hU hW => ⟨rfl, by rw [hU], by rw [hU]; exact hPc, va_K.moved hW.alike hKc, hDc.weaken (fun _ _ _ _ => trivial)⟩⟩ rfl rfl hl.1 rfl (lv_room (Nat.le_of_ble_eq_true rfl)) dL_law_350 ⟨by decide, by decide⟩) hS (fun q _ h => hFc q h) hFc (fun r_3 u t H1 locs ht hvm hw hB hz1 hk1 hS => ?_)
  obtain ⟨hP1, hK1, hD1⟩ := hB
  rw [ht] at hP1
  obtain ⟨hP, hD⟩ := va_join (wr := [(a0, .inl (cA, 30, .inl (fun _ => 0))), (a2, .inr (0, [.int 0, ve, .int 0])), (a3, .inr (6, [.ref ab, .int 0])), (ab, .inl (cB, 300, .inl (fun _ => 0))), (h1, .inr (8, [.int 0, .int 0, .int 0, .ref b3, .ref b4, .int 0, .ref b6, .ref b7, .ref b8, .ref b9, .ref b10, .ref b11, .ref b12, .ref b13, .int 0, .ref b15, .ref b16, .ref b17, .ref b18, .ref b19, .ref b20, .ref b21, .int 0, .int 0, .int 0, .int 0, .long 0, .int (-1), .int 0, .int 0, .int 0, .int 0, .int 0, .int 0, .ref b34, .ref b35, .int 0, .ref b37, .ref b38, .ref b39, .ref b40, .ref b41])), (b3, .inl (cD, 30, .inl (fun _ => 0))), (b4, .inl (cC, 30, .inl (fun _ => 0))), (b21, .inl (cT, 300, .inl (fun _ => 0)))]) (w1 := []) hP hD [0] [1, 2, 3, 4, 5, 6, 7, 8] rfl rfl (by decide) (by decide) hk1 hFc hP1 hD1
  generalize H1 = H at hP hS ⊢
  have hP : va_P (dC, dI) vwCl [(a0, .inl (cA, 30, .inl (fun _ => 0))), (a2, .inr (0, [.int 0, ve, .int 0])), (a3, .inr (6, [.ref ab, .int 0])), (ab, .inl (cB, 300, .inl (fun _ => 0))), (h1, .inr (8, [.int 0, .int 0, .int 0, .ref b3, .ref b4, .int 0, .ref b6, .ref b7, .ref b8, .ref b9, .ref b10, .ref b11, .ref b12, .ref b13, .int 0, .ref b15, .ref b16, .ref b17, .ref b18, .ref b19, .ref b20, .ref b21, .int 0, .int 0, .int 0, .int 0, .long 0, .int (-1), .int 0, .int 0, .int 0, .int 0, .int 0, .int 0, .ref b34, .ref b35, .int 0, .ref b37, .ref b38, .ref b39, .ref b40, .ref b41])), (b3, .inl (cD, 30, .inl (fun _ => 0))), (b4, .inl (cC, 30, .inl (fun _ => 0))), (b21, .inl (cT, 300, .inl (fun _ => 0)))] H := hP
  have hD : va_D A [(a0, .inl (cA, 30, .inl (fun _ => 0))), (a2, .inr (0, [.int 0, ve, .int 0])), (a3, .inr (6, [.ref ab, .int 0])), (ab, .inl (cB, 300, .inl (fun _ => 0))), (h1, .inr (8, [.int 0, .int 0, .int 0, .ref b3, .ref b4, .int 0, .ref b6, .ref b7, .ref b8, .ref b9, .ref b10, .ref b11, .ref b12, .ref b13, .int 0, .ref b15, .ref b16, .ref b17, .ref b18, .ref b19, .ref b20, .ref b21, .int 0, .int 0, .int 0, .int 0, .long 0, .int (-1), .int 0, .int 0, .int 0, .int 0, .int 0, .int 0, .ref b34, .ref b35, .int 0, .ref b37, .ref b38, .ref b39, .ref b40, .ref b41])), (b3, .inl (cD, 30, .inl (fun _ => 0))), (b4, .inl (cC, 30, .inl (fun _ => 0))), (b21, .inl (cT, 300, .inl (fun _ => 0)))] := hD
  obtain rfl : r_3 = (-1) := hw
  refine lv_aload_n hx hb dL_law_353 rfl (lv_at hl 1 rfl) ?_
  refine lv_aload_n hx hb dL_law_354 rfl (lv_at hl 3 rfl) ?_
  refine lv_iload_n hx hb dL_law_355 rfl (lv_at hl 0 rfl) ?_
  refine lv_iconst (v := 1) hx hb dL_law_356 (by decide) ?_
  refine lv_iadd hx hb dL_law_357 ?_
  refine lv_topi (fun x_4 ex_4 => ?_)
  obtain rfl : x_4 = 1 := by rw [ex_4]; decide
  refine va_sld hx hb hX hbl hbA hS (show vp_in (nI 1) 6 from vp_in_nI (by decide) (by decide)) dL_law_358 ?_
  refine lv_aload_n hx hb dL_law_359 rfl (lv_at hl 3 rfl) ?_
  refine lv_iload_n hx hb dL_law_360 rfl (lv_at hl 0 rfl) ?_
  refine lv_iconst (v := 2) hx hb dL_law_361 (by decide) ?_
  refine lv_iadd hx hb dL_law_362 ?_
  refine lv_topi (fun x_5 ex_5 => ?_)
  obtain rfl : x_5 = 2 := by rw [ex_5]; decide
  refine va_sld hx hb hX hbl hbA hS (show vp_in (nI 2) 6 from vp_in_nI (by decide) (by decide)) dL_law_363 ?_
  have hPc := hP.sub (ws' := [(h1, .inr (8, [.int 0, .int 0, .int 0, .ref b3, .ref b4, .int 0, .ref b6, .ref b7, .ref b8, .ref b9, .ref b10, .ref b11, .ref b12, .ref b13, .int 0, .ref b15, .ref b16, .ref b17, .ref b18, .ref b19, .ref b20, .ref b21, .int 0, .int 0, .int 0, .int 0, .long 0, .int (-1), .int 0, .int 0, .int 0, .int 0, .int 0, .int 0, .ref b34, .ref b35, .int 0, .ref b37, .ref b38, .ref b39, .ref b40, .ref b41]))]) [4] rfl
  have hDc := hD.sub (ws' := [(h1, .inr (8, [.int 0, .int 0, .int 0, .ref b3, .ref b4, .int 0, .ref b6, .ref b7, .ref b8, .ref b9, .ref b10, .ref b11, .ref b12, .ref b13, .int 0, .ref b15, .ref b16, .ref b17, .ref b18, .ref b19, .ref b20, .ref b21, .int 0, .int 0, .int 0, .int 0, .long 0, .int (-1), .int 0, .int 0, .int 0, .int 0, .int 0, .int 0, .ref b34, .ref b35, .int 0, .ref b37, .ref b38, .ref b39, .ref b40, .ref b41]))]) [4] (by decide) rfl
  have hKc := hK.sub (tys' := []) [] rfl
  have hFc := va_free (wc := [(h1, .inr (8, [.int 0, .int 0, .int 0, .ref b3, .ref b4, .int 0, .ref b6, .ref b7, .ref b8, .ref b9, .ref b10, .ref b11, .ref b12, .ref b13, .int 0, .ref b15, .ref b16, .ref b17, .ref b18, .ref b19, .ref b20, .ref b21, .int 0, .int 0, .int 0, .int 0, .long 0, .int (-1), .int 0, .int 0, .int 0, .int 0, .int 0, .int 0, .ref b34, .ref b35, .int 0, .ref b37, .ref b38, .ref b39, .ref b40, .ref b41]))]) hD hS hA [4] rfl
  refine va_calli (va_runV (As := [.int (xs (Int32.toNatClampNeg 1)), .int (xs (Int32.toNatClampNeg 2))]) (rest := [.int (-1)]) ⟨hx, hb, hml, hown, hts⟩ (c_X7_due l dC dI _ h1 b3 b4 b6 b7 b8 b9 b10 b11 b12 b13 b15 b16 b17 b18 b19 b20 b21 b34 b35 b37 b38 b39 b40 b41 (xs (Int32.toNatClampNeg 1)) (xs (Int32.toNatClampNeg 2))) (cwV 2 hts gl_X7_due rfl rfl rfl (by decide +kernel) ⟨Nat.le_of_ble_eq_true rfl, Nat.le_of_ble_eq_true rfl⟩) ⟨fun a U g mk q => by obtain ⟨q0, q1, qP, qK, qD⟩ := q; exact ⟨q0, q1, qP, va_K.moved (u := U) (U := U.calling g mk a) (Vm.Alike.refl U.vm) qK, qD⟩, va_recv hKc hPc (ci := 8) (q0 := 0) rfl rfl, fun U hU hW => ⟨rfl, by rw [hU], by rw [hU]; exact hPc, va_K.moved hW.alike hKc, hDc.weaken (fun _ _ _ _ => trivial)⟩⟩ rfl rfl hl.1 rfl (lv_room (Nat.le_of_ble_eq_true rfl)) dL_law_364 ⟨by decide, by decide⟩) hS (fun q _ h => hFc q h) hFc (fun r_6 u t H1 locs ht hvm hw hB hz1 hk1 hS => ?_)
  obtain ⟨hP1, hK1, hD1⟩ := hB
  rw [ht] at hP1
  obtain ⟨hP, hD⟩ := va_join (wr := [(a0, .inl (cA, 30, .inl (fun _ => 0))), (a2, .inr (0, [.int 0, ve, .int 0])), (a3, .inr (6, [.ref ab, .int 0])), (ab, .inl (cB, 300, .inl (fun _ => 0))), (b3, .inl (cD, 30, .inl (fun _ => 0))), (b4, .inl (cC, 30, .inl (fun _ => 0))), (b21, .inl (cT, 300, .inl (fun _ => 0)))]) (w1 := []) hP hD [4] [0, 1, 2, 3, 5, 6, 7] rfl rfl (by decide) (by decide) hk1 hFc hP1 hD1
  generalize H1 = H at hP hS ⊢
  have hP : va_P (dC, dI) vwCl [(a0, .inl (cA, 30, .inl (fun _ => 0))), (a2, .inr (0, [.int 0, ve, .int 0])), (a3, .inr (6, [.ref ab, .int 0])), (ab, .inl (cB, 300, .inl (fun _ => 0))), (b3, .inl (cD, 30, .inl (fun _ => 0))), (b4, .inl (cC, 30, .inl (fun _ => 0))), (b21, .inl (cT, 300, .inl (fun _ => 0)))] H := hP
  have hD : va_D A [(a0, .inl (cA, 30, .inl (fun _ => 0))), (a2, .inr (0, [.int 0, ve, .int 0])), (a3, .inr (6, [.ref ab, .int 0])), (ab, .inl (cB, 300, .inl (fun _ => 0))), (b3, .inl (cD, 30, .inl (fun _ => 0))), (b4, .inl (cC, 30, .inl (fun _ => 0))), (b21, .inl (cT, 300, .inl (fun _ => 0)))] := hD
  obtain rfl : r_6 = (-1) := hw
  refine lv_icmp_eq (tgt := 768) hx hb dL_law_367 (by decide) (fun c_7 => ?_) (fun c_7 => ?_)
  · exact lc_end (dC := dC) (dI := dI) C0 hAe hS hl
  · exact absurd c_7 (by decide)
set_option maxRecDepth 20000 in
theorem gl_X6_done : GoodIn lw_tbl (wsV RL 49 RX6 yX6_done wp_X6_done) := goodIn_app (goodIn_r _ [573, 574, 575, 48] (by decide +kernel) (by decide +kernel)) gi_X6_done
set_option maxRecDepth 20000 in
theorem gl_X7_done : GoodIn lw_tbl (wsV RL 52 RX7 yX7_done wp_X7_done) := goodIn_app (goodIn_r _ [915, 916, 917, 57] (by decide +kernel) (by decide +kernel)) gi_X7_done
set_option maxHeartbeats 4000000 in
set_option maxRecDepth 100000 in
/-- the law, case 8 -/
theorem lc_8 {p : Program} {l : Launch} {e : Env} {s : State} {m : MethodId} {below : List Frame} {meth : Method} {c : Code} {dC : Nat → ClassId} {dI : Nat → Nat → Nat} {b : Nat} {xs : Nat → Int32} {A : Nat → Prop} {H : Heap} {locs : List Loc} {ls : Array Slot} (C0 : lw_At p s m meth c b 6 xs) (hAe : A = fun q : Nat => s.heap.size ≤ q) {h0 a0 a1 a2 a3 a4 a5 a6 ab h1 b3 b4 b6 b7 b8 b9 b10 b11 b12 b13 b15 b16 b17 b18 b19 b20 b21 b34 b35 b37 b38 b39 b40 b41 : Nat} {ve : Value} {cA cB cD cC cT : ClassId} (hK : va_K (dC, dI) vwCl [(cA, .int), (cB, .int), (cD, .int), (cC, .int), (cT, .int)] s) (hP : va_P (dC, dI) vwCl [(h0, .inr (7, [.ref a0, .ref a1, .ref a2, .ref a3, .ref a4, .ref a5, .ref a6, .int 0, .int (-1), .int (-1), .int 0])), (a0, .inl (cA, 30, .inl (fun _ => 0))), (a2, .inr (0, [.int 0, ve, .int 0])), (a3, .inr (6, [.ref ab, .int 0])), (ab, .inl (cB, 300, .inl (fun _ => 0))), (h1, .inr (8, [.int 0, .int 0, .int 0, .ref b3, .ref b4, .int 0, .ref b6, .ref b7, .ref b8, .ref b9, .ref b10, .ref b11, .ref b12, .ref b13, .int 0, .ref b15, .ref b16, .ref b17, .ref b18, .ref b19, .ref b20, .ref b21, .int 0, .int 0, .int 0, .int 0, .long 0, .int (-1), .int 0, .int 0, .int 0, .int 0, .int 0, .int 0, .ref b34, .ref b35, .int 0, .ref b37, .ref b38, .ref b39, .ref b40, .ref b41])), (b3, .inl (cD, 30, .inl (fun _ => 0))), (b4, .inl (cC, 30, .inl (fun _ => 0))), (b21, .inl (cT, 300, .inl (fun _ => 0)))] H) (hD : va_D A [(h0, .inr (7, [.ref a0, .ref a1, .ref a2, .ref a3, .ref a4, .ref a5, .ref a6, .int 0, .int (-1), .int (-1), .int 0])), (a0, .inl (cA, 30, .inl (fun _ => 0))), (a2, .inr (0, [.int 0, ve, .int 0])), (a3, .inr (6, [.ref ab, .int 0])), (ab, .inl (cB, 300, .inl (fun _ => 0))), (h1, .inr (8, [.int 0, .int 0, .int 0, .ref b3, .ref b4, .int 0, .ref b6, .ref b7, .ref b8, .ref b9, .ref b10, .ref b11, .ref b12, .ref b13, .int 0, .ref b15, .ref b16, .ref b17, .ref b18, .ref b19, .ref b20, .ref b21, .int 0, .int 0, .int 0, .int 0, .long 0, .int (-1), .int 0, .int 0, .int 0, .int 0, .int 0, .int 0, .ref b34, .ref b35, .int 0, .ref b37, .ref b38, .ref b39, .ref b40, .ref b41])), (b3, .inl (cD, 30, .inl (fun _ => 0))), (b4, .inl (cC, 30, .inl (fun _ => 0))), (b21, .inl (cT, 300, .inl (fun _ => 0)))]) (hS : va_S A s.heap H locs) (hl : lv_has ls 4 [(3, .int 0), (2, .ref h1), (1, .ref h0), (0, .ref b)]) : W p l e room_1 s m #[Value.ref b] below meth c H locs 43 9030 (lw_Z below #[Value.ref b] s) (F0 m 372 ls []) := by
  obtain ⟨hx, hb, hr, hml, hown, hts0, hX, hbl, hlocks, hgv⟩ := id C0
  have hts : ∀ w ∈ lw_tbl, w.before #[Value.ref b] s = true := hts0
  have hA : ∀ q : Nat, s.heap.size ≤ q → A q := fun q h => by rw [hAe]; exact h
  have hbA : ¬ A b := by rw [hAe]; exact Nat.not_le.mpr hbl
  refine lv_aload_n hx hb dL_law_372 rfl (lv_at hl 2 rfl) ?_
  refine lv_aload_n hx hb dL_law_373 rfl (lv_at hl 3 rfl) ?_
  refine lv_iload_n hx hb dL_law_374 rfl (lv_at hl 0 rfl) ?_
  refine lv_iconst (v := 1) hx hb dL_law_375 (by decide) ?_
  refine lv_iadd hx hb dL_law_376 ?_
  refine lv_topi (fun x_1 ex_1 => ?_)
  obtain rfl : x_1 = 1 := by rw [ex_1]; decide
  refine va_sld hx hb hX hbl hbA hS (show vp_in (nI 1) 6 from vp_in_nI (by decide) (by decide)) dL_law_377 ?_
  refine lv_aload_n hx hb dL_law_378 rfl (lv_at hl 3 rfl) ?_
  refine lv_iload_n hx hb dL_law_379 rfl (lv_at hl 0 rfl) ?_
  refine lv_iconst (v := 2) hx hb dL_law_380 (by decide) ?_
  refine lv_iadd hx hb dL_law_381 ?_
  refine lv_topi (fun x_2 ex_2 => ?_)
  obtain rfl : x_2 = 2 := by rw [ex_2]; decide
  refine va_sld hx hb hX hbl hbA hS (show vp_in (nI 2) 6 from vp_in_nI (by decide) (by decide)) dL_law_382 ?_
  have hPc := hP.sub (ws' := [(h0, .inr (7, [.ref a0, .ref a1, .ref a2, .ref a3, .ref a4, .ref a5, .ref a6, .int 0, .int (-1), .int (-1), .int 0]))]) [0] rfl
  have hDc := hD.sub (ws' := [(h0, .inr (7, [.ref a0, .ref a1, .ref a2, .ref a3, .ref a4, .ref a5, .ref a6, .int 0, .int (-1), .int (-1), .int 0]))]) [0] (by decide) rfl
  have hKc := hK.sub (tys' := []) [] rfl
  have hFc := va_free (wc := [(h0, .inr (7, [.ref a0, .ref a1, .ref a2, .ref a3, .ref a4, .ref a5, .ref a6, .int 0, .int (-1), .int (-1), .int 0]))]) hD hS hA [0] rfl
  refine va_calli (va_runV (As := [.int (xs (Int32.toNatClampNeg 1)), .int (xs (Int32.toNatClampNeg 2))]) (rest := []) ⟨hx, hb, hml, hown, hts⟩ (c_X6_done l dC dI _ h0 a0 a1 a2 a3 a4 a5 a6 (xs (Int32.toNatClampNeg 1)) (xs (Int32.toNatClampNeg 2))) (cwV 2 hts gl_X6_done rfl rfl rfl (by decide +kernel) ⟨Nat.le_of_ble_eq_true rfl, Nat.le_of_ble_eq_true rfl⟩) ⟨fun a U g mk q => by obtain ⟨q0, q1, qP, qK, qD⟩ := q; exact ⟨q0, q1, qP, va_K.moved (u := U) (U := U.calling g mk a) (Vm.Alike.refl U.vm) qK, qD⟩, va_recv hKc hPc (ci := 7) (q0 := 0) rfl rfl, fun U hU hW => ⟨rfl, by rw [hU], by rw [hU]; exact hPc, va_K.moved hW.alike hKc, hDc.weaken (fun _ _ _ _ => trivial)⟩⟩ rfl rfl hl.1 rfl (lv_room (Nat.le_of_ble_eq_true rfl)) dL_law_383 ⟨by decide, by decide⟩) hS (fun q _ h => hFc q h) hFc (fun r_3 u t H1 locs ht hvm hw hB hz1 hk1 hS => ?_)
  obtain ⟨hP1, hK1, hD1⟩ := hB
  rw [ht] at hP1
  obtain ⟨hP, hD⟩ := va_join (wr := [(a0, .inl (cA, 30, .inl (fun _ => 0))), (a2, .inr (0, [.int 0, ve, .int 0])), (a3, .inr (6, [.ref ab, .int 0])), (ab, .inl (cB, 300, .inl (fun _ => 0))), (h1, .inr (8, [.int 0, .int 0, .int 0, .ref b3, .ref b4, .int 0, .ref b6, .ref b7, .ref b8, .ref b9, .ref b10, .ref b11, .ref b12, .ref b13, .int 0, .ref b15, .ref b16, .ref b17, .ref b18, .ref b19, .ref b20, .ref b21, .int 0, .int 0, .int 0, .int 0, .long 0, .int (-1), .int 0, .int 0, .int 0, .int 0, .int 0, .int 0, .ref b34, .ref b35, .int 0, .ref b37, .ref b38, .ref b39, .ref b40, .ref b41])), (b3, .inl (cD, 30, .inl (fun _ => 0))), (b4, .inl (cC, 30, .inl (fun _ => 0))), (b21, .inl (cT, 300, .inl (fun _ => 0)))]) (w1 := []) hP hD [0] [1, 2, 3, 4, 5, 6, 7, 8] rfl rfl (by decide) (by decide) hk1 hFc hP1 hD1
  generalize H1 = H at hP hS ⊢
  have hP : va_P (dC, dI) vwCl [(a0, .inl (cA, 30, .inl (fun _ => 0))), (a2, .inr (0, [.int 0, ve, .int 0])), (a3, .inr (6, [.ref ab, .int 0])), (ab, .inl (cB, 300, .inl (fun _ => 0))), (h1, .inr (8, [.int 0, .int 0, .int 0, .ref b3, .ref b4, .int 0, .ref b6, .ref b7, .ref b8, .ref b9, .ref b10, .ref b11, .ref b12, .ref b13, .int 0, .ref b15, .ref b16, .ref b17, .ref b18, .ref b19, .ref b20, .ref b21, .int 0, .int 0, .int 0, .int 0, .long 0, .int (-1), .int 0, .int 0, .int 0, .int 0, .int 0, .int 0, .ref b34, .ref b35, .int 0, .ref b37, .ref b38, .ref b39, .ref b40, .ref b41])), (b3, .inl (cD, 30, .inl (fun _ => 0))), (b4, .inl (cC, 30, .inl (fun _ => 0))), (b21, .inl (cT, 300, .inl (fun _ => 0)))] H := hP
  have hD : va_D A [(a0, .inl (cA, 30, .inl (fun _ => 0))), (a2, .inr (0, [.int 0, ve, .int 0])), (a3, .inr (6, [.ref ab, .int 0])), (ab, .inl (cB, 300, .inl (fun _ => 0))), (h1, .inr (8, [.int 0, .int 0, .int 0, .ref b3, .ref b4, .int 0, .ref b6, .ref b7, .ref b8, .ref b9, .ref b10, .ref b11, .ref b12, .ref b13, .int 0, .ref b15, .ref b16, .ref b17, .ref b18, .ref b19, .ref b20, .ref b21, .int 0, .int 0, .int 0, .int 0, .long 0, .int (-1), .int 0, .int 0, .int 0, .int 0, .int 0, .int 0, .ref b34, .ref b35, .int 0, .ref b37, .ref b38, .ref b39, .ref b40, .ref b41])), (b3, .inl (cD, 30, .inl (fun _ => 0))), (b4, .inl (cC, 30, .inl (fun _ => 0))), (b21, .inl (cT, 300, .inl (fun _ => 0)))] := hD
  obtain rfl : r_3 = (-1) := hw
  refine lv_aload_n hx hb dL_law_386 rfl (lv_at hl 1 rfl) ?_
  refine lv_aload_n hx hb dL_law_387 rfl (lv_at hl 3 rfl) ?_
  refine lv_iload_n hx hb dL_law_388 rfl (lv_at hl 0 rfl) ?_
  refine lv_iconst (v := 1) hx hb dL_law_389 (by decide) ?_
  refine lv_iadd hx hb dL_law_390 ?_
  refine lv_topi (fun x_4 ex_4 => ?_)
  obtain rfl : x_4 = 1 := by rw [ex_4]; decide
  refine va_sld hx hb hX hbl hbA hS (show vp_in (nI 1) 6 from vp_in_nI (by decide) (by decide)) dL_law_391 ?_
  refine lv_aload_n hx hb dL_law_392 rfl (lv_at hl 3 rfl) ?_
  refine lv_iload_n hx hb dL_law_393 rfl (lv_at hl 0 rfl) ?_
  refine lv_iconst (v := 2) hx hb dL_law_394 (by decide) ?_
  refine lv_iadd hx hb dL_law_395 ?_
  refine lv_topi (fun x_5 ex_5 => ?_)
  obtain rfl : x_5 = 2 := by rw [ex_5]; decide
  refine va_sld hx hb hX hbl hbA hS (show vp_in (nI 2) 6 from vp_in_nI (by decide) (by decide)) dL_law_396 ?_
  have hPc := hP.sub (ws' := [(h1, .inr (8, [.int 0, .int 0, .int 0, .ref b3, .ref b4, .int 0, .ref b6, .ref b7, .ref b8, .ref b9, .ref b10, .ref b11, .ref b12, .ref b13, .int 0, .ref b15, .ref b16, .ref b17, .ref b18, .ref b19, .ref b20, .ref b21, .int 0, .int 0, .int 0, .int 0, .long 0, .int (-1), .int 0, .int 0, .int 0, .int 0, .int 0, .int 0, .ref b34, .ref b35, .int 0, .ref b37, .ref b38, .ref b39, .ref b40, .ref b41]))]) [4] rfl
  have hDc := hD.sub (ws' := [(h1, .inr (8, [.int 0, .int 0, .int 0, .ref b3, .ref b4, .int 0, .ref b6, .ref b7, .ref b8, .ref b9, .ref b10, .ref b11, .ref b12, .ref b13, .int 0, .ref b15, .ref b16, .ref b17, .ref b18, .ref b19, .ref b20, .ref b21, .int 0, .int 0, .int 0, .int 0, .long 0, .int (-1), .int 0, .int 0, .int 0, .int 0, .int 0, .int 0, .ref b34, .ref b35, .int 0, .ref b37, .ref b38, .ref b39, .ref b40, .ref b41]))]) [4] (by decide) rfl
  have hKc := hK.sub (tys' := []) [] rfl
  have hFc := va_free (wc := [(h1, .inr (8, [.int 0, .int 0, .int 0, .ref b3, .ref b4, .int 0, .ref b6, .ref b7, .ref b8, .ref b9, .ref b10, .ref b11, .ref b12, .ref b13, .int 0, .ref b15, .ref b16, .ref b17, .ref b18, .ref b19, .ref b20, .ref b21, .int 0, .int 0, .int 0, .int 0, .long 0, .int (-1), .int 0, .int 0, .int 0, .int 0, .int 0, .int 0, .ref b34, .ref b35, .int 0, .ref b37, .ref b38, .ref b39, .ref b40, .ref b41]))]) hD hS hA [4] rfl
  refine va_calli (va_runV (As := [.int (xs (Int32.toNatClampNeg 1)), .int (xs (Int32.toNatClampNeg 2))]) (rest := [.int (-1)]) ⟨hx, hb, hml, hown, hts⟩ (c_X7_done l dC dI _ h1 b3 b4 b6 b7 b8 b9 b10 b11 b12 b13 b15 b16 b17 b18 b19 b20 b21 b34 b35 b37 b38 b39 b40 b41 (xs (Int32.toNatClampNeg 1)) (xs (Int32.toNatClampNeg 2))) (cwV 2 hts gl_X7_done rfl rfl rfl (by decide +kernel) ⟨Nat.le_of_ble_eq_true rfl, Nat.le_of_ble_eq_true rfl⟩) ⟨fun a U g mk q => by obtain ⟨q0, q1, qP, qK, qD⟩ := q; exact ⟨q0, q1, qP, va_K.moved (u := U) (U := U.calling g mk a) (Vm.Alike.refl U.vm) qK, qD⟩, va_recv hKc hPc (ci := 8) (q0 := 0) rfl rfl, fun U hU hW => ⟨rfl, by rw [hU], by rw [hU]; exact hPc, va_K.moved hW.alike hKc, hDc.weaken (fun _ _ _ _ => trivial)⟩⟩ rfl rfl hl.1 rfl (lv_room (Nat.le_of_ble_eq_true rfl)) dL_law_397 ⟨by decide, by decide⟩) hS (fun q _ h => hFc q h) hFc (fun r_6 u t H1 locs ht hvm hw hB hz1 hk1 hS => ?_)
  obtain ⟨hP1, hK1, hD1⟩ := hB
  rw [ht] at hP1
  obtain ⟨hP, hD⟩ := va_join (wr := [(a0, .inl (cA, 30, .inl (fun _ => 0))), (a2, .inr (0, [.int 0, ve, .int 0])), (a3, .inr (6, [.ref ab, .int 0])), (ab, .inl (cB, 300, .inl (fun _ => 0))), (b3, .inl (cD, 30, .inl (fun _ => 0))), (b4, .inl (cC, 30, .inl (fun _ => 0))), (b21, .inl (cT, 300, .inl (fun _ => 0)))]) (w1 := []) hP hD [4] [0, 1, 2, 3, 5, 6, 7] rfl rfl (by decide) (by decide) hk1 hFc hP1 hD1
  generalize H1 = H at hP hS ⊢
  have hP : va_P (dC, dI) vwCl [(a0, .inl (cA, 30, .inl (fun _ => 0))), (a2, .inr (0, [.int 0, ve, .int 0])), (a3, .inr (6, [.ref ab, .int 0])), (ab, .inl (cB, 300, .inl (fun _ => 0))), (b3, .inl (cD, 30, .inl (fun _ => 0))), (b4, .inl (cC, 30, .inl (fun _ => 0))), (b21, .inl (cT, 300, .inl (fun _ => 0)))] H := hP
  have hD : va_D A [(a0, .inl (cA, 30, .inl (fun _ => 0))), (a2, .inr (0, [.int 0, ve, .int 0])), (a3, .inr (6, [.ref ab, .int 0])), (ab, .inl (cB, 300, .inl (fun _ => 0))), (b3, .inl (cD, 30, .inl (fun _ => 0))), (b4, .inl (cC, 30, .inl (fun _ => 0))), (b21, .inl (cT, 300, .inl (fun _ => 0)))] := hD
  obtain rfl : r_6 = (-1) := hw
  refine lv_icmp_eq (tgt := 768) hx hb dL_law_400 (by decide) (fun c_7 => ?_) (fun c_7 => ?_)
  · exact lc_end (dC := dC) (dI := dI) C0 hAe hS hl
  · exact absurd c_7 (by decide)
set_option maxRecDepth 20000 in
theorem gl_X6_asked : GoodIn lw_tbl (wsV RL 53 RX6 yX6_asked wp_X6_asked) := goodIn_app (goodIn_r _ [577, 578, 579, 48] (by decide +kernel) (by decide +kernel)) gi_X6_asked
set_option maxRecDepth 20000 in
theorem gl_X7_asked : GoodIn lw_tbl (wsV RL 57 RX7 yX7_asked wp_X7_asked) := goodIn_app (goodIn_r _ [919, 920, 921, 57] (by decide +kernel) (by decide +kernel)) gi_X7_asked
set_option maxHeartbeats 4000000 in
set_option maxRecDepth 100000 in
/-- the law, case 9 -/
theorem lc_9 {p : Program} {l : Launch} {e : Env} {s : State} {m : MethodId} {below : List Frame} {meth : Method} {c : Code} {dC : Nat → ClassId} {dI : Nat → Nat → Nat} {b : Nat} {xs : Nat → Int32} {A : Nat → Prop} {H : Heap} {locs : List Loc} {ls : Array Slot} (C0 : lw_At p s m meth c b 6 xs) (hAe : A = fun q : Nat => s.heap.size ≤ q) {h0 a0 a1 a2 a3 a4 a5 a6 ab h1 b3 b4 b6 b7 b8 b9 b10 b11 b12 b13 b15 b16 b17 b18 b19 b20 b21 b34 b35 b37 b38 b39 b40 b41 : Nat} {ve : Value} {cA cB cD cC cT : ClassId} (hK : va_K (dC, dI) vwCl [(cA, .int), (cB, .int), (cD, .int), (cC, .int), (cT, .int)] s) (hP : va_P (dC, dI) vwCl [(h0, .inr (7, [.ref a0, .ref a1, .ref a2, .ref a3, .ref a4, .ref a5, .ref a6, .int 0, .int (-1), .int (-1), .int 0])), (a0, .inl (cA, 30, .inl (fun _ => 0))), (a2, .inr (0, [.int 0, ve, .int 0])), (a3, .inr (6, [.ref ab, .int 0])), (ab, .inl (cB, 300, .inl (fun _ => 0))), (h1, .inr (8, [.int 0, .int 0, .int 0, .ref b3, .ref b4, .int 0, .ref b6, .ref b7, .ref b8, .ref b9, .ref b10, .ref b11, .ref b12, .ref b13, .int 0, .ref b15, .ref b16, .ref b17, .ref b18, .ref b19, .ref b20, .ref b21, .int 0, .int 0, .int 0, .int 0, .long 0, .int (-1), .int 0, .int 0, .int 0, .int 0, .int 0, .int 0, .ref b34, .ref b35, .int 0, .ref b37, .ref b38, .ref b39, .ref b40, .ref b41])), (b3, .inl (cD, 30, .inl (fun _ => 0))), (b4, .inl (cC, 30, .inl (fun _ => 0))), (b21, .inl (cT, 300, .inl (fun _ => 0)))] H) (hD : va_D A [(h0, .inr (7, [.ref a0, .ref a1, .ref a2, .ref a3, .ref a4, .ref a5, .ref a6, .int 0, .int (-1), .int (-1), .int 0])), (a0, .inl (cA, 30, .inl (fun _ => 0))), (a2, .inr (0, [.int 0, ve, .int 0])), (a3, .inr (6, [.ref ab, .int 0])), (ab, .inl (cB, 300, .inl (fun _ => 0))), (h1, .inr (8, [.int 0, .int 0, .int 0, .ref b3, .ref b4, .int 0, .ref b6, .ref b7, .ref b8, .ref b9, .ref b10, .ref b11, .ref b12, .ref b13, .int 0, .ref b15, .ref b16, .ref b17, .ref b18, .ref b19, .ref b20, .ref b21, .int 0, .int 0, .int 0, .int 0, .long 0, .int (-1), .int 0, .int 0, .int 0, .int 0, .int 0, .int 0, .ref b34, .ref b35, .int 0, .ref b37, .ref b38, .ref b39, .ref b40, .ref b41])), (b3, .inl (cD, 30, .inl (fun _ => 0))), (b4, .inl (cC, 30, .inl (fun _ => 0))), (b21, .inl (cT, 300, .inl (fun _ => 0)))]) (hS : va_S A s.heap H locs) (hl : lv_has ls 4 [(3, .int 0), (2, .ref h1), (1, .ref h0), (0, .ref b)]) : W p l e room_1 s m #[Value.ref b] below meth c H locs 43 9030 (lw_Z below #[Value.ref b] s) (F0 m 405 ls []) := by
  obtain ⟨hx, hb, hr, hml, hown, hts0, hX, hbl, hlocks, hgv⟩ := id C0
  have hts : ∀ w ∈ lw_tbl, w.before #[Value.ref b] s = true := hts0
  have hA : ∀ q : Nat, s.heap.size ≤ q → A q := fun q h => by rw [hAe]; exact h
  have hbA : ¬ A b := by rw [hAe]; exact Nat.not_le.mpr hbl
  refine lv_aload_n hx hb dL_law_405 rfl (lv_at hl 2 rfl) ?_
  refine lv_aload_n hx hb dL_law_406 rfl (lv_at hl 3 rfl) ?_
  refine lv_iload_n hx hb dL_law_407 rfl (lv_at hl 0 rfl) ?_
  refine lv_iconst (v := 1) hx hb dL_law_408 (by decide) ?_
  refine lv_iadd hx hb dL_law_409 ?_
  refine lv_topi (fun x_1 ex_1 => ?_)
  obtain rfl : x_1 = 1 := by rw [ex_1]; decide
  refine va_sld hx hb hX hbl hbA hS (show vp_in (nI 1) 6 from vp_in_nI (by decide) (by decide)) dL_law_410 ?_
  refine lv_aload_n hx hb dL_law_411 rfl (lv_at hl 3 rfl) ?_
  refine lv_iload_n hx hb dL_law_412 rfl (lv_at hl 0 rfl) ?_
  refine lv_iconst (v := 2) hx hb dL_law_413 (by decide) ?_
  refine lv_iadd hx hb dL_law_414 ?_
  refine lv_topi (fun x_2 ex_2 => ?_)
  obtain rfl : x_2 = 2 := by rw [ex_2]; decide
  refine va_sld hx hb hX hbl hbA hS (show vp_in (nI 2) 6 from vp_in_nI (by decide) (by decide)) dL_law_415 ?_
  refine lv_aload_n hx hb dL_law_416 rfl (lv_at hl 3 rfl) ?_
  refine lv_iload_n hx hb dL_law_417 rfl (lv_at hl 0 rfl) ?_
  refine lv_iconst (v := 3) hx hb dL_law_418 (by decide) ?_
  refine lv_iadd hx hb dL_law_419 ?_
  refine lv_topi (fun x_3 ex_3 => ?_)
  obtain rfl : x_3 = 3 := by rw [ex_3]; decide
  refine va_sld hx hb hX hbl hbA hS (show vp_in (nI 3) 6 from vp_in_nI (by decide) (by decide)) dL_law_420 ?_
  have hPc := hP.sub (ws' := [(h0, .inr (7, [.ref a0, .ref a1, .ref a2, .ref a3, .ref a4, .ref a5, .ref a6, .int 0, .int (-1), .int (-1), .int 0]))]) [0] rfl
  have hDc := hD.sub (ws' := [(h0, .inr (7, [.ref a0, .ref a1, .ref a2, .ref a3, .ref a4, .ref a5, .ref a6, .int 0, .int (-1), .int (-1), .int 0]))]) [0] (by decide) rfl
  have hKc := hK.sub (tys' := []) [] rfl
  have hFc := va_free (wc := [(h0, .inr (7, [.ref a0, .ref a1, .ref a2, .ref a3, .ref a4, .ref a5, .ref a6, .int 0, .int (-1), .int (-1), .int 0]))]) hD hS hA [0] rfl
  refine va_calli (va_runV (As := [.int (xs (Int32.toNatClampNeg 1)), .int (xs (Int32.toNatClampNeg 2)), .int (xs (Int32.toNatClampNeg 3))]) (rest := []) ⟨hx, hb, hml, hown, hts⟩ (c_X6_asked l dC dI _ h0 a0 a1 a2 a3 a4 a5 a6 (xs (Int32.toNatClampNeg 1)) (xs (Int32.toNatClampNeg 2)) (xs (Int32.toNatClampNeg 3))) (cwV 3 hts gl_X6_asked rfl rfl rfl (by decide +kernel) ⟨Nat.le_of_ble_eq_true rfl, Nat.le_of_ble_eq_true rfl⟩) ⟨fun a U g mk q => by obtain ⟨q0, q1, qP, qK, qD⟩ := q; exact ⟨q0, q1, qP, va_K.moved (u := U) (U := U.calling g mk a) (Vm.Alike.refl U.vm) qK, qD⟩, va_recv hKc hPc (ci := 7) (q0 := 0) rfl rfl, fun U hU hW => ⟨rfl, by rw [hU], by rw [hU]; exact hPc, va_K.moved hW.alike hKc, hDc.weaken (fun _ _ _ _ => trivial)⟩⟩ rfl rfl hl.1 rfl (lv_room (Nat.le_of_ble_eq_true rfl)) dL_law_421 ⟨by decide, by decide⟩) hS (fun q _ h => hFc q h) hFc (fun r_4 u t H1 locs ht hvm hw hB hz1 hk1 hS => ?_)
  obtain ⟨hP1, hK1, hD1⟩ := hB
  rw [ht] at hP1
  obtain ⟨hP, hD⟩ := va_join (wr := [(a0, .inl (cA, 30, .inl (fun _ => 0))), (a2, .inr (0, [.int 0, ve, .int 0])), (a3, .inr (6, [.ref ab, .int 0])), (ab, .inl (cB, 300, .inl (fun _ => 0))), (h1, .inr (8, [.int 0, .int 0, .int 0, .ref b3, .ref b4, .int 0, .ref b6, .ref b7, .ref b8, .ref b9, .ref b10, .ref b11, .ref b12, .ref b13, .int 0, .ref b15, .ref b16, .ref b17, .ref b18, .ref b19, .ref b20, .ref b21, .int 0, .int 0, .int 0, .int 0, .long 0, .int (-1), .int 0, .int 0, .int 0, .int 0, .int 0, .int 0, .ref b34, .ref b35, .int 0, .ref b37, .ref b38, .ref b39, .ref b40, .ref b41])), (b3, .inl (cD, 30, .inl (fun _ => 0))), (b4, .inl (cC, 30, .inl (fun _ => 0))), (b21, .inl (cT, 300, .inl (fun _ => 0)))]) (w1 := []) hP hD [0] [1, 2, 3, 4, 5, 6, 7, 8] rfl rfl (by decide) (by decide) hk1 hFc hP1 hD1
  generalize H1 = H at hP hS ⊢
  have hP : va_P (dC, dI) vwCl [(a0, .inl (cA, 30, .inl (fun _ => 0))), (a2, .inr (0, [.int 0, ve, .int 0])), (a3, .inr (6, [.ref ab, .int 0])), (ab, .inl (cB, 300, .inl (fun _ => 0))), (h1, .inr (8, [.int 0, .int 0, .int 0, .ref b3, .ref b4, .int 0, .ref b6, .ref b7, .ref b8, .ref b9, .ref b10, .ref b11, .ref b12, .ref b13, .int 0, .ref b15, .ref b16, .ref b17, .ref b18, .ref b19, .ref b20, .ref b21, .int 0, .int 0, .int 0, .int 0, .long 0, .int (-1), .int 0, .int 0, .int 0, .int 0, .int 0, .int 0, .ref b34, .ref b35, .int 0, .ref b37, .ref b38, .ref b39, .ref b40, .ref b41])), (b3, .inl (cD, 30, .inl (fun _ => 0))), (b4, .inl (cC, 30, .inl (fun _ => 0))), (b21, .inl (cT, 300, .inl (fun _ => 0)))] H := hP
  have hD : va_D A [(a0, .inl (cA, 30, .inl (fun _ => 0))), (a2, .inr (0, [.int 0, ve, .int 0])), (a3, .inr (6, [.ref ab, .int 0])), (ab, .inl (cB, 300, .inl (fun _ => 0))), (h1, .inr (8, [.int 0, .int 0, .int 0, .ref b3, .ref b4, .int 0, .ref b6, .ref b7, .ref b8, .ref b9, .ref b10, .ref b11, .ref b12, .ref b13, .int 0, .ref b15, .ref b16, .ref b17, .ref b18, .ref b19, .ref b20, .ref b21, .int 0, .int 0, .int 0, .int 0, .long 0, .int (-1), .int 0, .int 0, .int 0, .int 0, .int 0, .int 0, .ref b34, .ref b35, .int 0, .ref b37, .ref b38, .ref b39, .ref b40, .ref b41])), (b3, .inl (cD, 30, .inl (fun _ => 0))), (b4, .inl (cC, 30, .inl (fun _ => 0))), (b21, .inl (cT, 300, .inl (fun _ => 0)))] := hD
  obtain rfl : r_4 = (-1) := hw
  refine lv_aload_n hx hb dL_law_424 rfl (lv_at hl 1 rfl) ?_
  refine lv_aload_n hx hb dL_law_425 rfl (lv_at hl 3 rfl) ?_
  refine lv_iload_n hx hb dL_law_426 rfl (lv_at hl 0 rfl) ?_
  refine lv_iconst (v := 1) hx hb dL_law_427 (by decide) ?_
  refine lv_iadd hx hb dL_law_428 ?_
  refine lv_topi (fun x_5 ex_5 => ?_)
  obtain rfl : x_5 = 1 := by rw [ex_5]; decide
  refine va_sld hx hb hX hbl hbA hS (show vp_in (nI 1) 6 from vp_in_nI (by decide) (by decide)) dL_law_429 ?_
  refine lv_aload_n hx hb dL_law_430 rfl (lv_at hl 3 rfl) ?_
  refine lv_iload_n hx hb dL_law_431 rfl (lv_at hl 0 rfl) ?_
  refine lv_iconst (v := 2) hx hb dL_law_432 (by decide) ?_
  refine lv_iadd hx hb dL_law_433 ?_
  refine lv_topi (fun x_6 ex_6 => ?_)
  obtain rfl : x_6 = 2 := by rw [ex_6]; decide
  refine va_sld hx hb hX hbl hbA hS (show vp_in (nI 2) 6 from vp_in_nI (by decide) (by decide)) dL_law_434 ?_
  refine lv_aload_n hx hb dL_law_435 rfl (lv_at hl 3 rfl) ?_
  refine lv_iload_n hx hb dL_law_436 rfl (lv_at hl 0 rfl) ?_
  refine lv_iconst (v := 3) hx hb dL_law_437 (by decide) ?_
  refine lv_iadd hx hb dL_law_438 ?_
  refine lv_topi (fun x_7 ex_7 => ?_)
  obtain rfl : x_7 = 3 := by rw [ex_7]; decide
  refine va_sld hx hb hX hbl hbA hS (show vp_in (nI 3) 6 from vp_in_nI (by decide) (by decide)) dL_law_439 ?_
  have hPc := hP.sub (ws' := [(h1, .inr (8, [.int 0, .int 0, .int 0, .ref b3, .ref b4, .int 0, .ref b6, .ref b7, .ref b8, .ref b9, .ref b10, .ref b11, .ref b12, .ref b13, .int 0, .ref b15, .ref b16, .ref b17, .ref b18, .ref b19, .ref b20, .ref b21, .int 0, .int 0, .int 0, .int 0, .long 0, .int (-1), .int 0, .int 0, .int 0, .int 0, .int 0, .int 0, .ref b34, .ref b35, .int 0, .ref b37, .ref b38, .ref b39, .ref b40, .ref b41]))]) [4] rfl
  have hDc := hD.sub (ws' := [(h1, .inr (8, [.int 0, .int 0, .int 0, .ref b3, .ref b4, .int 0, .ref b6, .ref b7, .ref b8, .ref b9, .ref b10, .ref b11, .ref b12, .ref b13, .int 0, .ref b15, .ref b16, .ref b17, .ref b18, .ref b19, .ref b20, .ref b21, .int 0, .int 0, .int 0, .int 0, .long 0, .int (-1), .int 0, .int 0, .int 0, .int 0, .int 0, .int 0, .ref b34, .ref b35, .int 0, .ref b37, .ref b38, .ref b39, .ref b40, .ref b41]))]) [4] (by decide) rfl
  have hKc := hK.sub (tys' := []) [] rfl
  have hFc := va_free (wc := [(h1, .inr (8, [.int 0, .int 0, .int 0, .ref b3, .ref b4, .int 0, .ref b6, .ref b7, .ref b8, .ref b9, .ref b10, .ref b11, .ref b12, .ref b13, .int 0, .ref b15, .ref b16, .ref b17, .ref b18, .ref b19, .ref b20, .ref b21, .int 0, .int 0, .int 0, .int 0, .long 0, .int (-1), .int 0, .int 0, .int 0, .int 0, .int 0, .int 0, .ref b34, .ref b35, .int 0, .ref b37, .ref b38, .ref b39, .ref b40, .ref b41]))]) hD hS hA [4] rfl
  refine va_calli (va_runV (As := [.int (xs (Int32.toNatClampNeg 1)), .int (xs (Int32.toNatClampNeg 2)), .int (xs (Int32.toNatClampNeg 3))]) (rest := [.int (-1)]) ⟨hx, hb, hml, hown, hts⟩ (c_X7_asked l dC dI _ h1 b3 b4 b6 b7 b8 b9 b10 b11 b12 b13 b15 b16 b17 b18 b19 b20 b21 b34 b35 b37 b38 b39 b40 b41 (xs (Int32.toNatClampNeg 1)) (xs (Int32.toNatClampNeg 2)) (xs (Int32.toNatClampNeg 3))) (cwV 3 hts gl_X7_asked rfl rfl rfl (by decide +kernel) ⟨Nat.le_of_ble_eq_true rfl, Nat.le_of_ble_eq_true rfl⟩) ⟨fun a U g mk q => by obtain ⟨q0, q1, qP, qK, qD⟩ := q; exact ⟨q0, q1, qP, va_K.moved (u := U) (U := U.calling g mk a) (Vm.Alike.refl U.vm) qK, qD⟩, va_recv hKc hPc (ci := 8) (q0 := 0) rfl rfl, fun U hU hW => ⟨rfl, by rw [hU], by rw [hU]; exact hPc, va_K.moved hW.alike hKc, hDc.weaken (fun _ _ _ _ => trivial)⟩⟩ rfl rfl hl.1 rfl (lv_room (Nat.le_of_ble_eq_true rfl)) dL_law_440 ⟨by decide, by decide⟩) hS (fun q _ h => hFc q h) hFc (fun r_8 u t H1 locs ht hvm hw hB hz1 hk1 hS => ?_)
  obtain ⟨hP1, hK1, hD1⟩ := hB
  rw [ht] at hP1
  obtain ⟨hP, hD⟩ := va_join (wr := [(a0, .inl (cA, 30, .inl (fun _ => 0))), (a2, .inr (0, [.int 0, ve, .int 0])), (a3, .inr (6, [.ref ab, .int 0])), (ab, .inl (cB, 300, .inl (fun _ => 0))), (b3, .inl (cD, 30, .inl (fun _ => 0))), (b4, .inl (cC, 30, .inl (fun _ => 0))), (b21, .inl (cT, 300, .inl (fun _ => 0)))]) (w1 := []) hP hD [4] [0, 1, 2, 3, 5, 6, 7] rfl rfl (by decide) (by decide) hk1 hFc hP1 hD1
  generalize H1 = H at hP hS ⊢
  have hP : va_P (dC, dI) vwCl [(a0, .inl (cA, 30, .inl (fun _ => 0))), (a2, .inr (0, [.int 0, ve, .int 0])), (a3, .inr (6, [.ref ab, .int 0])), (ab, .inl (cB, 300, .inl (fun _ => 0))), (b3, .inl (cD, 30, .inl (fun _ => 0))), (b4, .inl (cC, 30, .inl (fun _ => 0))), (b21, .inl (cT, 300, .inl (fun _ => 0)))] H := hP
  have hD : va_D A [(a0, .inl (cA, 30, .inl (fun _ => 0))), (a2, .inr (0, [.int 0, ve, .int 0])), (a3, .inr (6, [.ref ab, .int 0])), (ab, .inl (cB, 300, .inl (fun _ => 0))), (b3, .inl (cD, 30, .inl (fun _ => 0))), (b4, .inl (cC, 30, .inl (fun _ => 0))), (b21, .inl (cT, 300, .inl (fun _ => 0)))] := hD
  obtain rfl : r_8 = (-1) := hw
  refine lv_icmp_eq (tgt := 768) hx hb dL_law_443 (by decide) (fun c_9 => ?_) (fun c_9 => ?_)
  · exact lc_end (dC := dC) (dI := dI) C0 hAe hS hl
  · exact absurd c_9 (by decide)
