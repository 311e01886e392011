set_option maxRecDepth 20000 in
theorem gl_X6_meeting : GoodIn lw_tbl (wsV RL 13 RX6 yX6_meeting wp_X6_meeting) := goodIn_app (goodIn_r _ [223, 224, 225, 48] (by decide +kernel) (by decide +kernel)) gi_X6_meeting
set_option maxRecDepth 20000 in
theorem gl_X7_meeting : GoodIn lw_tbl (wsV RL 17 RX7 yX7_meeting wp_X7_meeting) := goodIn_app (goodIn_r _ [801, 802, 803, 57] (by decide +kernel) (by decide +kernel)) gi_X7_meeting
set_option maxHeartbeats 4000000 in
set_option maxRecDepth 100000 in
/-- the law, case 0 -/
theorem lc_0 {p : Program} {l : Launch} {e : Env} {s : State} {m : MethodId} {below : List Frame} {meth : Method} {c : Code} {dC : Nat → ClassId} {dI : Nat → Nat → Nat} {b : Nat} {xs : Nat → Int32} {A : Nat → Prop} {H : Heap} {locs : List Loc} {ls : Array Slot} (C0 : lw_At p s m meth c b 6 xs) (hAe : A = fun q : Nat => s.heap.size ≤ q) {h0 a0 a1 a2 a3 a4 a5 a6 ab h1 b3 b4 b6 b7 b8 b9 b10 b11 b12 b13 b15 b16 b17 b18 b19 b20 b21 b34 b35 b37 b38 b39 b40 b41 : Nat} {ve : Value} {cA cB cD cC cT : ClassId} (hK : va_K (dC, dI) vwCl [(cA, .int), (cB, .int), (cD, .int), (cC, .int), (cT, .int)] s) (hP : va_P (dC, dI) vwCl [(h0, .inr (7, [.ref a0, .ref a1, .ref a2, .ref a3, .ref a4, .ref a5, .ref a6, .int 0, .int (-1), .int (-1), .int 0])), (a0, .inl (cA, 30, .inl (fun _ => 0))), (a2, .inr (0, [.int 0, ve, .int 0])), (a3, .inr (6, [.ref ab, .int 0])), (ab, .inl (cB, 300, .inl (fun _ => 0))), (h1, .inr (8, [.int 0, .int 0, .int 0, .ref b3, .ref b4, .int 0, .ref b6, .ref b7, .ref b8, .ref b9, .ref b10, .ref b11, .ref b12, .ref b13, .int 0, .ref b15, .ref b16, .ref b17, .ref b18, .ref b19, .ref b20, .ref b21, .int 0, .int 0, .int 0, .int 0, .long 0, .int (-1), .int 0, .int 0, .int 0, .int 0, .int 0, .int 0, .ref b34, .ref b35, .int 0, .ref b37, .ref b38, .ref b39, .ref b40, .ref b41])), (b3, .inl (cD, 30, .inl (fun _ => 0))), (b4, .inl (cC, 30, .inl (fun _ => 0))), (b21, .inl (cT, 300, .inl (fun _ => 0)))] H) (hD : va_D A [(h0, .inr (7, [.ref a0, .ref a1, .ref a2, .ref a3, .ref a4, .ref a5, .ref a6, .int 0, .int (-1), .int (-1), .int 0])), (a0, .inl (cA, 30, .inl (fun _ => 0))), (a2, .inr (0, [.int 0, ve, .int 0])), (a3, .inr (6, [.ref ab, .int 0])), (ab, .inl (cB, 300, .inl (fun _ => 0))), (h1, .inr (8, [.int 0, .int 0, .int 0, .ref b3, .ref b4, .int 0, .ref b6, .ref b7, .ref b8, .ref b9, .ref b10, .ref b11, .ref b12, .ref b13, .int 0, .ref b15, .ref b16, .ref b17, .ref b18, .ref b19, .ref b20, .ref b21, .int 0, .int 0, .int 0, .int 0, .long 0, .int (-1), .int 0, .int 0, .int 0, .int 0, .int 0, .int 0, .ref b34, .ref b35, .int 0, .ref b37, .ref b38, .ref b39, .ref b40, .ref b41])), (b3, .inl (cD, 30, .inl (fun _ => 0))), (b4, .inl (cC, 30, .inl (fun _ => 0))), (b21, .inl (cT, 300, .inl (fun _ => 0)))]) (hS : va_S A s.heap H locs) (hl : lv_has ls 4 [(3, .int 0), (2, .ref h1), (1, .ref h0), (0, .ref b)]) : W p l e room_1 s m #[Value.ref b] below meth c H locs 43 9030 (lw_Z below #[Value.ref b] s) (F0 m 128 ls []) := by
  obtain ⟨hx, hb, hr, hml, hown, hts0, hX, hbl, hlocks, hgv⟩ := id C0
  have hts : ∀ w ∈ lw_tbl, w.before #[Value.ref b] s = true := hts0
  have hA : ∀ q : Nat, s.heap.size ≤ q → A q := fun q h => by rw [hAe]; exact h
  have hbA : ¬ A b := by rw [hAe]; exact Nat.not_le.mpr hbl
  refine lv_aload_n hx hb dL_law_128 rfl (lv_at hl 2 rfl) ?_
  refine lv_aload_n hx hb dL_law_129 rfl (lv_at hl 3 rfl) ?_
  refine lv_iload_n hx hb dL_law_130 rfl (lv_at hl 0 rfl) ?_
  refine lv_iconst (v := 1) hx hb dL_law_131 (by decide) ?_
  refine lv_iadd hx hb dL_law_132 ?_
  refine lv_topi (fun x_1 ex_1 => ?_)
  obtain rfl : x_1 = 1 := by rw [ex_1]; decide
  refine va_sld hx hb hX hbl hbA hS (show vp_in (nI 1) 6 from vp_in_nI (by decide) (by decide)) dL_law_133 ?_
  have hPc := hP.sub (ws' := [(h0, .inr (7, [.ref a0, .ref a1, .ref a2, .ref a3, .ref a4, .ref a5, .ref a6, .int 0, .int (-1), .int (-1), .int 0])), (a0, .inl (cA, 30, .inl (fun _ => 0)))]) [0, 1] rfl
  have hDc := hD.sub (ws' := [(h0, .inr (7, [.ref a0, .ref a1, .ref a2, .ref a3, .ref a4, .ref a5, .ref a6, .int 0, .int (-1), .int (-1), .int 0])), (a0, .inl (cA, 30, .inl (fun _ => 0)))]) [0, 1] (by decide) rfl
  have hKc := hK.sub (tys' := [(cA, .int)]) [0] rfl
  have hFc := va_free (wc := [(h0, .inr (7, [.ref a0, .ref a1, .ref a2, .ref a3, .ref a4, .ref a5, .ref a6, .int 0, .int (-1), .int (-1), .int 0])), (a0, .inl (cA, 30, .inl (fun _ => 0)))]) hD hS hA [0, 1] rfl
  refine va_calli (va_runV (As := [.int (xs (Int32.toNatClampNeg 1))]) (rest := []) ⟨hx, hb, hml, hown, hts⟩ (c_X6_meeting l dC dI _ h0 a0 a1 a2 a3 a4 a5 a6 (xs (Int32.toNatClampNeg 1)) cA (fun _ => 0)) (cwV 1 hts gl_X6_meeting rfl rfl rfl (by decide +kernel) ⟨Nat.le_of_ble_eq_true rfl, Nat.le_of_ble_eq_true rfl⟩) ⟨fun a U g mk q => by obtain ⟨q0, q1, qP, qK, qD⟩ := q; exact ⟨q0, q1, qP, va_K.moved (u := U) (U := U.calling g mk a) (Vm.Alike.refl U.vm) qK, qD⟩, va_recv hKc hPc (ci := 7) (q0 := 0) rfl rfl, fun U hU hW => ⟨rfl, by rw [hU], by rw [hU]; exact hPc, va_K.moved hW.alike hKc, hDc.weaken (fun _ _ _ _ => trivial)⟩⟩ rfl rfl hl.1 rfl (lv_room (Nat.le_of_ble_eq_true rfl)) dL_law_134 ⟨by decide, by decide⟩) hS (fun q _ h => hFc q h) hFc (fun r_2 u t H1 locs ht hvm hw hB hz1 hk1 hS => ?_)
  obtain ⟨hP1, hK1, hD1⟩ := hB
  rw [ht] at hP1
  obtain ⟨hP, hD⟩ := va_join (wr := [(a2, .inr (0, [.int 0, ve, .int 0])), (a3, .inr (6, [.ref ab, .int 0])), (ab, .inl (cB, 300, .inl (fun _ => 0))), (h1, .inr (8, [.int 0, .int 0, .int 0, .ref b3, .ref b4, .int 0, .ref b6, .ref b7, .ref b8, .ref b9, .ref b10, .ref b11, .ref b12, .ref b13, .int 0, .ref b15, .ref b16, .ref b17, .ref b18, .ref b19, .ref b20, .ref b21, .int 0, .int 0, .int 0, .int 0, .long 0, .int (-1), .int 0, .int 0, .int 0, .int 0, .int 0, .int 0, .ref b34, .ref b35, .int 0, .ref b37, .ref b38, .ref b39, .ref b40, .ref b41])), (b3, .inl (cD, 30, .inl (fun _ => 0))), (b4, .inl (cC, 30, .inl (fun _ => 0))), (b21, .inl (cT, 300, .inl (fun _ => 0)))]) (w1 := []) hP hD [0, 1] [2, 3, 4, 5, 6, 7, 8] rfl rfl (by decide) (by decide) hk1 hFc hP1 hD1
  generalize H1 = H at hP hS ⊢
  have hP : va_P (dC, dI) vwCl [(a2, .inr (0, [.int 0, ve, .int 0])), (a3, .inr (6, [.ref ab, .int 0])), (ab, .inl (cB, 300, .inl (fun _ => 0))), (h1, .inr (8, [.int 0, .int 0, .int 0, .ref b3, .ref b4, .int 0, .ref b6, .ref b7, .ref b8, .ref b9, .ref b10, .ref b11, .ref b12, .ref b13, .int 0, .ref b15, .ref b16, .ref b17, .ref b18, .ref b19, .ref b20, .ref b21, .int 0, .int 0, .int 0, .int 0, .long 0, .int (-1), .int 0, .int 0, .int 0, .int 0, .int 0, .int 0, .ref b34, .ref b35, .int 0, .ref b37, .ref b38, .ref b39, .ref b40, .ref b41])), (b3, .inl (cD, 30, .inl (fun _ => 0))), (b4, .inl (cC, 30, .inl (fun _ => 0))), (b21, .inl (cT, 300, .inl (fun _ => 0)))] H := hP
  have hD : va_D A [(a2, .inr (0, [.int 0, ve, .int 0])), (a3, .inr (6, [.ref ab, .int 0])), (ab, .inl (cB, 300, .inl (fun _ => 0))), (h1, .inr (8, [.int 0, .int 0, .int 0, .ref b3, .ref b4, .int 0, .ref b6, .ref b7, .ref b8, .ref b9, .ref b10, .ref b11, .ref b12, .ref b13, .int 0, .ref b15, .ref b16, .ref b17, .ref b18, .ref b19, .ref b20, .ref b21, .int 0, .int 0, .int 0, .int 0, .long 0, .int (-1), .int 0, .int 0, .int 0, .int 0, .int 0, .int 0, .ref b34, .ref b35, .int 0, .ref b37, .ref b38, .ref b39, .ref b40, .ref b41])), (b3, .inl (cD, 30, .inl (fun _ => 0))), (b4, .inl (cC, 30, .inl (fun _ => 0))), (b21, .inl (cT, 300, .inl (fun _ => 0)))] := hD
  obtain rfl : r_2 = (if (xs (Int32.toNatClampNeg 1)) < 0 ∨ 1000 ≤ (xs (Int32.toNatClampNeg 1)) then (-1) else 0) := hw
  refine lv_aload_n hx hb dL_law_137 rfl (lv_at hl 1 rfl) ?_
  refine lv_aload_n hx hb dL_law_138 rfl (lv_at hl 3 rfl) ?_
  refine lv_iload_n hx hb dL_law_139 rfl (lv_at hl 0 rfl) ?_
  refine lv_iconst (v := 1) hx hb dL_law_140 (by decide) ?_
  refine lv_iadd hx hb dL_law_141 ?_
  refine lv_topi (fun x_3 ex_3 => ?_)
  obtain rfl : x_3 = 1 := by rw [ex_3]; decide
  refine va_sld hx hb hX hbl hbA hS (show vp_in (nI 1) 6 from vp_in_nI (by decide) (by decide)) dL_law_142 ?_
  have hPc := hP.sub (ws' := [(h1, .inr (8, [.int 0, .int 0, .int 0, .ref b3, .ref b4, .int 0, .ref b6, .ref b7, .ref b8, .ref b9, .ref b10, .ref b11, .ref b12, .ref b13, .int 0, .ref b15, .ref b16, .ref b17, .ref b18, .ref b19, .ref b20, .ref b21, .int 0, .int 0, .int 0, .int 0, .long 0, .int (-1), .int 0, .int 0, .int 0, .int 0, .int 0, .int 0, .ref b34, .ref b35, .int 0, .ref b37, .ref b38, .ref b39, .ref b40, .ref b41])), (b3, .inl (cD, 30, .inl (fun _ => 0))), (b4, .inl (cC, 30, .inl (fun _ => 0)))]) [3, 4, 5] rfl
  have hDc := hD.sub (ws' := [(h1, .inr (8, [.int 0, .int 0, .int 0, .ref b3, .ref b4, .int 0, .ref b6, .ref b7, .ref b8, .ref b9, .ref b10, .ref b11, .ref b12, .ref b13, .int 0, .ref b15, .ref b16, .ref b17, .ref b18, .ref b19, .ref b20, .ref b21, .int 0, .int 0, .int 0, .int 0, .long 0, .int (-1), .int 0, .int 0, .int 0, .int 0, .int 0, .int 0, .ref b34, .ref b35, .int 0, .ref b37, .ref b38, .ref b39, .ref b40, .ref b41])), (b3, .inl (cD, 30, .inl (fun _ => 0))), (b4, .inl (cC, 30, .inl (fun _ => 0)))]) [3, 4, 5] (by decide) rfl
  have hKc := hK.sub (tys' := [(cD, .int), (cC, .int)]) [2, 3] rfl
  have hFc := va_free (wc := [(h1, .inr (8, [.int 0, .int 0, .int 0, .ref b3, .ref b4, .int 0, .ref b6, .ref b7, .ref b8, .ref b9, .ref b10, .ref b11, .ref b12, .ref b13, .int 0, .ref b15, .ref b16, .ref b17, .ref b18, .ref b19, .ref b20, .ref b21, .int 0, .int 0, .int 0, .int 0, .long 0, .int (-1), .int 0, .int 0, .int 0, .int 0, .int 0, .int 0, .ref b34, .ref b35, .int 0, .ref b37, .ref b38, .ref b39, .ref b40, .ref b41])), (b3, .inl (cD, 30, .inl (fun _ => 0))), (b4, .inl (cC, 30, .inl (fun _ => 0)))]) hD hS hA [3, 4, 5] rfl
  refine va_calli (va_runV (As := [.int (xs (Int32.toNatClampNeg 1))]) (rest := [.int (if (xs (Int32.toNatClampNeg 1)) < 0 ∨ 1000 ≤ (xs (Int32.toNatClampNeg 1)) then (-1) else 0)]) ⟨hx, hb, hml, hown, hts⟩ (c_X7_meeting l dC dI _ h1 b3 b4 b6 b7 b8 b9 b10 b11 b12 b13 b15 b16 b17 b18 b19 b20 b21 b34 b35 b37 b38 b39 b40 b41 (xs (Int32.toNatClampNeg 1)) cD cC (fun _ => 0) (fun _ => 0)) (cwV 1 hts gl_X7_meeting rfl rfl rfl (by decide +kernel) ⟨Nat.le_of_ble_eq_true rfl, Nat.le_of_ble_eq_true rfl⟩) ⟨fun a U g mk q => by obtain ⟨q0, q1, qP, qK, qD⟩ := q; exact ⟨q0, q1, qP, va_K.moved (u := U) (U := U.calling g mk a) (Vm.Alike.refl U.vm) qK, qD⟩, va_recv hKc hPc (ci := 8) (q0 := 0) rfl rfl, fun U hU hW => ⟨rfl, by rw [hU], by rw [hU]; exact hPc, va_K.moved hW.alike hKc, hDc.weaken (fun _ _ _ _ => trivial)⟩⟩ rfl rfl hl.1 rfl (lv_room (Nat.le_of_ble_eq_true rfl)) dL_law_143 ⟨by decide, by decide⟩) hS (fun q _ h => hFc q h) hFc (fun r_4 u t H1 locs ht hvm hw hB hz1 hk1 hS => ?_)
  obtain ⟨hP1, hK1, hD1⟩ := hB
  rw [ht] at hP1
  obtain ⟨hP, hD⟩ := va_join (wr := [(a2, .inr (0, [.int 0, ve, .int 0])), (a3, .inr (6, [.ref ab, .int 0])), (ab, .inl (cB, 300, .inl (fun _ => 0))), (b21, .inl (cT, 300, .inl (fun _ => 0)))]) (w1 := []) hP hD [3, 4, 5] [0, 1, 2, 6] rfl rfl (by decide) (by decide) hk1 hFc hP1 hD1
  generalize H1 = H at hP hS ⊢
  have hP : va_P (dC, dI) vwCl [(a2, .inr (0, [.int 0, ve, .int 0])), (a3, .inr (6, [.ref ab, .int 0])), (ab, .inl (cB, 300, .inl (fun _ => 0))), (b21, .inl (cT, 300, .inl (fun _ => 0)))] H := hP
  have hD : va_D A [(a2, .inr (0, [.int 0, ve, .int 0])), (a3, .inr (6, [.ref ab, .int 0])), (ab, .inl (cB, 300, .inl (fun _ => 0))), (b21, .inl (cT, 300, .inl (fun _ => 0)))] := hD
  obtain rfl : r_4 = (if (xs (Int32.toNatClampNeg 1)) < 0 ∨ 1000 ≤ (xs (Int32.toNatClampNeg 1)) then (-1) else 0) := hw
  refine lv_icmp_eq (tgt := 768) hx hb dL_law_146 (by decide) (fun c_5 => ?_) (fun c_5 => ?_)
  · exact lc_end (dC := dC) (dI := dI) C0 hAe hS hl
  · exact absurd rfl c_5
set_option maxRecDepth 20000 in
theorem gl_X6_feed : GoodIn lw_tbl (wsV RL 18 RX6 yX6_feed wp_X6_feed) := goodIn_app (goodIn_r _ [235, 236, 237, 48] (by decide +kernel) (by decide +kernel)) gi_X6_feed
set_option maxRecDepth 20000 in
theorem gl_X7_feed : GoodIn lw_tbl (wsV RL 22 RX7 yX7_feed wp_X7_feed) := goodIn_app (goodIn_r _ [813, 814, 815, 57] (by decide +kernel) (by decide +kernel)) gi_X7_feed
set_option maxHeartbeats 4000000 in
set_option maxRecDepth 100000 in
/-- the law, case 1 -/
theorem lc_1 {p : Program} {l : Launch} {e : Env} {s : State} {m : MethodId} {below : List Frame} {meth : Method} {c : Code} {dC : Nat → ClassId} {dI : Nat → Nat → Nat} {b : Nat} {xs : Nat → Int32} {A : Nat → Prop} {H : Heap} {locs : List Loc} {ls : Array Slot} (C0 : lw_At p s m meth c b 6 xs) (hAe : A = fun q : Nat => s.heap.size ≤ q) {h0 a0 a1 a2 a3 a4 a5 a6 ab h1 b3 b4 b6 b7 b8 b9 b10 b11 b12 b13 b15 b16 b17 b18 b19 b20 b21 b34 b35 b37 b38 b39 b40 b41 : Nat} {ve : Value} {cA cB cD cC cT : ClassId} (hK : va_K (dC, dI) vwCl [(cA, .int), (cB, .int), (cD, .int), (cC, .int), (cT, .int)] s) (hP : va_P (dC, dI) vwCl [(h0, .inr (7, [.ref a0, .ref a1, .ref a2, .ref a3, .ref a4, .ref a5, .ref a6, .int 0, .int (-1), .int (-1), .int 0])), (a0, .inl (cA, 30, .inl (fun _ => 0))), (a2, .inr (0, [.int 0, ve, .int 0])), (a3, .inr (6, [.ref ab, .int 0])), (ab, .inl (cB, 300, .inl (fun _ => 0))), (h1, .inr (8, [.int 0, .int 0, .int 0, .ref b3, .ref b4, .int 0, .ref b6, .ref b7, .ref b8, .ref b9, .ref b10, .ref b11, .ref b12, .ref b13, .int 0, .ref b15, .ref b16, .ref b17, .ref b18, .ref b19, .ref b20, .ref b21, .int 0, .int 0, .int 0, .int 0, .long 0, .int (-1), .int 0, .int 0, .int 0, .int 0, .int 0, .int 0, .ref b34, .ref b35, .int 0, .ref b37, .ref b38, .ref b39, .ref b40, .ref b41])), (b3, .inl (cD, 30, .inl (fun _ => 0))), (b4, .inl (cC, 30, .inl (fun _ => 0))), (b21, .inl (cT, 300, .inl (fun _ => 0)))] H) (hD : va_D A [(h0, .inr (7, [.ref a0, .ref a1, .ref a2, .ref a3, .ref a4, .ref a5, .ref a6, .int 0, .int (-1), .int (-1), .int 0])), (a0, .inl (cA, 30, .inl (fun _ => 0))), (a2, .inr (0, [.int 0, ve, .int 0])), (a3, .inr (6, [.ref ab, .int 0])), (ab, .inl (cB, 300, .inl (fun _ => 0))), (h1, .inr (8, [.int 0, .int 0, .int 0, .ref b3, .ref b4, .int 0, .ref b6, .ref b7, .ref b8, .ref b9, .ref b10, .ref b11, .ref b12, .ref b13, .int 0, .ref b15, .ref b16, .ref b17, .ref b18, .ref b19, .ref b20, .ref b21, .int 0, .int 0, .int 0, .int 0, .long 0, .int (-1), .int 0, .int 0, .int 0, .int 0, .int 0, .int 0, .ref b34, .ref b35, .int 0, .ref b37, .ref b38, .ref b39, .ref b40, .ref b41])), (b3, .inl (cD, 30, .inl (fun _ => 0))), (b4, .inl (cC, 30, .inl (fun _ => 0))), (b21, .inl (cT, 300, .inl (fun _ => 0)))]) (hS : va_S A s.heap H locs) (hl : lv_has ls 4 [(3, .int 0), (2, .ref h1), (1, .ref h0), (0, .ref b)]) : W p l e room_1 s m #[Value.ref b] below meth c H locs 43 9030 (lw_Z below #[Value.ref b] s) (F0 m 151 ls []) := by
  obtain ⟨hx, hb, hr, hml, hown, hts0, hX, hbl, hlocks, hgv⟩ := id C0
  have hts : ∀ w ∈ lw_tbl, w.before #[Value.ref b] s = true := hts0
  have hA : ∀ q : Nat, s.heap.size ≤ q → A q := fun q h => by rw [hAe]; exact h
  have hbA : ¬ A b := by rw [hAe]; exact Nat.not_le.mpr hbl
  refine lv_aload_n hx hb dL_law_151 rfl (lv_at hl 2 rfl) ?_
  refine lv_aload_n hx hb dL_law_152 rfl (lv_at hl 3 rfl) ?_
  refine lv_iload_n hx hb dL_law_153 rfl (lv_at hl 0 rfl) ?_
  refine lv_iconst (v := 1) hx hb dL_law_154 (by decide) ?_
  refine lv_iadd hx hb dL_law_155 ?_
  refine lv_topi (fun x_1 ex_1 => ?_)
  obtain rfl : x_1 = 1 := by rw [ex_1]; decide
  refine va_sld hx hb hX hbl hbA hS (show vp_in (nI 1) 6 from vp_in_nI (by decide) (by decide)) dL_law_156 ?_
  refine lv_aload_n hx hb dL_law_157 rfl (lv_at hl 3 rfl) ?_
  refine lv_iload_n hx hb dL_law_158 rfl (lv_at hl 0 rfl) ?_
  refine lv_iconst (v := 2) hx hb dL_law_159 (by decide) ?_
  refine lv_iadd hx hb dL_law_160 ?_
  refine lv_topi (fun x_2 ex_2 => ?_)
  obtain rfl : x_2 = 2 := by rw [ex_2]; decide
  refine va_sld hx hb hX hbl hbA hS (show vp_in (nI 2) 6 from vp_in_nI (by decide) (by decide)) dL_law_161 ?_
  refine lv_aload_n hx hb dL_law_162 rfl (lv_at hl 3 rfl) ?_
  refine lv_iload_n hx hb dL_law_163 rfl (lv_at hl 0 rfl) ?_
  refine lv_iconst (v := 3) hx hb dL_law_164 (by decide) ?_
  refine lv_iadd hx hb dL_law_165 ?_
  refine lv_topi (fun x_3 ex_3 => ?_)
  obtain rfl : x_3 = 3 := by rw [ex_3]; decide
  refine va_sld hx hb hX hbl hbA hS (show vp_in (nI 3) 6 from vp_in_nI (by decide) (by decide)) dL_law_166 ?_
  refine lv_aload_n hx hb dL_law_167 rfl (lv_at hl 3 rfl) ?_
  refine lv_iload_n hx hb dL_law_168 rfl (lv_at hl 0 rfl) ?_
  refine lv_iconst (v := 4) hx hb dL_law_169 (by decide) ?_
  refine lv_iadd hx hb dL_law_170 ?_
  refine lv_topi (fun x_4 ex_4 => ?_)
  obtain rfl : x_4 = 4 := by rw [ex_4]; decide
  refine va_sld hx hb hX hbl hbA hS (show vp_in (nI 4) 6 from vp_in_nI (by decide) (by decide)) dL_law_171 ?_
  refine lv_aload_n hx hb dL_law_172 rfl (lv_at hl 3 rfl) ?_
  refine lv_iload_n hx hb dL_law_173 rfl (lv_at hl 0 rfl) ?_
  refine lv_iconst (v := 5) hx hb dL_law_174 (by decide) ?_
  refine lv_iadd hx hb dL_law_175 ?_
  refine lv_topi (fun x_5 ex_5 => ?_)
  obtain rfl : x_5 = 5 := by rw [ex_5]; decide
  refine va_sld hx hb hX hbl hbA hS (show vp_in (nI 5) 6 from vp_in_nI (by decide) (by decide)) dL_law_176 ?_
  have hPc := hP.sub (ws' := [(h0, .inr (7, [.ref a0, .ref a1, .ref a2, .ref a3, .ref a4, .ref a5, .ref a6, .int 0, .int (-1), .int (-1), .int 0])), (a3, .inr (6, [.ref ab, .int 0])), (ab, .inl (cB, 300, .inl (fun _ => 0)))]) [0, 3, 4] rfl
  have hDc := hD.sub (ws' := [(h0, .inr (7, [.ref a0, .ref a1, .ref a2, .ref a3, .ref a4, .ref a5, .ref a6, .int 0, .int (-1), .int (-1), .int 0])), (a3, .inr (6, [.ref ab, .int 0])), (ab, .inl (cB, 300, .inl (fun _ => 0)))]) [0, 3, 4] (by decide) rfl
  have hKc := hK.sub (tys' := [(cB, .int)]) [1] rfl
  have hFc := va_free (wc := [(h0, .inr (7, [.ref a0, .ref a1, .ref a2, .ref a3, .ref a4, .ref a5, .ref a6, .int 0, .int (-1), .int (-1), .int 0])), (a3, .inr (6, [.ref ab, .int 0])), (ab, .inl (cB, 300, .inl (fun _ => 0)))]) hD hS hA [0, 3, 4] rfl
  refine va_calli (va_runV (As := [.int (xs (Int32.toNatClampNeg 1)), .int (xs (Int32.toNatClampNeg 2)), .int (xs (Int32.toNatClampNeg 3)), .int (xs (Int32.toNatClampNeg 4)), .int (xs (Int32.toNatClampNeg 5))]) (rest := []) ⟨hx, hb, hml, hown, hts⟩ (c_X6_feed l dC dI _ h0 a0 a1 a2 a3 a4 a5 a6 (xs (Int32.toNatClampNeg 1)) (xs (Int32.toNatClampNeg 2)) (xs (Int32.toNatClampNeg 3)) (xs (Int32.toNatClampNeg 4)) (xs (Int32.toNatClampNeg 5)) ab cB (fun _ => 0)) (cwV 5 hts gl_X6_feed rfl rfl rfl (by decide +kernel) ⟨Nat.le_of_ble_eq_true rfl, Nat.le_of_ble_eq_true rfl⟩) ⟨fun a U g mk q => by obtain ⟨q0, q1, qP, qK, qD⟩ := q; exact ⟨q0, q1, qP, va_K.moved (u := U) (U := U.calling g mk a) (Vm.Alike.refl U.vm) qK, qD⟩, va_recv hKc hPc (ci := 7) (q0 := 0) rfl rfl, fun U hU hW => ⟨rfl, by rw [hU], by rw [hU]; exact hPc, va_K.moved hW.alike hKc, hDc.weaken (fun _ _ _ _ => trivial)⟩⟩ rfl rfl hl.1 rfl (lv_room (Nat.le_of_ble_eq_true rfl)) dL_law_177 ⟨by decide, by decide⟩) hS (fun q _ h => hFc q h) hFc (fun r_6 u t H1 locs ht hvm hw hB hz1 hk1 hS => ?_)
  obtain ⟨hP1, hK1, hD1⟩ := hB
  rw [ht] at hP1
  obtain ⟨hP, hD⟩ := va_join (wr := [(a0, .inl (cA, 30, .inl (fun _ => 0))), (a2, .inr (0, [.int 0, ve, .int 0])), (h1, .inr (8, [.int 0, .int 0, .int 0, .ref b3, .ref b4, .int 0, .ref b6, .ref b7, .ref b8, .ref b9, .ref b10, .ref b11, .ref b12, .ref b13, .int 0, .ref b15, .ref b16, .ref b17, .ref b18, .ref b19, .ref b20, .ref b21, .int 0, .int 0, .int 0, .int 0, .long 0, .int (-1), .int 0, .int 0, .int 0, .int 0, .int 0, .int 0, .ref b34, .ref b35, .int 0, .ref b37, .ref b38, .ref b39, .ref b40, .ref b41])), (b3, .inl (cD, 30, .inl (fun _ => 0))), (b4, .inl (cC, 30, .inl (fun _ => 0))), (b21, .inl (cT, 300, .inl (fun _ => 0)))]) (w1 := []) hP hD [0, 3, 4] [1, 2, 5, 6, 7, 8] rfl rfl (by decide) (by decide) hk1 hFc hP1 hD1
  generalize H1 = H at hP hS ⊢
  have hP : va_P (dC, dI) vwCl [(a0, .inl (cA, 30, .inl (fun _ => 0))), (a2, .inr (0, [.int 0, ve, .int 0])), (h1, .inr (8, [.int 0, .int 0, .int 0, .ref b3, .ref b4, .int 0, .ref b6, .ref b7, .ref b8, .ref b9, .ref b10, .ref b11, .ref b12, .ref b13, .int 0, .ref b15, .ref b16, .ref b17, .ref b18, .ref b19, .ref b20, .ref b21, .int 0, .int 0, .int 0, .int 0, .long 0, .int (-1), .int 0, .int 0, .int 0, .int 0, .int 0, .int 0, .ref b34, .ref b35, .int 0, .ref b37, .ref b38, .ref b39, .ref b40, .ref b41])), (b3, .inl (cD, 30, .inl (fun _ => 0))), (b4, .inl (cC, 30, .inl (fun _ => 0))), (b21, .inl (cT, 300, .inl (fun _ => 0)))] H := hP
  have hD : va_D A [(a0, .inl (cA, 30, .inl (fun _ => 0))), (a2, .inr (0, [.int 0, ve, .int 0])), (h1, .inr (8, [.int 0, .int 0, .int 0, .ref b3, .ref b4, .int 0, .ref b6, .ref b7, .ref b8, .ref b9, .ref b10, .ref b11, .ref b12, .ref b13, .int 0, .ref b15, .ref b16, .ref b17, .ref b18, .ref b19, .ref b20, .ref b21, .int 0, .int 0, .int 0, .int 0, .long 0, .int (-1), .int 0, .int 0, .int 0, .int 0, .int 0, .int 0, .ref b34, .ref b35, .int 0, .ref b37, .ref b38, .ref b39, .ref b40, .ref b41])), (b3, .inl (cD, 30, .inl (fun _ => 0))), (b4, .inl (cC, 30, .inl (fun _ => 0))), (b21, .inl (cT, 300, .inl (fun _ => 0)))] := hD
  obtain rfl : r_6 = 20 := hw
  refine lv_aload_n hx hb dL_law_180 rfl (lv_at hl 1 rfl) ?_
  refine lv_aload_n hx hb dL_law_181 rfl (lv_at hl 3 rfl) ?_
  refine lv_iload_n hx hb dL_law_182 rfl (lv_at hl 0 rfl) ?_
  refine lv_iconst (v := 1) hx hb dL_law_183 (by decide) ?_
  refine lv_iadd hx hb dL_law_184 ?_
  refine lv_topi (fun x_7 ex_7 => ?_)
  obtain rfl : x_7 = 1 := by rw [ex_7]; decide
  refine va_sld hx hb hX hbl hbA hS (show vp_in (nI 1) 6 from vp_in_nI (by decide) (by decide)) dL_law_185 ?_
  refine lv_aload_n hx hb dL_law_186 rfl (lv_at hl 3 rfl) ?_
  refine lv_iload_n hx hb dL_law_187 rfl (lv_at hl 0 rfl) ?_
  refine lv_iconst (v := 2) hx hb dL_law_188 (by decide) ?_
  refine lv_iadd hx hb dL_law_189 ?_
  refine lv_topi (fun x_8 ex_8 => ?_)
  obtain rfl : x_8 = 2 := by rw [ex_8]; decide
  refine va_sld hx hb hX hbl hbA hS (show vp_in (nI 2) 6 from vp_in_nI (by decide) (by decide)) dL_law_190 ?_
  refine lv_aload_n hx hb dL_law_191 rfl (lv_at hl 3 rfl) ?_
  refine lv_iload_n hx hb dL_law_192 rfl (lv_at hl 0 rfl) ?_
  refine lv_iconst (v := 3) hx hb dL_law_193 (by decide) ?_
  refine lv_iadd hx hb dL_law_194 ?_
  refine lv_topi (fun x_9 ex_9 => ?_)
  obtain rfl : x_9 = 3 := by rw [ex_9]; decide
  refine va_sld hx hb hX hbl hbA hS (show vp_in (nI 3) 6 from vp_in_nI (by decide) (by decide)) dL_law_195 ?_
  refine lv_aload_n hx hb dL_law_196 rfl (lv_at hl 3 rfl) ?_
  refine lv_iload_n hx hb dL_law_197 rfl (lv_at hl 0 rfl) ?_
  refine lv_iconst (v := 4) hx hb dL_law_198 (by decide) ?_
  refine lv_iadd hx hb dL_law_199 ?_
  refine lv_topi (fun x_10 ex_10 => ?_)
  obtain rfl : x_10 = 4 := by rw [ex_10]; decide
  refine va_sld hx hb hX hbl hbA hS (show vp_in (nI 4) 6 from vp_in_nI (by decide) (by decide)) dL_law_200 ?_
  refine lv_aload_n hx hb dL_law_201 rfl (lv_at hl 3 rfl) ?_
  refine lv_iload_n hx hb dL_law_202 rfl (lv_at hl 0 rfl) ?_
  refine lv_iconst (v := 5) hx hb dL_law_203 (by decide) ?_
  refine lv_iadd hx hb dL_law_204 ?_
  refine lv_topi (fun x_11 ex_11 => ?_)
  obtain rfl : x_11 = 5 := by rw [ex_11]; decide
  refine va_sld hx hb hX hbl hbA hS (show vp_in (nI 5) 6 from vp_in_nI (by decide) (by decide)) dL_law_205 ?_
  have hPc := hP.sub (ws' := [(h1, .inr (8, [.int 0, .int 0, .int 0, .ref b3, .ref b4, .int 0, .ref b6, .ref b7, .ref b8, .ref b9, .ref b10, .ref b11, .ref b12, .ref b13, .int 0, .ref b15, .ref b16, .ref b17, .ref b18, .ref b19, .ref b20, .ref b21, .int 0, .int 0, .int 0, .int 0, .long 0, .int (-1), .int 0, .int 0, .int 0, .int 0, .int 0, .int 0, .ref b34, .ref b35, .int 0, .ref b37, .ref b38, .ref b39, .ref b40, .ref b41])), (b21, .inl (cT, 300, .inl (fun _ => 0)))]) [2, 5] rfl
  have hDc := hD.sub (ws' := [(h1, .inr (8, [.int 0, .int 0, .int 0, .ref b3, .ref b4, .int 0, .ref b6, .ref b7, .ref b8, .ref b9, .ref b10, .ref b11, .ref b12, .ref b13, .int 0, .ref b15, .ref b16, .ref b17, .ref b18, .ref b19, .ref b20, .ref b21, .int 0, .int 0, .int 0, .int 0, .long 0, .int (-1), .int 0, .int 0, .int 0, .int 0, .int 0, .int 0, .ref b34, .ref b35, .int 0, .ref b37, .ref b38, .ref b39, .ref b40, .ref b41])), (b21, .inl (cT, 300, .inl (fun _ => 0)))]) [2, 5] (by decide) rfl
  have hKc := hK.sub (tys' := [(cT, .int)]) [4] rfl
  have hFc := va_free (wc := [(h1, .inr (8, [.int 0, .int 0, .int 0, .ref b3, .ref b4, .int 0, .ref b6, .ref b7, .ref b8, .ref b9, .ref b10, .ref b11, .ref b12, .ref b13, .int 0, .ref b15, .ref b16, .ref b17, .ref b18, .ref b19, .ref b20, .ref b21, .int 0, .int 0, .int 0, .int 0, .long 0, .int (-1), .int 0, .int 0, .int 0, .int 0, .int 0, .int 0, .ref b34, .ref b35, .int 0, .ref b37, .ref b38, .ref b39, .ref b40, .ref b41])), (b21, .inl (cT, 300, .inl (fun _ => 0)))]) hD hS hA [2, 5] rfl
  refine va_calli (va_runV (As := [.int (xs (Int32.toNatClampNeg 1)), .int (xs (Int32.toNatClampNeg 2)), .int (xs (Int32.toNatClampNeg 3)), .int (xs (Int32.toNatClampNeg 4)), .int (xs (Int32.toNatClampNeg 5))]) (rest := [.int 20]) ⟨hx, hb, hml, hown, hts⟩ (c_X7_feed l dC dI _ h1 b3 b4 b6 b7 b8 b9 b10 b11 b12 b13 b15 b16 b17 b18 b19 b20 b21 b34 b35 b37 b38 b39 b40 b41 (xs (Int32.toNatClampNeg 1)) (xs (Int32.toNatClampNeg 2)) (xs (Int32.toNatClampNeg 3)) (xs (Int32.toNatClampNeg 4)) (xs (Int32.toNatClampNeg 5)) cT (fun _ => 0)) (cwV 5 hts gl_X7_feed rfl rfl rfl (by decide +kernel) ⟨Nat.le_of_ble_eq_true rfl, Nat.le_of_ble_eq_true rfl⟩) ⟨fun a U g mk q => by obtain ⟨q0, q1, qP, qK, qD⟩ := q; exact ⟨q0, q1, qP, va_K.moved (u := U) (U := U.calling g mk a) (Vm.Alike.refl U.vm) qK, qD⟩, va_recv hKc hPc (ci := 8) (q0 := 0) rfl rfl, fun U hU hW => ⟨rfl, by rw [hU], by rw [hU]; exact hPc, va_K.moved hW.alike hKc, hDc.weaken (fun _ _ _ _ => trivial)⟩⟩ rfl rfl hl.1 rfl (lv_room (Nat.le_of_ble_eq_true rfl)) dL_law_206 ⟨by decide, by decide⟩) hS (fun q _ h => hFc q h) hFc (fun r_12 u t H1 locs ht hvm hw hB hz1 hk1 hS => ?_)
  obtain ⟨hP1, hK1, hD1⟩ := hB
  rw [ht] at hP1
  obtain ⟨hP, hD⟩ := va_join (wr := [(a0, .inl (cA, 30, .inl (fun _ => 0))), (a2, .inr (0, [.int 0, ve, .int 0])), (b3, .inl (cD, 30, .inl (fun _ => 0))), (b4, .inl (cC, 30, .inl (fun _ => 0)))]) (w1 := []) hP hD [2, 5] [0, 1, 3, 4] rfl rfl (by decide) (by decide) hk1 hFc hP1 hD1
  generalize H1 = H at hP hS ⊢
  have hP : va_P (dC, dI) vwCl [(a0, .inl (cA, 30, .inl (fun _ => 0))), (a2, .inr (0, [.int 0, ve, .int 0])), (b3, .inl (cD, 30, .inl (fun _ => 0))), (b4, .inl (cC, 30, .inl (fun _ => 0)))] H := hP
  have hD : va_D A [(a0, .inl (cA, 30, .inl (fun _ => 0))), (a2, .inr (0, [.int 0, ve, .int 0])), (b3, .inl (cD, 30, .inl (fun _ => 0))), (b4, .inl (cC, 30, .inl (fun _ => 0)))] := hD
  obtain rfl : r_12 = 20 := hw
  refine lv_icmp_eq (tgt := 768) hx hb dL_law_209 (by decide) (fun c_13 => ?_) (fun c_13 => ?_)
  · exact lc_end (dC := dC) (dI := dI) C0 hAe hS hl
  · exact absurd c_13 (by decide)
set_option maxRecDepth 20000 in
theorem gl_X6_end : GoodIn lw_tbl (wsV RL 23 RX6 yX6_end wp_X6_end) := goodIn_app (goodIn_r _ [243, 244, 245, 48] (by decide +kernel) (by decide +kernel)) gi_X6_end
set_option maxRecDepth 20000 in
theorem gl_X7_end : GoodIn lw_tbl (wsV RL 26 RX7 yX7_end wp_X7_end) := goodIn_app (goodIn_r _ [821, 822, 823, 57] (by decide +kernel) (by decide +kernel)) gi_X7_end
set_option maxHeartbeats 4000000 in
set_option maxRecDepth 100000 in
/-- the law, case 2 -/
theorem lc_2 {p : Program} {l : Launch} {e : Env} {s : State} {m : MethodId} {below : List Frame} {meth : Method} {c : Code} {dC : Nat → ClassId} {dI : Nat → Nat → Nat} {b : Nat} {xs : Nat → Int32} {A : Nat → Prop} {H : Heap} {locs : List Loc} {ls : Array Slot} (C0 : lw_At p s m meth c b 6 xs) (hAe : A = fun q : Nat => s.heap.size ≤ q) {h0 a0 a1 a2 a3 a4 a5 a6 ab h1 b3 b4 b6 b7 b8 b9 b10 b11 b12 b13 b15 b16 b17 b18 b19 b20 b21 b34 b35 b37 b38 b39 b40 b41 : Nat} {ve : Value} {cA cB cD cC cT : ClassId} (hK : va_K (dC, dI) vwCl [(cA, .int), (cB, .int), (cD, .int), (cC, .int), (cT, .int)] s) (hP : va_P (dC, dI) vwCl [(h0, .inr (7, [.ref a0, .ref a1, .ref a2, .ref a3, .ref a4, .ref a5, .ref a6, .int 0, .int (-1), .int (-1), .int 0])), (a0, .inl (cA, 30, .inl (fun _ => 0))), (a2, .inr (0, [.int 0, ve, .int 0])), (a3, .inr (6, [.ref ab, .int 0])), (ab, .inl (cB, 300, .inl (fun _ => 0))), (h1, .inr (8, [.int 0, .int 0, .int 0, .ref b3, .ref b4, .int 0, .ref b6, .ref b7, .ref b8, .ref b9, .ref b10, .ref b11, .ref b12, .ref b13, .int 0, .ref b15, .ref b16, .ref b17, .ref b18, .ref b19, .ref b20, .ref b21, .int 0, .int 0, .int 0, .int 0, .long 0, .int (-1), .int 0, .int 0, .int 0, .int 0, .int 0, .int 0, .ref b34, .ref b35, .int 0, .ref b37, .ref b38, .ref b39, .ref b40, .ref b41])), (b3, .inl (cD, 30, .inl (fun _ => 0))), (b4, .inl (cC, 30, .inl (fun _ => 0))), (b21, .inl (cT, 300, .inl (fun _ => 0)))] H) (hD : va_D A [(h0, .inr (7, [.ref a0, .ref a1, .ref a2, .ref a3, .ref a4, .ref a5, .ref a6, .int 0, .int (-1), .int (-1), .int 0])), (a0, .inl (cA, 30, .inl (fun _ => 0))), (a2, .inr (0, [.int 0, ve, .int 0])), (a3, .inr (6, [.ref ab, .int 0])), (ab, .inl (cB, 300, .inl (fun _ => 0))), (h1, .inr (8, [.int 0, .int 0, .int 0, .ref b3, .ref b4, .int 0, .ref b6, .ref b7, .ref b8, .ref b9, .ref b10, .ref b11, .ref b12, .ref b13, .int 0, .ref b15, .ref b16, .ref b17, .ref b18, .ref b19, .ref b20, .ref b21, .int 0, .int 0, .int 0, .int 0, .long 0, .int (-1), .int 0, .int 0, .int 0, .int 0, .int 0, .int 0, .ref b34, .ref b35, .int 0, .ref b37, .ref b38, .ref b39, .ref b40, .ref b41])), (b3, .inl (cD, 30, .inl (fun _ => 0))), (b4, .inl (cC, 30, .inl (fun _ => 0))), (b21, .inl (cT, 300, .inl (fun _ => 0)))]) (hS : va_S A s.heap H locs) (hl : lv_has ls 4 [(3, .int 0), (2, .ref h1), (1, .ref h0), (0, .ref b)]) : W p l e room_1 s m #[Value.ref b] below meth c H locs 43 9030 (lw_Z below #[Value.ref b] s) (F0 m 214 ls []) := by
  obtain ⟨hx, hb, hr, hml, hown, hts0, hX, hbl, hlocks, hgv⟩ := id C0
  have hts : ∀ w ∈ lw_tbl, w.before #[Value.ref b] s = true := hts0
  have hA : ∀ q : Nat, s.heap.size ≤ q → A q := fun q h => by rw [hAe]; exact h
  have hbA : ¬ A b := by rw [hAe]; exact Nat.not_le.mpr hbl
  refine lv_aload_n hx hb dL_law_214 rfl (lv_at hl 2 rfl) ?_
  refine lv_aload_n hx hb dL_law_215 rfl (lv_at hl 3 rfl) ?_
  refine lv_iload_n hx hb dL_law_216 rfl (lv_at hl 0 rfl) ?_
  refine lv_iconst (v := 1) hx hb dL_law_217 (by decide) ?_
  refine lv_iadd hx hb dL_law_218 ?_
  refine lv_topi (fun x_1 ex_1 => ?_)
  obtain rfl : x_1 = 1 := by rw [ex_1]; decide
  refine va_sld hx hb hX hbl hbA hS (show vp_in (nI 1) 6 from vp_in_nI (by decide) (by decide)) dL_law_219 ?_
  have hPc := hP.sub (ws' := [(h0, .inr (7, [.ref a0, .ref a1, .ref a2, .ref a3, .ref a4, .ref a5, .ref a6, .int 0, .int (-1), .int (-1), .int 0])), (a3, .inr (6, [.ref ab, .int 0]))]) [0, 3] rfl
  have hDc := hD.sub (ws' := [(h0, .inr (7, [.ref a0, .ref a1, .ref a2, .ref a3, .ref a4, .ref a5, .ref a6, .int 0, .int (-1), .int (-1), .int 0])), (a3, .inr (6, [.ref ab, .int 0]))]) [0, 3] (by decide) rfl
  have hKc := hK.sub (tys' := []) [] rfl
  have hFc := va_free (wc := [(h0, .inr (7, [.ref a0, .ref a1, .ref a2, .ref a3, .ref a4, .ref a5, .ref a6, .int 0, .int (-1), .int (-1), .int 0])), (a3, .inr (6, [.ref ab, .int 0]))]) hD hS hA [0, 3] rfl
  refine va_calli (va_runV (As := [.int (xs (Int32.toNatClampNeg 1))]) (rest := []) ⟨hx, hb, hml, hown, hts⟩ (c_X6_end l dC dI _ h0 a0 a1 a2 a3 a4 a5 a6 (xs (Int32.toNatClampNeg 1)) ab) (cwV 1 hts gl_X6_end rfl rfl rfl (by decide +kernel) ⟨Nat.le_of_ble_eq_true rfl, Nat.le_of_ble_eq_true rfl⟩) ⟨fun a U g mk q => by obtain ⟨q0, q1, qP, qK, qD⟩ := q; exact ⟨q0, q1, qP, va_K.moved (u := U) (U := U.calling g mk a) (Vm.Alike.refl U.vm) qK, qD⟩, va_recv hKc hPc (ci := 7) (q0 := 0) rfl rfl, fun U hU hW => ⟨rfl, by rw [hU], by rw [hU]; exact hPc, va_K.moved hW.alike hKc, hDc.weaken (fun _ _ _ _ => trivial)⟩⟩ rfl rfl hl.1 rfl (lv_room (Nat.le_of_ble_eq_true rfl)) dL_law_220 ⟨by decide, by decide⟩) hS (fun q _ h => hFc q h) hFc (fun r_2 u t H1 locs ht hvm hw hB hz1 hk1 hS => ?_)
  obtain ⟨hP1, hK1, hD1⟩ := hB
  rw [ht] at hP1
  obtain ⟨hP, hD⟩ := va_join (wr := [(a0, .inl (cA, 30, .inl (fun _ => 0))), (a2, .inr (0, [.int 0, ve, .int 0])), (ab, .inl (cB, 300, .inl (fun _ => 0))), (h1, .inr (8, [.int 0, .int 0, .int 0, .ref b3, .ref b4, .int 0, .ref b6, .ref b7, .ref b8, .ref b9, .ref b10, .ref b11, .ref b12, .ref b13, .int 0, .ref b15, .ref b16, .ref b17, .ref b18, .ref b19, .ref b20, .ref b21, .int 0, .int 0, .int 0, .int 0, .long 0, .int (-1), .int 0, .int 0, .int 0, .int 0, .int 0, .int 0, .ref b34, .ref b35, .int 0, .ref b37, .ref b38, .ref b39, .ref b40, .ref b41])), (b3, .inl (cD, 30, .inl (fun _ => 0))), (b4, .inl (cC, 30, .inl (fun _ => 0))), (b21, .inl (cT, 300, .inl (fun _ => 0)))]) (w1 := []) hP hD [0, 3] [1, 2, 4, 5, 6, 7, 8] rfl rfl (by decide) (by decide) hk1 hFc hP1 hD1
  generalize H1 = H at hP hS ⊢
  have hP : va_P (dC, dI) vwCl [(a0, .inl (cA, 30, .inl (fun _ => 0))), (a2, .inr (0, [.int 0, ve, .int 0])), (ab, .inl (cB, 300, .inl (fun _ => 0))), (h1, .inr (8, [.int 0, .int 0, .int 0, .ref b3, .ref b4, .int 0, .ref b6, .ref b7, .ref b8, .ref b9, .ref b10, .ref b11, .ref b12, .ref b13, .int 0, .ref b15, .ref b16, .ref b17, .ref b18, .ref b19, .ref b20, .ref b21, .int 0, .int 0, .int 0, .int 0, .long 0, .int (-1), .int 0, .int 0, .int 0, .int 0, .int 0, .int 0, .ref b34, .ref b35, .int 0, .ref b37, .ref b38, .ref b39, .ref b40, .ref b41])), (b3, .inl (cD, 30, .inl (fun _ => 0))), (b4, .inl (cC, 30, .inl (fun _ => 0))), (b21, .inl (cT, 300, .inl (fun _ => 0)))] H := hP
  have hD : va_D A [(a0, .inl (cA, 30, .inl (fun _ => 0))), (a2, .inr (0, [.int 0, ve, .int 0])), (ab, .inl (cB, 300, .inl (fun _ => 0))), (h1, .inr (8, [.int 0, .int 0, .int 0, .ref b3, .ref b4, .int 0, .ref b6, .ref b7, .ref b8, .ref b9, .ref b10, .ref b11, .ref b12, .ref b13, .int 0, .ref b15, .ref b16, .ref b17, .ref b18, .ref b19, .ref b20, .ref b21, .int 0, .int 0, .int 0, .int 0, .long 0, .int (-1), .int 0, .int 0, .int 0, .int 0, .int 0, .int 0, .ref b34, .ref b35, .int 0, .ref b37, .ref b38, .ref b39, .ref b40, .ref b41])), (b3, .inl (cD, 30, .inl (fun _ => 0))), (b4, .inl (cC, 30, .inl (fun _ => 0))), (b21, .inl (cT, 300, .inl (fun _ => 0)))] := hD
  obtain rfl : r_2 = (if (xs (Int32.toNatClampNeg 1)) = 0 then 0 else (-1)) := hw
  refine lv_aload_n hx hb dL_law_223 rfl (lv_at hl 1 rfl) ?_
  refine lv_aload_n hx hb dL_law_224 rfl (lv_at hl 3 rfl) ?_
  refine lv_iload_n hx hb dL_law_225 rfl (lv_at hl 0 rfl) ?_
  refine lv_iconst (v := 1) hx hb dL_law_226 (by decide) ?_
  refine lv_iadd hx hb dL_law_227 ?_
  refine lv_topi (fun x_3 ex_3 => ?_)
  obtain rfl : x_3 = 1 := by rw [ex_3]; decide
  refine va_sld hx hb hX hbl hbA hS (show vp_in (nI 1) 6 from vp_in_nI (by decide) (by decide)) dL_law_228 ?_
  have hPc := hP.sub (ws' := [(h1, .inr (8, [.int 0, .int 0, .int 0, .ref b3, .ref b4, .int 0, .ref b6, .ref b7, .ref b8, .ref b9, .ref b10, .ref b11, .ref b12, .ref b13, .int 0, .ref b15, .ref b16, .ref b17, .ref b18, .ref b19, .ref b20, .ref b21, .int 0, .int 0, .int 0, .int 0, .long 0, .int (-1), .int 0, .int 0, .int 0, .int 0, .int 0, .int 0, .ref b34, .ref b35, .int 0, .ref b37, .ref b38, .ref b39, .ref b40, .ref b41]))]) [3] rfl
  have hDc := hD.sub (ws' := [(h1, .inr (8, [.int 0, .int 0, .int 0, .ref b3, .ref b4, .int 0, .ref b6, .ref b7, .ref b8, .ref b9, .ref b10, .ref b11, .ref b12, .ref b13, .int 0, .ref b15, .ref b16, .ref b17, .ref b18, .ref b19, .ref b20, .ref b21, .int 0, .int 0, .int 0, .int 0, .long 0, .int (-1), .int 0, .int 0, .int 0, .int 0, .int 0, .int 0, .ref b34, .ref b35, .int 0, .ref b37, .ref b38, .ref b39, .ref b40, .ref b41]))]) [3] (by decide) rfl
  have hKc := hK.sub (tys' := []) [] rfl
  have hFc := va_free (wc := [(h1, .inr (8, [.int 0, .int 0, .int 0, .ref b3, .ref b4, .int 0, .ref b6, .ref b7, .ref b8, .ref b9, .ref b10, .ref b11, .ref b12, .ref b13, .int 0, .ref b15, .ref b16, .ref b17, .ref b18, .ref b19, .ref b20, .ref b21, .int 0, .int 0, .int 0, .int 0, .long 0, .int (-1), .int 0, .int 0, .int 0, .int 0, .int 0, .int 0, .ref b34, .ref b35, .int 0, .ref b37, .ref b38, .ref b39, .ref b40, .ref b41]))]) hD hS hA [3] rfl
  refine va_calli (va_runV (As := [.int (xs (Int32.toNatClampNeg 1))]) (rest := [.int (if (xs (Int32.toNatClampNeg 1)) = 0 then 0 else (-1))]) ⟨hx, hb, hml, hown, hts⟩ (c_X7_end l dC dI _ h1 b3 b4 b6 b7 b8 b9 b10 b11 b12 b13 b15 b16 b17 b18 b19 b20 b21 b34 b35 b37 b38 b39 b40 b41 (xs (Int32.toNatClampNeg 1))) (cwV 1 hts gl_X7_end rfl rfl rfl (by decide +kernel) ⟨Nat.le_of_ble_eq_true rfl, Nat.le_of_ble_eq_true rfl⟩) ⟨fun a U g mk q => by obtain ⟨q0, q1, qP, qK, qD⟩ := q; exact ⟨q0, q1, qP, va_K.moved (u := U) (U := U.calling g mk a) (Vm.Alike.refl U.vm) qK, qD⟩, va_recv hKc hPc (ci := 8) (q0 := 0) rfl rfl, fun U hU hW => ⟨rfl, by rw [hU], by rw [hU]; exact hPc, va_K.moved hW.alike hKc, hDc.weaken (fun _ _ _ _ => trivial)⟩⟩ rfl rfl hl.1 rfl (lv_room (Nat.le_of_ble_eq_true rfl)) dL_law_229 ⟨by decide, by decide⟩) hS (fun q _ h => hFc q h) hFc (fun r_4 u t H1 locs ht hvm hw hB hz1 hk1 hS => ?_)
  obtain ⟨hP1, hK1, hD1⟩ := hB
  rw [ht] at hP1
  obtain ⟨hP, hD⟩ := va_join (wr := [(a0, .inl (cA, 30, .inl (fun _ => 0))), (a2, .inr (0, [.int 0, ve, .int 0])), (ab, .inl (cB, 300, .inl (fun _ => 0))), (b3, .inl (cD, 30, .inl (fun _ => 0))), (b4, .inl (cC, 30, .inl (fun _ => 0))), (b21, .inl (cT, 300, .inl (fun _ => 0)))]) (w1 := []) hP hD [3] [0, 1, 2, 4, 5, 6] rfl rfl (by decide) (by decide) hk1 hFc hP1 hD1
  generalize H1 = H at hP hS ⊢
  have hP : va_P (dC, dI) vwCl [(a0, .inl (cA, 30, .inl (fun _ => 0))), (a2, .inr (0, [.int 0, ve, .int 0])), (ab, .inl (cB, 300, .inl (fun _ => 0))), (b3, .inl (cD, 30, .inl (fun _ => 0))), (b4, .inl (cC, 30, .inl (fun _ => 0))), (b21, .inl (cT, 300, .inl (fun _ => 0)))] H := hP
  have hD : va_D A [(a0, .inl (cA, 30, .inl (fun _ => 0))), (a2, .inr (0, [.int 0, ve, .int 0])), (ab, .inl (cB, 300, .inl (fun _ => 0))), (b3, .inl (cD, 30, .inl (fun _ => 0))), (b4, .inl (cC, 30, .inl (fun _ => 0))), (b21, .inl (cT, 300, .inl (fun _ => 0)))] := hD
  obtain rfl : r_4 = (if (xs (Int32.toNatClampNeg 1)) = 0 then 0 else (-1)) := hw
  refine lv_icmp_eq (tgt := 768) hx hb dL_law_232 (by decide) (fun c_5 => ?_) (fun c_5 => ?_)
  · exact lc_end (dC := dC) (dI := dI) C0 hAe hS hl
  · exact absurd rfl c_5
set_option maxRecDepth 20000 in
theorem gl_X6_record : GoodIn lw_tbl (wsV RL 27 RX6 yX6_record wp_X6_record) := goodIn_app (goodIn_r _ [247, 248, 249, 48] (by decide +kernel) (by decide +kernel)) gi_X6_record
set_option maxRecDepth 20000 in
theorem gl_X7_record : GoodIn lw_tbl (wsV RL 30 RX7 yX7_record wp_X7_record) := goodIn_app (goodIn_r _ [825, 826, 827, 57] (by decide +kernel) (by decide +kernel)) gi_X7_record
set_option maxHeartbeats 4000000 in
set_option maxRecDepth 100000 in
/-- the law, case 3 -/
theorem lc_3 {p : Program} {l : Launch} {e : Env} {s : State} {m : MethodId} {below : List Frame} {meth : Method} {c : Code} {dC : Nat → ClassId} {dI : Nat → Nat → Nat} {b : Nat} {xs : Nat → Int32} {A : Nat → Prop} {H : Heap} {locs : List Loc} {ls : Array Slot} (C0 : lw_At p s m meth c b 6 xs) (hAe : A = fun q : Nat => s.heap.size ≤ q) {h0 a0 a1 a2 a3 a4 a5 a6 ab h1 b3 b4 b6 b7 b8 b9 b10 b11 b12 b13 b15 b16 b17 b18 b19 b20 b21 b34 b35 b37 b38 b39 b40 b41 : Nat} {ve : Value} {cA cB cD cC cT : ClassId} (hK : va_K (dC, dI) vwCl [(cA, .int), (cB, .int), (cD, .int), (cC, .int), (cT, .int)] s) (hP : va_P (dC, dI) vwCl [(h0, .inr (7, [.ref a0, .ref a1, .ref a2, .ref a3, .ref a4, .ref a5, .ref a6, .int 0, .int (-1), .int (-1), .int 0])), (a0, .inl (cA, 30, .inl (fun _ => 0))), (a2, .inr (0, [.int 0, ve, .int 0])), (a3, .inr (6, [.ref ab, .int 0])), (ab, .inl (cB, 300, .inl (fun _ => 0))), (h1, .inr (8, [.int 0, .int 0, .int 0, .ref b3, .ref b4, .int 0, .ref b6, .ref b7, .ref b8, .ref b9, .ref b10, .ref b11, .ref b12, .ref b13, .int 0, .ref b15, .ref b16, .ref b17, .ref b18, .ref b19, .ref b20, .ref b21, .int 0, .int 0, .int 0, .int 0, .long 0, .int (-1), .int 0, .int 0, .int 0, .int 0, .int 0, .int 0, .ref b34, .ref b35, .int 0, .ref b37, .ref b38, .ref b39, .ref b40, .ref b41])), (b3, .inl (cD, 30, .inl (fun _ => 0))), (b4, .inl (cC, 30, .inl (fun _ => 0))), (b21, .inl (cT, 300, .inl (fun _ => 0)))] H) (hD : va_D A [(h0, .inr (7, [.ref a0, .ref a1, .ref a2, .ref a3, .ref a4, .ref a5, .ref a6, .int 0, .int (-1), .int (-1), .int 0])), (a0, .inl (cA, 30, .inl (fun _ => 0))), (a2, .inr (0, [.int 0, ve, .int 0])), (a3, .inr (6, [.ref ab, .int 0])), (ab, .inl (cB, 300, .inl (fun _ => 0))), (h1, .inr (8, [.int 0, .int 0, .int 0, .ref b3, .ref b4, .int 0, .ref b6, .ref b7, .ref b8, .ref b9, .ref b10, .ref b11, .ref b12, .ref b13, .int 0, .ref b15, .ref b16, .ref b17, .ref b18, .ref b19, .ref b20, .ref b21, .int 0, .int 0, .int 0, .int 0, .long 0, .int (-1), .int 0, .int 0, .int 0, .int 0, .int 0, .int 0, .ref b34, .ref b35, .int 0, .ref b37, .ref b38, .ref b39, .ref b40, .ref b41])), (b3, .inl (cD, 30, .inl (fun _ => 0))), (b4, .inl (cC, 30, .inl (fun _ => 0))), (b21, .inl (cT, 300, .inl (fun _ => 0)))]) (hS : va_S A s.heap H locs) (hl : lv_has ls 4 [(3, .int 0), (2, .ref h1), (1, .ref h0), (0, .ref b)]) : W p l e room_1 s m #[Value.ref b] below meth c H locs 43 9030 (lw_Z below #[Value.ref b] s) (F0 m 237 ls []) := by
  obtain ⟨hx, hb, hr, hml, hown, hts0, hX, hbl, hlocks, hgv⟩ := id C0
  have hts : ∀ w ∈ lw_tbl, w.before #[Value.ref b] s = true := hts0
  have hA : ∀ q : Nat, s.heap.size ≤ q → A q := fun q h => by rw [hAe]; exact h
  have hbA : ¬ A b := by rw [hAe]; exact Nat.not_le.mpr hbl
  refine lv_aload_n hx hb dL_law_237 rfl (lv_at hl 2 rfl) ?_
  refine lv_aload_n hx hb dL_law_238 rfl (lv_at hl 3 rfl) ?_
  refine lv_iload_n hx hb dL_law_239 rfl (lv_at hl 0 rfl) ?_
  refine lv_iconst (v := 1) hx hb dL_law_240 (by decide) ?_
  refine lv_iadd hx hb dL_law_241 ?_
  refine lv_topi (fun x_1 ex_1 => ?_)
  obtain rfl : x_1 = 1 := by rw [ex_1]; decide
  refine va_sld hx hb hX hbl hbA hS (show vp_in (nI 1) 6 from vp_in_nI (by decide) (by decide)) dL_law_242 ?_
  have hPc := hP.sub (ws' := [(h0, .inr (7, [.ref a0, .ref a1, .ref a2, .ref a3, .ref a4, .ref a5, .ref a6, .int 0, .int (-1), .int (-1), .int 0]))]) [0] rfl
  have hDc := hD.sub (ws' := [(h0, .inr (7, [.ref a0, .ref a1, .ref a2, .ref a3, .ref a4, .ref a5, .ref a6, .int 0, .int (-1), .int (-1), .int 0]))]) [0] (by decide) rfl
  have hKc := hK.sub (tys' := []) [] rfl
  have hFc := va_free (wc := [(h0, .inr (7, [.ref a0, .ref a1, .ref a2, .ref a3, .ref a4, .ref a5, .ref a6, .int 0, .int (-1), .int (-1), .int 0]))]) hD hS hA [0] rfl
  refine va_calli (va_runV (As := [.int (xs (Int32.toNatClampNeg 1))]) (rest := []) ⟨hx, hb, hml, hown, hts⟩ (c_X6_record l dC dI _ h0 a0 a1 a2 a3 a4 a5 a6 (xs (Int32.toNatClampNeg 1))) (cwV 1 hts gl_X6_record rfl rfl rfl (by decide +kernel) ⟨Nat.le_of_ble_eq_true rfl, Nat.le_of_ble_eq_true rfl⟩) ⟨fun a U g mk q => by obtain ⟨q0, q1, qP, qK, qD⟩ := q; exact ⟨q0, q1, qP, va_K.moved (u := U) (U := U.calling g mk a) (Vm.Alike.refl U.vm) qK, qD⟩, va_recv hKc hPc (ci := 7) (q0 := 0) rfl rfl, fun U hU hW => ⟨rfl, by rw [hU], by rw [hU]; exact hPc, va_K.moved hW.alike hKc, hDc.weaken (fun _ _ _ _ => trivial)⟩⟩ rfl rfl hl.1 rfl (lv_room (Nat.le_of_ble_eq_true rfl)) dL_law_243 ⟨by decide, by decide⟩) hS (fun q _ h => hFc q h) hFc (fun r_2 u t H1 locs ht hvm hw hB hz1 hk1 hS => ?_)
  obtain ⟨hP1, hK1, hD1⟩ := hB
  rw [ht] at hP1
  obtain ⟨hP, hD⟩ := va_join (wr := [(a0, .inl (cA, 30, .inl (fun _ => 0))), (a2, .inr (0, [.int 0, ve, .int 0])), (a3, .inr (6, [.ref ab, .int 0])), (ab, .inl (cB, 300, .inl (fun _ => 0))), (h1, .inr (8, [.int 0, .int 0, .int 0, .ref b3, .ref b4, .int 0, .ref b6, .ref b7, .ref b8, .ref b9, .ref b10, .ref b11, .ref b12, .ref b13, .int 0, .ref b15, .ref b16, .ref b17, .ref b18, .ref b19, .ref b20, .ref b21, .int 0, .int 0, .int 0, .int 0, .long 0, .int (-1), .int 0, .int 0, .int 0, .int 0, .int 0, .int 0, .ref b34, .ref b35, .int 0, .ref b37, .ref b38, .ref b39, .ref b40, .ref b41])), (b3, .inl (cD, 30, .inl (fun _ => 0))), (b4, .inl (cC, 30, .inl (fun _ => 0))), (b21, .inl (cT, 300, .inl (fun _ => 0)))]) (w1 := []) hP hD [0] [1, 2, 3, 4, 5, 6, 7, 8] rfl rfl (by decide) (by decide) hk1 hFc hP1 hD1
  generalize H1 = H at hP hS ⊢
  have hP : va_P (dC, dI) vwCl [(a0, .inl (cA, 30, .inl (fun _ => 0))), (a2, .inr (0, [.int 0, ve, .int 0])), (a3, .inr (6, [.ref ab, .int 0])), (ab, .inl (cB, 300, .inl (fun _ => 0))), (h1, .inr (8, [.int 0, .int 0, .int 0, .ref b3, .ref b4, .int 0, .ref b6, .ref b7, .ref b8, .ref b9, .ref b10, .ref b11, .ref b12, .ref b13, .int 0, .ref b15, .ref b16, .ref b17, .ref b18, .ref b19, .ref b20, .ref b21, .int 0, .int 0, .int 0, .int 0, .long 0, .int (-1), .int 0, .int 0, .int 0, .int 0, .int 0, .int 0, .ref b34, .ref b35, .int 0, .ref b37, .ref b38, .ref b39, .ref b40, .ref b41])), (b3, .inl (cD, 30, .inl (fun _ => 0))), (b4, .inl (cC, 30, .inl (fun _ => 0))), (b21, .inl (cT, 300, .inl (fun _ => 0)))] H := hP
  have hD : va_D A [(a0, .inl (cA, 30, .inl (fun _ => 0))), (a2, .inr (0, [.int 0, ve, .int 0])), (a3, .inr (6, [.ref ab, .int 0])), (ab, .inl (cB, 300, .inl (fun _ => 0))), (h1, .inr (8, [.int 0, .int 0, .int 0, .ref b3, .ref b4, .int 0, .ref b6, .ref b7, .ref b8, .ref b9, .ref b10, .ref b11, .ref b12, .ref b13, .int 0, .ref b15, .ref b16, .ref b17, .ref b18, .ref b19, .ref b20, .ref b21, .int 0, .int 0, .int 0, .int 0, .long 0, .int (-1), .int 0, .int 0, .int 0, .int 0, .int 0, .int 0, .ref b34, .ref b35, .int 0, .ref b37, .ref b38, .ref b39, .ref b40, .ref b41])), (b3, .inl (cD, 30, .inl (fun _ => 0))), (b4, .inl (cC, 30, .inl (fun _ => 0))), (b21, .inl (cT, 300, .inl (fun _ => 0)))] := hD
  obtain rfl : r_2 = (-2) := hw
  refine lv_aload_n hx hb dL_law_246 rfl (lv_at hl 1 rfl) ?_
  refine lv_aload_n hx hb dL_law_247 rfl (lv_at hl 3 rfl) ?_
  refine lv_iload_n hx hb dL_law_248 rfl (lv_at hl 0 rfl) ?_
  refine lv_iconst (v := 1) hx hb dL_law_249 (by decide) ?_
  refine lv_iadd hx hb dL_law_250 ?_
  refine lv_topi (fun x_3 ex_3 => ?_)
  obtain rfl : x_3 = 1 := by rw [ex_3]; decide
  refine va_sld hx hb hX hbl hbA hS (show vp_in (nI 1) 6 from vp_in_nI (by decide) (by decide)) dL_law_251 ?_
  have hPc := hP.sub (ws' := [(h1, .inr (8, [.int 0, .int 0, .int 0, .ref b3, .ref b4, .int 0, .ref b6, .ref b7, .ref b8, .ref b9, .ref b10, .ref b11, .ref b12, .ref b13, .int 0, .ref b15, .ref b16, .ref b17, .ref b18, .ref b19, .ref b20, .ref b21, .int 0, .int 0, .int 0, .int 0, .long 0, .int (-1), .int 0, .int 0, .int 0, .int 0, .int 0, .int 0, .ref b34, .ref b35, .int 0, .ref b37, .ref b38, .ref b39, .ref b40, .ref b41]))]) [4] rfl
  have hDc := hD.sub (ws' := [(h1, .inr (8, [.int 0, .int 0, .int 0, .ref b3, .ref b4, .int 0, .ref b6, .ref b7, .ref b8, .ref b9, .ref b10, .ref b11, .ref b12, .ref b13, .int 0, .ref b15, .ref b16, .ref b17, .ref b18, .ref b19, .ref b20, .ref b21, .int 0, .int 0, .int 0, .int 0, .long 0, .int (-1), .int 0, .int 0, .int 0, .int 0, .int 0, .int 0, .ref b34, .ref b35, .int 0, .ref b37, .ref b38, .ref b39, .ref b40, .ref b41]))]) [4] (by decide) rfl
  have hKc := hK.sub (tys' := []) [] rfl
  have hFc := va_free (wc := [(h1, .inr (8, [.int 0, .int 0, .int 0, .ref b3, .ref b4, .int 0, .ref b6, .ref b7, .ref b8, .ref b9, .ref b10, .ref b11, .ref b12, .ref b13, .int 0, .ref b15, .ref b16, .ref b17, .ref b18, .ref b19, .ref b20, .ref b21, .int 0, .int 0, .int 0, .int 0, .long 0, .int (-1), .int 0, .int 0, .int 0, .int 0, .int 0, .int 0, .ref b34, .ref b35, .int 0, .ref b37, .ref b38, .ref b39, .ref b40, .ref b41]))]) hD hS hA [4] rfl
  refine va_calli (va_runV (As := [.int (xs (Int32.toNatClampNeg 1))]) (rest := [.int (-2)]) ⟨hx, hb, hml, hown, hts⟩ (c_X7_record l dC dI _ h1 b3 b4 b6 b7 b8 b9 b10 b11 b12 b13 b15 b16 b17 b18 b19 b20 b21 b34 b35 b37 b38 b39 b40 b41 (xs (Int32.toNatClampNeg 1))) (cwV 1 hts gl_X7_record rfl rfl rfl (by decide +kernel) ⟨Nat.le_of_ble_eq_true rfl, Nat.le_of_ble_eq_true rfl⟩) ⟨fun a U g mk q => by obtain ⟨q0, q1, qP, qK, qD⟩ := q; exact ⟨q0, q1, qP, va_K.moved (u := U) (U := U.calling g mk a) (Vm.Alike.refl U.vm) qK, qD⟩, va_recv hKc hPc (ci := 8) (q0 := 0) rfl rfl, fun U hU hW => ⟨rfl, by rw [hU], by rw [hU]; exact hPc, va_K.moved hW.alike hKc, hDc.weaken (fun _ _ _ _ => trivial)⟩⟩ rfl rfl hl.1 rfl (lv_room (Nat.le_of_ble_eq_true rfl)) dL_law_252 ⟨by decide, by decide⟩) hS (fun q _ h => hFc q h) hFc (fun r_4 u t H1 locs ht hvm hw hB hz1 hk1 hS => ?_)
  obtain ⟨hP1, hK1, hD1⟩ := hB
  rw [ht] at hP1
  obtain ⟨hP, hD⟩ := va_join (wr := [(a0, .inl (cA, 30, .inl (fun _ => 0))), (a2, .inr (0, [.int 0, ve, .int 0])), (a3, .inr (6, [.ref ab, .int 0])), (ab, .inl (cB, 300, .inl (fun _ => 0))), (b3, .inl (cD, 30, .inl (fun _ => 0))), (b4, .inl (cC, 30, .inl (fun _ => 0))), (b21, .inl (cT, 300, .inl (fun _ => 0)))]) (w1 := []) hP hD [4] [0, 1, 2, 3, 5, 6, 7] rfl rfl (by decide) (by decide) hk1 hFc hP1 hD1
  generalize H1 = H at hP hS ⊢
  have hP : va_P (dC, dI) vwCl [(a0, .inl (cA, 30, .inl (fun _ => 0))), (a2, .inr (0, [.int 0, ve, .int 0])), (a3, .inr (6, [.ref ab, .int 0])), (ab, .inl (cB, 300, .inl (fun _ => 0))), (b3, .inl (cD, 30, .inl (fun _ => 0))), (b4, .inl (cC, 30, .inl (fun _ => 0))), (b21, .inl (cT, 300, .inl (fun _ => 0)))] H := hP
  have hD : va_D A [(a0, .inl (cA, 30, .inl (fun _ => 0))), (a2, .inr (0, [.int 0, ve, .int 0])), (a3, .inr (6, [.ref ab, .int 0])), (ab, .inl (cB, 300, .inl (fun _ => 0))), (b3, .inl (cD, 30, .inl (fun _ => 0))), (b4, .inl (cC, 30, .inl (fun _ => 0))), (b21, .inl (cT, 300, .inl (fun _ => 0)))] := hD
  obtain rfl : r_4 = (-2) := hw
  refine lv_icmp_eq (tgt := 768) hx hb dL_law_255 (by decide) (fun c_5 => ?_) (fun c_5 => ?_)
  · exact lc_end (dC := dC) (dI := dI) C0 hAe hS hl
  · exact absurd c_5 (by decide)
set_option maxRecDepth 20000 in
theorem gl_X6_fault : GoodIn lw_tbl (wsV RL 31 RX6 yX6_fault wp_X6_fault) := goodIn_app (goodIn_r _ [482, 483, 484, 48] (by decide +kernel) (by decide +kernel)) gi_X6_fault
set_option maxRecDepth 20000 in
theorem gl_X7_fault : GoodIn lw_tbl (wsV RL 35 RX7 yX7_fault wp_X7_fault) := goodIn_app (goodIn_r _ [884, 885, 886, 57] (by decide +kernel) (by decide +kernel)) gi_X7_fault
set_option maxHeartbeats 4000000 in
set_option maxRecDepth 100000 in
/-- the law, case 4 -/
theorem lc_4 {p : Program} {l : Launch} {e : Env} {s : State} {m : MethodId} {below : List Frame} {meth : Method} {c : Code} {dC : Nat → ClassId} {dI : Nat → Nat → Nat} {b : Nat} {xs : Nat → Int32} {A : Nat → Prop} {H : Heap} {locs : List Loc} {ls : Array Slot} (C0 : lw_At p s m meth c b 6 xs) (hAe : A = fun q : Nat => s.heap.size ≤ q) {h0 a0 a1 a2 a3 a4 a5 a6 ab h1 b3 b4 b6 b7 b8 b9 b10 b11 b12 b13 b15 b16 b17 b18 b19 b20 b21 b34 b35 b37 b38 b39 b40 b41 : Nat} {ve : Value} {cA cB cD cC cT : ClassId} (hK : va_K (dC, dI) vwCl [(cA, .int), (cB, .int), (cD, .int), (cC, .int), (cT, .int)] s) (hP : va_P (dC, dI) vwCl [(h0, .inr (7, [.ref a0, .ref a1, .ref a2, .ref a3, .ref a4, .ref a5, .ref a6, .int 0, .int (-1), .int (-1), .int 0])), (a0, .inl (cA, 30, .inl (fun _ => 0))), (a2, .inr (0, [.int 0, ve, .int 0])), (a3, .inr (6, [.ref ab, .int 0])), (ab, .inl (cB, 300, .inl (fun _ => 0))), (h1, .inr (8, [.int 0, .int 0, .int 0, .ref b3, .ref b4, .int 0, .ref b6, .ref b7, .ref b8, .ref b9, .ref b10, .ref b11, .ref b12, .ref b13, .int 0, .ref b15, .ref b16, .ref b17, .ref b18, .ref b19, .ref b20, .ref b21, .int 0, .int 0, .int 0, .int 0, .long 0, .int (-1), .int 0, .int 0, .int 0, .int 0, .int 0, .int 0, .ref b34, .ref b35, .int 0, .ref b37, .ref b38, .ref b39, .ref b40, .ref b41])), (b3, .inl (cD, 30, .inl (fun _ => 0))), (b4, .inl (cC, 30, .inl (fun _ => 0))), (b21, .inl (cT, 300, .inl (fun _ => 0)))] H) (hD : va_D A [(h0, .inr (7, [.ref a0, .ref a1, .ref a2, .ref a3, .ref a4, .ref a5, .ref a6, .int 0, .int (-1), .int (-1), .int 0])), (a0, .inl (cA, 30, .inl (fun _ => 0))), (a2, .inr (0, [.int 0, ve, .int 0])), (a3, .inr (6, [.ref ab, .int 0])), (ab, .inl (cB, 300, .inl (fun _ => 0))), (h1, .inr (8, [.int 0, .int 0, .int 0, .ref b3, .ref b4, .int 0, .ref b6, .ref b7, .ref b8, .ref b9, .ref b10, .ref b11, .ref b12, .ref b13, .int 0, .ref b15, .ref b16, .ref b17, .ref b18, .ref b19, .ref b20, .ref b21, .int 0, .int 0, .int 0, .int 0, .long 0, .int (-1), .int 0, .int 0, .int 0, .int 0, .int 0, .int 0, .ref b34, .ref b35, .int 0, .ref b37, .ref b38, .ref b39, .ref b40, .ref b41])), (b3, .inl (cD, 30, .inl (fun _ => 0))), (b4, .inl (cC, 30, .inl (fun _ => 0))), (b21, .inl (cT, 300, .inl (fun _ => 0)))]) (hS : va_S A s.heap H locs) (hl : lv_has ls 4 [(3, .int 0), (2, .ref h1), (1, .ref h0), (0, .ref b)]) : W p l e room_1 s m #[Value.ref b] below meth c H locs 43 9030 (lw_Z below #[Value.ref b] s) (F0 m 260 ls []) := by
  obtain ⟨hx, hb, hr, hml, hown, hts0, hX, hbl, hlocks, hgv⟩ := id C0
  have hts : ∀ w ∈ lw_tbl, w.before #[Value.ref b] s = true := hts0
  have hA : ∀ q : Nat, s.heap.size ≤ q → A q := fun q h => by rw [hAe]; exact h
  have hbA : ¬ A b := by rw [hAe]; exact Nat.not_le.mpr hbl
  refine lv_aload_n hx hb dL_law_260 rfl (lv_at hl 2 rfl) ?_
  have hPc := hP.sub (ws' := [(h0, .inr (7, [.ref a0, .ref a1, .ref a2, .ref a3, .ref a4, .ref a5, .ref a6, .int 0, .int (-1), .int (-1), .int 0]))]) [0] rfl
  have hDc := hD.sub (ws' := [(h0, .inr (7, [.ref a0, .ref a1, .ref a2, .ref a3, .ref a4, .ref a5, .ref a6, .int 0, .int (-1), .int (-1), .int 0]))]) [0] (by decide) rfl
  have hKc := hK.sub (tys' := []) [] rfl
  have hFc := va_free (wc := [(h0, .inr (7, [.ref a0, .ref a1, .ref a2, .ref a3, .ref a4, .ref a5, .ref a6, .int 0, .int (-1), .int (-1), .int 0]))]) hD hS hA [0] rfl
  refine va_calli (va_runV (As := []) (rest := []) ⟨hx, hb, hml, hown, hts⟩ (c_X6_fault l dC dI _ h0 a0 a1 a2 a3 a4 a5 a6) (cwV 0 hts gl_X6_fault rfl rfl rfl (by decide +kernel) ⟨Nat.le_of_ble_eq_true rfl, Nat.le_of_ble_eq_true rfl⟩) ⟨fun a U g mk q => by obtain ⟨q0, q1, qP, qK, qD⟩ := q; exact ⟨q0, q1, qP, va_K.moved (u := U) (U := U.calling g mk a) (Vm.Alike.refl U.vm) qK, qD⟩, va_recv hKc hPc (ci := 7) (q0 := 0) rfl rfl, fun U hU hW => ⟨rfl, by rw [hU], by rw [hU]; exact hPc, va_K.moved hW.alike hKc, hDc.weaken (fun _ _ _ _ => trivial)⟩⟩ rfl rfl hl.1 rfl (lv_room (Nat.le_of_ble_eq_true rfl)) dL_law_261 ⟨by decide, by decide⟩) hS (fun q _ h => hFc q h) hFc (fun r_1 u t H1 locs ht hvm hw hB hz1 hk1 hS => ?_)
  obtain ⟨hP1, hK1, hD1⟩ := hB
  rw [ht] at hP1
  obtain ⟨hP, hD⟩ := va_join (wr := [(a0, .inl (cA, 30, .inl (fun _ => 0))), (a2, .inr (0, [.int 0, ve, .int 0])), (a3, .inr (6, [.ref ab, .int 0])), (ab, .inl (cB, 300, .inl (fun _ => 0))), (h1, .inr (8, [.int 0, .int 0, .int 0, .ref b3, .ref b4, .int 0, .ref b6, .ref b7, .ref b8, .ref b9, .ref b10, .ref b11, .ref b12, .ref b13, .int 0, .ref b15, .ref b16, .ref b17, .ref b18, .ref b19, .ref b20, .ref b21, .int 0, .int 0, .int 0, .int 0, .long 0, .int (-1), .int 0, .int 0, .int 0, .int 0, .int 0, .int 0, .ref b34, .ref b35, .int 0, .ref b37, .ref b38, .ref b39, .ref b40, .ref b41])), (b3, .inl (cD, 30, .inl (fun _ => 0))), (b4, .inl (cC, 30, .inl (fun _ => 0))), (b21, .inl (cT, 300, .inl (fun _ => 0)))]) (w1 := []) hP hD [0] [1, 2, 3, 4, 5, 6, 7, 8] rfl rfl (by decide) (by decide) hk1 hFc hP1 hD1
  generalize H1 = H at hP hS ⊢
  have hP : va_P (dC, dI) vwCl [(a0, .inl (cA, 30, .inl (fun _ => 0))), (a2, .inr (0, [.int 0, ve, .int 0])), (a3, .inr (6, [.ref ab, .int 0])), (ab, .inl (cB, 300, .inl (fun _ => 0))), (h1, .inr (8, [.int 0, .int 0, .int 0, .ref b3, .ref b4, .int 0, .ref b6, .ref b7, .ref b8, .ref b9, .ref b10, .ref b11, .ref b12, .ref b13, .int 0, .ref b15, .ref b16, .ref b17, .ref b18, .ref b19, .ref b20, .ref b21, .int 0, .int 0, .int 0, .int 0, .long 0, .int (-1), .int 0, .int 0, .int 0, .int 0, .int 0, .int 0, .ref b34, .ref b35, .int 0, .ref b37, .ref b38, .ref b39, .ref b40, .ref b41])), (b3, .inl (cD, 30, .inl (fun _ => 0))), (b4, .inl (cC, 30, .inl (fun _ => 0))), (b21, .inl (cT, 300, .inl (fun _ => 0)))] H := hP
  have hD : va_D A [(a0, .inl (cA, 30, .inl (fun _ => 0))), (a2, .inr (0, [.int 0, ve, .int 0])), (a3, .inr (6, [.ref ab, .int 0])), (ab, .inl (cB, 300, .inl (fun _ => 0))), (h1, .inr (8, [.int 0, .int 0, .int 0, .ref b3, .ref b4, .int 0, .ref b6, .ref b7, .ref b8, .ref b9, .ref b10, .ref b11, .ref b12, .ref b13, .int 0, .ref b15, .ref b16, .ref b17, .ref b18, .ref b19, .ref b20, .ref b21, .int 0, .int 0, .int 0, .int 0, .long 0, .int (-1), .int 0, .int 0, .int 0, .int 0, .int 0, .int 0, .ref b34, .ref b35, .int 0, .ref b37, .ref b38, .ref b39, .ref b40, .ref b41])), (b3, .inl (cD, 30, .inl (fun _ => 0))), (b4, .inl (cC, 30, .inl (fun _ => 0))), (b21, .inl (cT, 300, .inl (fun _ => 0)))] := hD
  obtain rfl : r_1 = (-1) := hw
  refine lv_aload_n hx hb dL_law_264 rfl (lv_at hl 1 rfl) ?_
  have hPc := hP.sub (ws' := [(h1, .inr (8, [.int 0, .int 0, .int 0, .ref b3, .ref b4, .int 0, .ref b6, .ref b7, .ref b8, .ref b9, .ref b10, .ref b11, .ref b12, .ref b13, .int 0, .ref b15, .ref b16, .ref b17, .ref b18, .ref b19, .ref b20, .ref b21, .int 0, .int 0, .int 0, .int 0, .long 0, .int (-1), .int 0, .int 0, .int 0, .int 0, .int 0, .int 0, .ref b34, .ref b35, .int 0, .ref b37, .ref b38, .ref b39, .ref b40, .ref b41]))]) [4] rfl
  have hDc := hD.sub (ws' := [(h1, .inr (8, [.int 0, .int 0, .int 0, .ref b3, .ref b4, .int 0, .ref b6, .ref b7, .ref b8, .ref b9, .ref b10, .ref b11, .ref b12, .ref b13, .int 0, .ref b15, .ref b16, .ref b17, .ref b18, .ref b19, .ref b20, .ref b21, .int 0, .int 0, .int 0, .int 0, .long 0, .int (-1), .int 0, .int 0, .int 0, .int 0, .int 0, .int 0, .ref b34, .ref b35, .int 0, .ref b37, .ref b38, .ref b39, .ref b40, .ref b41]))]) [4] (by decide) rfl
  have hKc := hK.sub (tys' := []) [] rfl
  have hFc := va_free (wc := [(h1, .inr (8, [.int 0, .int 0, .int 0, .ref b3, .ref b4, .int 0, .ref b6, .ref b7, .ref b8, .ref b9, .ref b10, .ref b11, .ref b12, .ref b13, .int 0, .ref b15, .ref b16, .ref b17, .ref b18, .ref b19, .ref b20, .ref b21, .int 0, .int 0, .int 0, .int 0, .long 0, .int (-1), .int 0, .int 0, .int 0, .int 0, .int 0, .int 0, .ref b34, .ref b35, .int 0, .ref b37, .ref b38, .ref b39, .ref b40, .ref b41]))]) hD hS hA [4] rfl
  refine va_calli (va_runV (As := []) (rest := [.int (-1)]) ⟨hx, hb, hml, hown, hts⟩ (c_X7_fault l dC dI _ h1 b3 b4 b6 b7 b8 b9 b10 b11 b12 b13 b15 b16 b17 b18 b19 b20 b21 b34 b35 b37 b38 b39 b40 b41) (cwV 0 hts gl_X7_fault rfl rfl rfl (by decide +kernel) ⟨Nat.le_of_ble_eq_true rfl, Nat.le_of_ble_eq_true rfl⟩) ⟨fun a U g mk q => by obtain ⟨q0, q1, qP, qK, qD⟩ := q; exact ⟨q0, q1, qP, va_K.moved (u := U) (U := U.calling g mk a) (Vm.Alike.refl U.vm) qK, qD⟩, va_recv hKc hPc (ci := 8) (q0 := 0) rfl rfl, fun U hU hW => ⟨rfl, by rw [hU], by rw [hU]; exact hPc, va_K.moved hW.alike hKc, hDc.weaken (fun _ _ _ _ => trivial)⟩⟩ rfl rfl hl.1 rfl (lv_room (Nat.le_of_ble_eq_true rfl)) dL_law_265 ⟨by decide, by decide⟩) hS (fun q _ h => hFc q h) hFc (fun r_2 u t H1 locs ht hvm hw hB hz1 hk1 hS => ?_)
  obtain ⟨hP1, hK1, hD1⟩ := hB
  rw [ht] at hP1
  obtain ⟨hP, hD⟩ := va_join (wr := [(a0, .inl (cA, 30, .inl (fun _ => 0))), (a2, .inr (0, [.int 0, ve, .int 0])), (a3, .inr (6, [.ref ab, .int 0])), (ab, .inl (cB, 300, .inl (fun _ => 0))), (b3, .inl (cD, 30, .inl (fun _ => 0))), (b4, .inl (cC, 30, .inl (fun _ => 0))), (b21, .inl (cT, 300, .inl (fun _ => 0)))]) (w1 := []) hP hD [4] [0, 1, 2, 3, 5, 6, 7] rfl rfl (by decide) (by decide) hk1 hFc hP1 hD1
  generalize H1 = H at hP hS ⊢
  have hP : va_P (dC, dI) vwCl [(a0, .inl (cA, 30, .inl (fun _ => 0))), (a2, .inr (0, [.int 0, ve, .int 0])), (a3, .inr (6, [.ref ab, .int 0])), (ab, .inl (cB, 300, .inl (fun _ => 0))), (b3, .inl (cD, 30, .inl (fun _ => 0))), (b4, .inl (cC, 30, .inl (fun _ => 0))), (b21, .inl (cT, 300, .inl (fun _ => 0)))] H := hP
  have hD : va_D A [(a0, .inl (cA, 30, .inl (fun _ => 0))), (a2, .inr (0, [.int 0, ve, .int 0])), (a3, .inr (6, [.ref ab, .int 0])), (ab, .inl (cB, 300, .inl (fun _ => 0))), (b3, .inl (cD, 30, .inl (fun _ => 0))), (b4, .inl (cC, 30, .inl (fun _ => 0))), (b21, .inl (cT, 300, .inl (fun _ => 0)))] := hD
  obtain rfl : r_2 = (-1) := hw
  refine lv_icmp_eq (tgt := 768) hx hb dL_law_268 (by decide) (fun c_3 => ?_) (fun c_3 => ?_)
  · exact lc_end (dC := dC) (dI := dI) C0 hAe hS hl
  · exact absurd c_3 (by decide)
