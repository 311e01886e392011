set_option maxHeartbeats 4000000 in
set_option maxRecDepth 100000 in
/-- the law, from its entry -/
theorem whole_start {p : Program} {e : Env} {s : State} {m : MethodId} {below : List Frame} {meth : Method} {c : Code} (l : Launch) {b L : Nat} {xs : Nat → Int32} (hL : L ≤ 6) (C0 : lw_At p s m meth c b L xs) : W p l e room_1 s m #[Value.ref b] below meth c s.heap [] 0 0 (lw_Z below #[Value.ref b] s) (entryFrame m ([Value.ref b] : List Value).toArray 4) := by
  obtain ⟨A, hAe⟩ : ∃ A : Nat → Prop, A = fun q : Nat => s.heap.size ≤ q := ⟨_, rfl⟩
  obtain ⟨hx, hb, hr, hml, hown, hts0, hX, hbl, hlocks, hgv⟩ := id C0
  have hts : ∀ w ∈ lw_tbl, w.before #[Value.ref b] s = true := hts0
  have hA : ∀ q : Nat, s.heap.size ≤ q → A q := fun q h => by rw [hAe]; exact h
  have hbA : ¬ A b := by rw [hAe]; exact Nat.not_le.mpr hbl
  obtain ⟨c0, iS0, hKn0⟩ := u_known (C := RJx4a65c) (T := TJx4a65c) (N := 3) (n := 3) hts0 inJx4a65c (hts0 (.instantiable RJx4a65c 3) (List.mem_of_getElem? (i := 77) (by decide +kernel)))
  obtain ⟨c1, iS1, hKn1⟩ := u_known (C := RX0) (T := TX0) (N := 5) (n := 5) hts0 inX0 (hts0 (.instantiable RX0 5) (List.mem_of_getElem? (i := 160) (by decide +kernel)))
  obtain ⟨c2, iS2, hKn2⟩ := u_known (C := RX1) (T := TX1) (N := 4) (n := 4) hts0 inX1 (hts0 (.instantiable RX1 4) (List.mem_of_getElem? (i := 137) (by decide +kernel)))
  obtain ⟨c3, iS3, hKn3⟩ := u_known (C := RX2) (T := TX2) (N := 6) (n := 6) hts0 inX2 (hts0 (.instantiable RX2 6) (List.mem_of_getElem? (i := 339) (by decide +kernel)))
  obtain ⟨c4, iS4, hKn4⟩ := u_known (C := RX3) (T := TX3) (N := 2) (n := 2) hts0 inX3 (hts0 (.instantiable RX3 2) (List.mem_of_getElem? (i := 467) (by decide +kernel)))
  obtain ⟨c5, iS5, hKn5⟩ := u_known (C := RX4) (T := TX4) (N := 3) (n := 3) hts0 inX4 (hts0 (.instantiable RX4 3) (List.mem_of_getElem? (i := 120) (by decide +kernel)))
  obtain ⟨c6, iS6, hKn6⟩ := u_known (C := RX5) (T := TX5) (N := 2) (n := 2) hts0 inX5 (hts0 (.instantiable RX5 2) (List.mem_of_getElem? (i := 104) (by decide +kernel)))
  obtain ⟨c7, iS7, hKn7⟩ := u_known (C := RX6) (T := TX6) (N := 11) (n := 11) hts0 inX6 (hts0 (.instantiable RX6 11) (List.mem_of_getElem? (i := 69) (by decide +kernel)))
  obtain ⟨c8, iS8, hKn8⟩ := u_known (C := RX7) (T := TX7) (N := 42) (n := 42) hts0 inX7 (hts0 (.instantiable RX7 42) (List.mem_of_getElem? (i := 668) (by decide +kernel)))
  obtain ⟨dC, dI, hKc⟩ : ∃ (dC : Nat → ClassId) (dI : Nat → Nat → Nat), ∀ (k : Nat) (q : vw_C), vwCl[k]? = some q → u_Kn s q.1 q.2.1 q.2.2 (dC k) (dI k) := by
    refine ⟨fun k => if k = 0 then c0 else if k = 1 then c1 else if k = 2 then c2 else if k = 3 then c3 else if k = 4 then c4 else if k = 5 then c5 else if k = 6 then c6 else if k = 7 then c7 else c8, fun k => if k = 0 then iS0 else if k = 1 then iS1 else if k = 2 then iS2 else if k = 3 then iS3 else if k = 4 then iS4 else if k = 5 then iS5 else if k = 6 then iS6 else if k = 7 then iS7 else iS8, ?_⟩
    intro k q hq
    match k, hq with
    | 0, hq => cases hq; exact hKn0
    | 1, hq => cases hq; exact hKn1
    | 2, hq => cases hq; exact hKn2
    | 3, hq => cases hq; exact hKn3
    | 4, hq => cases hq; exact hKn4
    | 5, hq => cases hq; exact hKn5
    | 6, hq => cases hq; exact hKn6
    | 7, hq => cases hq; exact hKn7
    | 8, hq => cases hq; exact hKn8
    | k + 9, hq => simp [vwCl] at hq
  have hS : va_S A s.heap s.heap [] := va_S.rf
  have hK : va_K (dC, dI) vwCl [] s := ⟨hKc, fun k q h => by simp at h⟩
  have hP : va_P (dC, dI) vwCl [] s.heap := fun k q h => by simp at h
  have hD : va_D A [] := ⟨fun i j p q h => by simp at h, fun k q h => by simp at h⟩
  obtain ⟨ve, hval, hZ⟩ : ∃ ve : Value, (ve = .null ∨ ∃ t, ve = .ref t) ∧ va_Z "java/util/ArrayList" "DEFAULTCAPACITY_EMPTY_ELEMENTDATA" "[Ljava/lang/Object;" ve A s s.heap := by
    rcases va_Zqof (A := A) (hts0 (.laysStatic "java/util/ArrayList" "DEFAULTCAPACITY_EMPTY_ELEMENTDATA" "[Ljava/lang/Object;") (by decide +kernel)) (hts0 (.initialized "java/util/ArrayList") (by decide +kernel)) (flat_of_before _ hgv (.isRef (.static "java/util/ArrayList" "DEFAULTCAPACITY_EMPTY_ELEMENTDATA" "[Ljava/lang/Object;")) (by decide +kernel)) (fun a h => by rw [hAe]; exact Nat.not_le.mpr h) with h | ⟨t, h⟩
    · exact ⟨.null, Or.inl rfl, h⟩
    · exact ⟨.ref t, Or.inr ⟨t, rfl⟩, h⟩
  have hn25 : va_Nw (.methodLinkNest RX6 25 yX5_init "AgreedTalks") s := va_Nw.of rfl (hts0 (.methodLinkNest RX6 25 yX5_init "AgreedTalks") (by decide +kernel))
  have hn41 : va_Nw (.methodLinkNest RX6 41 yX1_init "AgreedTalks") s := va_Nw.of rfl (hts0 (.methodLinkNest RX6 41 yX1_init "AgreedTalks") (by decide +kernel))
  have hn48 : va_Nw (.methodLinkNest RX6 48 yX0_init "AgreedTalks") s := va_Nw.of rfl (hts0 (.methodLinkNest RX6 48 yX0_init "AgreedTalks") (by decide +kernel))
  have hinX6 := inX6
  have hinX7 := inX7
  have hl := lv_entry ([.ref b]) (n := 4) (Nat.le_of_ble_eq_true rfl)
  rw [lg_entry_eq]
  generalize (lg_sl ([.ref b]) ++ List.replicate (4 - (lg_sl ([.ref b])).length) Slot.unset).toArray = ls at hl ⊢
  have hl : lv_has ls 4 [(0, .ref b)] := hl
  refine va_new (ci := 7) (fs := [.null, .null, .null, .null, .null, .null, .null, .int 0, .int 0, .int 0, .int 0]) (C := RX6) (T := TX6) (N := 11) hx hb hts hinX6 tyX6 tyX6_ok hown (hts (.classLink RL 7 RX6) (List.mem_of_getElem? (i := 68) (by decide +kernel))) (hts (.instantiable RX6 11) (List.mem_of_getElem? (i := 69) (by decide +kernel))) (hts (.initialized RX6) (List.mem_of_getElem? (i := 48) (by decide +kernel))) hK hP hD hS hA rfl (fun j hj => by rcases (show j = 0 ∨ j = 1 ∨ j = 2 ∨ j = 3 ∨ j = 4 ∨ j = 5 ∨ j = 6 ∨ j = 7 ∨ j = 8 ∨ j = 9 ∨ j = 10 by omega) with rfl | rfl | rfl | rfl | rfl | rfl | rfl | rfl | rfl | rfl | rfl <;> rfl) (by decide) (by decide) dL_law_0 (fun q_1 H hP hD hS => ?_)
  have hP : va_P (dC, dI) vwCl [(q_1, .inr (7, [.null, .null, .null, .null, .null, .null, .null, .int 0, .int 0, .int 0, .int 0]))] H := hP
  have hD : va_D A [(q_1, .inr (7, [.null, .null, .null, .null, .null, .null, .null, .int 0, .int 0, .int 0, .int 0]))] := hD
  refine W.widen (k := 1) (n := 11) (by omega) (by omega) ?_
  refine lv_dup hx hb dL_law_3 rfl ?_
  have hPc := hP.sub (ws' := [(q_1, .inr (7, [.null, .null, .null, .null, .null, .null, .null, .int 0, .int 0, .int 0, .int 0]))]) [0] rfl
  have hDc := hD.sub (ws' := [(q_1, .inr (7, [.null, .null, .null, .null, .null, .null, .null, .int 0, .int 0, .int 0, .int 0]))]) [0] (by decide) rfl
  have hKc := hK.sub (tys' := []) [] rfl
  have hFc := va_free (wc := [(q_1, .inr (7, [.null, .null, .null, .null, .null, .null, .null, .int 0, .int 0, .int 0, .int 0]))]) hD hS hA [0] rfl
  refine va_callv (va_runI (As := []) (rest := [.ref q_1]) ⟨hx, hb, hml, hown, hts⟩ (c_X6_init l dC dI _ q_1 ve hval) (cwI 0 hts gi_X6_init rfl rfl rfl (hts (.initialized RX6) (List.mem_of_getElem? (i := 48) (by decide +kernel))) (hts (.methodLink RL 9 yX6_init) (List.mem_of_getElem? (i := 70) (by decide +kernel))) (hts (.instanceMethod yX6_init) (List.mem_of_getElem? (i := 71) (by decide +kernel))) rfl (by decide +kernel) ⟨Nat.le_of_ble_eq_true rfl, Nat.le_of_ble_eq_true rfl⟩) ⟨fun a U g mk q => by obtain ⟨q0, q1, qP, qK, qD, q_hn25, q_hn41, q_hn48, q_hZ⟩ := q; exact ⟨q0, q1, qP, va_K.moved (u := U) (U := U.calling g mk a) (Vm.Alike.refl U.vm) qK, qD, va_Nw.same rfl rfl q_hn25, va_Nw.same rfl rfl q_hn41, va_Nw.same rfl rfl q_hn48, va_Z.moved (Vm.Alike.refl U.vm) q_hZ⟩, fun U hU hW => ⟨rfl, by rw [hU], by rw [hU]; exact hPc, va_K.moved hW.alike hKc, hDc.weaken (fun _ _ _ _ => trivial), va_Nw.warmM hW hn25, va_Nw.warmM hW hn41, va_Nw.warmM hW hn48, by rw [hU]; exact va_Z.moved hW.alike ((hZ.kept (fun a h1 h2 => hS.2.1 a h1 h2)).narrow hFc)⟩⟩ rfl rfl hl.1 rfl (lv_room (Nat.le_of_ble_eq_true rfl)) dL_law_4 ⟨by decide, by decide⟩) hS (fun q _ h => hFc q h) hFc (fun u t H1 locs ht hvm hw hB hz1 hk1 hS => ?_)
  obtain ⟨a0_2, a1_3, a2_4, a3_5, a4_6, a5_7, a6_8, ab_9, cA_10, cB_11, hP1, hK1, hD1⟩ := hB
  rw [ht] at hP1
  obtain ⟨hP, hD⟩ := va_join (wr := []) (w1 := [(q_1, .inr (7, [.ref a0_2, .ref a1_3, .ref a2_4, .ref a3_5, .ref a4_6, .ref a5_7, .ref a6_8, .int 0, .int (-1), .int (-1), .int 0])), (a0_2, .inl (cA_10, 30, .inl (fun _ => 0))), (a2_4, .inr (0, [.int 0, ve, .int 0])), (a3_5, .inr (6, [.ref ab_9, .int 0])), (ab_9, .inl (cB_11, 300, .inl (fun _ => 0)))]) hP hD [0] [] rfl rfl (by decide) (by decide) hk1 hFc hP1 hD1
  have hK := hK.app (va_K.moved hvm.symm hK1)
  have hK : va_K (dC, dI) vwCl [(cA_10, .int), (cB_11, .int)] s := hK
  generalize H1 = H at hP hS ⊢
  have hP : va_P (dC, dI) vwCl [(q_1, .inr (7, [.ref a0_2, .ref a1_3, .ref a2_4, .ref a3_5, .ref a4_6, .ref a5_7, .ref a6_8, .int 0, .int (-1), .int (-1), .int 0])), (a0_2, .inl (cA_10, 30, .inl (fun _ => 0))), (a2_4, .inr (0, [.int 0, ve, .int 0])), (a3_5, .inr (6, [.ref ab_9, .int 0])), (ab_9, .inl (cB_11, 300, .inl (fun _ => 0)))] H := hP
  have hD : va_D A [(q_1, .inr (7, [.ref a0_2, .ref a1_3, .ref a2_4, .ref a3_5, .ref a4_6, .ref a5_7, .ref a6_8, .int 0, .int (-1), .int (-1), .int 0])), (a0_2, .inl (cA_10, 30, .inl (fun _ => 0))), (a2_4, .inr (0, [.int 0, ve, .int 0])), (a3_5, .inr (6, [.ref ab_9, .int 0])), (ab_9, .inl (cB_11, 300, .inl (fun _ => 0)))] := hD
  refine W.widen (k := 17) (n := 2468) (by omega) (by omega) ?_
  refine lv_astore_n (lv' := [(1, .ref q_1), (0, .ref b)]) hx hb dL_law_7 rfl hl (by decide) rfl (fun ls hl => ?_)
  refine va_new (ci := 8) (fs := [.int 0, .int 0, .int 0, .null, .null, .int 0, .null, .null, .null, .null, .null, .null, .null, .null, .int 0, .null, .null, .null, .null, .null, .null, .null, .int 0, .int 0, .int 0, .int 0, .long 0, .int 0, .int 0, .int 0, .int 0, .int 0, .int 0, .int 0, .null, .null, .int 0, .null, .null, .null, .null, .null]) (C := RX7) (T := TX7) (N := 42) hx hb hts hinX7 tyX7 tyX7_ok hown (hts (.classLink RL 10 RX7) (List.mem_of_getElem? (i := 667) (by decide +kernel))) (hts (.instantiable RX7 42) (List.mem_of_getElem? (i := 668) (by decide +kernel))) (hts (.initialized RX7) (List.mem_of_getElem? (i := 57) (by decide +kernel))) hK hP hD hS hA rfl (fun j hj => by rcases (show j = 0 ∨ j = 1 ∨ j = 2 ∨ j = 3 ∨ j = 4 ∨ j = 5 ∨ j = 6 ∨ j = 7 ∨ j = 8 ∨ j = 9 ∨ j = 10 ∨ j = 11 ∨ j = 12 ∨ j = 13 ∨ j = 14 ∨ j = 15 ∨ j = 16 ∨ j = 17 ∨ j = 18 ∨ j = 19 ∨ j = 20 ∨ j = 21 ∨ j = 22 ∨ j = 23 ∨ j = 24 ∨ j = 25 ∨ j = 26 ∨ j = 27 ∨ j = 28 ∨ j = 29 ∨ j = 30 ∨ j = 31 ∨ j = 32 ∨ j = 33 ∨ j = 34 ∨ j = 35 ∨ j = 36 ∨ j = 37 ∨ j = 38 ∨ j = 39 ∨ j = 40 ∨ j = 41 by omega) with rfl | rfl | rfl | rfl | rfl | rfl | rfl | rfl | rfl | rfl | rfl | rfl | rfl | rfl | rfl | rfl | rfl | rfl | rfl | rfl | rfl | rfl | rfl | rfl | rfl | rfl | rfl | rfl | rfl | rfl | rfl | rfl | rfl | rfl | rfl | rfl | rfl | rfl | rfl | rfl | rfl | rfl <;> rfl) (by decide) (by decide) dL_law_8 (fun q_12 H hP hD hS => ?_)
  have hP : va_P (dC, dI) vwCl [(q_1, .inr (7, [.ref a0_2, .ref a1_3, .ref a2_4, .ref a3_5, .ref a4_6, .ref a5_7, .ref a6_8, .int 0, .int (-1), .int (-1), .int 0])), (a0_2, .inl (cA_10, 30, .inl (fun _ => 0))), (a2_4, .inr (0, [.int 0, ve, .int 0])), (a3_5, .inr (6, [.ref ab_9, .int 0])), (ab_9, .inl (cB_11, 300, .inl (fun _ => 0))), (q_12, .inr (8, [.int 0, .int 0, .int 0, .null, .null, .int 0, .null, .null, .null, .null, .null, .null, .null, .null, .int 0, .null, .null, .null, .null, .null, .null, .null, .int 0, .int 0, .int 0, .int 0, .long 0, .int 0, .int 0, .int 0, .int 0, .int 0, .int 0, .int 0, .null, .null, .int 0, .null, .null, .null, .null, .null]))] H := hP
  have hD : va_D A [(q_1, .inr (7, [.ref a0_2, .ref a1_3, .ref a2_4, .ref a3_5, .ref a4_6, .ref a5_7, .ref a6_8, .int 0, .int (-1), .int (-1), .int 0])), (a0_2, .inl (cA_10, 30, .inl (fun _ => 0))), (a2_4, .inr (0, [.int 0, ve, .int 0])), (a3_5, .inr (6, [.ref ab_9, .int 0])), (ab_9, .inl (cB_11, 300, .inl (fun _ => 0))), (q_12, .inr (8, [.int 0, .int 0, .int 0, .null, .null, .int 0, .null, .null, .null, .null, .null, .null, .null, .null, .int 0, .null, .null, .null, .null, .null, .null, .null, .int 0, .int 0, .int 0, .int 0, .long 0, .int 0, .int 0, .int 0, .int 0, .int 0, .int 0, .int 0, .null, .null, .int 0, .null, .null, .null, .null, .null]))] := hD
  refine W.widen (k := 18) (n := 2510) (by omega) (by omega) ?_
  refine lv_dup hx hb dL_law_11 rfl ?_
  have hPc := hP.sub (ws' := [(q_12, .inr (8, [.int 0, .int 0, .int 0, .null, .null, .int 0, .null, .null, .null, .null, .null, .null, .null, .null, .int 0, .null, .null, .null, .null, .null, .null, .null, .int 0, .int 0, .int 0, .int 0, .long 0, .int 0, .int 0, .int 0, .int 0, .int 0, .int 0, .int 0, .null, .null, .int 0, .null, .null, .null, .null, .null]))]) [5] rfl
  have hDc := hD.sub (ws' := [(q_12, .inr (8, [.int 0, .int 0, .int 0, .null, .null, .int 0, .null, .null, .null, .null, .null, .null, .null, .null, .int 0, .null, .null, .null, .null, .null, .null, .null, .int 0, .int 0, .int 0, .int 0, .long 0, .int 0, .int 0, .int 0, .int 0, .int 0, .int 0, .int 0, .null, .null, .int 0, .null, .null, .null, .null, .null]))]) [5] (by decide) rfl
  have hKc := hK.sub (tys' := []) [] rfl
  have hFc := va_free (wc := [(q_12, .inr (8, [.int 0, .int 0, .int 0, .null, .null, .int 0, .null, .null, .null, .null, .null, .null, .null, .null, .int 0, .null, .null, .null, .null, .null, .null, .null, .int 0, .int 0, .int 0, .int 0, .long 0, .int 0, .int 0, .int 0, .int 0, .int 0, .int 0, .int 0, .null, .null, .int 0, .null, .null, .null, .null, .null]))]) hD hS hA [5] rfl
  refine va_callv (va_runI (As := []) (rest := [.ref q_12]) ⟨hx, hb, hml, hown, hts⟩ (c_X7_init l dC dI _ q_12) (cwI 0 hts gi_X7_init rfl rfl rfl (hts (.initialized RX7) (List.mem_of_getElem? (i := 57) (by decide +kernel))) (hts (.methodLink RL 12 yX7_init) (List.mem_of_getElem? (i := 669) (by decide +kernel))) (hts (.instanceMethod yX7_init) (List.mem_of_getElem? (i := 670) (by decide +kernel))) rfl (by decide +kernel) ⟨Nat.le_of_ble_eq_true rfl, Nat.le_of_ble_eq_true rfl⟩) ⟨fun a U g mk q => by obtain ⟨q0, q1, qP, qK, qD⟩ := q; exact ⟨q0, q1, qP, va_K.moved (u := U) (U := U.calling g mk a) (Vm.Alike.refl U.vm) qK, qD⟩, fun U hU hW => ⟨rfl, by rw [hU], by rw [hU]; exact hPc, va_K.moved hW.alike hKc, hDc.weaken (fun _ _ _ _ => trivial)⟩⟩ rfl rfl hl.1 rfl (lv_room (Nat.le_of_ble_eq_true rfl)) dL_law_12 ⟨by decide, by decide⟩) hS (fun q _ h => hFc q h) hFc (fun u t H1 locs ht hvm hw hB hz1 hk1 hS => ?_)
  obtain ⟨b3_13, b4_14, b6_15, b7_16, b8_17, b9_18, b10_19, b11_20, b12_21, b13_22, b15_23, b16_24, b17_25, b18_26, b19_27, b20_28, b21_29, b34_30, b35_31, b37_32, b38_33, b39_34, b40_35, b41_36, cD_37, cC_38, cT_39, hP1, hK1, hD1⟩ := hB
  rw [ht] at hP1
  obtain ⟨hP, hD⟩ := va_join (wr := [(q_1, .inr (7, [.ref a0_2, .ref a1_3, .ref a2_4, .ref a3_5, .ref a4_6, .ref a5_7, .ref a6_8, .int 0, .int (-1), .int (-1), .int 0])), (a0_2, .inl (cA_10, 30, .inl (fun _ => 0))), (a2_4, .inr (0, [.int 0, ve, .int 0])), (a3_5, .inr (6, [.ref ab_9, .int 0])), (ab_9, .inl (cB_11, 300, .inl (fun _ => 0)))]) (w1 := [(q_12, .inr (8, [.int 0, .int 0, .int 0, .ref b3_13, .ref b4_14, .int 0, .ref b6_15, .ref b7_16, .ref b8_17, .ref b9_18, .ref b10_19, .ref b11_20, .ref b12_21, .ref b13_22, .int 0, .ref b15_23, .ref b16_24, .ref b17_25, .ref b18_26, .ref b19_27, .ref b20_28, .ref b21_29, .int 0, .int 0, .int 0, .int 0, .long 0, .int (-1), .int 0, .int 0, .int 0, .int 0, .int 0, .int 0, .ref b34_30, .ref b35_31, .int 0, .ref b37_32, .ref b38_33, .ref b39_34, .ref b40_35, .ref b41_36])), (b3_13, .inl (cD_37, 30, .inl (fun _ => 0))), (b4_14, .inl (cC_38, 30, .inl (fun _ => 0))), (b21_29, .inl (cT_39, 300, .inl (fun _ => 0)))]) hP hD [5] [0, 1, 2, 3, 4] rfl rfl (by decide) (by decide) hk1 hFc hP1 hD1
  have hK := hK.app (va_K.moved hvm.symm hK1)
  have hK : va_K (dC, dI) vwCl [(cA_10, .int), (cB_11, .int), (cD_37, .int), (cC_38, .int), (cT_39, .int)] s := hK
  generalize H1 = H at hP hS ⊢
  have hP : va_P (dC, dI) vwCl [(q_1, .inr (7, [.ref a0_2, .ref a1_3, .ref a2_4, .ref a3_5, .ref a4_6, .ref a5_7, .ref a6_8, .int 0, .int (-1), .int (-1), .int 0])), (a0_2, .inl (cA_10, 30, .inl (fun _ => 0))), (a2_4, .inr (0, [.int 0, ve, .int 0])), (a3_5, .inr (6, [.ref ab_9, .int 0])), (ab_9, .inl (cB_11, 300, .inl (fun _ => 0))), (q_12, .inr (8, [.int 0, .int 0, .int 0, .ref b3_13, .ref b4_14, .int 0, .ref b6_15, .ref b7_16, .ref b8_17, .ref b9_18, .ref b10_19, .ref b11_20, .ref b12_21, .ref b13_22, .int 0, .ref b15_23, .ref b16_24, .ref b17_25, .ref b18_26, .ref b19_27, .ref b20_28, .ref b21_29, .int 0, .int 0, .int 0, .int 0, .long 0, .int (-1), .int 0, .int 0, .int 0, .int 0, .int 0, .int 0, .ref b34_30, .ref b35_31, .int 0, .ref b37_32, .ref b38_33, .ref b39_34, .ref b40_35, .ref b41_36])), (b3_13, .inl (cD_37, 30, .inl (fun _ => 0))), (b4_14, .inl (cC_38, 30, .inl (fun _ => 0))), (b21_29, .inl (cT_39, 300, .inl (fun _ => 0)))] H := hP
  have hD : va_D A [(q_1, .inr (7, [.ref a0_2, .ref a1_3, .ref a2_4, .ref a3_5, .ref a4_6, .ref a5_7, .ref a6_8, .int 0, .int (-1), .int (-1), .int 0])), (a0_2, .inl (cA_10, 30, .inl (fun _ => 0))), (a2_4, .inr (0, [.int 0, ve, .int 0])), (a3_5, .inr (6, [.ref ab_9, .int 0])), (ab_9, .inl (cB_11, 300, .inl (fun _ => 0))), (q_12, .inr (8, [.int 0, .int 0, .int 0, .ref b3_13, .ref b4_14, .int 0, .ref b6_15, .ref b7_16, .ref b8_17, .ref b9_18, .ref b10_19, .ref b11_20, .ref b12_21, .ref b13_22, .int 0, .ref b15_23, .ref b16_24, .ref b17_25, .ref b18_26, .ref b19_27, .ref b20_28, .ref b21_29, .int 0, .int 0, .int 0, .int 0, .long 0, .int (-1), .int 0, .int 0, .int 0, .int 0, .int 0, .int 0, .ref b34_30, .ref b35_31, .int 0, .ref b37_32, .ref b38_33, .ref b39_34, .ref b40_35, .ref b41_36])), (b3_13, .inl (cD_37, 30, .inl (fun _ => 0))), (b4_14, .inl (cC_38, 30, .inl (fun _ => 0))), (b21_29, .inl (cT_39, 300, .inl (fun _ => 0)))] := hD
  refine W.widen (k := 43) (n := 9030) (by omega) (by omega) ?_
  refine lv_astore_n (lv' := [(2, .ref q_12), (1, .ref q_1), (0, .ref b)]) hx hb dL_law_15 rfl hl (by decide) rfl (fun ls hl => ?_)
  refine lv_iconst (v := 0) hx hb dL_law_16 (by decide) ?_
  refine lv_istore_n (lv' := [(3, .int 0), (2, .ref q_12), (1, .ref q_1), (0, .ref b)]) hx hb dL_law_17 rfl hl (by decide) rfl (fun ls hl => ?_)
  refine lv_iload_n hx hb dL_law_18 rfl (lv_at hl 0 rfl) ?_
  refine lv_aload_n hx hb dL_law_19 rfl (lv_at hl 3 rfl) ?_
  refine va_slen hx hb hX hbl hbA hS dL_law_20 ?_
  refine lv_bipush (v := 6) hx hb dL_law_21 (by decide) ?_
  refine lv_isub hx hb dL_law_23 ?_
  refine lv_icmp_gt (tgt := 774) hx hb dL_law_24 (by decide) (fun c_1 => ?_) (fun c_1 => ?_)
  · refine lv_iconst (v := 1) hx hb dL_law_774 (by decide) ?_
    refine va_forget (fun q hq => by have h9 := hS.2.2 q hq; rw [hAe] at h9; exact h9) ?_
    refine W.widen (k := 600000) (n := 7302250) (by decide) (by decide) ?_
    exact lw_ret hx hb hr hlocks dL_law_775
  have h6 : L = 6 := by
    rcases Nat.lt_or_ge L 6 with h | h
    · exact absurd (show Int32.ofNat L - 6 < 0 from pk_sneg (a := L) (b := 6) (by decide) h) c_1
    · omega
  subst h6
  refine lv_aload_n hx hb dL_law_27 rfl (lv_at hl 3 rfl) ?_
  refine lv_iload_n hx hb dL_law_28 rfl (lv_at hl 0 rfl) ?_
  refine va_sld hx hb hX hbl hbA hS (show vp_in (nI 0) 6 from vp_in_nI (by decide) (by decide)) dL_law_29 ?_
  refine lv_bipush (v := 31) hx hb dL_law_30 (by decide) ?_
  refine lv_iand hx hb dL_law_32 ?_
  refine lv_topi (fun x_1 ex_1 => ?_)
  by_cases t_0 : x_1 = 0
  · have tx : x_1.toInt = 0 := by rw [t_0]; decide
    refine lv_tableIn (off := 95) (tgt := 128) hx hb dL_law_33 (by rw [tx]; decide) (by rw [tx]; decide) (by rw [tx]; decide +kernel) (by decide) ?_
    exact lc_0 C0 hAe hK hP hD hS hl
  by_cases t_1 : x_1 = 1
  · have tx : x_1.toInt = 1 := by rw [t_1]; decide
    refine lv_tableIn (off := 118) (tgt := 151) hx hb dL_law_33 (by rw [tx]; decide) (by rw [tx]; decide) (by rw [tx]; decide +kernel) (by decide) ?_
    exact lc_1 C0 hAe hK hP hD hS hl
  by_cases t_2 : x_1 = 2
  · have tx : x_1.toInt = 2 := by rw [t_2]; decide
    refine lv_tableIn (off := 181) (tgt := 214) hx hb dL_law_33 (by rw [tx]; decide) (by rw [tx]; decide) (by rw [tx]; decide +kernel) (by decide) ?_
    exact lc_2 C0 hAe hK hP hD hS hl
  by_cases t_3 : x_1 = 3
  · have tx : x_1.toInt = 3 := by rw [t_3]; decide
    refine lv_tableIn (off := 204) (tgt := 237) hx hb dL_law_33 (by rw [tx]; decide) (by rw [tx]; decide) (by rw [tx]; decide +kernel) (by decide) ?_
    exact lc_3 C0 hAe hK hP hD hS hl
  by_cases t_4 : x_1 = 4
  · have tx : x_1.toInt = 4 := by rw [t_4]; decide
    refine lv_tableIn (off := 227) (tgt := 260) hx hb dL_law_33 (by rw [tx]; decide) (by rw [tx]; decide) (by rw [tx]; decide +kernel) (by decide) ?_
    exact lc_4 C0 hAe hK hP hD hS hl
  by_cases t_5 : x_1 = 5
  · have tx : x_1.toInt = 5 := by rw [t_5]; decide
    refine lv_tableIn (off := 240) (tgt := 273) hx hb dL_law_33 (by rw [tx]; decide) (by rw [tx]; decide) (by rw [tx]; decide +kernel) (by decide) ?_
    exact lc_5 C0 hAe hK hP hD hS hl
  by_cases t_6 : x_1 = 6
  · have tx : x_1.toInt = 6 := by rw [t_6]; decide
    refine lv_tableIn (off := 273) (tgt := 306) hx hb dL_law_33 (by rw [tx]; decide) (by rw [tx]; decide) (by rw [tx]; decide +kernel) (by decide) ?_
    exact lc_6 C0 hAe hK hP hD hS hl
  by_cases t_7 : x_1 = 7
  · have tx : x_1.toInt = 7 := by rw [t_7]; decide
    refine lv_tableIn (off := 306) (tgt := 339) hx hb dL_law_33 (by rw [tx]; decide) (by rw [tx]; decide) (by rw [tx]; decide +kernel) (by decide) ?_
    exact lc_7 C0 hAe hK hP hD hS hl
  by_cases t_8 : x_1 = 8
  · have tx : x_1.toInt = 8 := by rw [t_8]; decide
    refine lv_tableIn (off := 339) (tgt := 372) hx hb dL_law_33 (by rw [tx]; decide) (by rw [tx]; decide) (by rw [tx]; decide +kernel) (by decide) ?_
    exact lc_8 C0 hAe hK hP hD hS hl
  by_cases t_9 : x_1 = 9
  · have tx : x_1.toInt = 9 := by rw [t_9]; decide
    refine lv_tableIn (off := 372) (tgt := 405) hx hb dL_law_33 (by rw [tx]; decide) (by rw [tx]; decide) (by rw [tx]; decide +kernel) (by decide) ?_
    exact lc_9 C0 hAe hK hP hD hS hl
  by_cases t_10 : x_1 = 10
  · have tx : x_1.toInt = 10 := by rw [t_10]; decide
    refine lv_tableIn (off := 415) (tgt := 448) hx hb dL_law_33 (by rw [tx]; decide) (by rw [tx]; decide) (by rw [tx]; decide +kernel) (by decide) ?_
    exact lc_10 C0 hAe hK hP hD hS hl
  by_cases t_11 : x_1 = 11
  · have tx : x_1.toInt = 11 := by rw [t_11]; decide
    refine lv_tableIn (off := 458) (tgt := 491) hx hb dL_law_33 (by rw [tx]; decide) (by rw [tx]; decide) (by rw [tx]; decide +kernel) (by decide) ?_
    exact lc_11 C0 hAe hK hP hD hS hl
  by_cases t_12 : x_1 = 12
  · have tx : x_1.toInt = 12 := by rw [t_12]; decide
    refine lv_tableIn (off := 491) (tgt := 524) hx hb dL_law_33 (by rw [tx]; decide) (by rw [tx]; decide) (by rw [tx]; decide +kernel) (by decide) ?_
    exact lc_12 C0 hAe hK hP hD hS hl
  by_cases t_13 : x_1 = 13
  · have tx : x_1.toInt = 13 := by rw [t_13]; decide
    refine lv_tableIn (off := 524) (tgt := 557) hx hb dL_law_33 (by rw [tx]; decide) (by rw [tx]; decide) (by rw [tx]; decide +kernel) (by decide) ?_
    exact lc_13 C0 hAe hK hP hD hS hl
  by_cases t_14 : x_1 = 14
  · have tx : x_1.toInt = 14 := by rw [t_14]; decide
    refine lv_tableIn (off := 567) (tgt := 600) hx hb dL_law_33 (by rw [tx]; decide) (by rw [tx]; decide) (by rw [tx]; decide +kernel) (by decide) ?_
    exact lc_14 C0 hAe hK hP hD hS hl
  by_cases t_15 : x_1 = 15
  · have tx : x_1.toInt = 15 := by rw [t_15]; decide
    refine lv_tableIn (off := 610) (tgt := 643) hx hb dL_law_33 (by rw [tx]; decide) (by rw [tx]; decide) (by rw [tx]; decide +kernel) (by decide) ?_
    exact lc_15 C0 hAe hK hP hD hS hl
  by_cases t_16 : x_1 = 16
  · have tx : x_1.toInt = 16 := by rw [t_16]; decide
    refine lv_tableIn (off := 643) (tgt := 676) hx hb dL_law_33 (by rw [tx]; decide) (by rw [tx]; decide) (by rw [tx]; decide +kernel) (by decide) ?_
    exact lc_16 C0 hAe hK hP hD hS hl
  by_cases t_17 : x_1 = 17
  · have tx : x_1.toInt = 17 := by rw [t_17]; decide
    refine lv_tableIn (off := 666) (tgt := 699) hx hb dL_law_33 (by rw [tx]; decide) (by rw [tx]; decide) (by rw [tx]; decide +kernel) (by decide) ?_
    exact lc_17 C0 hAe hK hP hD hS hl
  by_cases t_18 : x_1 = 18
  · have tx : x_1.toInt = 18 := by rw [t_18]; decide
    refine lv_tableIn (off := 699) (tgt := 732) hx hb dL_law_33 (by rw [tx]; decide) (by rw [tx]; decide) (by rw [tx]; decide +kernel) (by decide) ?_
    exact lc_18 C0 hAe hK hP hD hS hl
  by_cases t_19 : x_1 = 19
  · have tx : x_1.toInt = 19 := by rw [t_19]; decide
    refine lv_tableIn (off := 722) (tgt := 755) hx hb dL_law_33 (by rw [tx]; decide) (by rw [tx]; decide) (by rw [tx]; decide +kernel) (by decide) ?_
    exact lc_19 C0 hAe hK hP hD hS hl
  refine lv_tableOut (tgt := 768) hx hb dL_law_33 (lk_out19 t_0 t_1 t_2 t_3 t_4 t_5 t_6 t_7 t_8 t_9 t_10 t_11 t_12 t_13 t_14 t_15 t_16 t_17 t_18 t_19) (by decide) ?_
  exact lc_end (dC := dC) (dI := dI) C0 hAe hS hl
