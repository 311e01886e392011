theorem dL_law_18 : decode cL_law 18 = .ok (.iload_n 3, 1) := by decide +kernel
theorem dL_law_19 : decode cL_law 19 = .ok (.aload_n 0, 1) := by decide +kernel
theorem dL_law_20 : decode cL_law 20 = .ok (.arraylength, 1) := by decide +kernel
theorem dL_law_21 : decode cL_law 21 = .ok (.bipush 6, 2) := by decide +kernel
theorem dL_law_23 : decode cL_law 23 = .ok (.isub, 1) := by decide +kernel
theorem dL_law_24 : decode cL_law 24 = .ok (.if_icmp .gt 750, 3) := by decide +kernel
theorem dL_law_774 : decode cL_law 774 = .ok (.iconst 1, 1) := by decide +kernel
theorem dL_law_775 : decode cL_law 775 = .ok (.ireturn, 1) := by decide +kernel
theorem dL_law_768 : decode cL_law 768 = .ok (.iinc 3 6, 3) := by decide +kernel
theorem dL_law_771 : decode cL_law 771 = .ok (.goto (-753), 3) := by decide +kernel
theorem dL_law_27 : decode cL_law 27 = .ok (.aload_n 0, 1) := by decide +kernel
theorem dL_law_28 : decode cL_law 28 = .ok (.iload_n 3, 1) := by decide +kernel
theorem dL_law_29 : decode cL_law 29 = .ok (.iaload, 1) := by decide +kernel
theorem dL_law_30 : decode cL_law 30 = .ok (.bipush 31, 2) := by decide +kernel
theorem dL_law_32 : decode cL_law 32 = .ok (.iand, 1) := by decide +kernel
theorem dL_law_33 : decode cL_law 33 = .ok (.tableswitch 735 0 19 #[95, 118, 181, 204, 227, 240, 273, 306, 339, 372, 415, 458, 491, 524, 567, 610, 643, 666, 699, 722], 95) := by decide +kernel
set_option maxHeartbeats 8000000 in
set_option maxRecDepth 100000 in
/-- the law's loop -/
theorem lw_loop {p : Program} {l : Launch} {e : Env} {s : State} {m : MethodId} {below : List Frame} {meth : Method} {c : Code} {dC : Nat → ClassId} {dI : Nat → Nat → Nat} {b L ze mi : Nat} {zo : Option Nat} {xs : Nat → Int32} {A : Nat → Prop} {cO : ClassId} {g0 a1 a2 a3 ab a4 a0 a5 d0 d1 d2 d3 a6 qc0 qc1 qc2 qc3 g1 z3 z4 z6 z7 z8 z9 z10 z11 z12 z13 z15 z16 z17 z18 z19 z20 z21 z34 z35 z37 z38 z39 z40 z41 : Nat} {kA kC kB kd0 kd1 kd2 kd3 kc0 kc1 kc2 kc3 mcA mcC mcM mcL mcK mcP mcO mcN mcB mcG mc1 mc2 mc3 mc4 mc5 mc6 mcT mcD mcV mcW mcU mcS mcZ mcE : ClassId} (C0 : lw_At p s m meth c b L xs) (hAe : A = fun q : Nat => s.heap.size ≤ q) (hL : L ≤ 3072) (hK : va_K (dC, dI) vwCl [(kA, .int), (kC, .int), (kB, .int), (kd0, .int), (kd1, .int), (kd2, .int), (kd3, .int), (kc0, .int), (kc1, .long), (kc2, .int), (kc3, .int), (cO, .object "java/lang/Object"), (mcA, .int), (mcC, .int), (mcM, .int), (mcL, .int), (mcK, .int), (mcP, .int), (mcO, .int), (mcN, .int), (mcB, .int), (mcG, .long), (mc1, .int), (mc2, .int), (mc3, .int), (mc4, .int), (mc5, .int), (mc6, .long), (mcT, .int), (mcD, .int), (mcV, .int), (mcW, .int), (mcU, .int), (mcS, .int), (mcZ, .boolean), (mcE, .boolean)] s) (hE : okEnv zo A s s.heap) (hAL : okAL ze mi A s s.heap) (nw1c : va_Nw (.methodLinkNest RX1 42 yX6_cell "AgreedTalks") s) (nw0c : va_Nw (.methodLinkNest RX0 54 yX6_cell "AgreedTalks") s) (nw0b : va_Nw (.methodLinkNest RX0 60 yX6_bit "AgreedTalks") s) (nw4b : va_Nw (.methodLinkNest RX4 101 yX6_bit "AgreedTalks") s) (nw4p : va_Nw (.methodLinkNest RX4 117 yX6_isPerson "AgreedTalks") s) : ∀ (n i9 : Nat) (H : Heap) (locs : List Loc) (ls : Array Slot), L < i9 + n → i9 ≤ L → lwAll dC dI ze cO A g0 a1 a2 a3 ab a4 a0 a5 d0 d1 d2 d3 a6 qc0 qc1 qc2 qc3 g1 z3 z4 z6 z7 z8 z9 z10 z11 z12 z13 z15 z16 z17 z18 z19 z20 z21 z34 z35 z37 z38 z39 z40 z41 kA kC kB kd0 kd1 kd2 kd3 kc0 kc1 kc2 kc3 mcA mcC mcM mcL mcK mcP mcO mcN mcB mcG mc1 mc2 mc3 mc4 mc5 mc6 mcT mcD mcV mcW mcU mcS mcZ mcE H → va_S A s.heap H locs → lv_has ls 4 [(3, .int (nI i9)), (2, .ref g1), (1, .ref g0), (0, .ref b)] → W p l e room_1 s m #[Value.ref b] below meth c H locs (43 + 8 * i9) (9030 + 267 * i9) (lw_Z below #[Value.ref b] s) (F0 m 18 ls []) := by
  obtain ⟨hx, hb, hr, hml, hown, hts0, hX, hbl, hlocks, hgv⟩ := id C0
  have hts : ∀ w ∈ lw_tbl, w.before #[Value.ref b] s = true := hts0
  have hA : ∀ q : Nat, s.heap.size ≤ q → A q := fun q h => by rw [hAe]; exact h
  have hbA : ¬ A b := by rw [hAe]; exact Nat.not_le.mpr hbl
  intro n
  induction n with
  | zero =>
    intro i9 H locs ls hn hiL
    exact absurd hn (by omega)
  | succ n ih =>
    intro i9 H locs ls hn hiL hI hS hl
    refine lv_iload_n hx hb dL_law_18 rfl (lv_at hl 0 rfl) ?_
    refine lv_aload_n hx hb dL_law_19 rfl (lv_at hl 3 rfl) ?_
    refine va_slen hx hb hX hbl hbA hS dL_law_20 ?_
    refine lv_bipush (v := 6) hx hb dL_law_21 (by decide) ?_
    refine lv_isub hx hb dL_law_23 ?_
    refine lv_icmp_gt (tgt := 774) hx hb dL_law_24 (by decide) (fun c_1 => ?_) (fun c_1 => ?_)
    · refine lv_iconst (v := 1) hx hb dL_law_774 (by decide) ?_
      refine va_forget (fun q hq => by have h9 := hS.2.2 q hq; rw [hAe] at h9; exact h9) ?_
      refine W.widen (k := 600000) (n := 7302249) (by omega) (by omega) ?_
      exact lw_ret hx hb hr hlocks dL_law_775
    have h6 : i9 + 6 ≤ L := by
      rcases Nat.lt_or_ge L 6 with h | h
      · exact absurd (Int32.lt_of_lt_of_le (show Int32.ofNat L - 6 < 0 from pk_sneg (a := L) (b := 6) (by decide) h) (Int32.not_lt.mp (nI_pos (by omega)))) c_1
      · have e6 : Int32.ofNat L - 6 = nI (L - 6) := pk_sub (b := 6) h
        rw [e6] at c_1
        have h9 : ¬ L - 6 < i9 := fun q => c_1 ((nI_ltI (a := L - 6) (b := i9) (by omega) (by omega)).mpr q)
        omega
    have kk : ∀ (H : Heap) (locs : List Loc) (ls : Array Slot), lwAll dC dI ze cO A g0 a1 a2 a3 ab a4 a0 a5 d0 d1 d2 d3 a6 qc0 qc1 qc2 qc3 g1 z3 z4 z6 z7 z8 z9 z10 z11 z12 z13 z15 z16 z17 z18 z19 z20 z21 z34 z35 z37 z38 z39 z40 z41 kA kC kB kd0 kd1 kd2 kd3 kc0 kc1 kc2 kc3 mcA mcC mcM mcL mcK mcP mcO mcN mcB mcG mc1 mc2 mc3 mc4 mc5 mc6 mcT mcD mcV mcW mcU mcS mcZ mcE H → va_S A s.heap H locs → lv_has ls 4 [(3, .int (nI i9)), (2, .ref g1), (1, .ref g0), (0, .ref b)] → W p l e room_1 s m #[Value.ref b] below meth c H locs (43 + 8 * i9 + 48) (9030 + 267 * i9 + 1600) (lw_Z below #[Value.ref b] s) (F0 m 768 ls []) := fun H locs ls hI hS hl => by
      refine lv_iinc (v := nI (i9 + 6)) (lv' := [(3, .int (nI (i9 + 6))), (2, .ref g1), (1, .ref g0), (0, .ref b)]) hx hb dL_law_768 hl (k := 0) rfl (nI_add _ 6) (by decide) rfl (fun ls hl => ?_)
      refine lv_goto (tgt := 18) hx hb dL_law_771 (by decide) ?_
      refine W.widen (k := 43 + 8 * (i9 + 6)) (n := 9030 + 267 * (i9 + 6)) (by omega) (by omega) ?_
      exact ih (i9 + 6) H locs ls (by omega) h6 hI hS hl
    refine lv_aload_n hx hb dL_law_27 rfl (lv_at hl 3 rfl) ?_
    refine lv_iload_n hx hb dL_law_28 rfl (lv_at hl 0 rfl) ?_
    refine va_sld hx hb hX hbl hbA hS (vp_in_nI (by omega) (by omega)) dL_law_29 ?_
    refine lv_bipush (v := 31) hx hb dL_law_30 (by decide) ?_
    refine lv_iand hx hb dL_law_32 ?_
    refine lv_topi (fun x_1 ex_1 => ?_)
    by_cases t_0 : x_1 = 0
    · have tx : x_1.toInt = 0 := by rw [t_0]; decide
      refine lv_tableIn (off := 95) (tgt := 128) hx hb dL_law_33 (by rw [tx]; decide) (by rw [tx]; decide) (by rw [tx]; decide +kernel) (by decide) ?_
      exact lc_0 C0 hAe hL hK hE hAL nw1c nw0c nw0b nw4b nw4p h6 hI hS hl kk
    by_cases t_1 : x_1 = 1
    · have tx : x_1.toInt = 1 := by rw [t_1]; decide
      refine lv_tableIn (off := 118) (tgt := 151) hx hb dL_law_33 (by rw [tx]; decide) (by rw [tx]; decide) (by rw [tx]; decide +kernel) (by decide) ?_
      exact lc_1 C0 hAe hL hK hE hAL nw1c nw0c nw0b nw4b nw4p h6 hI hS hl kk
    by_cases t_2 : x_1 = 2
    · have tx : x_1.toInt = 2 := by rw [t_2]; decide
      refine lv_tableIn (off := 181) (tgt := 214) hx hb dL_law_33 (by rw [tx]; decide) (by rw [tx]; decide) (by rw [tx]; decide +kernel) (by decide) ?_
      exact lc_2 C0 hAe hL hK hE hAL nw1c nw0c nw0b nw4b nw4p h6 hI hS hl kk
    by_cases t_3 : x_1 = 3
    · have tx : x_1.toInt = 3 := by rw [t_3]; decide
      refine lv_tableIn (off := 204) (tgt := 237) hx hb dL_law_33 (by rw [tx]; decide) (by rw [tx]; decide) (by rw [tx]; decide +kernel) (by decide) ?_
      exact lc_3 C0 hAe hL hK hE hAL nw1c nw0c nw0b nw4b nw4p h6 hI hS hl kk
    by_cases t_4 : x_1 = 4
    · have tx : x_1.toInt = 4 := by rw [t_4]; decide
      refine lv_tableIn (off := 227) (tgt := 260) hx hb dL_law_33 (by rw [tx]; decide) (by rw [tx]; decide) (by rw [tx]; decide +kernel) (by decide) ?_
      exact lc_4 C0 hAe hL hK hE hAL nw1c nw0c nw0b nw4b nw4p h6 hI hS hl kk
    by_cases t_5 : x_1 = 5
    · have tx : x_1.toInt = 5 := by rw [t_5]; decide
      refine lv_tableIn (off := 240) (tgt := 273) hx hb dL_law_33 (by rw [tx]; decide) (by rw [tx]; decide) (by rw [tx]; decide +kernel) (by decide) ?_
      exact lc_5 C0 hAe hL hK hE hAL nw1c nw0c nw0b nw4b nw4p h6 hI hS hl kk
    by_cases t_6 : x_1 = 6
    · have tx : x_1.toInt = 6 := by rw [t_6]; decide
      refine lv_tableIn (off := 273) (tgt := 306) hx hb dL_law_33 (by rw [tx]; decide) (by rw [tx]; decide) (by rw [tx]; decide +kernel) (by decide) ?_
      exact lc_6 C0 hAe hL hK hE hAL nw1c nw0c nw0b nw4b nw4p h6 hI hS hl kk
    by_cases t_7 : x_1 = 7
    · have tx : x_1.toInt = 7 := by rw [t_7]; decide
      refine lv_tableIn (off := 306) (tgt := 339) hx hb dL_law_33 (by rw [tx]; decide) (by rw [tx]; decide) (by rw [tx]; decide +kernel) (by decide) ?_
      exact lc_7 C0 hAe hL hK hE hAL nw1c nw0c nw0b nw4b nw4p h6 hI hS hl kk
    by_cases t_8 : x_1 = 8
    · have tx : x_1.toInt = 8 := by rw [t_8]; decide
      refine lv_tableIn (off := 339) (tgt := 372) hx hb dL_law_33 (by rw [tx]; decide) (by rw [tx]; decide) (by rw [tx]; decide +kernel) (by decide) ?_
      exact lc_8 C0 hAe hL hK hE hAL nw1c nw0c nw0b nw4b nw4p h6 hI hS hl kk
    by_cases t_9 : x_1 = 9
    · have tx : x_1.toInt = 9 := by rw [t_9]; decide
      refine lv_tableIn (off := 372) (tgt := 405) hx hb dL_law_33 (by rw [tx]; decide) (by rw [tx]; decide) (by rw [tx]; decide +kernel) (by decide) ?_
      exact lc_9 C0 hAe hL hK hE hAL nw1c nw0c nw0b nw4b nw4p h6 hI hS hl kk
    by_cases t_10 : x_1 = 10
    · have tx : x_1.toInt = 10 := by rw [t_10]; decide
      refine lv_tableIn (off := 415) (tgt := 448) hx hb dL_law_33 (by rw [tx]; decide) (by rw [tx]; decide) (by rw [tx]; decide +kernel) (by decide) ?_
      exact lc_10 C0 hAe hL hK hE hAL nw1c nw0c nw0b nw4b nw4p h6 hI hS hl kk
    by_cases t_11 : x_1 = 11
    · have tx : x_1.toInt = 11 := by rw [t_11]; decide
      refine lv_tableIn (off := 458) (tgt := 491) hx hb dL_law_33 (by rw [tx]; decide) (by rw [tx]; decide) (by rw [tx]; decide +kernel) (by decide) ?_
      exact lc_11 C0 hAe hL hK hE hAL nw1c nw0c nw0b nw4b nw4p h6 hI hS hl kk
    by_cases t_12 : x_1 = 12
    · have tx : x_1.toInt = 12 := by rw [t_12]; decide
      refine lv_tableIn (off := 491) (tgt := 524) hx hb dL_law_33 (by rw [tx]; decide) (by rw [tx]; decide) (by rw [tx]; decide +kernel) (by decide) ?_
      exact lc_12 C0 hAe hL hK hE hAL nw1c nw0c nw0b nw4b nw4p h6 hI hS hl kk
    by_cases t_13 : x_1 = 13
    · have tx : x_1.toInt = 13 := by rw [t_13]; decide
      refine lv_tableIn (off := 524) (tgt := 557) hx hb dL_law_33 (by rw [tx]; decide) (by rw [tx]; decide) (by rw [tx]; decide +kernel) (by decide) ?_
      exact lc_13 C0 hAe hL hK hE hAL nw1c nw0c nw0b nw4b nw4p h6 hI hS hl kk
    by_cases t_14 : x_1 = 14
    · have tx : x_1.toInt = 14 := by rw [t_14]; decide
      refine lv_tableIn (off := 567) (tgt := 600) hx hb dL_law_33 (by rw [tx]; decide) (by rw [tx]; decide) (by rw [tx]; decide +kernel) (by decide) ?_
      exact lc_14 C0 hAe hL hK hE hAL nw1c nw0c nw0b nw4b nw4p h6 hI hS hl kk
    by_cases t_15 : x_1 = 15
    · have tx : x_1.toInt = 15 := by rw [t_15]; decide
      refine lv_tableIn (off := 610) (tgt := 643) hx hb dL_law_33 (by rw [tx]; decide) (by rw [tx]; decide) (by rw [tx]; decide +kernel) (by decide) ?_
      exact lc_15 C0 hAe hL hK hE hAL nw1c nw0c nw0b nw4b nw4p h6 hI hS hl kk
    by_cases t_16 : x_1 = 16
    · have tx : x_1.toInt = 16 := by rw [t_16]; decide
      refine lv_tableIn (off := 643) (tgt := 676) hx hb dL_law_33 (by rw [tx]; decide) (by rw [tx]; decide) (by rw [tx]; decide +kernel) (by decide) ?_
      exact lc_16 C0 hAe hL hK hE hAL nw1c nw0c nw0b nw4b nw4p h6 hI hS hl kk
    by_cases t_17 : x_1 = 17
    · have tx : x_1.toInt = 17 := by rw [t_17]; decide
      refine lv_tableIn (off := 666) (tgt := 699) hx hb dL_law_33 (by rw [tx]; decide) (by rw [tx]; decide) (by rw [tx]; decide +kernel) (by decide) ?_
      exact lc_17 C0 hAe hL hK hE hAL nw1c nw0c nw0b nw4b nw4p h6 hI hS hl kk
    by_cases t_18 : x_1 = 18
    · have tx : x_1.toInt = 18 := by rw [t_18]; decide
      refine lv_tableIn (off := 699) (tgt := 732) hx hb dL_law_33 (by rw [tx]; decide) (by rw [tx]; decide) (by rw [tx]; decide +kernel) (by decide) ?_
      exact lc_18 C0 hAe hL hK hE hAL nw1c nw0c nw0b nw4b nw4p h6 hI hS hl kk
    by_cases t_19 : x_1 = 19
    · have tx : x_1.toInt = 19 := by rw [t_19]; decide
      refine lv_tableIn (off := 722) (tgt := 755) hx hb dL_law_33 (by rw [tx]; decide) (by rw [tx]; decide) (by rw [tx]; decide +kernel) (by decide) ?_
      exact lc_19 C0 hAe hL hK hE hAL nw1c nw0c nw0b nw4b nw4p h6 hI hS hl kk
    refine lv_tableOut (tgt := 768) hx hb dL_law_33 (lk_out19 t_0 t_1 t_2 t_3 t_4 t_5 t_6 t_7 t_8 t_9 t_10 t_11 t_12 t_13 t_14 t_15 t_16 t_17 t_18 t_19) (by decide) ?_
    refine W.widen (k := 43 + 8 * i9 + 48) (n := 9030 + 267 * i9 + 1600) (by omega) (by omega) ?_
    exact kk _ _ _ hI hS hl

