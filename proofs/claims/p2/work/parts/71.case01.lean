theorem dL_law_151 : decode cL_law 151 = .ok (.aload_n 1, 1) := by decide +kernel
theorem dL_law_152 : decode cL_law 152 = .ok (.aload_n 0, 1) := by decide +kernel
theorem dL_law_153 : decode cL_law 153 = .ok (.iload_n 3, 1) := by decide +kernel
theorem dL_law_154 : decode cL_law 154 = .ok (.iconst 1, 1) := by decide +kernel
theorem dL_law_155 : decode cL_law 155 = .ok (.iadd, 1) := by decide +kernel
theorem dL_law_156 : decode cL_law 156 = .ok (.iaload, 1) := by decide +kernel
theorem dL_law_157 : decode cL_law 157 = .ok (.aload_n 0, 1) := by decide +kernel
theorem dL_law_158 : decode cL_law 158 = .ok (.iload_n 3, 1) := by decide +kernel
theorem dL_law_159 : decode cL_law 159 = .ok (.iconst 2, 1) := by decide +kernel
theorem dL_law_160 : decode cL_law 160 = .ok (.iadd, 1) := by decide +kernel
theorem dL_law_161 : decode cL_law 161 = .ok (.iaload, 1) := by decide +kernel
theorem dL_law_162 : decode cL_law 162 = .ok (.aload_n 0, 1) := by decide +kernel
theorem dL_law_163 : decode cL_law 163 = .ok (.iload_n 3, 1) := by decide +kernel
theorem dL_law_164 : decode cL_law 164 = .ok (.iconst 3, 1) := by decide +kernel
theorem dL_law_165 : decode cL_law 165 = .ok (.iadd, 1) := by decide +kernel
theorem dL_law_166 : decode cL_law 166 = .ok (.iaload, 1) := by decide +kernel
theorem dL_law_167 : decode cL_law 167 = .ok (.aload_n 0, 1) := by decide +kernel
theorem dL_law_168 : decode cL_law 168 = .ok (.iload_n 3, 1) := by decide +kernel
theorem dL_law_169 : decode cL_law 169 = .ok (.iconst 4, 1) := by decide +kernel
theorem dL_law_170 : decode cL_law 170 = .ok (.iadd, 1) := by decide +kernel
theorem dL_law_171 : decode cL_law 171 = .ok (.iaload, 1) := by decide +kernel
theorem dL_law_172 : decode cL_law 172 = .ok (.aload_n 0, 1) := by decide +kernel
theorem dL_law_173 : decode cL_law 173 = .ok (.iload_n 3, 1) := by decide +kernel
theorem dL_law_174 : decode cL_law 174 = .ok (.iconst 5, 1) := by decide +kernel
theorem dL_law_175 : decode cL_law 175 = .ok (.iadd, 1) := by decide +kernel
theorem dL_law_176 : decode cL_law 176 = .ok (.iaload, 1) := by decide +kernel
theorem dL_law_177 : decode cL_law 177 = .ok (.invokevirtual 18, 3) := by decide +kernel
theorem dL_law_180 : decode cL_law 180 = .ok (.pop, 1) := by decide +kernel
theorem dL_law_181 : decode cL_law 181 = .ok (.aload_n 2, 1) := by decide +kernel
theorem dL_law_182 : decode cL_law 182 = .ok (.aload_n 0, 1) := by decide +kernel
theorem dL_law_183 : decode cL_law 183 = .ok (.iload_n 3, 1) := by decide +kernel
theorem dL_law_184 : decode cL_law 184 = .ok (.iconst 1, 1) := by decide +kernel
theorem dL_law_185 : decode cL_law 185 = .ok (.iadd, 1) := by decide +kernel
theorem dL_law_186 : decode cL_law 186 = .ok (.iaload, 1) := by decide +kernel
theorem dL_law_187 : decode cL_law 187 = .ok (.aload_n 0, 1) := by decide +kernel
theorem dL_law_188 : decode cL_law 188 = .ok (.iload_n 3, 1) := by decide +kernel
theorem dL_law_189 : decode cL_law 189 = .ok (.iconst 2, 1) := by decide +kernel
theorem dL_law_190 : decode cL_law 190 = .ok (.iadd, 1) := by decide +kernel
theorem dL_law_191 : decode cL_law 191 = .ok (.iaload, 1) := by decide +kernel
theorem dL_law_192 : decode cL_law 192 = .ok (.aload_n 0, 1) := by decide +kernel
theorem dL_law_193 : decode cL_law 193 = .ok (.iload_n 3, 1) := by decide +kernel
theorem dL_law_194 : decode cL_law 194 = .ok (.iconst 3, 1) := by decide +kernel
theorem dL_law_195 : decode cL_law 195 = .ok (.iadd, 1) := by decide +kernel
theorem dL_law_196 : decode cL_law 196 = .ok (.iaload, 1) := by decide +kernel
theorem dL_law_197 : decode cL_law 197 = .ok (.aload_n 0, 1) := by decide +kernel
theorem dL_law_198 : decode cL_law 198 = .ok (.iload_n 3, 1) := by decide +kernel
theorem dL_law_199 : decode cL_law 199 = .ok (.iconst 4, 1) := by decide +kernel
theorem dL_law_200 : decode cL_law 200 = .ok (.iadd, 1) := by decide +kernel
theorem dL_law_201 : decode cL_law 201 = .ok (.iaload, 1) := by decide +kernel
theorem dL_law_202 : decode cL_law 202 = .ok (.aload_n 0, 1) := by decide +kernel
theorem dL_law_203 : decode cL_law 203 = .ok (.iload_n 3, 1) := by decide +kernel
theorem dL_law_204 : decode cL_law 204 = .ok (.iconst 5, 1) := by decide +kernel
theorem dL_law_205 : decode cL_law 205 = .ok (.iadd, 1) := by decide +kernel
theorem dL_law_206 : decode cL_law 206 = .ok (.iaload, 1) := by decide +kernel
theorem dL_law_207 : decode cL_law 207 = .ok (.invokevirtual 22, 3) := by decide +kernel
theorem dL_law_210 : decode cL_law 210 = .ok (.pop, 1) := by decide +kernel
theorem dL_law_211 : decode cL_law 211 = .ok (.goto 557, 3) := by decide +kernel
set_option maxRecDepth 20000 in
theorem gl_X6_feed : GoodIn lw_tbl (wsV RL 18 RX6 yX6_feed wp_X6_feed) := goodIn_app (goodIn_r _ [235, 236, 237, 48] (by decide +kernel) (by decide +kernel)) gi_X6_feed
set_option maxRecDepth 20000 in
theorem gl_X7_feed : GoodIn lw_tbl (wsV RL 22 RX7 yX7_feed wp_X7_feed) := goodIn_app (goodIn_r _ [813, 814, 815, 57] (by decide +kernel) (by decide +kernel)) gi_X7_feed
set_option maxHeartbeats 8000000 in
set_option maxRecDepth 100000 in
/-- the law, case 1 -/
theorem lc_1 {p : Program} {l : Launch} {e : Env} {s : State} {m : MethodId} {below : List Frame} {meth : Method} {c : Code} {dC : Nat → ClassId} {dI : Nat → Nat → Nat} {b L ze mi : Nat} {zo : Option Nat} {xs : Nat → Int32} {A : Nat → Prop} {cO : ClassId} {g0 a1 a2 a3 ab a4 a0 a5 d0 d1 d2 d3 a6 qc0 qc1 qc2 qc3 g1 z3 z4 z6 z7 z8 z9 z10 z11 z12 z13 z15 z16 z17 z18 z19 z20 z21 z34 z35 z37 z38 z39 z40 z41 : Nat} {kA kC kB kd0 kd1 kd2 kd3 kc0 kc1 kc2 kc3 mcA mcC mcM mcL mcK mcP mcO mcN mcB mcG mc1 mc2 mc3 mc4 mc5 mc6 mcT mcD mcV mcW mcU mcS mcZ mcE : ClassId} (C0 : lw_At p s m meth c b L xs) (hAe : A = fun q : Nat => s.heap.size ≤ q) (hL : L ≤ 3072) (hK : va_K (dC, dI) vwCl [(kA, .int), (kC, .int), (kB, .int), (kd0, .int), (kd1, .int), (kd2, .int), (kd3, .int), (kc0, .int), (kc1, .long), (kc2, .int), (kc3, .int), (cO, .object "java/lang/Object"), (mcA, .int), (mcC, .int), (mcM, .int), (mcL, .int), (mcK, .int), (mcP, .int), (mcO, .int), (mcN, .int), (mcB, .int), (mcG, .long), (mc1, .int), (mc2, .int), (mc3, .int), (mc4, .int), (mc5, .int), (mc6, .long), (mcT, .int), (mcD, .int), (mcV, .int), (mcW, .int), (mcU, .int), (mcS, .int), (mcZ, .boolean), (mcE, .boolean)] s) (hE : okEnv zo A s s.heap) (hAL : okAL ze mi A s s.heap) (nw1c : va_Nw (.methodLinkNest RX1 42 yX6_cell "AgreedTalks") s) (nw0c : va_Nw (.methodLinkNest RX0 54 yX6_cell "AgreedTalks") s) (nw0b : va_Nw (.methodLinkNest RX0 60 yX6_bit "AgreedTalks") s) (nw4b : va_Nw (.methodLinkNest RX4 101 yX6_bit "AgreedTalks") s) (nw4p : va_Nw (.methodLinkNest RX4 117 yX6_isPerson "AgreedTalks") s) {i9 : Nat} {H : Heap} {locs : List Loc} {ls : Array Slot} (hi : i9 + 6 ≤ L) (hI : lwAll dC dI ze cO A g0 a1 a2 a3 ab a4 a0 a5 d0 d1 d2 d3 a6 qc0 qc1 qc2 qc3 g1 z3 z4 z6 z7 z8 z9 z10 z11 z12 z13 z15 z16 z17 z18 z19 z20 z21 z34 z35 z37 z38 z39 z40 z41 kA kC kB kd0 kd1 kd2 kd3 kc0 kc1 kc2 kc3 mcA mcC mcM mcL mcK mcP mcO mcN mcB mcG mc1 mc2 mc3 mc4 mc5 mc6 mcT mcD mcV mcW mcU mcS mcZ mcE H) (hS : va_S A s.heap H locs) (hl : lv_has ls 4 [(3, .int (nI i9)), (2, .ref g1), (1, .ref g0), (0, .ref b)]) (kk : ∀ (H : Heap) (locs : List Loc) (ls : Array Slot), lwAll dC dI ze cO A g0 a1 a2 a3 ab a4 a0 a5 d0 d1 d2 d3 a6 qc0 qc1 qc2 qc3 g1 z3 z4 z6 z7 z8 z9 z10 z11 z12 z13 z15 z16 z17 z18 z19 z20 z21 z34 z35 z37 z38 z39 z40 z41 kA kC kB kd0 kd1 kd2 kd3 kc0 kc1 kc2 kc3 mcA mcC mcM mcL mcK mcP mcO mcN mcB mcG mc1 mc2 mc3 mc4 mc5 mc6 mcT mcD mcV mcW mcU mcS mcZ mcE H → va_S A s.heap H locs → lv_has ls 4 [(3, .int (nI i9)), (2, .ref g1), (1, .ref g0), (0, .ref b)] → W p l e room_1 s m #[Value.ref b] below meth c H locs (43 + 8 * i9 + 48) (9030 + 267 * i9 + 1600) (lw_Z below #[Value.ref b] s) (F0 m 768 ls [])) : W p l e room_1 s m #[Value.ref b] below meth c H locs (43 + 8 * i9) (9030 + 267 * i9) (lw_Z below #[Value.ref b] s) (F0 m 151 ls []) := by
  obtain ⟨hx, hb, hr, hml, hown, hts0, hX, hbl, hlocks, hgv⟩ := id C0
  have hts : ∀ w ∈ lw_tbl, w.before #[Value.ref b] s = true := hts0
  have hA : ∀ q : Nat, s.heap.size ≤ q → A q := fun q h => by rw [hAe]; exact h
  have hbA : ¬ A b := by rw [hAe]; exact Nat.not_le.mpr hbl
  refine hI _ ?_
  intro mk xsh xfp xrf fa xfc xmc xev xnr xtp xfb xsv xpv xsd xv1 xv2 xv3 xv4 xu1 xu2 xu3 xu4 ri0 ri1 vrfc rk vrfm vrfl vrfk vrfp vrfo vrfn vrfb vrfg nl vrnk vrnp vrno vrnn vrnb vrng vrft rtp ri23 ri24 ri25 rw26 ri27 ri28 ri29 ri30 ri31 ri32 ri33 vrfd vrfv tm vrfw vrfu vrfs vrfz vrfe hmk hnr hxtp hrk hnl hrtp htm hC hL_ hM hN hPp hW_ hDd hnn hnp hRc hP hD
  refine lv_aload_n hx hb dL_law_151 rfl (lv_at hl 2 rfl) ?_
  refine lv_aload_n hx hb dL_law_152 rfl (lv_at hl 3 rfl) ?_
  refine lv_iload_n hx hb dL_law_153 rfl (lv_at hl 0 rfl) ?_
  refine lv_iconst (v := 1) hx hb dL_law_154 (by decide) ?_
  refine lv_iadd hx hb dL_law_155 ?_
  refine lv_topi (fun x_1 ex_1 => ?_)
  obtain rfl : x_1 = (nI (i9 + 1)) := by rw [ex_1]; exact nI_add _ _
  refine va_sld hx hb hX hbl hbA hS (vp_in_nI (by omega) (by omega)) dL_law_156 ?_
  refine lv_topi (fun x_2 ex_2 => ?_)
  refine lv_aload_n hx hb dL_law_157 rfl (lv_at hl 3 rfl) ?_
  refine lv_iload_n hx hb dL_law_158 rfl (lv_at hl 0 rfl) ?_
  refine lv_iconst (v := 2) hx hb dL_law_159 (by decide) ?_
  refine lv_iadd hx hb dL_law_160 ?_
  refine lv_topi (fun x_3 ex_3 => ?_)
  obtain rfl : x_3 = (nI (i9 + 2)) := by rw [ex_3]; exact nI_add _ _
  refine va_sld hx hb hX hbl hbA hS (vp_in_nI (by omega) (by omega)) dL_law_161 ?_
  refine lv_topi (fun x_4 ex_4 => ?_)
  refine lv_aload_n hx hb dL_law_162 rfl (lv_at hl 3 rfl) ?_
  refine lv_iload_n hx hb dL_law_163 rfl (lv_at hl 0 rfl) ?_
  refine lv_iconst (v := 3) hx hb dL_law_164 (by decide) ?_
  refine lv_iadd hx hb dL_law_165 ?_
  refine lv_topi (fun x_5 ex_5 => ?_)
  obtain rfl : x_5 = (nI (i9 + 3)) := by rw [ex_5]; exact nI_add _ _
  refine va_sld hx hb hX hbl hbA hS (vp_in_nI (by omega) (by omega)) dL_law_166 ?_
  refine lv_topi (fun x_6 ex_6 => ?_)
  refine lv_aload_n hx hb dL_law_167 rfl (lv_at hl 3 rfl) ?_
  refine lv_iload_n hx hb dL_law_168 rfl (lv_at hl 0 rfl) ?_
  refine lv_iconst (v := 4) hx hb dL_law_169 (by decide) ?_
  refine lv_iadd hx hb dL_law_170 ?_
  refine lv_topi (fun x_7 ex_7 => ?_)
  obtain rfl : x_7 = (nI (i9 + 4)) := by rw [ex_7]; exact nI_add _ _
  refine va_sld hx hb hX hbl hbA hS (vp_in_nI (by omega) (by omega)) dL_law_171 ?_
  refine lv_topi (fun x_8 ex_8 => ?_)
  refine lv_aload_n hx hb dL_law_172 rfl (lv_at hl 3 rfl) ?_
  refine lv_iload_n hx hb dL_law_173 rfl (lv_at hl 0 rfl) ?_
  refine lv_iconst (v := 5) hx hb dL_law_174 (by decide) ?_
  refine lv_iadd hx hb dL_law_175 ?_
  refine lv_topi (fun x_9 ex_9 => ?_)
  obtain rfl : x_9 = (nI (i9 + 5)) := by rw [ex_9]; exact nI_add _ _
  refine va_sld hx hb hX hbl hbA hS (vp_in_nI (by omega) (by omega)) dL_law_176 ?_
  refine lv_topi (fun x_10 ex_10 => ?_)
  have hPc := hP.sub (ws' := [(g0, .inr (7, [.ref a0, .ref a1, .ref a2, .ref a3, .ref a4, .ref a5, .ref a6, .int (nI mk), .int xsh, .int xfp, .int xrf])), (a3, .inr (6, [.ref ab, .int (nI xtp)])), (ab, .inl (kB, 300, .inl xfb))]) [0, 3, 4] rfl
  have hDc := hD.sub (ws' := [(g0, .inr (7, [.ref a0, .ref a1, .ref a2, .ref a3, .ref a4, .ref a5, .ref a6, .int (nI mk), .int xsh, .int xfp, .int xrf])), (a3, .inr (6, [.ref ab, .int (nI xtp)])), (ab, .inl (kB, 300, .inl xfb))]) [0, 3, 4] (by decide) rfl
  have hKc := hK.sub (tys' := [(kB, .int)]) [2] rfl
  have hFc := va_free (wc := [(g0, .inr (7, [.ref a0, .ref a1, .ref a2, .ref a3, .ref a4, .ref a5, .ref a6, .int (nI mk), .int xsh, .int xfp, .int xrf])), (a3, .inr (6, [.ref ab, .int (nI xtp)])), (ab, .inl (kB, 300, .inl xfb))]) hD hS hA [0, 3, 4] rfl
  refine va_calli (va_runV (As := [.int x_2, .int x_4, .int x_6, .int x_8, .int x_10]) (rest := []) ⟨hx, hb, hml, hown, hts⟩ (c_X6_feed l dC dI _ g0 a0 a1 a2 a3 a4 a5 a6 mk xsh xfp xrf ab xtp kB xfb x_2 x_4 x_6 x_8 x_10 (by omega)) (cwV 5 hts gl_X6_feed rfl rfl rfl (by decide +kernel) ⟨Nat.le_of_ble_eq_true rfl, Nat.le_of_ble_eq_true rfl⟩) ⟨fun a U g mk q => by obtain ⟨q0, q1, qP, qK, qD⟩ := q; exact ⟨q0, q1, qP, va_K.moved (u := U) (U := U.calling g mk a) (Vm.Alike.refl U.vm) qK, qD⟩, va_recv hKc hPc (ci := 7) (q0 := 0) rfl rfl, fun U hU hW => ⟨rfl, by rw [hU], by rw [hU]; exact hPc, va_K.moved hW.alike hKc, hDc.weaken (fun _ _ _ _ => trivial)⟩⟩ rfl rfl hl.1 rfl (lv_room (Nat.le_of_ble_eq_true rfl)) dL_law_177 ⟨by show 43 + 8 * i9 + 0 + 0 ≤ 600000; omega, by show 9030 + 267 * i9 + 0 + 0 ≤ 7302249; omega⟩) hS (fun q _ h => hFc q h) hFc (fun r_11 u t H1 locs ht hvm hw hB hz1 hk1 hS => ?_)
  obtain ⟨tq_12, gb_13, hf_14, hP1, hK1, hD1⟩ := hB
  rw [ht] at hP1
  obtain ⟨hP, hD⟩ := va_join (wr := [(a1, .inl (kC, 30, .inl xfc)), (a2, .inr (0, [.int xmc, xev, .int (nI xnr)])), (a4, .inr (5, [.ref a3, .int xsv, .int xpv])), (a0, .inl (kA, 30, .inl fa)), (a5, .inr (2, [.ref d0, .ref d1, .ref d2, .ref d3])), (d0, .inl (kd0, 40, .inl xv1)), (d1, .inl (kd1, 40, .inl xv2)), (d2, .inl (kd2, 40, .inl xv3)), (d3, .inl (kd3, 480, .inl xv4)), (a6, .inr (1, [.ref qc0, .ref qc1, .ref qc2, .ref qc3, .long xsd])), (qc0, .inl (kc0, 480, .inl xu1)), (qc1, .inl (kc1, 480, .inr (.inl xu2))), (qc2, .inl (kc2, 480, .inl xu3)), (qc3, .inl (kc3, 40, .inl xu4)), (g1, .inr (8, [.int ri0, .int ri1, .int (nI mk), .ref z3, .ref z4, .int (nI rk), .ref z6, .ref z7, .ref z8, .ref z9, .ref z10, .ref z11, .ref z12, .ref z13, .int (nI nl), .ref z15, .ref z16, .ref z17, .ref z18, .ref z19, .ref z20, .ref z21, .int (nI rtp), .int ri23, .int ri24, .int ri25, .long rw26, .int ri27, .int ri28, .int ri29, .int ri30, .int ri31, .int ri32, .int ri33, .ref z34, .ref z35, .int (nI tm), .ref z37, .ref z38, .ref z39, .ref z40, .ref z41])), (z3, .inl (mcA, 30, .inl fa)), (z4, .inl (mcC, 30, .inl vrfc)), (z6, .inl (mcM, 40, .inl vrfm)), (z7, .inl (mcL, 40, .inl vrfl)), (z8, .inl (mcK, 800, .inl vrfk)), (z9, .inl (mcP, 800, .inl vrfp)), (z10, .inl (mcO, 800, .inl vrfo)), (z11, .inl (mcN, 800, .inl vrfn)), (z12, .inl (mcB, 800, .inl vrfb)), (z13, .inl (mcG, 800, .inr (.inl vrfg))), (z15, .inl (mc1, 20, .inl vrnk)), (z16, .inl (mc2, 20, .inl vrnp)), (z17, .inl (mc3, 20, .inl vrno)), (z18, .inl (mc4, 20, .inl vrnn)), (z19, .inl (mc5, 20, .inl vrnb)), (z20, .inl (mc6, 20, .inr (.inl vrng))), (z21, .inl (mcT, 300, .inl vrft)), (z34, .inl (mcD, 40, .inl vrfd)), (z35, .inl (mcV, 40, .inl vrfv)), (z37, .inl (mcW, 480, .inl vrfw)), (z38, .inl (mcU, 480, .inl vrfu)), (z39, .inl (mcS, 40, .inl vrfs)), (z40, .inl (mcZ, 40, .inl vrfz)), (z41, .inl (mcE, 40, .inl vrfe))]) (w1 := [(g0, .inr (7, [.ref a0, .ref a1, .ref a2, .ref a3, .ref a4, .ref a5, .ref a6, .int (nI mk), .int xsh, .int xfp, .int xrf])), (a3, .inr (6, [.ref ab, .int (nI tq_12)])), (ab, .inl (kB, 300, .inl gb_13))]) hP hD [0, 3, 4] [1, 2, 5, 6, 7, 8, 9, 10, 11, 12, 13, 14, 15, 16, 17, 18, 19, 20, 21, 22, 23, 24, 25, 26, 27, 28, 29, 30, 31, 32, 33, 34, 35, 36, 37, 38, 39, 40, 41] rfl rfl (by decide) (by decide) hk1 hFc hP1 hD1
  have hRc : okRc (dC, dI) vwCl ze cO xev xnr A (lwP [g0, a1, a2, a3, ab, a4, a0, a5, d0, d1, d2, d3, a6, qc0, qc1, qc2, qc3, g1, z3, z4, z6, z7, z8, z9, z10, z11, z12, z13, z15, z16, z17, z18, z19, z20, z21, z34, z35, z37, z38, z39, z40, z41] H1.size) H1 := okRc.step hRc hz1 hk1 [0, 3, 4] rfl
  generalize H1 = H at hP hS hRc ⊢
  have hP : va_P (dC, dI) vwCl [(a1, .inl (kC, 30, .inl xfc)), (a2, .inr (0, [.int xmc, xev, .int (nI xnr)])), (a4, .inr (5, [.ref a3, .int xsv, .int xpv])), (a0, .inl (kA, 30, .inl fa)), (a5, .inr (2, [.ref d0, .ref d1, .ref d2, .ref d3])), (d0, .inl (kd0, 40, .inl xv1)), (d1, .inl (kd1, 40, .inl xv2)), (d2, .inl (kd2, 40, .inl xv3)), (d3, .inl (kd3, 480, .inl xv4)), (a6, .inr (1, [.ref qc0, .ref qc1, .ref qc2, .ref qc3, .long xsd])), (qc0, .inl (kc0, 480, .inl xu1)), (qc1, .inl (kc1, 480, .inr (.inl xu2))), (qc2, .inl (kc2, 480, .inl xu3)), (qc3, .inl (kc3, 40, .inl xu4)), (g1, .inr (8, [.int ri0, .int ri1, .int (nI mk), .ref z3, .ref z4, .int (nI rk), .ref z6, .ref z7, .ref z8, .ref z9, .ref z10, .ref z11, .ref z12, .ref z13, .int (nI nl), .ref z15, .ref z16, .ref z17, .ref z18, .ref z19, .ref z20, .ref z21, .int (nI rtp), .int ri23, .int ri24, .int ri25, .long rw26, .int ri27, .int ri28, .int ri29, .int ri30, .int ri31, .int ri32, .int ri33, .ref z34, .ref z35, .int (nI tm), .ref z37, .ref z38, .ref z39, .ref z40, .ref z41])), (z3, .inl (mcA, 30, .inl fa)), (z4, .inl (mcC, 30, .inl vrfc)), (z6, .inl (mcM, 40, .inl vrfm)), (z7, .inl (mcL, 40, .inl vrfl)), (z8, .inl (mcK, 800, .inl vrfk)), (z9, .inl (mcP, 800, .inl vrfp)), (z10, .inl (mcO, 800, .inl vrfo)), (z11, .inl (mcN, 800, .inl vrfn)), (z12, .inl (mcB, 800, .inl vrfb)), (z13, .inl (mcG, 800, .inr (.inl vrfg))), (z15, .inl (mc1, 20, .inl vrnk)), (z16, .inl (mc2, 20, .inl vrnp)), (z17, .inl (mc3, 20, .inl vrno)), (z18, .inl (mc4, 20, .inl vrnn)), (z19, .inl (mc5, 20, .inl vrnb)), (z20, .inl (mc6, 20, .inr (.inl vrng))), (z21, .inl (mcT, 300, .inl vrft)), (z34, .inl (mcD, 40, .inl vrfd)), (z35, .inl (mcV, 40, .inl vrfv)), (z37, .inl (mcW, 480, .inl vrfw)), (z38, .inl (mcU, 480, .inl vrfu)), (z39, .inl (mcS, 40, .inl vrfs)), (z40, .inl (mcZ, 40, .inl vrfz)), (z41, .inl (mcE, 40, .inl vrfe)), (g0, .inr (7, [.ref a0, .ref a1, .ref a2, .ref a3, .ref a4, .ref a5, .ref a6, .int (nI mk), .int xsh, .int xfp, .int xrf])), (a3, .inr (6, [.ref ab, .int (nI tq_12)])), (ab, .inl (kB, 300, .inl gb_13))] H := hP
  have hD : va_D A [(a1, .inl (kC, 30, .inl xfc)), (a2, .inr (0, [.int xmc, xev, .int (nI xnr)])), (a4, .inr (5, [.ref a3, .int xsv, .int xpv])), (a0, .inl (kA, 30, .inl fa)), (a5, .inr (2, [.ref d0, .ref d1, .ref d2, .ref d3])), (d0, .inl (kd0, 40, .inl xv1)), (d1, .inl (kd1, 40, .inl xv2)), (d2, .inl (kd2, 40, .inl xv3)), (d3, .inl (kd3, 480, .inl xv4)), (a6, .inr (1, [.ref qc0, .ref qc1, .ref qc2, .ref qc3, .long xsd])), (qc0, .inl (kc0, 480, .inl xu1)), (qc1, .inl (kc1, 480, .inr (.inl xu2))), (qc2, .inl (kc2, 480, .inl xu3)), (qc3, .inl (kc3, 40, .inl xu4)), (g1, .inr (8, [.int ri0, .int ri1, .int (nI mk), .ref z3, .ref z4, .int (nI rk), .ref z6, .ref z7, .ref z8, .ref z9, .ref z10, .ref z11, .ref z12, .ref z13, .int (nI nl), .ref z15, .ref z16, .ref z17, .ref z18, .ref z19, .ref z20, .ref z21, .int (nI rtp), .int ri23, .int ri24, .int ri25, .long rw26, .int ri27, .int ri28, .int ri29, .int ri30, .int ri31, .int ri32, .int ri33, .ref z34, .ref z35, .int (nI tm), .ref z37, .ref z38, .ref z39, .ref z40, .ref z41])), (z3, .inl (mcA, 30, .inl fa)), (z4, .inl (mcC, 30, .inl vrfc)), (z6, .inl (mcM, 40, .inl vrfm)), (z7, .inl (mcL, 40, .inl vrfl)), (z8, .inl (mcK, 800, .inl vrfk)), (z9, .inl (mcP, 800, .inl vrfp)), (z10, .inl (mcO, 800, .inl vrfo)), (z11, .inl (mcN, 800, .inl vrfn)), (z12, .inl (mcB, 800, .inl vrfb)), (z13, .inl (mcG, 800, .inr (.inl vrfg))), (z15, .inl (mc1, 20, .inl vrnk)), (z16, .inl (mc2, 20, .inl vrnp)), (z17, .inl (mc3, 20, .inl vrno)), (z18, .inl (mc4, 20, .inl vrnn)), (z19, .inl (mc5, 20, .inl vrnb)), (z20, .inl (mc6, 20, .inr (.inl vrng))), (z21, .inl (mcT, 300, .inl vrft)), (z34, .inl (mcD, 40, .inl vrfd)), (z35, .inl (mcV, 40, .inl vrfv)), (z37, .inl (mcW, 480, .inl vrfw)), (z38, .inl (mcU, 480, .inl vrfu)), (z39, .inl (mcS, 40, .inl vrfs)), (z40, .inl (mcZ, 40, .inl vrfz)), (z41, .inl (mcE, 40, .inl vrfe)), (g0, .inr (7, [.ref a0, .ref a1, .ref a2, .ref a3, .ref a4, .ref a5, .ref a6, .int (nI mk), .int xsh, .int xfp, .int xrf])), (a3, .inr (6, [.ref ab, .int (nI tq_12)])), (ab, .inl (kB, 300, .inl gb_13))] := hD
  have hr_11 := hw
  try dsimp only at hr_11
  refine lv_pop hx hb dL_law_180 rfl ?_
  refine lv_aload_n hx hb dL_law_181 rfl (lv_at hl 1 rfl) ?_
  refine lv_aload_n hx hb dL_law_182 rfl (lv_at hl 3 rfl) ?_
  refine lv_iload_n hx hb dL_law_183 rfl (lv_at hl 0 rfl) ?_
  refine lv_iconst (v := 1) hx hb dL_law_184 (by decide) ?_
  refine lv_iadd hx hb dL_law_185 ?_
  refine lv_topi (fun x_15 ex_15 => ?_)
  obtain rfl : x_15 = (nI (i9 + 1)) := by rw [ex_15]; exact nI_add _ _
  refine va_sld hx hb hX hbl hbA hS (vp_in_nI (by omega) (by omega)) dL_law_186 ?_
  refine lv_topi (fun x_16 ex_16 => ?_)
  refine lv_aload_n hx hb dL_law_187 rfl (lv_at hl 3 rfl) ?_
  refine lv_iload_n hx hb dL_law_188 rfl (lv_at hl 0 rfl) ?_
  refine lv_iconst (v := 2) hx hb dL_law_189 (by decide) ?_
  refine lv_iadd hx hb dL_law_190 ?_
  refine lv_topi (fun x_17 ex_17 => ?_)
  obtain rfl : x_17 = (nI (i9 + 2)) := by rw [ex_17]; exact nI_add _ _
  refine va_sld hx hb hX hbl hbA hS (vp_in_nI (by omega) (by omega)) dL_law_191 ?_
  refine lv_topi (fun x_18 ex_18 => ?_)
  refine lv_aload_n hx hb dL_law_192 rfl (lv_at hl 3 rfl) ?_
  refine lv_iload_n hx hb dL_law_193 rfl (lv_at hl 0 rfl) ?_
  refine lv_iconst (v := 3) hx hb dL_law_194 (by decide) ?_
  refine lv_iadd hx hb dL_law_195 ?_
  refine lv_topi (fun x_19 ex_19 => ?_)
  obtain rfl : x_19 = (nI (i9 + 3)) := by rw [ex_19]; exact nI_add _ _
  refine va_sld hx hb hX hbl hbA hS (vp_in_nI (by omega) (by omega)) dL_law_196 ?_
  refine lv_topi (fun x_20 ex_20 => ?_)
  refine lv_aload_n hx hb dL_law_197 rfl (lv_at hl 3 rfl) ?_
  refine lv_iload_n hx hb dL_law_198 rfl (lv_at hl 0 rfl) ?_
  refine lv_iconst (v := 4) hx hb dL_law_199 (by decide) ?_
  refine lv_iadd hx hb dL_law_200 ?_
  refine lv_topi (fun x_21 ex_21 => ?_)
  obtain rfl : x_21 = (nI (i9 + 4)) := by rw [ex_21]; exact nI_add _ _
  refine va_sld hx hb hX hbl hbA hS (vp_in_nI (by omega) (by omega)) dL_law_201 ?_
  refine lv_topi (fun x_22 ex_22 => ?_)
  refine lv_aload_n hx hb dL_law_202 rfl (lv_at hl 3 rfl) ?_
  refine lv_iload_n hx hb dL_law_203 rfl (lv_at hl 0 rfl) ?_
  refine lv_iconst (v := 5) hx hb dL_law_204 (by decide) ?_
  refine lv_iadd hx hb dL_law_205 ?_
  refine lv_topi (fun x_23 ex_23 => ?_)
  obtain rfl : x_23 = (nI (i9 + 5)) := by rw [ex_23]; exact nI_add _ _
  refine va_sld hx hb hX hbl hbA hS (vp_in_nI (by omega) (by omega)) dL_law_206 ?_
  refine lv_topi (fun x_24 ex_24 => ?_)
  have hPc := hP.sub (ws' := [(g1, .inr (8, [.int ri0, .int ri1, .int (nI mk), .ref z3, .ref z4, .int (nI rk), .ref z6, .ref z7, .ref z8, .ref z9, .ref z10, .ref z11, .ref z12, .ref z13, .int (nI nl), .ref z15, .ref z16, .ref z17, .ref z18, .ref z19, .ref z20, .ref z21, .int (nI rtp), .int ri23, .int ri24, .int ri25, .long rw26, .int ri27, .int ri28, .int ri29, .int ri30, .int ri31, .int ri32, .int ri33, .ref z34, .ref z35, .int (nI tm), .ref z37, .ref z38, .ref z39, .ref z40, .ref z41])), (z21, .inl (mcT, 300, .inl vrft))]) [14, 31] rfl
  have hDc := hD.sub (ws' := [(g1, .inr (8, [.int ri0, .int ri1, .int (nI mk), .ref z3, .ref z4, .int (nI rk), .ref z6, .ref z7, .ref z8, .ref z9, .ref z10, .ref z11, .ref z12, .ref z13, .int (nI nl), .ref z15, .ref z16, .ref z17, .ref z18, .ref z19, .ref z20, .ref z21, .int (nI rtp), .int ri23, .int ri24, .int ri25, .long rw26, .int ri27, .int ri28, .int ri29, .int ri30, .int ri31, .int ri32, .int ri33, .ref z34, .ref z35, .int (nI tm), .ref z37, .ref z38, .ref z39, .ref z40, .ref z41])), (z21, .inl (mcT, 300, .inl vrft))]) [14, 31] (by decide) rfl
  have hKc := hK.sub (tys' := [(mcT, .int)]) [28] rfl
  have hFc := va_free (wc := [(g1, .inr (8, [.int ri0, .int ri1, .int (nI mk), .ref z3, .ref z4, .int (nI rk), .ref z6, .ref z7, .ref z8, .ref z9, .ref z10, .ref z11, .ref z12, .ref z13, .int (nI nl), .ref z15, .ref z16, .ref z17, .ref z18, .ref z19, .ref z20, .ref z21, .int (nI rtp), .int ri23, .int ri24, .int ri25, .long rw26, .int ri27, .int ri28, .int ri29, .int ri30, .int ri31, .int ri32, .int ri33, .ref z34, .ref z35, .int (nI tm), .ref z37, .ref z38, .ref z39, .ref z40, .ref z41])), (z21, .inl (mcT, 300, .inl vrft))]) hD hS hA [14, 31] rfl
  refine va_calli (va_runV (As := [.int x_16, .int x_18, .int x_20, .int x_22, .int x_24]) (rest := []) ⟨hx, hb, hml, hown, hts⟩ (c_X7_feed l dC dI _ g1 z3 z4 z6 z7 z8 z9 z10 z11 z12 z13 z15 z16 z17 z18 z19 z20 z21 z34 z35 z37 z38 z39 z40 z41 ri0 ri1 mk rk nl rtp ri23 ri24 ri25 rw26 ri27 ri28 ri29 ri30 ri31 ri32 ri33 tm x_16 x_18 x_20 x_22 x_24 mcT vrft (by omega)) (cwV 5 hts gl_X7_feed rfl rfl rfl (by decide +kernel) ⟨Nat.le_of_ble_eq_true rfl, Nat.le_of_ble_eq_true rfl⟩) ⟨fun a U g mk q => by obtain ⟨q0, q1, qP, qK, qD⟩ := q; exact ⟨q0, q1, qP, va_K.moved (u := U) (U := U.calling g mk a) (Vm.Alike.refl U.vm) qK, qD⟩, va_recv hKc hPc (ci := 8) (q0 := 0) rfl rfl, fun U hU hW => ⟨rfl, by rw [hU], by rw [hU]; exact hPc, va_K.moved hW.alike hKc, hDc.weaken (fun _ _ _ _ => trivial)⟩⟩ rfl rfl hl.1 rfl (lv_room (Nat.le_of_ble_eq_true rfl)) dL_law_207 ⟨by show 43 + 8 * i9 + 0 + 0 ≤ 600000; omega, by show 9030 + 267 * i9 + 0 + 0 ≤ 7302249; omega⟩) hS (fun q _ h => hFc q h) hFc (fun r_25 u t H1 locs ht hvm hw hB hz1 hk1 hS => ?_)
  obtain ⟨th_26, tq_27, gt_28, hf_29, hP1, hK1, hD1⟩ := hB
  rw [ht] at hP1
  obtain ⟨hP, hD⟩ := va_join (wr := [(a1, .inl (kC, 30, .inl xfc)), (a2, .inr (0, [.int xmc, xev, .int (nI xnr)])), (a4, .inr (5, [.ref a3, .int xsv, .int xpv])), (a0, .inl (kA, 30, .inl fa)), (a5, .inr (2, [.ref d0, .ref d1, .ref d2, .ref d3])), (d0, .inl (kd0, 40, .inl xv1)), (d1, .inl (kd1, 40, .inl xv2)), (d2, .inl (kd2, 40, .inl xv3)), (d3, .inl (kd3, 480, .inl xv4)), (a6, .inr (1, [.ref qc0, .ref qc1, .ref qc2, .ref qc3, .long xsd])), (qc0, .inl (kc0, 480, .inl xu1)), (qc1, .inl (kc1, 480, .inr (.inl xu2))), (qc2, .inl (kc2, 480, .inl xu3)), (qc3, .inl (kc3, 40, .inl xu4)), (z3, .inl (mcA, 30, .inl fa)), (z4, .inl (mcC, 30, .inl vrfc)), (z6, .inl (mcM, 40, .inl vrfm)), (z7, .inl (mcL, 40, .inl vrfl)), (z8, .inl (mcK, 800, .inl vrfk)), (z9, .inl (mcP, 800, .inl vrfp)), (z10, .inl (mcO, 800, .inl vrfo)), (z11, .inl (mcN, 800, .inl vrfn)), (z12, .inl (mcB, 800, .inl vrfb)), (z13, .inl (mcG, 800, .inr (.inl vrfg))), (z15, .inl (mc1, 20, .inl vrnk)), (z16, .inl (mc2, 20, .inl vrnp)), (z17, .inl (mc3, 20, .inl vrno)), (z18, .inl (mc4, 20, .inl vrnn)), (z19, .inl (mc5, 20, .inl vrnb)), (z20, .inl (mc6, 20, .inr (.inl vrng))), (z34, .inl (mcD, 40, .inl vrfd)), (z35, .inl (mcV, 40, .inl vrfv)), (z37, .inl (mcW, 480, .inl vrfw)), (z38, .inl (mcU, 480, .inl vrfu)), (z39, .inl (mcS, 40, .inl vrfs)), (z40, .inl (mcZ, 40, .inl vrfz)), (z41, .inl (mcE, 40, .inl vrfe)), (g0, .inr (7, [.ref a0, .ref a1, .ref a2, .ref a3, .ref a4, .ref a5, .ref a6, .int (nI mk), .int xsh, .int xfp, .int xrf])), (a3, .inr (6, [.ref ab, .int (nI tq_12)])), (ab, .inl (kB, 300, .inl gb_13))]) (w1 := [(g1, .inr (8, [.int th_26, .int ri1, .int (nI mk), .ref z3, .ref z4, .int (nI rk), .ref z6, .ref z7, .ref z8, .ref z9, .ref z10, .ref z11, .ref z12, .ref z13, .int (nI nl), .ref z15, .ref z16, .ref z17, .ref z18, .ref z19, .ref z20, .ref z21, .int (nI tq_27), .int ri23, .int ri24, .int ri25, .long rw26, .int ri27, .int ri28, .int ri29, .int ri30, .int ri31, .int ri32, .int ri33, .ref z34, .ref z35, .int (nI tm), .ref z37, .ref z38, .ref z39, .ref z40, .ref z41])), (z21, .inl (mcT, 300, .inl gt_28))]) hP hD [14, 31] [0, 1, 2, 3, 4, 5, 6, 7, 8, 9, 10, 11, 12, 13, 15, 16, 17, 18, 19, 20, 21, 22, 23, 24, 25, 26, 27, 28, 29, 30, 32, 33, 34, 35, 36, 37, 38, 39, 40, 41] rfl rfl (by decide) (by decide) hk1 hFc hP1 hD1
  have hRc : okRc (dC, dI) vwCl ze cO xev xnr A (lwP [g0, a1, a2, a3, ab, a4, a0, a5, d0, d1, d2, d3, a6, qc0, qc1, qc2, qc3, g1, z3, z4, z6, z7, z8, z9, z10, z11, z12, z13, z15, z16, z17, z18, z19, z20, z21, z34, z35, z37, z38, z39, z40, z41] H1.size) H1 := okRc.step hRc hz1 hk1 [17, 34] rfl
  generalize H1 = H at hP hS hRc ⊢
  have hP : va_P (dC, dI) vwCl [(a1, .inl (kC, 30, .inl xfc)), (a2, .inr (0, [.int xmc, xev, .int (nI xnr)])), (a4, .inr (5, [.ref a3, .int xsv, .int xpv])), (a0, .inl (kA, 30, .inl fa)), (a5, .inr (2, [.ref d0, .ref d1, .ref d2, .ref d3])), (d0, .inl (kd0, 40, .inl xv1)), (d1, .inl (kd1, 40, .inl xv2)), (d2, .inl (kd2, 40, .inl xv3)), (d3, .inl (kd3, 480, .inl xv4)), (a6, .inr (1, [.ref qc0, .ref qc1, .ref qc2, .ref qc3, .long xsd])), (qc0, .inl (kc0, 480, .inl xu1)), (qc1, .inl (kc1, 480, .inr (.inl xu2))), (qc2, .inl (kc2, 480, .inl xu3)), (qc3, .inl (kc3, 40, .inl xu4)), (z3, .inl (mcA, 30, .inl fa)), (z4, .inl (mcC, 30, .inl vrfc)), (z6, .inl (mcM, 40, .inl vrfm)), (z7, .inl (mcL, 40, .inl vrfl)), (z8, .inl (mcK, 800, .inl vrfk)), (z9, .inl (mcP, 800, .inl vrfp)), (z10, .inl (mcO, 800, .inl vrfo)), (z11, .inl (mcN, 800, .inl vrfn)), (z12, .inl (mcB, 800, .inl vrfb)), (z13, .inl (mcG, 800, .inr (.inl vrfg))), (z15, .inl (mc1, 20, .inl vrnk)), (z16, .inl (mc2, 20, .inl vrnp)), (z17, .inl (mc3, 20, .inl vrno)), (z18, .inl (mc4, 20, .inl vrnn)), (z19, .inl (mc5, 20, .inl vrnb)), (z20, .inl (mc6, 20, .inr (.inl vrng))), (z34, .inl (mcD, 40, .inl vrfd)), (z35, .inl (mcV, 40, .inl vrfv)), (z37, .inl (mcW, 480, .inl vrfw)), (z38, .inl (mcU, 480, .inl vrfu)), (z39, .inl (mcS, 40, .inl vrfs)), (z40, .inl (mcZ, 40, .inl vrfz)), (z41, .inl (mcE, 40, .inl vrfe)), (g0, .inr (7, [.ref a0, .ref a1, .ref a2, .ref a3, .ref a4, .ref a5, .ref a6, .int (nI mk), .int xsh, .int xfp, .int xrf])), (a3, .inr (6, [.ref ab, .int (nI tq_12)])), (ab, .inl (kB, 300, .inl gb_13)), (g1, .inr (8, [.int th_26, .int ri1, .int (nI mk), .ref z3, .ref z4, .int (nI rk), .ref z6, .ref z7, .ref z8, .ref z9, .ref z10, .ref z11, .ref z12, .ref z13, .int (nI nl), .ref z15, .ref z16, .ref z17, .ref z18, .ref z19, .ref z20, .ref z21, .int (nI tq_27), .int ri23, .int ri24, .int ri25, .long rw26, .int ri27, .int ri28, .int ri29, .int ri30, .int ri31, .int ri32, .int ri33, .ref z34, .ref z35, .int (nI tm), .ref z37, .ref z38, .ref z39, .ref z40, .ref z41])), (z21, .inl (mcT, 300, .inl gt_28))] H := hP
  have hD : va_D A [(a1, .inl (kC, 30, .inl xfc)), (a2, .inr (0, [.int xmc, xev, .int (nI xnr)])), (a4, .inr (5, [.ref a3, .int xsv, .int xpv])), (a0, .inl (kA, 30, .inl fa)), (a5, .inr (2, [.ref d0, .ref d1, .ref d2, .ref d3])), (d0, .inl (kd0, 40, .inl xv1)), (d1, .inl (kd1, 40, .inl xv2)), (d2, .inl (kd2, 40, .inl xv3)), (d3, .inl (kd3, 480, .inl xv4)), (a6, .inr (1, [.ref qc0, .ref qc1, .ref qc2, .ref qc3, .long xsd])), (qc0, .inl (kc0, 480, .inl xu1)), (qc1, .inl (kc1, 480, .inr (.inl xu2))), (qc2, .inl (kc2, 480, .inl xu3)), (qc3, .inl (kc3, 40, .inl xu4)), (z3, .inl (mcA, 30, .inl fa)), (z4, .inl (mcC, 30, .inl vrfc)), (z6, .inl (mcM, 40, .inl vrfm)), (z7, .inl (mcL, 40, .inl vrfl)), (z8, .inl (mcK, 800, .inl vrfk)), (z9, .inl (mcP, 800, .inl vrfp)), (z10, .inl (mcO, 800, .inl vrfo)), (z11, .inl (mcN, 800, .inl vrfn)), (z12, .inl (mcB, 800, .inl vrfb)), (z13, .inl (mcG, 800, .inr (.inl vrfg))), (z15, .inl (mc1, 20, .inl vrnk)), (z16, .inl (mc2, 20, .inl vrnp)), (z17, .inl (mc3, 20, .inl vrno)), (z18, .inl (mc4, 20, .inl vrnn)), (z19, .inl (mc5, 20, .inl vrnb)), (z20, .inl (mc6, 20, .inr (.inl vrng))), (z34, .inl (mcD, 40, .inl vrfd)), (z35, .inl (mcV, 40, .inl vrfv)), (z37, .inl (mcW, 480, .inl vrfw)), (z38, .inl (mcU, 480, .inl vrfu)), (z39, .inl (mcS, 40, .inl vrfs)), (z40, .inl (mcZ, 40, .inl vrfz)), (z41, .inl (mcE, 40, .inl vrfe)), (g0, .inr (7, [.ref a0, .ref a1, .ref a2, .ref a3, .ref a4, .ref a5, .ref a6, .int (nI mk), .int xsh, .int xfp, .int xrf])), (a3, .inr (6, [.ref ab, .int (nI tq_12)])), (ab, .inl (kB, 300, .inl gb_13)), (g1, .inr (8, [.int th_26, .int ri1, .int (nI mk), .ref z3, .ref z4, .int (nI rk), .ref z6, .ref z7, .ref z8, .ref z9, .ref z10, .ref z11, .ref z12, .ref z13, .int (nI nl), .ref z15, .ref z16, .ref z17, .ref z18, .ref z19, .ref z20, .ref z21, .int (nI tq_27), .int ri23, .int ri24, .int ri25, .long rw26, .int ri27, .int ri28, .int ri29, .int ri30, .int ri31, .int ri32, .int ri33, .ref z34, .ref z35, .int (nI tm), .ref z37, .ref z38, .ref z39, .ref z40, .ref z41])), (z21, .inl (mcT, 300, .inl gt_28))] := hD
  have hr_25 := hw
  try dsimp only at hr_25
  refine lv_pop hx hb dL_law_210 rfl ?_
  refine lv_goto (tgt := 768) hx hb dL_law_211 (by decide) ?_
  refine W.widen (k := 43 + 8 * i9 + 48) (n := 9030 + 267 * i9 + 1600) (by omega) (by omega) ?_
  exact kk _ _ _ (fun Q9 k9 => k9 mk xsh xfp xrf fa xfc xmc xev xnr tq_12 gb_13 xsv xpv xsd xv1 xv2 xv3 xv4 xu1 xu2 xu3 xu4 th_26 ri1 vrfc rk vrfm vrfl vrfk vrfp vrfo vrfn vrfb vrfg nl vrnk vrnp vrno vrnn vrnb vrng gt_28 tq_27 ri23 ri24 ri25 rw26 ri27 ri28 ri29 ri30 ri31 ri32 ri33 vrfd vrfv tm vrfw vrfu vrfs vrfz vrfe (by omega) (by omega) (by omega) (by omega) (by omega) (by omega) (by omega) (by assumption) (by assumption) (by assumption) (by assumption) (by assumption) (by assumption) (by assumption) (by assumption) (by assumption) hRc (hP.sub [37, 0, 1, 38, 39, 2, 3, 4, 5, 6, 7, 8, 9, 10, 11, 12, 13, 40, 14, 15, 16, 17, 18, 19, 20, 21, 22, 23, 24, 25, 26, 27, 28, 29, 41, 30, 31, 32, 33, 34, 35, 36] rfl) (hD.sub [37, 0, 1, 38, 39, 2, 3, 4, 5, 6, 7, 8, 9, 10, 11, 12, 13, 40, 14, 15, 16, 17, 18, 19, 20, 21, 22, 23, 24, 25, 26, 27, 28, 29, 41, 30, 31, 32, 33, 34, 35, 36] (by decide) rfl)) hS hl

