theorem dX4_readLine_0 : decode cX4_readLine 0 = .ok (.aload_n 0, 1) := by decide +kernel
theorem dX4_readLine_1 : decode cX4_readLine 1 = .ok (.ldc 46, 2) := by decide +kernel
theorem dX4_readLine_3 : decode cX4_readLine 3 = .ok (.invokevirtual 42, 3) := by decide +kernel
theorem dX4_readLine_6 : decode cX4_readLine 6 = .ok (.ifCond .eq 11, 3) := by decide +kernel
theorem dX4_readLine_17 : decode cX4_readLine 17 = .ok (.aload_n 0, 1) := by decide +kernel
theorem dX4_readLine_18 : decode cX4_readLine 18 = .ok (.ldc 54, 2) := by decide +kernel
theorem dX4_readLine_20 : decode cX4_readLine 20 = .ok (.invokevirtual 42, 3) := by decide +kernel
theorem dX4_readLine_23 : decode cX4_readLine 23 = .ok (.ifCond .eq 11, 3) := by decide +kernel
theorem dX4_readLine_34 : decode cX4_readLine 34 = .ok (.aload_n 0, 1) := by decide +kernel
theorem dX4_readLine_35 : decode cX4_readLine 35 = .ok (.invokevirtual 56, 3) := by decide +kernel
theorem dX4_readLine_38 : decode cX4_readLine 38 = .ok (.istore_n 1, 1) := by decide +kernel
theorem dX4_readLine_39 : decode cX4_readLine 39 = .ok (.iload_n 1, 1) := by decide +kernel
theorem dX4_readLine_40 : decode cX4_readLine 40 = .ok (.iconst (-1), 1) := by decide +kernel
theorem dX4_readLine_41 : decode cX4_readLine 41 = .ok (.if_icmp .ne 5, 3) := by decide +kernel
theorem dX4_readLine_46 : decode cX4_readLine 46 = .ok (.aload_n 0, 1) := by decide +kernel
theorem dX4_readLine_47 : decode cX4_readLine 47 = .ok (.ldc 60, 2) := by decide +kernel
theorem dX4_readLine_49 : decode cX4_readLine 49 = .ok (.invokevirtual 42, 3) := by decide +kernel
theorem dX4_readLine_52 : decode cX4_readLine 52 = .ok (.ifCond .eq 34, 3) := by decide +kernel
theorem dX4_readLine_86 : decode cX4_readLine 86 = .ok (.aload_n 0, 1) := by decide +kernel
theorem dX4_readLine_87 : decode cX4_readLine 87 = .ok (.ldc 68, 2) := by decide +kernel
theorem dX4_readLine_89 : decode cX4_readLine 89 = .ok (.invokevirtual 42, 3) := by decide +kernel
theorem dX4_readLine_92 : decode cX4_readLine 92 = .ok (.ifCond .eq 11, 3) := by decide +kernel
theorem dX4_readLine_103 : decode cX4_readLine 103 = .ok (.aload_n 0, 1) := by decide +kernel
theorem dX4_readLine_104 : decode cX4_readLine 104 = .ok (.ldc 70, 2) := by decide +kernel
theorem dX4_readLine_106 : decode cX4_readLine 106 = .ok (.invokevirtual 42, 3) := by decide +kernel
theorem dX4_readLine_109 : decode cX4_readLine 109 = .ok (.ifCond .eq 10, 3) := by decide +kernel
theorem dX4_readLine_119 : decode cX4_readLine 119 = .ok (.aload_n 0, 1) := by decide +kernel
theorem dX4_readLine_120 : decode cX4_readLine 120 = .ok (.ldc 72, 2) := by decide +kernel
theorem dX4_readLine_122 : decode cX4_readLine 122 = .ok (.invokevirtual 42, 3) := by decide +kernel
theorem dX4_readLine_125 : decode cX4_readLine 125 = .ok (.ifCond .eq 10, 3) := by decide +kernel
theorem dX4_readLine_135 : decode cX4_readLine 135 = .ok (.aload_n 0, 1) := by decide +kernel
theorem dX4_readLine_136 : decode cX4_readLine 136 = .ok (.ldc 74, 2) := by decide +kernel
theorem dX4_readLine_138 : decode cX4_readLine 138 = .ok (.invokevirtual 42, 3) := by decide +kernel
theorem dX4_readLine_141 : decode cX4_readLine 141 = .ok (.ifCond .eq 9, 3) := by decide +kernel
theorem dX4_readLine_150 : decode cX4_readLine 150 = .ok (.aload_n 0, 1) := by decide +kernel
theorem dX4_readLine_151 : decode cX4_readLine 151 = .ok (.ldc 80, 2) := by decide +kernel
theorem dX4_readLine_153 : decode cX4_readLine 153 = .ok (.invokevirtual 42, 3) := by decide +kernel
theorem dX4_readLine_156 : decode cX4_readLine 156 = .ok (.ifCond .eq 12, 3) := by decide +kernel
theorem dX4_readLine_168 : decode cX4_readLine 168 = .ok (.aconst_null, 1) := by decide +kernel
theorem dX4_readLine_169 : decode cX4_readLine 169 = .ok (.areturn, 1) := by decide +kernel
theorem dX4_readLine_159 : decode cX4_readLine 159 = .ok (.aload_n 0, 1) := by decide +kernel
theorem dX4_readLine_160 : decode cX4_readLine 160 = .ok (.iconst 5, 1) := by decide +kernel
theorem dX4_readLine_161 : decode cX4_readLine 161 = .ok (.iload_n 1, 1) := by decide +kernel
theorem dX4_readLine_162 : decode cX4_readLine 162 = .ok (.invokevirtual 50, 3) := by decide +kernel
theorem dX4_readLine_165 : decode cX4_readLine 165 = .ok (.goto 4, 3) := by decide +kernel
theorem dX4_readLine_144 : decode cX4_readLine 144 = .ok (.aload_n 0, 1) := by decide +kernel
theorem dX4_readLine_145 : decode cX4_readLine 145 = .ok (.iload_n 1, 1) := by decide +kernel
theorem dX4_readLine_146 : decode cX4_readLine 146 = .ok (.invokevirtual 76, 3) := by decide +kernel
theorem dX4_readLine_149 : decode cX4_readLine 149 = .ok (.areturn, 1) := by decide +kernel
theorem dX4_readLine_128 : decode cX4_readLine 128 = .ok (.aload_n 0, 1) := by decide +kernel
theorem dX4_readLine_129 : decode cX4_readLine 129 = .ok (.iconst 3, 1) := by decide +kernel
theorem dX4_readLine_130 : decode cX4_readLine 130 = .ok (.iload_n 1, 1) := by decide +kernel
theorem dX4_readLine_131 : decode cX4_readLine 131 = .ok (.invokevirtual 50, 3) := by decide +kernel
theorem dX4_readLine_134 : decode cX4_readLine 134 = .ok (.areturn, 1) := by decide +kernel
theorem dX4_readLine_112 : decode cX4_readLine 112 = .ok (.aload_n 0, 1) := by decide +kernel
theorem dX4_readLine_113 : decode cX4_readLine 113 = .ok (.iconst 2, 1) := by decide +kernel
theorem dX4_readLine_114 : decode cX4_readLine 114 = .ok (.iload_n 1, 1) := by decide +kernel
theorem dX4_readLine_115 : decode cX4_readLine 115 = .ok (.invokevirtual 50, 3) := by decide +kernel
theorem dX4_readLine_118 : decode cX4_readLine 118 = .ok (.areturn, 1) := by decide +kernel
theorem dX4_readLine_95 : decode cX4_readLine 95 = .ok (.aload_n 0, 1) := by decide +kernel
theorem dX4_readLine_96 : decode cX4_readLine 96 = .ok (.iconst 1, 1) := by decide +kernel
theorem dX4_readLine_97 : decode cX4_readLine 97 = .ok (.iload_n 1, 1) := by decide +kernel
theorem dX4_readLine_98 : decode cX4_readLine 98 = .ok (.iconst (-1), 1) := by decide +kernel
theorem dX4_readLine_99 : decode cX4_readLine 99 = .ok (.invokevirtual 64, 3) := by decide +kernel
theorem dX4_readLine_102 : decode cX4_readLine 102 = .ok (.areturn, 1) := by decide +kernel
theorem dX4_readLine_55 : decode cX4_readLine 55 = .ok (.aload_n 0, 1) := by decide +kernel
theorem dX4_readLine_56 : decode cX4_readLine 56 = .ok (.invokevirtual 56, 3) := by decide +kernel
theorem dX4_readLine_59 : decode cX4_readLine 59 = .ok (.istore_n 2, 1) := by decide +kernel
theorem dX4_readLine_60 : decode cX4_readLine 60 = .ok (.iload_n 2, 1) := by decide +kernel
theorem dX4_readLine_61 : decode cX4_readLine 61 = .ok (.iconst (-1), 1) := by decide +kernel
theorem dX4_readLine_62 : decode cX4_readLine 62 = .ok (.if_icmp .eq 22, 3) := by decide +kernel
theorem dX4_readLine_84 : decode cX4_readLine 84 = .ok (.aconst_null, 1) := by decide +kernel
theorem dX4_readLine_85 : decode cX4_readLine 85 = .ok (.areturn, 1) := by decide +kernel
theorem dX4_readLine_65 : decode cX4_readLine 65 = .ok (.aload_n 0, 1) := by decide +kernel
theorem dX4_readLine_66 : decode cX4_readLine 66 = .ok (.ldc 62, 2) := by decide +kernel
theorem dX4_readLine_68 : decode cX4_readLine 68 = .ok (.invokevirtual 42, 3) := by decide +kernel
theorem dX4_readLine_71 : decode cX4_readLine 71 = .ok (.ifCond .eq 13, 3) := by decide +kernel
theorem dX4_readLine_74 : decode cX4_readLine 74 = .ok (.aload_n 0, 1) := by decide +kernel
theorem dX4_readLine_75 : decode cX4_readLine 75 = .ok (.iconst 0, 1) := by decide +kernel
theorem dX4_readLine_76 : decode cX4_readLine 76 = .ok (.iload_n 1, 1) := by decide +kernel
theorem dX4_readLine_77 : decode cX4_readLine 77 = .ok (.iload_n 2, 1) := by decide +kernel
theorem dX4_readLine_78 : decode cX4_readLine 78 = .ok (.invokevirtual 64, 3) := by decide +kernel
theorem dX4_readLine_81 : decode cX4_readLine 81 = .ok (.goto 4, 3) := by decide +kernel
theorem dX4_readLine_44 : decode cX4_readLine 44 = .ok (.aconst_null, 1) := by decide +kernel
theorem dX4_readLine_45 : decode cX4_readLine 45 = .ok (.areturn, 1) := by decide +kernel
theorem dX4_readLine_26 : decode cX4_readLine 26 = .ok (.aload_n 0, 1) := by decide +kernel
theorem dX4_readLine_27 : decode cX4_readLine 27 = .ok (.bipush 7, 2) := by decide +kernel
theorem dX4_readLine_29 : decode cX4_readLine 29 = .ok (.iconst (-1), 1) := by decide +kernel
theorem dX4_readLine_30 : decode cX4_readLine 30 = .ok (.invokevirtual 50, 3) := by decide +kernel
theorem dX4_readLine_33 : decode cX4_readLine 33 = .ok (.areturn, 1) := by decide +kernel
theorem dX4_readLine_9 : decode cX4_readLine 9 = .ok (.aload_n 0, 1) := by decide +kernel
theorem dX4_readLine_10 : decode cX4_readLine 10 = .ok (.bipush 6, 2) := by decide +kernel
theorem dX4_readLine_12 : decode cX4_readLine 12 = .ok (.iconst (-1), 1) := by decide +kernel
theorem dX4_readLine_13 : decode cX4_readLine 13 = .ok (.invokevirtual 50, 3) := by decide +kernel
theorem dX4_readLine_16 : decode cX4_readLine 16 = .ok (.areturn, 1) := by decide +kernel
def wp_R_readLine : List Cond := .code yX4_readLine cX4_readLine 3 (some (.object "AgreedTalks$Line")) :: (([] : List Cond) ++ (wsV RX4 42 RX4 yX4_takeWord wp_R_takeWord) ++ (wsV RX4 56 RX4 yX4_takePerson wp_R_takePerson) ++ (wsV RX4 50 RX4 yX4_readThing wp_R_readThing) ++ (wsV RX4 76 RX4 yX4_readSaying wp_R_readSaying) ++ (wsV RX4 64 RX4 yX4_readDated wp_R_readDated))
theorem gc_R_readLine_R_takeWord : GoodIn wp_R_readLine (wsV RX4 42 RX4 yX4_takeWord wp_R_takeWord) := goodIn_sub (fun _ h => List.mem_cons_of_mem _ (List.mem_append_left _ (List.mem_append_left _ (List.mem_append_left _ (List.mem_append_left _ (List.mem_append_right _ h)))))) (by decide +kernel)
theorem gc_R_readLine_R_takePerson : GoodIn wp_R_readLine (wsV RX4 56 RX4 yX4_takePerson wp_R_takePerson) := goodIn_sub (fun _ h => List.mem_cons_of_mem _ (List.mem_append_left _ (List.mem_append_left _ (List.mem_append_left _ (List.mem_append_right _ h))))) (by decide +kernel)
theorem gc_R_readLine_R_readThing : GoodIn wp_R_readLine (wsV RX4 50 RX4 yX4_readThing wp_R_readThing) := goodIn_sub (fun _ h => List.mem_cons_of_mem _ (List.mem_append_left _ (List.mem_append_left _ (List.mem_append_right _ h)))) (by decide +kernel)
theorem gc_R_readLine_R_readSaying : GoodIn wp_R_readLine (wsV RX4 76 RX4 yX4_readSaying wp_R_readSaying) := goodIn_sub (fun _ h => List.mem_cons_of_mem _ (List.mem_append_left _ (List.mem_append_right _ h))) (by decide +kernel)
theorem gc_R_readLine_R_readDated : GoodIn wp_R_readLine (wsV RX4 64 RX4 yX4_readDated wp_R_readDated) := goodIn_sub (fun _ h => List.mem_cons_of_mem _ (List.mem_append_right _ h)) (by decide +kernel)
set_option maxRecDepth 20000 in
theorem gi_R_readLine : GoodIn lw_tbl wp_R_readLine := (goodIn_ca (goodIn_ca (goodIn_ca (goodIn_ca (goodIn_ca (goodIn_r (.code yX4_readLine cX4_readLine 3 (some (.object "AgreedTalks$Line")) :: ([] : List Cond)) [273] (by decide +kernel) (by decide +kernel)) (goodIn_app (goodIn_r _ [275, 277, 5, 53] (by decide +kernel) (by decide +kernel)) gi_R_takeWord)) (goodIn_app (goodIn_r _ [374, 376, 8, 53] (by decide +kernel) (by decide +kernel)) gi_R_takePerson)) (goodIn_app (goodIn_r _ [327, 329, 6, 53] (by decide +kernel) (by decide +kernel)) gi_R_readThing)) (goodIn_app (goodIn_r _ [392, 394, 10, 53] (by decide +kernel) (by decide +kernel)) gi_R_readSaying)) (goodIn_app (goodIn_r _ [383, 385, 9, 53] (by decide +kernel) (by decide +kernel)) gi_R_readDated))
set_option maxHeartbeats 4000000 in
set_option maxRecDepth 100000 in
/-- readLine -/
theorem c_R_readLine (l : Launch) (dC : Nat → ClassId) (dI : Nat → Nat → Nat) (sz : Nat) (h0 : Nat) (ta : Nat) (s0 : Nat) (e0 : Nat) (ab : Nat) (tp : Nat) (cB : ClassId) (fb : Nat → Int32) (zo : Option Nat) (qtp : tp ≤ 300) (qs : s0 ≤ e0) (qe : e0 ≤ tp) (hT : okT fb s0 e0) : Met l yX4_readLine wp_R_readLine ({ frames := 7, cells := 1, slots := 6, locals := 220 }) (va_Pc [.ref h0] (fun U => U.heap.size = sz ∧ va_P (dC, dI) vwCl [(h0, .inr (5, [.ref ta, .int (nI s0), .int (nI e0)])), (ta, .inr (6, [.ref ab, .int (nI tp)])), (ab, .inl (cB, 300, .inl fb))] U.heap ∧ va_K (dC, dI) vwCl [(cB, .int)] U ∧ va_D (fun _ => True) [(h0, .inr (5, [.ref ta, .int (nI s0), .int (nI e0)])), (ta, .inr (6, [.ref ab, .int (nI tp)])), (ab, .inl (cB, 300, .inl fb))] ∧ okEnv zo (va_A [(h0, .inr (5, [.ref ta, .int (nI s0), .int (nI e0)])), (ta, .inr (6, [.ref ab, .int (nI tp)])), (ab, .inl (cB, 300, .inl fb))] sz) U U.heap ∧ va_Nw (.methodLinkNest RX4 117 yX6_isPerson "AgreedTalks") U ∧ va_Nw (.methodLinkNest RX4 101 yX6_bit "AgreedTalks") U)) (va_Qq (fun (r : Option Nat) (u : va_W) => lnP sz r u) (fun (u : va_W) (t : State) => ∃ (s1 : Nat), ∃ (e1 : Nat), (s1 ≤ e1) ∧ (e1 ≤ tp) ∧ (okT fb s1 e1) ∧ va_P (dC, dI) vwCl ([(h0, .inr (5, [.ref ta, .int (nI s1), .int (nI e1)])), (ta, .inr (6, [.ref ab, .int (nI tp)])), (ab, .inl (cB, 300, .inl fb))] ++ u) t.heap ∧ va_K (dC, dI) vwCl [(cB, .int)] t ∧ va_D (va_A [(h0, .inr (5, [.ref ta, .int (nI s0), .int (nI e0)])), (ta, .inr (6, [.ref ab, .int (nI tp)])), (ab, .inl (cB, 300, .inl fb))] sz) ([(h0, .inr (5, [.ref ta, .int (nI s1), .int (nI e1)])), (ta, .inr (6, [.ref ab, .int (nI tp)])), (ab, .inl (cB, 300, .inl fb))] ++ u)) (va_A [(h0, .inr (5, [.ref ta, .int (nI s0), .int (nI e0)])), (ta, .inr (6, [.ref ab, .int (nI tp)])), (ab, .inl (cB, 300, .inl fb))] sz)) 1 6 (va_A [(h0, .inr (5, [.ref ta, .int (nI s0), .int (nI e0)])), (ta, .inr (6, [.ref ab, .int (nI tp)])), (ab, .inl (cB, 300, .inl fb))] sz) := by
  refine Met.ofW (cc := cX4_readLine) (maxL := 3) (ret := (some (.object "AgreedTalks$Line"))) (by decide) rfl ?_
  intro p e s m args below meth c s₁ B hml hv
  obtain ⟨rfl, hsz, hP, hK, hD0, hE, nw4p, nw4b⟩ := hv
  have hx := B.exec
  have hb := B.bytes
  have hr := B.returns
  have hts := atoms_spec (ws := wp_R_readLine) B.pre
  have hown : s.vm.findClass RX4 = some m.cls := findClass_of_methodNamed B.named
  have hlocks := B.notSynchronized
  subst hsz
  have hD := hD0.self (sz := s.heap.size)
  generalize hAe : va_A [(h0, .inr (5, [.ref ta, .int (nI s0), .int (nI e0)])), (ta, .inr (6, [.ref ab, .int (nI tp)])), (ab, .inl (cB, 300, .inl fb))] s.heap.size = A at hD hE ⊢
  have hA : ∀ q : Nat, s.heap.size ≤ q → A q := fun q h => by rw [← hAe]; exact Or.inr h
  have hS : va_S A s.heap s.heap [] := va_S.rf
  have hP : va_P (dC, dI) vwCl [(h0, .inr (5, [.ref ta, .int (nI s0), .int (nI e0)])), (ta, .inr (6, [.ref ab, .int (nI tp)])), (ab, .inl (cB, 300, .inl fb))] s.heap := hP
  have hl := lv_entry ([.ref h0]) (n := 3) (Nat.le_of_ble_eq_true rfl)
  rw [lg_entry_eq]
  generalize (lg_sl ([.ref h0]) ++ List.replicate (3 - (lg_sl ([.ref h0])).length) Slot.unset).toArray = ls at hl ⊢
  have hl : lv_has ls 3 [(0, .ref h0)] := hl
  refine lv_aload_n hx hb dX4_readLine_0 rfl (lv_at hl 0 rfl) ?_
  obtain ⟨sa_1, sv_2, sn_3, sf_4, hR_5, hs_6⟩ := hE.2.2 (46, "open") (by decide)
  refine va_ldcS hx hb hown hR_5 dX4_readLine_1 ?_
  have hPc := hP.sub (ws' := [(h0, .inr (5, [.ref ta, .int (nI s0), .int (nI e0)])), (ta, .inr (6, [.ref ab, .int (nI tp)])), (ab, .inl (cB, 300, .inl fb))]) [0, 1, 2] rfl
  have hDc := hD.sub (ws' := [(h0, .inr (5, [.ref ta, .int (nI s0), .int (nI e0)])), (ta, .inr (6, [.ref ab, .int (nI tp)])), (ab, .inl (cB, 300, .inl fb))]) [0, 1, 2] (by decide) rfl
  have hKc := hK.sub (tys' := [(cB, .int)]) [0] rfl
  have hFc := va_free (wc := [(h0, .inr (5, [.ref ta, .int (nI s0), .int (nI e0)])), (ta, .inr (6, [.ref ab, .int (nI tp)])), (ab, .inl (cB, 300, .inl fb))]) hD hS hA [0, 1, 2] rfl
  refine va_calli (va_runV (As := [.ref sa_1]) (rest := []) ⟨hx, hb, hml, hown, hts⟩ (c_R_takeWord l dC dI _ h0 ta s0 e0 ab tp cB fb sa_1 sv_2 sn_3 sf_4 zo (by omega) (by omega) (by omega) (by assumption)) (cwV 1 hts gc_R_readLine_R_takeWord rfl rfl rfl (by decide +kernel) ⟨Nat.le_of_ble_eq_true rfl, Nat.le_of_ble_eq_true rfl⟩) ⟨fun a U g mk q => by obtain ⟨q0, q1, qP, qK, qD, q_hE, q_hs⟩ := q; exact ⟨q0, q1, qP, va_K.moved (u := U) (U := U.calling g mk a) (Vm.Alike.refl U.vm) qK, qD, okEnv.same rfl q_hE, okStr.moved (Vm.Alike.refl U.vm) q_hs⟩, va_recv hKc hPc (ci := 5) (q0 := 0) rfl rfl, fun U hU hW => ⟨rfl, by rw [hU], by rw [hU]; exact hPc, va_K.moved hW.alike hKc, hDc.weaken (fun _ _ _ _ => trivial), by rw [hU]; exact okEnv.pass hE hW hS hFc, by rw [hU]; exact okStr.pass hs_6 hW hS hFc⟩⟩ rfl rfl hl.1 rfl (lv_room (Nat.le_of_ble_eq_true rfl)) dX4_readLine_3 ⟨Nat.zero_le _, Nat.zero_le _⟩) hS (fun q _ h => hFc q h) hFc (fun r_7 u t H1 locs ht hvm hw hB hz1 hk1 hS => ?_)
  obtain ⟨s1_8, e1_9, hf_10, hf_11, hf_12, hP1, hK1, hD1⟩ := hB
  rw [ht] at hP1
  obtain ⟨hP, hD⟩ := va_join (wr := []) (w1 := [(h0, .inr (5, [.ref ta, .int (nI s1_8), .int (nI e1_9)])), (ta, .inr (6, [.ref ab, .int (nI tp)])), (ab, .inl (cB, 300, .inl fb))]) hP hD [0, 1, 2] [] rfl rfl (by decide) (by decide) hk1 hFc hP1 hD1
  generalize H1 = H at hP hS ⊢
  have hP : va_P (dC, dI) vwCl [(h0, .inr (5, [.ref ta, .int (nI s1_8), .int (nI e1_9)])), (ta, .inr (6, [.ref ab, .int (nI tp)])), (ab, .inl (cB, 300, .inl fb))] H := hP
  have hD : va_D A [(h0, .inr (5, [.ref ta, .int (nI s1_8), .int (nI e1_9)])), (ta, .inr (6, [.ref ab, .int (nI tp)])), (ab, .inl (cB, 300, .inl fb))] := hD
  have hr_7 := hw
  try dsimp only at hr_7
  refine lv_if_eq (tgt := 17) hx hb dX4_readLine_6 (by decide) (fun c_13 => ?_) (fun c_13 => ?_)
  · refine lv_aload_n hx hb dX4_readLine_17 rfl (lv_at hl 0 rfl) ?_
    obtain ⟨sa_14, sv_15, sn_16, sf_17, hR_18, hs_19⟩ := hE.2.2 (54, "settled") (by decide)
    refine va_ldcS hx hb hown hR_18 dX4_readLine_18 ?_
    have hPc := hP.sub (ws' := [(h0, .inr (5, [.ref ta, .int (nI s1_8), .int (nI e1_9)])), (ta, .inr (6, [.ref ab, .int (nI tp)])), (ab, .inl (cB, 300, .inl fb))]) [0, 1, 2] rfl
    have hDc := hD.sub (ws' := [(h0, .inr (5, [.ref ta, .int (nI s1_8), .int (nI e1_9)])), (ta, .inr (6, [.ref ab, .int (nI tp)])), (ab, .inl (cB, 300, .inl fb))]) [0, 1, 2] (by decide) rfl
    have hKc := hK.sub (tys' := [(cB, .int)]) [0] rfl
    have hFc := va_free (wc := [(h0, .inr (5, [.ref ta, .int (nI s1_8), .int (nI e1_9)])), (ta, .inr (6, [.ref ab, .int (nI tp)])), (ab, .inl (cB, 300, .inl fb))]) hD hS hA [0, 1, 2] rfl
    refine va_calli (va_runV (As := [.ref sa_14]) (rest := []) ⟨hx, hb, hml, hown, hts⟩ (c_R_takeWord l dC dI _ h0 ta s1_8 e1_9 ab tp cB fb sa_14 sv_15 sn_16 sf_17 zo (by omega) (by omega) (by omega) (by assumption)) (cwV 1 hts gc_R_readLine_R_takeWord rfl rfl rfl (by decide +kernel) ⟨Nat.le_of_ble_eq_true rfl, Nat.le_of_ble_eq_true rfl⟩) ⟨fun a U g mk q => by obtain ⟨q0, q1, qP, qK, qD, q_hE, q_hs⟩ := q; exact ⟨q0, q1, qP, va_K.moved (u := U) (U := U.calling g mk a) (Vm.Alike.refl U.vm) qK, qD, okEnv.same rfl q_hE, okStr.moved (Vm.Alike.refl U.vm) q_hs⟩, va_recv hKc hPc (ci := 5) (q0 := 0) rfl rfl, fun U hU hW => ⟨rfl, by rw [hU], by rw [hU]; exact hPc, va_K.moved hW.alike hKc, hDc.weaken (fun _ _ _ _ => trivial), by rw [hU]; exact okEnv.pass hE hW hS hFc, by rw [hU]; exact okStr.pass hs_19 hW hS hFc⟩⟩ rfl rfl hl.1 rfl (lv_room (Nat.le_of_ble_eq_true rfl)) dX4_readLine_20 ⟨Nat.zero_le _, Nat.zero_le _⟩) hS (fun q _ h => hFc q h) hFc (fun r_20 u t H1 locs ht hvm hw hB hz1 hk1 hS => ?_)
    obtain ⟨s1_21, e1_22, hf_23, hf_24, hf_25, hP1, hK1, hD1⟩ := hB
    rw [ht] at hP1
    obtain ⟨hP, hD⟩ := va_join (wr := []) (w1 := [(h0, .inr (5, [.ref ta, .int (nI s1_21), .int (nI e1_22)])), (ta, .inr (6, [.ref ab, .int (nI tp)])), (ab, .inl (cB, 300, .inl fb))]) hP hD [0, 1, 2] [] rfl rfl (by decide) (by decide) hk1 hFc hP1 hD1
    generalize H1 = H at hP hS ⊢
    have hP : va_P (dC, dI) vwCl [(h0, .inr (5, [.ref ta, .int (nI s1_21), .int (nI e1_22)])), (ta, .inr (6, [.ref ab, .int (nI tp)])), (ab, .inl (cB, 300, .inl fb))] H := hP
    have hD : va_D A [(h0, .inr (5, [.ref ta, .int (nI s1_21), .int (nI e1_22)])), (ta, .inr (6, [.ref ab, .int (nI tp)])), (ab, .inl (cB, 300, .inl fb))] := hD
    have hr_20 := hw
    try dsimp only at hr_20
    refine lv_if_eq (tgt := 34) hx hb dX4_readLine_23 (by decide) (fun c_26 => ?_) (fun c_26 => ?_)
    · refine lv_aload_n hx hb dX4_readLine_34 rfl (lv_at hl 0 rfl) ?_
      have hPc := hP.sub (ws' := [(h0, .inr (5, [.ref ta, .int (nI s1_21), .int (nI e1_22)])), (ta, .inr (6, [.ref ab, .int (nI tp)])), (ab, .inl (cB, 300, .inl fb))]) [0, 1, 2] rfl
      have hDc := hD.sub (ws' := [(h0, .inr (5, [.ref ta, .int (nI s1_21), .int (nI e1_22)])), (ta, .inr (6, [.ref ab, .int (nI tp)])), (ab, .inl (cB, 300, .inl fb))]) [0, 1, 2] (by decide) rfl
      have hKc := hK.sub (tys' := [(cB, .int)]) [0] rfl
      have hFc := va_free (wc := [(h0, .inr (5, [.ref ta, .int (nI s1_21), .int (nI e1_22)])), (ta, .inr (6, [.ref ab, .int (nI tp)])), (ab, .inl (cB, 300, .inl fb))]) hD hS hA [0, 1, 2] rfl
      refine va_calli (va_runV (As := []) (rest := []) ⟨hx, hb, hml, hown, hts⟩ (c_R_takePerson l dC dI _ h0 ta s1_21 e1_22 ab tp cB fb (by omega) (by omega) (by omega) (by assumption)) (cwV 0 hts gc_R_readLine_R_takePerson rfl rfl rfl (by decide +kernel) ⟨Nat.le_of_ble_eq_true rfl, Nat.le_of_ble_eq_true rfl⟩) ⟨fun a U g mk q => by obtain ⟨q0, q1, qP, qK, qD, q_nw4p⟩ := q; exact ⟨q0, q1, qP, va_K.moved (u := U) (U := U.calling g mk a) (Vm.Alike.refl U.vm) qK, qD, va_Nw.same rfl rfl q_nw4p⟩, va_recv hKc hPc (ci := 5) (q0 := 0) rfl rfl, fun U hU hW => ⟨rfl, by rw [hU], by rw [hU]; exact hPc, va_K.moved hW.alike hKc, hDc.weaken (fun _ _ _ _ => trivial), va_Nw.warmM hW nw4p⟩⟩ rfl rfl hl.1 rfl (lv_room (Nat.le_of_ble_eq_true rfl)) dX4_readLine_35 ⟨Nat.zero_le _, Nat.zero_le _⟩) hS (fun q _ h => hFc q h) hFc (fun r_27 u t H1 locs ht hvm hw hB hz1 hk1 hS => ?_)
      obtain ⟨s1_28, e1_29, hf_30, hf_31, hf_32, hP1, hK1, hD1⟩ := hB
      rw [ht] at hP1
      obtain ⟨hP, hD⟩ := va_join (wr := []) (w1 := [(h0, .inr (5, [.ref ta, .int (nI s1_28), .int (nI e1_29)])), (ta, .inr (6, [.ref ab, .int (nI tp)])), (ab, .inl (cB, 300, .inl fb))]) hP hD [0, 1, 2] [] rfl rfl (by decide) (by decide) hk1 hFc hP1 hD1
      generalize H1 = H at hP hS ⊢
      have hP : va_P (dC, dI) vwCl [(h0, .inr (5, [.ref ta, .int (nI s1_28), .int (nI e1_29)])), (ta, .inr (6, [.ref ab, .int (nI tp)])), (ab, .inl (cB, 300, .inl fb))] H := hP
      have hD : va_D A [(h0, .inr (5, [.ref ta, .int (nI s1_28), .int (nI e1_29)])), (ta, .inr (6, [.ref ab, .int (nI tp)])), (ab, .inl (cB, 300, .inl fb))] := hD
      have hr_27 := hw
      try dsimp only at hr_27
      refine lv_istore_n (lv' := [(1, .int r_27), (0, .ref h0)]) hx hb dX4_readLine_38 rfl hl (by decide) rfl (fun ls hl => ?_)
      refine lv_iload_n hx hb dX4_readLine_39 rfl (lv_at hl 0 rfl) ?_
      refine lv_iconst (v := (-1)) hx hb dX4_readLine_40 (by decide) ?_
      refine lv_icmp_ne (tgt := 46) hx hb dX4_readLine_41 (by decide) (fun c_33 => ?_) (fun c_33 => ?_)
      · obtain ⟨n_34, hn_34, en_34⟩ : ∃ n, n < 12 ∧ r_27 = nI n := by
          rcases hr_27 with h | h
          · exact absurd h c_33
          · exact h
        subst en_34
        refine lv_aload_n hx hb dX4_readLine_46 rfl (lv_at hl 1 rfl) ?_
        obtain ⟨sa_35, sv_36, sn_37, sf_38, hR_39, hs_40⟩ := hE.2.2 (60, "asks") (by decide)
        refine va_ldcS hx hb hown hR_39 dX4_readLine_47 ?_
        have hPc := hP.sub (ws' := [(h0, .inr (5, [.ref ta, .int (nI s1_28), .int (nI e1_29)])), (ta, .inr (6, [.ref ab, .int (nI tp)])), (ab, .inl (cB, 300, .inl fb))]) [0, 1, 2] rfl
        have hDc := hD.sub (ws' := [(h0, .inr (5, [.ref ta, .int (nI s1_28), .int (nI e1_29)])), (ta, .inr (6, [.ref ab, .int (nI tp)])), (ab, .inl (cB, 300, .inl fb))]) [0, 1, 2] (by decide) rfl
        have hKc := hK.sub (tys' := [(cB, .int)]) [0] rfl
        have hFc := va_free (wc := [(h0, .inr (5, [.ref ta, .int (nI s1_28), .int (nI e1_29)])), (ta, .inr (6, [.ref ab, .int (nI tp)])), (ab, .inl (cB, 300, .inl fb))]) hD hS hA [0, 1, 2] rfl
        refine va_calli (va_runV (As := [.ref sa_35]) (rest := []) ⟨hx, hb, hml, hown, hts⟩ (c_R_takeWord l dC dI _ h0 ta s1_28 e1_29 ab tp cB fb sa_35 sv_36 sn_37 sf_38 zo (by omega) (by omega) (by omega) (by assumption)) (cwV 1 hts gc_R_readLine_R_takeWord rfl rfl rfl (by decide +kernel) ⟨Nat.le_of_ble_eq_true rfl, Nat.le_of_ble_eq_true rfl⟩) ⟨fun a U g mk q => by obtain ⟨q0, q1, qP, qK, qD, q_hE, q_hs⟩ := q; exact ⟨q0, q1, qP, va_K.moved (u := U) (U := U.calling g mk a) (Vm.Alike.refl U.vm) qK, qD, okEnv.same rfl q_hE, okStr.moved (Vm.Alike.refl U.vm) q_hs⟩, va_recv hKc hPc (ci := 5) (q0 := 0) rfl rfl, fun U hU hW => ⟨rfl, by rw [hU], by rw [hU]; exact hPc, va_K.moved hW.alike hKc, hDc.weaken (fun _ _ _ _ => trivial), by rw [hU]; exact okEnv.pass hE hW hS hFc, by rw [hU]; exact okStr.pass hs_40 hW hS hFc⟩⟩ rfl rfl hl.1 rfl (lv_room (Nat.le_of_ble_eq_true rfl)) dX4_readLine_49 ⟨Nat.zero_le _, Nat.zero_le _⟩) hS (fun q _ h => hFc q h) hFc (fun r_41 u t H1 locs ht hvm hw hB hz1 hk1 hS => ?_)
        obtain ⟨s1_42, e1_43, hf_44, hf_45, hf_46, hP1, hK1, hD1⟩ := hB
        rw [ht] at hP1
        obtain ⟨hP, hD⟩ := va_join (wr := []) (w1 := [(h0, .inr (5, [.ref ta, .int (nI s1_42), .int (nI e1_43)])), (ta, .inr (6, [.ref ab, .int (nI tp)])), (ab, .inl (cB, 300, .inl fb))]) hP hD [0, 1, 2] [] rfl rfl (by decide) (by decide) hk1 hFc hP1 hD1
        generalize H1 = H at hP hS ⊢
        have hP : va_P (dC, dI) vwCl [(h0, .inr (5, [.ref ta, .int (nI s1_42), .int (nI e1_43)])), (ta, .inr (6, [.ref ab, .int (nI tp)])), (ab, .inl (cB, 300, .inl fb))] H := hP
        have hD : va_D A [(h0, .inr (5, [.ref ta, .int (nI s1_42), .int (nI e1_43)])), (ta, .inr (6, [.ref ab, .int (nI tp)])), (ab, .inl (cB, 300, .inl fb))] := hD
        have hr_41 := hw
        try dsimp only at hr_41
        refine lv_if_eq (tgt := 86) hx hb dX4_readLine_52 (by decide) (fun c_47 => ?_) (fun c_47 => ?_)
        · refine lv_aload_n hx hb dX4_readLine_86 rfl (lv_at hl 1 rfl) ?_
          obtain ⟨sa_48, sv_49, sn_50, sf_51, hR_52, hs_53⟩ := hE.2.2 (68, "takes") (by decide)
          refine va_ldcS hx hb hown hR_52 dX4_readLine_87 ?_
          have hPc := hP.sub (ws' := [(h0, .inr (5, [.ref ta, .int (nI s1_42), .int (nI e1_43)])), (ta, .inr (6, [.ref ab, .int (nI tp)])), (ab, .inl (cB, 300, .inl fb))]) [0, 1, 2] rfl
          have hDc := hD.sub (ws' := [(h0, .inr (5, [.ref ta, .int (nI s1_42), .int (nI e1_43)])), (ta, .inr (6, [.ref ab, .int (nI tp)])), (ab, .inl (cB, 300, .inl fb))]) [0, 1, 2] (by decide) rfl
          have hKc := hK.sub (tys' := [(cB, .int)]) [0] rfl
          have hFc := va_free (wc := [(h0, .inr (5, [.ref ta, .int (nI s1_42), .int (nI e1_43)])), (ta, .inr (6, [.ref ab, .int (nI tp)])), (ab, .inl (cB, 300, .inl fb))]) hD hS hA [0, 1, 2] rfl
          refine va_calli (va_runV (As := [.ref sa_48]) (rest := []) ⟨hx, hb, hml, hown, hts⟩ (c_R_takeWord l dC dI _ h0 ta s1_42 e1_43 ab tp cB fb sa_48 sv_49 sn_50 sf_51 zo (by omega) (by omega) (by omega) (by assumption)) (cwV 1 hts gc_R_readLine_R_takeWord rfl rfl rfl (by decide +kernel) ⟨Nat.le_of_ble_eq_true rfl, Nat.le_of_ble_eq_true rfl⟩) ⟨fun a U g mk q => by obtain ⟨q0, q1, qP, qK, qD, q_hE, q_hs⟩ := q; exact ⟨q0, q1, qP, va_K.moved (u := U) (U := U.calling g mk a) (Vm.Alike.refl U.vm) qK, qD, okEnv.same rfl q_hE, okStr.moved (Vm.Alike.refl U.vm) q_hs⟩, va_recv hKc hPc (ci := 5) (q0 := 0) rfl rfl, fun U hU hW => ⟨rfl, by rw [hU], by rw [hU]; exact hPc, va_K.moved hW.alike hKc, hDc.weaken (fun _ _ _ _ => trivial), by rw [hU]; exact okEnv.pass hE hW hS hFc, by rw [hU]; exact okStr.pass hs_53 hW hS hFc⟩⟩ rfl rfl hl.1 rfl (lv_room (Nat.le_of_ble_eq_true rfl)) dX4_readLine_89 ⟨Nat.zero_le _, Nat.zero_le _⟩) hS (fun q _ h => hFc q h) hFc (fun r_54 u t H1 locs ht hvm hw hB hz1 hk1 hS => ?_)
          obtain ⟨s1_55, e1_56, hf_57, hf_58, hf_59, hP1, hK1, hD1⟩ := hB
          rw [ht] at hP1
          obtain ⟨hP, hD⟩ := va_join (wr := []) (w1 := [(h0, .inr (5, [.ref ta, .int (nI s1_55), .int (nI e1_56)])), (ta, .inr (6, [.ref ab, .int (nI tp)])), (ab, .inl (cB, 300, .inl fb))]) hP hD [0, 1, 2] [] rfl rfl (by decide) (by decide) hk1 hFc hP1 hD1
          generalize H1 = H at hP hS ⊢
          have hP : va_P (dC, dI) vwCl [(h0, .inr (5, [.ref ta, .int (nI s1_55), .int (nI e1_56)])), (ta, .inr (6, [.ref ab, .int (nI tp)])), (ab, .inl (cB, 300, .inl fb))] H := hP
          have hD : va_D A [(h0, .inr (5, [.ref ta, .int (nI s1_55), .int (nI e1_56)])), (ta, .inr (6, [.ref ab, .int (nI tp)])), (ab, .inl (cB, 300, .inl fb))] := hD
          have hr_54 := hw
          try dsimp only at hr_54
          refine lv_if_eq (tgt := 103) hx hb dX4_readLine_92 (by decide) (fun c_60 => ?_) (fun c_60 => ?_)
          · refine lv_aload_n hx hb dX4_readLine_103 rfl (lv_at hl 1 rfl) ?_
            obtain ⟨sa_61, sv_62, sn_63, sf_64, hR_65, hs_66⟩ := hE.2.2 (70, "drops") (by decide)
            refine va_ldcS hx hb hown hR_65 dX4_readLine_104 ?_
            have hPc := hP.sub (ws' := [(h0, .inr (5, [.ref ta, .int (nI s1_55), .int (nI e1_56)])), (ta, .inr (6, [.ref ab, .int (nI tp)])), (ab, .inl (cB, 300, .inl fb))]) [0, 1, 2] rfl
            have hDc := hD.sub (ws' := [(h0, .inr (5, [.ref ta, .int (nI s1_55), .int (nI e1_56)])), (ta, .inr (6, [.ref ab, .int (nI tp)])), (ab, .inl (cB, 300, .inl fb))]) [0, 1, 2] (by decide) rfl
            have hKc := hK.sub (tys' := [(cB, .int)]) [0] rfl
            have hFc := va_free (wc := [(h0, .inr (5, [.ref ta, .int (nI s1_55), .int (nI e1_56)])), (ta, .inr (6, [.ref ab, .int (nI tp)])), (ab, .inl (cB, 300, .inl fb))]) hD hS hA [0, 1, 2] rfl
            refine va_calli (va_runV (As := [.ref sa_61]) (rest := []) ⟨hx, hb, hml, hown, hts⟩ (c_R_takeWord l dC dI _ h0 ta s1_55 e1_56 ab tp cB fb sa_61 sv_62 sn_63 sf_64 zo (by omega) (by omega) (by omega) (by assumption)) (cwV 1 hts gc_R_readLine_R_takeWord rfl rfl rfl (by decide +kernel) ⟨Nat.le_of_ble_eq_true rfl, Nat.le_of_ble_eq_true rfl⟩) ⟨fun a U g mk q => by obtain ⟨q0, q1, qP, qK, qD, q_hE, q_hs⟩ := q; exact ⟨q0, q1, qP, va_K.moved (u := U) (U := U.calling g mk a) (Vm.Alike.refl U.vm) qK, qD, okEnv.same rfl q_hE, okStr.moved (Vm.Alike.refl U.vm) q_hs⟩, va_recv hKc hPc (ci := 5) (q0 := 0) rfl rfl, fun U hU hW => ⟨rfl, by rw [hU], by rw [hU]; exact hPc, va_K.moved hW.alike hKc, hDc.weaken (fun _ _ _ _ => trivial), by rw [hU]; exact okEnv.pass hE hW hS hFc, by rw [hU]; exact okStr.pass hs_66 hW hS hFc⟩⟩ rfl rfl hl.1 rfl (lv_room (Nat.le_of_ble_eq_true rfl)) dX4_readLine_106 ⟨Nat.zero_le _, Nat.zero_le _⟩) hS (fun q _ h => hFc q h) hFc (fun r_67 u t H1 locs ht hvm hw hB hz1 hk1 hS => ?_)
            obtain ⟨s1_68, e1_69, hf_70, hf_71, hf_72, hP1, hK1, hD1⟩ := hB
            rw [ht] at hP1
            obtain ⟨hP, hD⟩ := va_join (wr := []) (w1 := [(h0, .inr (5, [.ref ta, .int (nI s1_68), .int (nI e1_69)])), (ta, .inr (6, [.ref ab, .int (nI tp)])), (ab, .inl (cB, 300, .inl fb))]) hP hD [0, 1, 2] [] rfl rfl (by decide) (by decide) hk1 hFc hP1 hD1
            generalize H1 = H at hP hS ⊢
            have hP : va_P (dC, dI) vwCl [(h0, .inr (5, [.ref ta, .int (nI s1_68), .int (nI e1_69)])), (ta, .inr (6, [.ref ab, .int (nI tp)])), (ab, .inl (cB, 300, .inl fb))] H := hP
            have hD : va_D A [(h0, .inr (5, [.ref ta, .int (nI s1_68), .int (nI e1_69)])), (ta, .inr (6, [.ref ab, .int (nI tp)])), (ab, .inl (cB, 300, .inl fb))] := hD
            have hr_67 := hw
            try dsimp only at hr_67
            refine lv_if_eq (tgt := 119) hx hb dX4_readLine_109 (by decide) (fun c_73 => ?_) (fun c_73 => ?_)
            · refine lv_aload_n hx hb dX4_readLine_119 rfl (lv_at hl 1 rfl) ?_
              obtain ⟨sa_74, sv_75, sn_76, sf_77, hR_78, hs_79⟩ := hE.2.2 (72, "does") (by decide)
              refine va_ldcS hx hb hown hR_78 dX4_readLine_120 ?_
              have hPc := hP.sub (ws' := [(h0, .inr (5, [.ref ta, .int (nI s1_68), .int (nI e1_69)])), (ta, .inr (6, [.ref ab, .int (nI tp)])), (ab, .inl (cB, 300, .inl fb))]) [0, 1, 2] rfl
              have hDc := hD.sub (ws' := [(h0, .inr (5, [.ref ta, .int (nI s1_68), .int (nI e1_69)])), (ta, .inr (6, [.ref ab, .int (nI tp)])), (ab, .inl (cB, 300, .inl fb))]) [0, 1, 2] (by decide) rfl
              have hKc := hK.sub (tys' := [(cB, .int)]) [0] rfl
              have hFc := va_free (wc := [(h0, .inr (5, [.ref ta, .int (nI s1_68), .int (nI e1_69)])), (ta, .inr (6, [.ref ab, .int (nI tp)])), (ab, .inl (cB, 300, .inl fb))]) hD hS hA [0, 1, 2] rfl
              refine va_calli (va_runV (As := [.ref sa_74]) (rest := []) ⟨hx, hb, hml, hown, hts⟩ (c_R_takeWord l dC dI _ h0 ta s1_68 e1_69 ab tp cB fb sa_74 sv_75 sn_76 sf_77 zo (by omega) (by omega) (by omega) (by assumption)) (cwV 1 hts gc_R_readLine_R_takeWord rfl rfl rfl (by decide +kernel) ⟨Nat.le_of_ble_eq_true rfl, Nat.le_of_ble_eq_true rfl⟩) ⟨fun a U g mk q => by obtain ⟨q0, q1, qP, qK, qD, q_hE, q_hs⟩ := q; exact ⟨q0, q1, qP, va_K.moved (u := U) (U := U.calling g mk a) (Vm.Alike.refl U.vm) qK, qD, okEnv.same rfl q_hE, okStr.moved (Vm.Alike.refl U.vm) q_hs⟩, va_recv hKc hPc (ci := 5) (q0 := 0) rfl rfl, fun U hU hW => ⟨rfl, by rw [hU], by rw [hU]; exact hPc, va_K.moved hW.alike hKc, hDc.weaken (fun _ _ _ _ => trivial), by rw [hU]; exact okEnv.pass hE hW hS hFc, by rw [hU]; exact okStr.pass hs_79 hW hS hFc⟩⟩ rfl rfl hl.1 rfl (lv_room (Nat.le_of_ble_eq_true rfl)) dX4_readLine_122 ⟨Nat.zero_le _, Nat.zero_le _⟩) hS (fun q _ h => hFc q h) hFc (fun r_80 u t H1 locs ht hvm hw hB hz1 hk1 hS => ?_)
              obtain ⟨s1_81, e1_82, hf_83, hf_84, hf_85, hP1, hK1, hD1⟩ := hB
              rw [ht] at hP1
              obtain ⟨hP, hD⟩ := va_join (wr := []) (w1 := [(h0, .inr (5, [.ref ta, .int (nI s1_81), .int (nI e1_82)])), (ta, .inr (6, [.ref ab, .int (nI tp)])), (ab, .inl (cB, 300, .inl fb))]) hP hD [0, 1, 2] [] rfl rfl (by decide) (by decide) hk1 hFc hP1 hD1
              generalize H1 = H at hP hS ⊢
              have hP : va_P (dC, dI) vwCl [(h0, .inr (5, [.ref ta, .int (nI s1_81), .int (nI e1_82)])), (ta, .inr (6, [.ref ab, .int (nI tp)])), (ab, .inl (cB, 300, .inl fb))] H := hP
              have hD : va_D A [(h0, .inr (5, [.ref ta, .int (nI s1_81), .int (nI e1_82)])), (ta, .inr (6, [.ref ab, .int (nI tp)])), (ab, .inl (cB, 300, .inl fb))] := hD
              have hr_80 := hw
              try dsimp only at hr_80
              refine lv_if_eq (tgt := 135) hx hb dX4_readLine_125 (by decide) (fun c_86 => ?_) (fun c_86 => ?_)
              · refine lv_aload_n hx hb dX4_readLine_135 rfl (lv_at hl 1 rfl) ?_
                obtain ⟨sa_87, sv_88, sn_89, sf_90, hR_91, hs_92⟩ := hE.2.2 (74, "says") (by decide)
                refine va_ldcS hx hb hown hR_91 dX4_readLine_136 ?_
                have hPc := hP.sub (ws' := [(h0, .inr (5, [.ref ta, .int (nI s1_81), .int (nI e1_82)])), (ta, .inr (6, [.ref ab, .int (nI tp)])), (ab, .inl (cB, 300, .inl fb))]) [0, 1, 2] rfl
                have hDc := hD.sub (ws' := [(h0, .inr (5, [.ref ta, .int (nI s1_81), .int (nI e1_82)])), (ta, .inr (6, [.ref ab, .int (nI tp)])), (ab, .inl (cB, 300, .inl fb))]) [0, 1, 2] (by decide) rfl
                have hKc := hK.sub (tys' := [(cB, .int)]) [0] rfl
                have hFc := va_free (wc := [(h0, .inr (5, [.ref ta, .int (nI s1_81), .int (nI e1_82)])), (ta, .inr (6, [.ref ab, .int (nI tp)])), (ab, .inl (cB, 300, .inl fb))]) hD hS hA [0, 1, 2] rfl
                refine va_calli (va_runV (As := [.ref sa_87]) (rest := []) ⟨hx, hb, hml, hown, hts⟩ (c_R_takeWord l dC dI _ h0 ta s1_81 e1_82 ab tp cB fb sa_87 sv_88 sn_89 sf_90 zo (by omega) (by omega) (by omega) (by assumption)) (cwV 1 hts gc_R_readLine_R_takeWord rfl rfl rfl (by decide +kernel) ⟨Nat.le_of_ble_eq_true rfl, Nat.le_of_ble_eq_true rfl⟩) ⟨fun a U g mk q => by obtain ⟨q0, q1, qP, qK, qD, q_hE, q_hs⟩ := q; exact ⟨q0, q1, qP, va_K.moved (u := U) (U := U.calling g mk a) (Vm.Alike.refl U.vm) qK, qD, okEnv.same rfl q_hE, okStr.moved (Vm.Alike.refl U.vm) q_hs⟩, va_recv hKc hPc (ci := 5) (q0 := 0) rfl rfl, fun U hU hW => ⟨rfl, by rw [hU], by rw [hU]; exact hPc, va_K.moved hW.alike hKc, hDc.weaken (fun _ _ _ _ => trivial), by rw [hU]; exact okEnv.pass hE hW hS hFc, by rw [hU]; exact okStr.pass hs_92 hW hS hFc⟩⟩ rfl rfl hl.1 rfl (lv_room (Nat.le_of_ble_eq_true rfl)) dX4_readLine_138 ⟨Nat.zero_le _, Nat.zero_le _⟩) hS (fun q _ h => hFc q h) hFc (fun r_93 u t H1 locs ht hvm hw hB hz1 hk1 hS => ?_)
                obtain ⟨s1_94, e1_95, hf_96, hf_97, hf_98, hP1, hK1, hD1⟩ := hB
                rw [ht] at hP1
                obtain ⟨hP, hD⟩ := va_join (wr := []) (w1 := [(h0, .inr (5, [.ref ta, .int (nI s1_94), .int (nI e1_95)])), (ta, .inr (6, [.ref ab, .int (nI tp)])), (ab, .inl (cB, 300, .inl fb))]) hP hD [0, 1, 2] [] rfl rfl (by decide) (by decide) hk1 hFc hP1 hD1
                generalize H1 = H at hP hS ⊢
                have hP : va_P (dC, dI) vwCl [(h0, .inr (5, [.ref ta, .int (nI s1_94), .int (nI e1_95)])), (ta, .inr (6, [.ref ab, .int (nI tp)])), (ab, .inl (cB, 300, .inl fb))] H := hP
                have hD : va_D A [(h0, .inr (5, [.ref ta, .int (nI s1_94), .int (nI e1_95)])), (ta, .inr (6, [.ref ab, .int (nI tp)])), (ab, .inl (cB, 300, .inl fb))] := hD
                have hr_93 := hw
                try dsimp only at hr_93
                refine lv_if_eq (tgt := 150) hx hb dX4_readLine_141 (by decide) (fun c_99 => ?_) (fun c_99 => ?_)
                · refine lv_aload_n hx hb dX4_readLine_150 rfl (lv_at hl 1 rfl) ?_
                  obtain ⟨sa_100, sv_101, sn_102, sf_103, hR_104, hs_105⟩ := hE.2.2 (80, "denies") (by decide)
                  refine va_ldcS hx hb hown hR_104 dX4_readLine_151 ?_
                  have hPc := hP.sub (ws' := [(h0, .inr (5, [.ref ta, .int (nI s1_94), .int (nI e1_95)])), (ta, .inr (6, [.ref ab, .int (nI tp)])), (ab, .inl (cB, 300, .inl fb))]) [0, 1, 2] rfl
                  have hDc := hD.sub (ws' := [(h0, .inr (5, [.ref ta, .int (nI s1_94), .int (nI e1_95)])), (ta, .inr (6, [.ref ab, .int (nI tp)])), (ab, .inl (cB, 300, .inl fb))]) [0, 1, 2] (by decide) rfl
                  have hKc := hK.sub (tys' := [(cB, .int)]) [0] rfl
                  have hFc := va_free (wc := [(h0, .inr (5, [.ref ta, .int (nI s1_94), .int (nI e1_95)])), (ta, .inr (6, [.ref ab, .int (nI tp)])), (ab, .inl (cB, 300, .inl fb))]) hD hS hA [0, 1, 2] rfl
                  refine va_calli (va_runV (As := [.ref sa_100]) (rest := []) ⟨hx, hb, hml, hown, hts⟩ (c_R_takeWord l dC dI _ h0 ta s1_94 e1_95 ab tp cB fb sa_100 sv_101 sn_102 sf_103 zo (by omega) (by omega) (by omega) (by assumption)) (cwV 1 hts gc_R_readLine_R_takeWord rfl rfl rfl (by decide +kernel) ⟨Nat.le_of_ble_eq_true rfl, Nat.le_of_ble_eq_true rfl⟩) ⟨fun a U g mk q => by obtain ⟨q0, q1, qP, qK, qD, q_hE, q_hs⟩ := q; exact ⟨q0, q1, qP, va_K.moved (u := U) (U := U.calling g mk a) (Vm.Alike.refl U.vm) qK, qD, okEnv.same rfl q_hE, okStr.moved (Vm.Alike.refl U.vm) q_hs⟩, va_recv hKc hPc (ci := 5) (q0 := 0) rfl rfl, fun U hU hW => ⟨rfl, by rw [hU], by rw [hU]; exact hPc, va_K.moved hW.alike hKc, hDc.weaken (fun _ _ _ _ => trivial), by rw [hU]; exact okEnv.pass hE hW hS hFc, by rw [hU]; exact okStr.pass hs_105 hW hS hFc⟩⟩ rfl rfl hl.1 rfl (lv_room (Nat.le_of_ble_eq_true rfl)) dX4_readLine_153 ⟨Nat.zero_le _, Nat.zero_le _⟩) hS (fun q _ h => hFc q h) hFc (fun r_106 u t H1 locs ht hvm hw hB hz1 hk1 hS => ?_)
                  obtain ⟨s1_107, e1_108, hf_109, hf_110, hf_111, hP1, hK1, hD1⟩ := hB
                  rw [ht] at hP1
                  obtain ⟨hP, hD⟩ := va_join (wr := []) (w1 := [(h0, .inr (5, [.ref ta, .int (nI s1_107), .int (nI e1_108)])), (ta, .inr (6, [.ref ab, .int (nI tp)])), (ab, .inl (cB, 300, .inl fb))]) hP hD [0, 1, 2] [] rfl rfl (by decide) (by decide) hk1 hFc hP1 hD1
                  generalize H1 = H at hP hS ⊢
                  have hP : va_P (dC, dI) vwCl [(h0, .inr (5, [.ref ta, .int (nI s1_107), .int (nI e1_108)])), (ta, .inr (6, [.ref ab, .int (nI tp)])), (ab, .inl (cB, 300, .inl fb))] H := hP
                  have hD : va_D A [(h0, .inr (5, [.ref ta, .int (nI s1_107), .int (nI e1_108)])), (ta, .inr (6, [.ref ab, .int (nI tp)])), (ab, .inl (cB, 300, .inl fb))] := hD
                  have hr_106 := hw
                  try dsimp only at hr_106
                  refine lv_if_eq (tgt := 168) hx hb dX4_readLine_156 (by decide) (fun c_112 => ?_) (fun c_112 => ?_)
                  · refine lv_null hx hb dX4_readLine_168 ?_
                    have hP9 := hP.sub (ws' := [(h0, .inr (5, [.ref ta, .int (nI s1_107), .int (nI e1_108)])), (ta, .inr (6, [.ref ab, .int (nI tp)])), (ab, .inl (cB, 300, .inl fb))]) [0, 1, 2] rfl
                    have hD9 := hD.sub (ws' := [(h0, .inr (5, [.ref ta, .int (nI s1_107), .int (nI e1_108)])), (ta, .inr (6, [.ref ab, .int (nI tp)])), (ab, .inl (cB, 300, .inl fb))]) [0, 1, 2] (by decide) rfl
                    have hK9 := hK.sub (tys' := [(cB, .int)]) [0] rfl
                    refine W.widen (k := 1) (n := 6) (by omega) (by omega) ?_
                    exact W.aret (v := .null) hx hb hr (by first | exact Or.inl ⟨_, rfl⟩ | exact Or.inr ⟨_, rfl⟩) (Or.inl rfl) (fun t ht hW => ⟨⟨none, [], rfl, Or.inl ⟨rfl, rfl⟩, s1_107, e1_108, (by omega), (by omega), (by assumption), by rw [ht]; exact hP9, va_K.moved hW.alike hK9, hD9⟩, hS.F ht⟩) hS.2.2 dX4_readLine_169
                  · refine lv_aload_n hx hb dX4_readLine_159 rfl (lv_at hl 1 rfl) ?_
                    refine lv_iconst (v := 5) hx hb dX4_readLine_160 (by decide) ?_
                    refine lv_iload_n hx hb dX4_readLine_161 rfl (lv_at hl 0 rfl) ?_
                    have hPc := hP.sub (ws' := [(h0, .inr (5, [.ref ta, .int (nI s1_107), .int (nI e1_108)])), (ta, .inr (6, [.ref ab, .int (nI tp)])), (ab, .inl (cB, 300, .inl fb))]) [0, 1, 2] rfl
                    have hDc := hD.sub (ws' := [(h0, .inr (5, [.ref ta, .int (nI s1_107), .int (nI e1_108)])), (ta, .inr (6, [.ref ab, .int (nI tp)])), (ab, .inl (cB, 300, .inl fb))]) [0, 1, 2] (by decide) rfl
                    have hKc := hK.sub (tys' := [(cB, .int)]) [0] rfl
                    have hFc := va_free (wc := [(h0, .inr (5, [.ref ta, .int (nI s1_107), .int (nI e1_108)])), (ta, .inr (6, [.ref ab, .int (nI tp)])), (ab, .inl (cB, 300, .inl fb))]) hD hS hA [0, 1, 2] rfl
                    have hz_114 := hS.1
                    refine va_callq (va_runV (As := [.int 5, .int (nI n_34)]) (rest := []) ⟨hx, hb, hml, hown, hts⟩ (c_R_readThing l dC dI _ h0 ta s1_107 e1_108 ab tp cB fb 5 (nI n_34) zo (by omega) (by omega) (by omega) (by assumption) (okLn_a (by decide) ⟨n_34, by omega, rfl⟩)) (cwV 2 hts gc_R_readLine_R_readThing rfl rfl rfl (by decide +kernel) ⟨Nat.le_of_ble_eq_true rfl, Nat.le_of_ble_eq_true rfl⟩) ⟨fun a U g mk q => by obtain ⟨q0, q1, qP, qK, qD, q_hE⟩ := q; exact ⟨q0, q1, qP, va_K.moved (u := U) (U := U.calling g mk a) (Vm.Alike.refl U.vm) qK, qD, okEnv.same rfl q_hE⟩, va_recv hKc hPc (ci := 5) (q0 := 0) rfl rfl, fun U hU hW => ⟨rfl, by rw [hU], by rw [hU]; exact hPc, va_K.moved hW.alike hKc, hDc.weaken (fun _ _ _ _ => trivial), by rw [hU]; exact okEnv.pass hE hW hS hFc⟩⟩ rfl rfl hl.1 rfl (lv_room (Nat.le_of_ble_eq_true rfl)) dX4_readLine_162 ⟨by decide, by decide⟩) hS (fun q _ h => hFc q h) hFc (fun r_113 u t H1 locs ht hvm hw hB hz1 hk1 hS => ?_)
                    obtain ⟨s1_115, e1_116, hf_117, hf_118, hf_119, hP1, hK1, hD1⟩ := hB
                    rw [ht] at hP1
                    rcases hw with ⟨rfl, rfl⟩ | ⟨q_120, tt_121, kd_122, pe_123, ot_124, dy_125, gr_126, rfl, rfl, hl_127, hk_128, hq_129⟩
                    · obtain ⟨hP, hD⟩ := va_join (wr := []) (w1 := [(h0, .inr (5, [.ref ta, .int (nI s1_115), .int (nI e1_116)])), (ta, .inr (6, [.ref ab, .int (nI tp)])), (ab, .inl (cB, 300, .inl fb))]) hP hD [0, 1, 2] [] rfl rfl (by decide) (by decide) hk1 hFc hP1 hD1
                      generalize H1 = H at hP hS ⊢
                      have hP : va_P (dC, dI) vwCl [(h0, .inr (5, [.ref ta, .int (nI s1_115), .int (nI e1_116)])), (ta, .inr (6, [.ref ab, .int (nI tp)])), (ab, .inl (cB, 300, .inl fb))] H := hP
                      have hD : va_D A [(h0, .inr (5, [.ref ta, .int (nI s1_115), .int (nI e1_116)])), (ta, .inr (6, [.ref ab, .int (nI tp)])), (ab, .inl (cB, 300, .inl fb))] := hD
                      refine W.widen (k := 1) (n := 6) (by omega) (by omega) ?_
                      refine W.eq (g2 := F0 m 165 ls [.null]) rfl ?_
                      refine lv_goto (tgt := 169) hx hb dX4_readLine_165 (by decide) ?_
                      have hP9 := hP.sub (ws' := [(h0, .inr (5, [.ref ta, .int (nI s1_115), .int (nI e1_116)])), (ta, .inr (6, [.ref ab, .int (nI tp)])), (ab, .inl (cB, 300, .inl fb))]) [0, 1, 2] rfl
                      have hD9 := hD.sub (ws' := [(h0, .inr (5, [.ref ta, .int (nI s1_115), .int (nI e1_116)])), (ta, .inr (6, [.ref ab, .int (nI tp)])), (ab, .inl (cB, 300, .inl fb))]) [0, 1, 2] (by decide) rfl
                      have hK9 := hK.sub (tys' := [(cB, .int)]) [0] rfl
                      refine W.widen (k := 1) (n := 6) (by omega) (by omega) ?_
                      exact W.aret (v := .null) hx hb hr (by first | exact Or.inl ⟨_, rfl⟩ | exact Or.inr ⟨_, rfl⟩) (Or.inl rfl) (fun t ht hW => ⟨⟨none, [], rfl, Or.inl ⟨rfl, rfl⟩, s1_115, e1_116, (by omega), (by omega), (by assumption), by rw [ht]; exact hP9, va_K.moved hW.alike hK9, hD9⟩, hS.F ht⟩) hS.2.2 dX4_readLine_169
                    · obtain ⟨hP, hD⟩ := va_join (wr := []) (w1 := [(h0, .inr (5, [.ref ta, .int (nI s1_115), .int (nI e1_116)])), (ta, .inr (6, [.ref ab, .int (nI tp)])), (ab, .inl (cB, 300, .inl fb)), (q_120, .inr (3, [.int kd_122, .int pe_123, .int ot_124, .int (nI tt_121), .int dy_125, .long gr_126]))]) hP hD [0, 1, 2] [] rfl rfl (by decide) (by decide) hk1 hFc hP1 hD1
                      generalize H1 = H at hP hS ⊢
                      have hP : va_P (dC, dI) vwCl [(h0, .inr (5, [.ref ta, .int (nI s1_115), .int (nI e1_116)])), (ta, .inr (6, [.ref ab, .int (nI tp)])), (ab, .inl (cB, 300, .inl fb)), (q_120, .inr (3, [.int kd_122, .int pe_123, .int ot_124, .int (nI tt_121), .int dy_125, .long gr_126]))] H := hP
                      have hD : va_D A [(h0, .inr (5, [.ref ta, .int (nI s1_115), .int (nI e1_116)])), (ta, .inr (6, [.ref ab, .int (nI tp)])), (ab, .inl (cB, 300, .inl fb)), (q_120, .inr (3, [.int kd_122, .int pe_123, .int ot_124, .int (nI tt_121), .int dy_125, .long gr_126]))] := hD
                      refine W.widen (k := 1) (n := 6) (by omega) (by omega) ?_
                      refine W.eq (g2 := F0 m 165 ls [.ref q_120]) rfl ?_
                      refine lv_goto (tgt := 169) hx hb dX4_readLine_165 (by decide) ?_
                      have hP9 := hP.sub (ws' := [(h0, .inr (5, [.ref ta, .int (nI s1_115), .int (nI e1_116)])), (ta, .inr (6, [.ref ab, .int (nI tp)])), (ab, .inl (cB, 300, .inl fb)), (q_120, .inr (3, [.int kd_122, .int pe_123, .int ot_124, .int (nI tt_121), .int dy_125, .long gr_126]))]) [0, 1, 2, 3] rfl
                      have hD9 := hD.sub (ws' := [(h0, .inr (5, [.ref ta, .int (nI s1_115), .int (nI e1_116)])), (ta, .inr (6, [.ref ab, .int (nI tp)])), (ab, .inl (cB, 300, .inl fb)), (q_120, .inr (3, [.int kd_122, .int pe_123, .int ot_124, .int (nI tt_121), .int dy_125, .long gr_126]))]) [0, 1, 2, 3] (by decide) rfl
                      have hK9 := hK.sub (tys' := [(cB, .int)]) [0] rfl
                      refine W.widen (k := 1) (n := 6) (by omega) (by omega) ?_
                      exact W.aret (v := .ref q_120) hx hb hr (by first | exact Or.inl ⟨_, rfl⟩ | exact Or.inr ⟨_, rfl⟩) (Or.inr ⟨_, rfl⟩) (fun t ht hW => ⟨⟨some q_120, [(q_120, .inr (3, [.int kd_122, .int pe_123, .int ot_124, .int (nI tt_121), .int dy_125, .long gr_126]))], rfl, Or.inr ⟨q_120, tt_121, kd_122, pe_123, ot_124, dy_125, gr_126, rfl, rfl, hl_127, hk_128, (Nat.le_trans hz_114 hq_129)⟩, s1_115, e1_116, (by omega), (by omega), (by assumption), by rw [ht]; exact hP9, va_K.moved hW.alike hK9, hD9⟩, hS.F ht⟩) hS.2.2 dX4_readLine_169
                · refine lv_aload_n hx hb dX4_readLine_144 rfl (lv_at hl 1 rfl) ?_
                  refine lv_iload_n hx hb dX4_readLine_145 rfl (lv_at hl 0 rfl) ?_
                  have hPc := hP.sub (ws' := [(h0, .inr (5, [.ref ta, .int (nI s1_94), .int (nI e1_95)])), (ta, .inr (6, [.ref ab, .int (nI tp)])), (ab, .inl (cB, 300, .inl fb))]) [0, 1, 2] rfl
                  have hDc := hD.sub (ws' := [(h0, .inr (5, [.ref ta, .int (nI s1_94), .int (nI e1_95)])), (ta, .inr (6, [.ref ab, .int (nI tp)])), (ab, .inl (cB, 300, .inl fb))]) [0, 1, 2] (by decide) rfl
                  have hKc := hK.sub (tys' := [(cB, .int)]) [0] rfl
                  have hFc := va_free (wc := [(h0, .inr (5, [.ref ta, .int (nI s1_94), .int (nI e1_95)])), (ta, .inr (6, [.ref ab, .int (nI tp)])), (ab, .inl (cB, 300, .inl fb))]) hD hS hA [0, 1, 2] rfl
                  have hz_131 := hS.1
                  refine va_callq (va_runV (As := [.int (nI n_34)]) (rest := []) ⟨hx, hb, hml, hown, hts⟩ (c_R_readSaying l dC dI _ h0 ta s1_94 e1_95 ab tp cB fb (nI n_34) zo (by omega) (by omega) (by omega) (by assumption) ⟨n_34, by omega, rfl⟩) (cwV 1 hts gc_R_readLine_R_readSaying rfl rfl rfl (by decide +kernel) ⟨Nat.le_of_ble_eq_true rfl, Nat.le_of_ble_eq_true rfl⟩) ⟨fun a U g mk q => by obtain ⟨q0, q1, qP, qK, qD, q_hE, q_nw4b⟩ := q; exact ⟨q0, q1, qP, va_K.moved (u := U) (U := U.calling g mk a) (Vm.Alike.refl U.vm) qK, qD, okEnv.same rfl q_hE, va_Nw.same rfl rfl q_nw4b⟩, va_recv hKc hPc (ci := 5) (q0 := 0) rfl rfl, fun U hU hW => ⟨rfl, by rw [hU], by rw [hU]; exact hPc, va_K.moved hW.alike hKc, hDc.weaken (fun _ _ _ _ => trivial), by rw [hU]; exact okEnv.pass hE hW hS hFc, va_Nw.warmM hW nw4b⟩⟩ rfl rfl hl.1 rfl (lv_room (Nat.le_of_ble_eq_true rfl)) dX4_readLine_146 ⟨by decide, by decide⟩) hS (fun q _ h => hFc q h) hFc (fun r_130 u t H1 locs ht hvm hw hB hz1 hk1 hS => ?_)
                  obtain ⟨s1_132, e1_133, hf_134, hf_135, hf_136, hP1, hK1, hD1⟩ := hB
                  rw [ht] at hP1
                  rcases hw with ⟨rfl, rfl⟩ | ⟨q_137, tt_138, kd_139, pe_140, ot_141, dy_142, gr_143, rfl, rfl, hl_144, hk_145, hq_146⟩
                  · obtain ⟨hP, hD⟩ := va_join (wr := []) (w1 := [(h0, .inr (5, [.ref ta, .int (nI s1_132), .int (nI e1_133)])), (ta, .inr (6, [.ref ab, .int (nI tp)])), (ab, .inl (cB, 300, .inl fb))]) hP hD [0, 1, 2] [] rfl rfl (by decide) (by decide) hk1 hFc hP1 hD1
                    generalize H1 = H at hP hS ⊢
                    have hP : va_P (dC, dI) vwCl [(h0, .inr (5, [.ref ta, .int (nI s1_132), .int (nI e1_133)])), (ta, .inr (6, [.ref ab, .int (nI tp)])), (ab, .inl (cB, 300, .inl fb))] H := hP
                    have hD : va_D A [(h0, .inr (5, [.ref ta, .int (nI s1_132), .int (nI e1_133)])), (ta, .inr (6, [.ref ab, .int (nI tp)])), (ab, .inl (cB, 300, .inl fb))] := hD
                    refine W.widen (k := 1) (n := 6) (by omega) (by omega) ?_
                    refine W.eq (g2 := F0 m 149 ls [.null]) rfl ?_
                    have hP9 := hP.sub (ws' := [(h0, .inr (5, [.ref ta, .int (nI s1_132), .int (nI e1_133)])), (ta, .inr (6, [.ref ab, .int (nI tp)])), (ab, .inl (cB, 300, .inl fb))]) [0, 1, 2] rfl
                    have hD9 := hD.sub (ws' := [(h0, .inr (5, [.ref ta, .int (nI s1_132), .int (nI e1_133)])), (ta, .inr (6, [.ref ab, .int (nI tp)])), (ab, .inl (cB, 300, .inl fb))]) [0, 1, 2] (by decide) rfl
                    have hK9 := hK.sub (tys' := [(cB, .int)]) [0] rfl
                    refine W.widen (k := 1) (n := 6) (by omega) (by omega) ?_
                    exact W.aret (v := .null) hx hb hr (by first | exact Or.inl ⟨_, rfl⟩ | exact Or.inr ⟨_, rfl⟩) (Or.inl rfl) (fun t ht hW => ⟨⟨none, [], rfl, Or.inl ⟨rfl, rfl⟩, s1_132, e1_133, (by omega), (by omega), (by assumption), by rw [ht]; exact hP9, va_K.moved hW.alike hK9, hD9⟩, hS.F ht⟩) hS.2.2 dX4_readLine_149
                  · obtain ⟨hP, hD⟩ := va_join (wr := []) (w1 := [(h0, .inr (5, [.ref ta, .int (nI s1_132), .int (nI e1_133)])), (ta, .inr (6, [.ref ab, .int (nI tp)])), (ab, .inl (cB, 300, .inl fb)), (q_137, .inr (3, [.int kd_139, .int pe_140, .int ot_141, .int (nI tt_138), .int dy_142, .long gr_143]))]) hP hD [0, 1, 2] [] rfl rfl (by decide) (by decide) hk1 hFc hP1 hD1
                    generalize H1 = H at hP hS ⊢
                    have hP : va_P (dC, dI) vwCl [(h0, .inr (5, [.ref ta, .int (nI s1_132), .int (nI e1_133)])), (ta, .inr (6, [.ref ab, .int (nI tp)])), (ab, .inl (cB, 300, .inl fb)), (q_137, .inr (3, [.int kd_139, .int pe_140, .int ot_141, .int (nI tt_138), .int dy_142, .long gr_143]))] H := hP
                    have hD : va_D A [(h0, .inr (5, [.ref ta, .int (nI s1_132), .int (nI e1_133)])), (ta, .inr (6, [.ref ab, .int (nI tp)])), (ab, .inl (cB, 300, .inl fb)), (q_137, .inr (3, [.int kd_139, .int pe_140, .int ot_141, .int (nI tt_138), .int dy_142, .long gr_143]))] := hD
                    refine W.widen (k := 1) (n := 6) (by omega) (by omega) ?_
                    refine W.eq (g2 := F0 m 149 ls [.ref q_137]) rfl ?_
                    have hP9 := hP.sub (ws' := [(h0, .inr (5, [.ref ta, .int (nI s1_132), .int (nI e1_133)])), (ta, .inr (6, [.ref ab, .int (nI tp)])), (ab, .inl (cB, 300, .inl fb)), (q_137, .inr (3, [.int kd_139, .int pe_140, .int ot_141, .int (nI tt_138), .int dy_142, .long gr_143]))]) [0, 1, 2, 3] rfl
                    have hD9 := hD.sub (ws' := [(h0, .inr (5, [.ref ta, .int (nI s1_132), .int (nI e1_133)])), (ta, .inr (6, [.ref ab, .int (nI tp)])), (ab, .inl (cB, 300, .inl fb)), (q_137, .inr (3, [.int kd_139, .int pe_140, .int ot_141, .int (nI tt_138), .int dy_142, .long gr_143]))]) [0, 1, 2, 3] (by decide) rfl
                    have hK9 := hK.sub (tys' := [(cB, .int)]) [0] rfl
                    refine W.widen (k := 1) (n := 6) (by omega) (by omega) ?_
                    exact W.aret (v := .ref q_137) hx hb hr (by first | exact Or.inl ⟨_, rfl⟩ | exact Or.inr ⟨_, rfl⟩) (Or.inr ⟨_, rfl⟩) (fun t ht hW => ⟨⟨some q_137, [(q_137, .inr (3, [.int kd_139, .int pe_140, .int ot_141, .int (nI tt_138), .int dy_142, .long gr_143]))], rfl, Or.inr ⟨q_137, tt_138, kd_139, pe_140, ot_141, dy_142, gr_143, rfl, rfl, hl_144, hk_145, (Nat.le_trans hz_131 hq_146)⟩, s1_132, e1_133, (by omega), (by omega), (by assumption), by rw [ht]; exact hP9, va_K.moved hW.alike hK9, hD9⟩, hS.F ht⟩) hS.2.2 dX4_readLine_149
              · refine lv_aload_n hx hb dX4_readLine_128 rfl (lv_at hl 1 rfl) ?_
                refine lv_iconst (v := 3) hx hb dX4_readLine_129 (by decide) ?_
                refine lv_iload_n hx hb dX4_readLine_130 rfl (lv_at hl 0 rfl) ?_
                have hPc := hP.sub (ws' := [(h0, .inr (5, [.ref ta, .int (nI s1_81), .int (nI e1_82)])), (ta, .inr (6, [.ref ab, .int (nI tp)])), (ab, .inl (cB, 300, .inl fb))]) [0, 1, 2] rfl
                have hDc := hD.sub (ws' := [(h0, .inr (5, [.ref ta, .int (nI s1_81), .int (nI e1_82)])), (ta, .inr (6, [.ref ab, .int (nI tp)])), (ab, .inl (cB, 300, .inl fb))]) [0, 1, 2] (by decide) rfl
                have hKc := hK.sub (tys' := [(cB, .int)]) [0] rfl
                have hFc := va_free (wc := [(h0, .inr (5, [.ref ta, .int (nI s1_81), .int (nI e1_82)])), (ta, .inr (6, [.ref ab, .int (nI tp)])), (ab, .inl (cB, 300, .inl fb))]) hD hS hA [0, 1, 2] rfl
                have hz_148 := hS.1
                refine va_callq (va_runV (As := [.int 3, .int (nI n_34)]) (rest := []) ⟨hx, hb, hml, hown, hts⟩ (c_R_readThing l dC dI _ h0 ta s1_81 e1_82 ab tp cB fb 3 (nI n_34) zo (by omega) (by omega) (by omega) (by assumption) (okLn_a (by decide) ⟨n_34, by omega, rfl⟩)) (cwV 2 hts gc_R_readLine_R_readThing rfl rfl rfl (by decide +kernel) ⟨Nat.le_of_ble_eq_true rfl, Nat.le_of_ble_eq_true rfl⟩) ⟨fun a U g mk q => by obtain ⟨q0, q1, qP, qK, qD, q_hE⟩ := q; exact ⟨q0, q1, qP, va_K.moved (u := U) (U := U.calling g mk a) (Vm.Alike.refl U.vm) qK, qD, okEnv.same rfl q_hE⟩, va_recv hKc hPc (ci := 5) (q0 := 0) rfl rfl, fun U hU hW => ⟨rfl, by rw [hU], by rw [hU]; exact hPc, va_K.moved hW.alike hKc, hDc.weaken (fun _ _ _ _ => trivial), by rw [hU]; exact okEnv.pass hE hW hS hFc⟩⟩ rfl rfl hl.1 rfl (lv_room (Nat.le_of_ble_eq_true rfl)) dX4_readLine_131 ⟨by decide, by decide⟩) hS (fun q _ h => hFc q h) hFc (fun r_147 u t H1 locs ht hvm hw hB hz1 hk1 hS => ?_)
                obtain ⟨s1_149, e1_150, hf_151, hf_152, hf_153, hP1, hK1, hD1⟩ := hB
                rw [ht] at hP1
                rcases hw with ⟨rfl, rfl⟩ | ⟨q_154, tt_155, kd_156, pe_157, ot_158, dy_159, gr_160, rfl, rfl, hl_161, hk_162, hq_163⟩
                · obtain ⟨hP, hD⟩ := va_join (wr := []) (w1 := [(h0, .inr (5, [.ref ta, .int (nI s1_149), .int (nI e1_150)])), (ta, .inr (6, [.ref ab, .int (nI tp)])), (ab, .inl (cB, 300, .inl fb))]) hP hD [0, 1, 2] [] rfl rfl (by decide) (by decide) hk1 hFc hP1 hD1
                  generalize H1 = H at hP hS ⊢
                  have hP : va_P (dC, dI) vwCl [(h0, .inr (5, [.ref ta, .int (nI s1_149), .int (nI e1_150)])), (ta, .inr (6, [.ref ab, .int (nI tp)])), (ab, .inl (cB, 300, .inl fb))] H := hP
                  have hD : va_D A [(h0, .inr (5, [.ref ta, .int (nI s1_149), .int (nI e1_150)])), (ta, .inr (6, [.ref ab, .int (nI tp)])), (ab, .inl (cB, 300, .inl fb))] := hD
                  refine W.widen (k := 1) (n := 6) (by omega) (by omega) ?_
                  refine W.eq (g2 := F0 m 134 ls [.null]) rfl ?_
                  have hP9 := hP.sub (ws' := [(h0, .inr (5, [.ref ta, .int (nI s1_149), .int (nI e1_150)])), (ta, .inr (6, [.ref ab, .int (nI tp)])), (ab, .inl (cB, 300, .inl fb))]) [0, 1, 2] rfl
                  have hD9 := hD.sub (ws' := [(h0, .inr (5, [.ref ta, .int (nI s1_149), .int (nI e1_150)])), (ta, .inr (6, [.ref ab, .int (nI tp)])), (ab, .inl (cB, 300, .inl fb))]) [0, 1, 2] (by decide) rfl
                  have hK9 := hK.sub (tys' := [(cB, .int)]) [0] rfl
                  refine W.widen (k := 1) (n := 6) (by omega) (by omega) ?_
                  exact W.aret (v := .null) hx hb hr (by first | exact Or.inl ⟨_, rfl⟩ | exact Or.inr ⟨_, rfl⟩) (Or.inl rfl) (fun t ht hW => ⟨⟨none, [], rfl, Or.inl ⟨rfl, rfl⟩, s1_149, e1_150, (by omega), (by omega), (by assumption), by rw [ht]; exact hP9, va_K.moved hW.alike hK9, hD9⟩, hS.F ht⟩) hS.2.2 dX4_readLine_134
                · obtain ⟨hP, hD⟩ := va_join (wr := []) (w1 := [(h0, .inr (5, [.ref ta, .int (nI s1_149), .int (nI e1_150)])), (ta, .inr (6, [.ref ab, .int (nI tp)])), (ab, .inl (cB, 300, .inl fb)), (q_154, .inr (3, [.int kd_156, .int pe_157, .int ot_158, .int (nI tt_155), .int dy_159, .long gr_160]))]) hP hD [0, 1, 2] [] rfl rfl (by decide) (by decide) hk1 hFc hP1 hD1
                  generalize H1 = H at hP hS ⊢
                  have hP : va_P (dC, dI) vwCl [(h0, .inr (5, [.ref ta, .int (nI s1_149), .int (nI e1_150)])), (ta, .inr (6, [.ref ab, .int (nI tp)])), (ab, .inl (cB, 300, .inl fb)), (q_154, .inr (3, [.int kd_156, .int pe_157, .int ot_158, .int (nI tt_155), .int dy_159, .long gr_160]))] H := hP
                  have hD : va_D A [(h0, .inr (5, [.ref ta, .int (nI s1_149), .int (nI e1_150)])), (ta, .inr (6, [.ref ab, .int (nI tp)])), (ab, .inl (cB, 300, .inl fb)), (q_154, .inr (3, [.int kd_156, .int pe_157, .int ot_158, .int (nI tt_155), .int dy_159, .long gr_160]))] := hD
                  refine W.widen (k := 1) (n := 6) (by omega) (by omega) ?_
                  refine W.eq (g2 := F0 m 134 ls [.ref q_154]) rfl ?_
                  have hP9 := hP.sub (ws' := [(h0, .inr (5, [.ref ta, .int (nI s1_149), .int (nI e1_150)])), (ta, .inr (6, [.ref ab, .int (nI tp)])), (ab, .inl (cB, 300, .inl fb)), (q_154, .inr (3, [.int kd_156, .int pe_157, .int ot_158, .int (nI tt_155), .int dy_159, .long gr_160]))]) [0, 1, 2, 3] rfl
                  have hD9 := hD.sub (ws' := [(h0, .inr (5, [.ref ta, .int (nI s1_149), .int (nI e1_150)])), (ta, .inr (6, [.ref ab, .int (nI tp)])), (ab, .inl (cB, 300, .inl fb)), (q_154, .inr (3, [.int kd_156, .int pe_157, .int ot_158, .int (nI tt_155), .int dy_159, .long gr_160]))]) [0, 1, 2, 3] (by decide) rfl
                  have hK9 := hK.sub (tys' := [(cB, .int)]) [0] rfl
                  refine W.widen (k := 1) (n := 6) (by omega) (by omega) ?_
                  exact W.aret (v := .ref q_154) hx hb hr (by first | exact Or.inl ⟨_, rfl⟩ | exact Or.inr ⟨_, rfl⟩) (Or.inr ⟨_, rfl⟩) (fun t ht hW => ⟨⟨some q_154, [(q_154, .inr (3, [.int kd_156, .int pe_157, .int ot_158, .int (nI tt_155), .int dy_159, .long gr_160]))], rfl, Or.inr ⟨q_154, tt_155, kd_156, pe_157, ot_158, dy_159, gr_160, rfl, rfl, hl_161, hk_162, (Nat.le_trans hz_148 hq_163)⟩, s1_149, e1_150, (by omega), (by omega), (by assumption), by rw [ht]; exact hP9, va_K.moved hW.alike hK9, hD9⟩, hS.F ht⟩) hS.2.2 dX4_readLine_134
            · refine lv_aload_n hx hb dX4_readLine_112 rfl (lv_at hl 1 rfl) ?_
              refine lv_iconst (v := 2) hx hb dX4_readLine_113 (by decide) ?_
              refine lv_iload_n hx hb dX4_readLine_114 rfl (lv_at hl 0 rfl) ?_
              have hPc := hP.sub (ws' := [(h0, .inr (5, [.ref ta, .int (nI s1_68), .int (nI e1_69)])), (ta, .inr (6, [.ref ab, .int (nI tp)])), (ab, .inl (cB, 300, .inl fb))]) [0, 1, 2] rfl
              have hDc := hD.sub (ws' := [(h0, .inr (5, [.ref ta, .int (nI s1_68), .int (nI e1_69)])), (ta, .inr (6, [.ref ab, .int (nI tp)])), (ab, .inl (cB, 300, .inl fb))]) [0, 1, 2] (by decide) rfl
              have hKc := hK.sub (tys' := [(cB, .int)]) [0] rfl
              have hFc := va_free (wc := [(h0, .inr (5, [.ref ta, .int (nI s1_68), .int (nI e1_69)])), (ta, .inr (6, [.ref ab, .int (nI tp)])), (ab, .inl (cB, 300, .inl fb))]) hD hS hA [0, 1, 2] rfl
              have hz_165 := hS.1
              refine va_callq (va_runV (As := [.int 2, .int (nI n_34)]) (rest := []) ⟨hx, hb, hml, hown, hts⟩ (c_R_readThing l dC dI _ h0 ta s1_68 e1_69 ab tp cB fb 2 (nI n_34) zo (by omega) (by omega) (by omega) (by assumption) (okLn_a (by decide) ⟨n_34, by omega, rfl⟩)) (cwV 2 hts gc_R_readLine_R_readThing rfl rfl rfl (by decide +kernel) ⟨Nat.le_of_ble_eq_true rfl, Nat.le_of_ble_eq_true rfl⟩) ⟨fun a U g mk q => by obtain ⟨q0, q1, qP, qK, qD, q_hE⟩ := q; exact ⟨q0, q1, qP, va_K.moved (u := U) (U := U.calling g mk a) (Vm.Alike.refl U.vm) qK, qD, okEnv.same rfl q_hE⟩, va_recv hKc hPc (ci := 5) (q0 := 0) rfl rfl, fun U hU hW => ⟨rfl, by rw [hU], by rw [hU]; exact hPc, va_K.moved hW.alike hKc, hDc.weaken (fun _ _ _ _ => trivial), by rw [hU]; exact okEnv.pass hE hW hS hFc⟩⟩ rfl rfl hl.1 rfl (lv_room (Nat.le_of_ble_eq_true rfl)) dX4_readLine_115 ⟨by decide, by decide⟩) hS (fun q _ h => hFc q h) hFc (fun r_164 u t H1 locs ht hvm hw hB hz1 hk1 hS => ?_)
              obtain ⟨s1_166, e1_167, hf_168, hf_169, hf_170, hP1, hK1, hD1⟩ := hB
              rw [ht] at hP1
              rcases hw with ⟨rfl, rfl⟩ | ⟨q_171, tt_172, kd_173, pe_174, ot_175, dy_176, gr_177, rfl, rfl, hl_178, hk_179, hq_180⟩
              · obtain ⟨hP, hD⟩ := va_join (wr := []) (w1 := [(h0, .inr (5, [.ref ta, .int (nI s1_166), .int (nI e1_167)])), (ta, .inr (6, [.ref ab, .int (nI tp)])), (ab, .inl (cB, 300, .inl fb))]) hP hD [0, 1, 2] [] rfl rfl (by decide) (by decide) hk1 hFc hP1 hD1
                generalize H1 = H at hP hS ⊢
                have hP : va_P (dC, dI) vwCl [(h0, .inr (5, [.ref ta, .int (nI s1_166), .int (nI e1_167)])), (ta, .inr (6, [.ref ab, .int (nI tp)])), (ab, .inl (cB, 300, .inl fb))] H := hP
                have hD : va_D A [(h0, .inr (5, [.ref ta, .int (nI s1_166), .int (nI e1_167)])), (ta, .inr (6, [.ref ab, .int (nI tp)])), (ab, .inl (cB, 300, .inl fb))] := hD
                refine W.widen (k := 1) (n := 6) (by omega) (by omega) ?_
                refine W.eq (g2 := F0 m 118 ls [.null]) rfl ?_
                have hP9 := hP.sub (ws' := [(h0, .inr (5, [.ref ta, .int (nI s1_166), .int (nI e1_167)])), (ta, .inr (6, [.ref ab, .int (nI tp)])), (ab, .inl (cB, 300, .inl fb))]) [0, 1, 2] rfl
                have hD9 := hD.sub (ws' := [(h0, .inr (5, [.ref ta, .int (nI s1_166), .int (nI e1_167)])), (ta, .inr (6, [.ref ab, .int (nI tp)])), (ab, .inl (cB, 300, .inl fb))]) [0, 1, 2] (by decide) rfl
                have hK9 := hK.sub (tys' := [(cB, .int)]) [0] rfl
                refine W.widen (k := 1) (n := 6) (by omega) (by omega) ?_
                exact W.aret (v := .null) hx hb hr (by first | exact Or.inl ⟨_, rfl⟩ | exact Or.inr ⟨_, rfl⟩) (Or.inl rfl) (fun t ht hW => ⟨⟨none, [], rfl, Or.inl ⟨rfl, rfl⟩, s1_166, e1_167, (by omega), (by omega), (by assumption), by rw [ht]; exact hP9, va_K.moved hW.alike hK9, hD9⟩, hS.F ht⟩) hS.2.2 dX4_readLine_118
              · obtain ⟨hP, hD⟩ := va_join (wr := []) (w1 := [(h0, .inr (5, [.ref ta, .int (nI s1_166), .int (nI e1_167)])), (ta, .inr (6, [.ref ab, .int (nI tp)])), (ab, .inl (cB, 300, .inl fb)), (q_171, .inr (3, [.int kd_173, .int pe_174, .int ot_175, .int (nI tt_172), .int dy_176, .long gr_177]))]) hP hD [0, 1, 2] [] rfl rfl (by decide) (by decide) hk1 hFc hP1 hD1
                generalize H1 = H at hP hS ⊢
                have hP : va_P (dC, dI) vwCl [(h0, .inr (5, [.ref ta, .int (nI s1_166), .int (nI e1_167)])), (ta, .inr (6, [.ref ab, .int (nI tp)])), (ab, .inl (cB, 300, .inl fb)), (q_171, .inr (3, [.int kd_173, .int pe_174, .int ot_175, .int (nI tt_172), .int dy_176, .long gr_177]))] H := hP
                have hD : va_D A [(h0, .inr (5, [.ref ta, .int (nI s1_166), .int (nI e1_167)])), (ta, .inr (6, [.ref ab, .int (nI tp)])), (ab, .inl (cB, 300, .inl fb)), (q_171, .inr (3, [.int kd_173, .int pe_174, .int ot_175, .int (nI tt_172), .int dy_176, .long gr_177]))] := hD
                refine W.widen (k := 1) (n := 6) (by omega) (by omega) ?_
                refine W.eq (g2 := F0 m 118 ls [.ref q_171]) rfl ?_
                have hP9 := hP.sub (ws' := [(h0, .inr (5, [.ref ta, .int (nI s1_166), .int (nI e1_167)])), (ta, .inr (6, [.ref ab, .int (nI tp)])), (ab, .inl (cB, 300, .inl fb)), (q_171, .inr (3, [.int kd_173, .int pe_174, .int ot_175, .int (nI tt_172), .int dy_176, .long gr_177]))]) [0, 1, 2, 3] rfl
                have hD9 := hD.sub (ws' := [(h0, .inr (5, [.ref ta, .int (nI s1_166), .int (nI e1_167)])), (ta, .inr (6, [.ref ab, .int (nI tp)])), (ab, .inl (cB, 300, .inl fb)), (q_171, .inr (3, [.int kd_173, .int pe_174, .int ot_175, .int (nI tt_172), .int dy_176, .long gr_177]))]) [0, 1, 2, 3] (by decide) rfl
                have hK9 := hK.sub (tys' := [(cB, .int)]) [0] rfl
                refine W.widen (k := 1) (n := 6) (by omega) (by omega) ?_
                exact W.aret (v := .ref q_171) hx hb hr (by first | exact Or.inl ⟨_, rfl⟩ | exact Or.inr ⟨_, rfl⟩) (Or.inr ⟨_, rfl⟩) (fun t ht hW => ⟨⟨some q_171, [(q_171, .inr (3, [.int kd_173, .int pe_174, .int ot_175, .int (nI tt_172), .int dy_176, .long gr_177]))], rfl, Or.inr ⟨q_171, tt_172, kd_173, pe_174, ot_175, dy_176, gr_177, rfl, rfl, hl_178, hk_179, (Nat.le_trans hz_165 hq_180)⟩, s1_166, e1_167, (by omega), (by omega), (by assumption), by rw [ht]; exact hP9, va_K.moved hW.alike hK9, hD9⟩, hS.F ht⟩) hS.2.2 dX4_readLine_118
          · refine lv_aload_n hx hb dX4_readLine_95 rfl (lv_at hl 1 rfl) ?_
            refine lv_iconst (v := 1) hx hb dX4_readLine_96 (by decide) ?_
            refine lv_iload_n hx hb dX4_readLine_97 rfl (lv_at hl 0 rfl) ?_
            refine lv_iconst (v := (-1)) hx hb dX4_readLine_98 (by decide) ?_
            have hPc := hP.sub (ws' := [(h0, .inr (5, [.ref ta, .int (nI s1_55), .int (nI e1_56)])), (ta, .inr (6, [.ref ab, .int (nI tp)])), (ab, .inl (cB, 300, .inl fb))]) [0, 1, 2] rfl
            have hDc := hD.sub (ws' := [(h0, .inr (5, [.ref ta, .int (nI s1_55), .int (nI e1_56)])), (ta, .inr (6, [.ref ab, .int (nI tp)])), (ab, .inl (cB, 300, .inl fb))]) [0, 1, 2] (by decide) rfl
            have hKc := hK.sub (tys' := [(cB, .int)]) [0] rfl
            have hFc := va_free (wc := [(h0, .inr (5, [.ref ta, .int (nI s1_55), .int (nI e1_56)])), (ta, .inr (6, [.ref ab, .int (nI tp)])), (ab, .inl (cB, 300, .inl fb))]) hD hS hA [0, 1, 2] rfl
            have hz_182 := hS.1
            refine va_callq (va_runV (As := [.int 1, .int (nI n_34), .int (-1)]) (rest := []) ⟨hx, hb, hml, hown, hts⟩ (c_R_readDated l dC dI _ h0 ta s1_55 e1_56 ab tp cB fb 1 (nI n_34) (-1) zo (by omega) (by omega) (by omega) (by assumption) (okLn_a (by decide) ⟨n_34, by omega, rfl⟩)) (cwV 3 hts gc_R_readLine_R_readDated rfl rfl rfl (by decide +kernel) ⟨Nat.le_of_ble_eq_true rfl, Nat.le_of_ble_eq_true rfl⟩) ⟨fun a U g mk q => by obtain ⟨q0, q1, qP, qK, qD, q_hE⟩ := q; exact ⟨q0, q1, qP, va_K.moved (u := U) (U := U.calling g mk a) (Vm.Alike.refl U.vm) qK, qD, okEnv.same rfl q_hE⟩, va_recv hKc hPc (ci := 5) (q0 := 0) rfl rfl, fun U hU hW => ⟨rfl, by rw [hU], by rw [hU]; exact hPc, va_K.moved hW.alike hKc, hDc.weaken (fun _ _ _ _ => trivial), by rw [hU]; exact okEnv.pass hE hW hS hFc⟩⟩ rfl rfl hl.1 rfl (lv_room (Nat.le_of_ble_eq_true rfl)) dX4_readLine_99 ⟨by decide, by decide⟩) hS (fun q _ h => hFc q h) hFc (fun r_181 u t H1 locs ht hvm hw hB hz1 hk1 hS => ?_)
            obtain ⟨s1_183, e1_184, hf_185, hf_186, hf_187, hP1, hK1, hD1⟩ := hB
            rw [ht] at hP1
            rcases hw with ⟨rfl, rfl⟩ | ⟨q_188, tt_189, kd_190, pe_191, ot_192, dy_193, gr_194, rfl, rfl, hl_195, hk_196, hq_197⟩
            · obtain ⟨hP, hD⟩ := va_join (wr := []) (w1 := [(h0, .inr (5, [.ref ta, .int (nI s1_183), .int (nI e1_184)])), (ta, .inr (6, [.ref ab, .int (nI tp)])), (ab, .inl (cB, 300, .inl fb))]) hP hD [0, 1, 2] [] rfl rfl (by decide) (by decide) hk1 hFc hP1 hD1
              generalize H1 = H at hP hS ⊢
              have hP : va_P (dC, dI) vwCl [(h0, .inr (5, [.ref ta, .int (nI s1_183), .int (nI e1_184)])), (ta, .inr (6, [.ref ab, .int (nI tp)])), (ab, .inl (cB, 300, .inl fb))] H := hP
              have hD : va_D A [(h0, .inr (5, [.ref ta, .int (nI s1_183), .int (nI e1_184)])), (ta, .inr (6, [.ref ab, .int (nI tp)])), (ab, .inl (cB, 300, .inl fb))] := hD
              refine W.widen (k := 1) (n := 6) (by omega) (by omega) ?_
              refine W.eq (g2 := F0 m 102 ls [.null]) rfl ?_
              have hP9 := hP.sub (ws' := [(h0, .inr (5, [.ref ta, .int (nI s1_183), .int (nI e1_184)])), (ta, .inr (6, [.ref ab, .int (nI tp)])), (ab, .inl (cB, 300, .inl fb))]) [0, 1, 2] rfl
              have hD9 := hD.sub (ws' := [(h0, .inr (5, [.ref ta, .int (nI s1_183), .int (nI e1_184)])), (ta, .inr (6, [.ref ab, .int (nI tp)])), (ab, .inl (cB, 300, .inl fb))]) [0, 1, 2] (by decide) rfl
              have hK9 := hK.sub (tys' := [(cB, .int)]) [0] rfl
              refine W.widen (k := 1) (n := 6) (by omega) (by omega) ?_
              exact W.aret (v := .null) hx hb hr (by first | exact Or.inl ⟨_, rfl⟩ | exact Or.inr ⟨_, rfl⟩) (Or.inl rfl) (fun t ht hW => ⟨⟨none, [], rfl, Or.inl ⟨rfl, rfl⟩, s1_183, e1_184, (by omega), (by omega), (by assumption), by rw [ht]; exact hP9, va_K.moved hW.alike hK9, hD9⟩, hS.F ht⟩) hS.2.2 dX4_readLine_102
            · obtain ⟨hP, hD⟩ := va_join (wr := []) (w1 := [(h0, .inr (5, [.ref ta, .int (nI s1_183), .int (nI e1_184)])), (ta, .inr (6, [.ref ab, .int (nI tp)])), (ab, .inl (cB, 300, .inl fb)), (q_188, .inr (3, [.int kd_190, .int pe_191, .int ot_192, .int (nI tt_189), .int dy_193, .long gr_194]))]) hP hD [0, 1, 2] [] rfl rfl (by decide) (by decide) hk1 hFc hP1 hD1
              generalize H1 = H at hP hS ⊢
              have hP : va_P (dC, dI) vwCl [(h0, .inr (5, [.ref ta, .int (nI s1_183), .int (nI e1_184)])), (ta, .inr (6, [.ref ab, .int (nI tp)])), (ab, .inl (cB, 300, .inl fb)), (q_188, .inr (3, [.int kd_190, .int pe_191, .int ot_192, .int (nI tt_189), .int dy_193, .long gr_194]))] H := hP
              have hD : va_D A [(h0, .inr (5, [.ref ta, .int (nI s1_183), .int (nI e1_184)])), (ta, .inr (6, [.ref ab, .int (nI tp)])), (ab, .inl (cB, 300, .inl fb)), (q_188, .inr (3, [.int kd_190, .int pe_191, .int ot_192, .int (nI tt_189), .int dy_193, .long gr_194]))] := hD
              refine W.widen (k := 1) (n := 6) (by omega) (by omega) ?_
              refine W.eq (g2 := F0 m 102 ls [.ref q_188]) rfl ?_
              have hP9 := hP.sub (ws' := [(h0, .inr (5, [.ref ta, .int (nI s1_183), .int (nI e1_184)])), (ta, .inr (6, [.ref ab, .int (nI tp)])), (ab, .inl (cB, 300, .inl fb)), (q_188, .inr (3, [.int kd_190, .int pe_191, .int ot_192, .int (nI tt_189), .int dy_193, .long gr_194]))]) [0, 1, 2, 3] rfl
              have hD9 := hD.sub (ws' := [(h0, .inr (5, [.ref ta, .int (nI s1_183), .int (nI e1_184)])), (ta, .inr (6, [.ref ab, .int (nI tp)])), (ab, .inl (cB, 300, .inl fb)), (q_188, .inr (3, [.int kd_190, .int pe_191, .int ot_192, .int (nI tt_189), .int dy_193, .long gr_194]))]) [0, 1, 2, 3] (by decide) rfl
              have hK9 := hK.sub (tys' := [(cB, .int)]) [0] rfl
              refine W.widen (k := 1) (n := 6) (by omega) (by omega) ?_
              exact W.aret (v := .ref q_188) hx hb hr (by first | exact Or.inl ⟨_, rfl⟩ | exact Or.inr ⟨_, rfl⟩) (Or.inr ⟨_, rfl⟩) (fun t ht hW => ⟨⟨some q_188, [(q_188, .inr (3, [.int kd_190, .int pe_191, .int ot_192, .int (nI tt_189), .int dy_193, .long gr_194]))], rfl, Or.inr ⟨q_188, tt_189, kd_190, pe_191, ot_192, dy_193, gr_194, rfl, rfl, hl_195, hk_196, (Nat.le_trans hz_182 hq_197)⟩, s1_183, e1_184, (by omega), (by omega), (by assumption), by rw [ht]; exact hP9, va_K.moved hW.alike hK9, hD9⟩, hS.F ht⟩) hS.2.2 dX4_readLine_102
        · refine lv_aload_n hx hb dX4_readLine_55 rfl (lv_at hl 1 rfl) ?_
          have hPc := hP.sub (ws' := [(h0, .inr (5, [.ref ta, .int (nI s1_42), .int (nI e1_43)])), (ta, .inr (6, [.ref ab, .int (nI tp)])), (ab, .inl (cB, 300, .inl fb))]) [0, 1, 2] rfl
          have hDc := hD.sub (ws' := [(h0, .inr (5, [.ref ta, .int (nI s1_42), .int (nI e1_43)])), (ta, .inr (6, [.ref ab, .int (nI tp)])), (ab, .inl (cB, 300, .inl fb))]) [0, 1, 2] (by decide) rfl
          have hKc := hK.sub (tys' := [(cB, .int)]) [0] rfl
          have hFc := va_free (wc := [(h0, .inr (5, [.ref ta, .int (nI s1_42), .int (nI e1_43)])), (ta, .inr (6, [.ref ab, .int (nI tp)])), (ab, .inl (cB, 300, .inl fb))]) hD hS hA [0, 1, 2] rfl
          refine va_calli (va_runV (As := []) (rest := []) ⟨hx, hb, hml, hown, hts⟩ (c_R_takePerson l dC dI _ h0 ta s1_42 e1_43 ab tp cB fb (by omega) (by omega) (by omega) (by assumption)) (cwV 0 hts gc_R_readLine_R_takePerson rfl rfl rfl (by decide +kernel) ⟨Nat.le_of_ble_eq_true rfl, Nat.le_of_ble_eq_true rfl⟩) ⟨fun a U g mk q => by obtain ⟨q0, q1, qP, qK, qD, q_nw4p⟩ := q; exact ⟨q0, q1, qP, va_K.moved (u := U) (U := U.calling g mk a) (Vm.Alike.refl U.vm) qK, qD, va_Nw.same rfl rfl q_nw4p⟩, va_recv hKc hPc (ci := 5) (q0 := 0) rfl rfl, fun U hU hW => ⟨rfl, by rw [hU], by rw [hU]; exact hPc, va_K.moved hW.alike hKc, hDc.weaken (fun _ _ _ _ => trivial), va_Nw.warmM hW nw4p⟩⟩ rfl rfl hl.1 rfl (lv_room (Nat.le_of_ble_eq_true rfl)) dX4_readLine_56 ⟨Nat.zero_le _, Nat.zero_le _⟩) hS (fun q _ h => hFc q h) hFc (fun r_198 u t H1 locs ht hvm hw hB hz1 hk1 hS => ?_)
          obtain ⟨s1_199, e1_200, hf_201, hf_202, hf_203, hP1, hK1, hD1⟩ := hB
          rw [ht] at hP1
          obtain ⟨hP, hD⟩ := va_join (wr := []) (w1 := [(h0, .inr (5, [.ref ta, .int (nI s1_199), .int (nI e1_200)])), (ta, .inr (6, [.ref ab, .int (nI tp)])), (ab, .inl (cB, 300, .inl fb))]) hP hD [0, 1, 2] [] rfl rfl (by decide) (by decide) hk1 hFc hP1 hD1
          generalize H1 = H at hP hS ⊢
          have hP : va_P (dC, dI) vwCl [(h0, .inr (5, [.ref ta, .int (nI s1_199), .int (nI e1_200)])), (ta, .inr (6, [.ref ab, .int (nI tp)])), (ab, .inl (cB, 300, .inl fb))] H := hP
          have hD : va_D A [(h0, .inr (5, [.ref ta, .int (nI s1_199), .int (nI e1_200)])), (ta, .inr (6, [.ref ab, .int (nI tp)])), (ab, .inl (cB, 300, .inl fb))] := hD
          have hr_198 := hw
          try dsimp only at hr_198
          refine lv_istore_n (lv' := [(2, .int r_198), (1, .int (nI n_34)), (0, .ref h0)]) hx hb dX4_readLine_59 rfl hl (by decide) rfl (fun ls hl => ?_)
          refine lv_iload_n hx hb dX4_readLine_60 rfl (lv_at hl 0 rfl) ?_
          refine lv_iconst (v := (-1)) hx hb dX4_readLine_61 (by decide) ?_
          refine lv_icmp_eq (tgt := 84) hx hb dX4_readLine_62 (by decide) (fun c_204 => ?_) (fun c_204 => ?_)
          · refine lv_null hx hb dX4_readLine_84 ?_
            have hP9 := hP.sub (ws' := [(h0, .inr (5, [.ref ta, .int (nI s1_199), .int (nI e1_200)])), (ta, .inr (6, [.ref ab, .int (nI tp)])), (ab, .inl (cB, 300, .inl fb))]) [0, 1, 2] rfl
            have hD9 := hD.sub (ws' := [(h0, .inr (5, [.ref ta, .int (nI s1_199), .int (nI e1_200)])), (ta, .inr (6, [.ref ab, .int (nI tp)])), (ab, .inl (cB, 300, .inl fb))]) [0, 1, 2] (by decide) rfl
            have hK9 := hK.sub (tys' := [(cB, .int)]) [0] rfl
            refine W.widen (k := 1) (n := 6) (by omega) (by omega) ?_
            exact W.aret (v := .null) hx hb hr (by first | exact Or.inl ⟨_, rfl⟩ | exact Or.inr ⟨_, rfl⟩) (Or.inl rfl) (fun t ht hW => ⟨⟨none, [], rfl, Or.inl ⟨rfl, rfl⟩, s1_199, e1_200, (by omega), (by omega), (by assumption), by rw [ht]; exact hP9, va_K.moved hW.alike hK9, hD9⟩, hS.F ht⟩) hS.2.2 dX4_readLine_85
          · obtain ⟨n_205, hn_205, en_205⟩ : ∃ n, n < 12 ∧ r_198 = nI n := by
              rcases hr_198 with h | h
              · exact absurd h c_204
              · exact h
            subst en_205
            refine lv_aload_n hx hb dX4_readLine_65 rfl (lv_at hl 2 rfl) ?_
            obtain ⟨sa_206, sv_207, sn_208, sf_209, hR_210, hs_211⟩ := hE.2.2 (62, "for") (by decide)
            refine va_ldcS hx hb hown hR_210 dX4_readLine_66 ?_
            have hPc := hP.sub (ws' := [(h0, .inr (5, [.ref ta, .int (nI s1_199), .int (nI e1_200)])), (ta, .inr (6, [.ref ab, .int (nI tp)])), (ab, .inl (cB, 300, .inl fb))]) [0, 1, 2] rfl
            have hDc := hD.sub (ws' := [(h0, .inr (5, [.ref ta, .int (nI s1_199), .int (nI e1_200)])), (ta, .inr (6, [.ref ab, .int (nI tp)])), (ab, .inl (cB, 300, .inl fb))]) [0, 1, 2] (by decide) rfl
            have hKc := hK.sub (tys' := [(cB, .int)]) [0] rfl
            have hFc := va_free (wc := [(h0, .inr (5, [.ref ta, .int (nI s1_199), .int (nI e1_200)])), (ta, .inr (6, [.ref ab, .int (nI tp)])), (ab, .inl (cB, 300, .inl fb))]) hD hS hA [0, 1, 2] rfl
            refine va_calli (va_runV (As := [.ref sa_206]) (rest := []) ⟨hx, hb, hml, hown, hts⟩ (c_R_takeWord l dC dI _ h0 ta s1_199 e1_200 ab tp cB fb sa_206 sv_207 sn_208 sf_209 zo (by omega) (by omega) (by omega) (by assumption)) (cwV 1 hts gc_R_readLine_R_takeWord rfl rfl rfl (by decide +kernel) ⟨Nat.le_of_ble_eq_true rfl, Nat.le_of_ble_eq_true rfl⟩) ⟨fun a U g mk q => by obtain ⟨q0, q1, qP, qK, qD, q_hE, q_hs⟩ := q; exact ⟨q0, q1, qP, va_K.moved (u := U) (U := U.calling g mk a) (Vm.Alike.refl U.vm) qK, qD, okEnv.same rfl q_hE, okStr.moved (Vm.Alike.refl U.vm) q_hs⟩, va_recv hKc hPc (ci := 5) (q0 := 0) rfl rfl, fun U hU hW => ⟨rfl, by rw [hU], by rw [hU]; exact hPc, va_K.moved hW.alike hKc, hDc.weaken (fun _ _ _ _ => trivial), by rw [hU]; exact okEnv.pass hE hW hS hFc, by rw [hU]; exact okStr.pass hs_211 hW hS hFc⟩⟩ rfl rfl hl.1 rfl (lv_room (Nat.le_of_ble_eq_true rfl)) dX4_readLine_68 ⟨Nat.zero_le _, Nat.zero_le _⟩) hS (fun q _ h => hFc q h) hFc (fun r_212 u t H1 locs ht hvm hw hB hz1 hk1 hS => ?_)
            obtain ⟨s1_213, e1_214, hf_215, hf_216, hf_217, hP1, hK1, hD1⟩ := hB
            rw [ht] at hP1
            obtain ⟨hP, hD⟩ := va_join (wr := []) (w1 := [(h0, .inr (5, [.ref ta, .int (nI s1_213), .int (nI e1_214)])), (ta, .inr (6, [.ref ab, .int (nI tp)])), (ab, .inl (cB, 300, .inl fb))]) hP hD [0, 1, 2] [] rfl rfl (by decide) (by decide) hk1 hFc hP1 hD1
            generalize H1 = H at hP hS ⊢
            have hP : va_P (dC, dI) vwCl [(h0, .inr (5, [.ref ta, .int (nI s1_213), .int (nI e1_214)])), (ta, .inr (6, [.ref ab, .int (nI tp)])), (ab, .inl (cB, 300, .inl fb))] H := hP
            have hD : va_D A [(h0, .inr (5, [.ref ta, .int (nI s1_213), .int (nI e1_214)])), (ta, .inr (6, [.ref ab, .int (nI tp)])), (ab, .inl (cB, 300, .inl fb))] := hD
            have hr_212 := hw
            try dsimp only at hr_212
            refine lv_if_eq (tgt := 84) hx hb dX4_readLine_71 (by decide) (fun c_218 => ?_) (fun c_218 => ?_)
            · refine lv_null hx hb dX4_readLine_84 ?_
              have hP9 := hP.sub (ws' := [(h0, .inr (5, [.ref ta, .int (nI s1_213), .int (nI e1_214)])), (ta, .inr (6, [.ref ab, .int (nI tp)])), (ab, .inl (cB, 300, .inl fb))]) [0, 1, 2] rfl
              have hD9 := hD.sub (ws' := [(h0, .inr (5, [.ref ta, .int (nI s1_213), .int (nI e1_214)])), (ta, .inr (6, [.ref ab, .int (nI tp)])), (ab, .inl (cB, 300, .inl fb))]) [0, 1, 2] (by decide) rfl
              have hK9 := hK.sub (tys' := [(cB, .int)]) [0] rfl
              refine W.widen (k := 1) (n := 6) (by omega) (by omega) ?_
              exact W.aret (v := .null) hx hb hr (by first | exact Or.inl ⟨_, rfl⟩ | exact Or.inr ⟨_, rfl⟩) (Or.inl rfl) (fun t ht hW => ⟨⟨none, [], rfl, Or.inl ⟨rfl, rfl⟩, s1_213, e1_214, (by omega), (by omega), (by assumption), by rw [ht]; exact hP9, va_K.moved hW.alike hK9, hD9⟩, hS.F ht⟩) hS.2.2 dX4_readLine_85
            · refine lv_aload_n hx hb dX4_readLine_74 rfl (lv_at hl 2 rfl) ?_
              refine lv_iconst (v := 0) hx hb dX4_readLine_75 (by decide) ?_
              refine lv_iload_n hx hb dX4_readLine_76 rfl (lv_at hl 1 rfl) ?_
              refine lv_iload_n hx hb dX4_readLine_77 rfl (lv_at hl 0 rfl) ?_
              have hPc := hP.sub (ws' := [(h0, .inr (5, [.ref ta, .int (nI s1_213), .int (nI e1_214)])), (ta, .inr (6, [.ref ab, .int (nI tp)])), (ab, .inl (cB, 300, .inl fb))]) [0, 1, 2] rfl
              have hDc := hD.sub (ws' := [(h0, .inr (5, [.ref ta, .int (nI s1_213), .int (nI e1_214)])), (ta, .inr (6, [.ref ab, .int (nI tp)])), (ab, .inl (cB, 300, .inl fb))]) [0, 1, 2] (by decide) rfl
              have hKc := hK.sub (tys' := [(cB, .int)]) [0] rfl
              have hFc := va_free (wc := [(h0, .inr (5, [.ref ta, .int (nI s1_213), .int (nI e1_214)])), (ta, .inr (6, [.ref ab, .int (nI tp)])), (ab, .inl (cB, 300, .inl fb))]) hD hS hA [0, 1, 2] rfl
              have hz_220 := hS.1
              refine va_callq (va_runV (As := [.int 0, .int (nI n_34), .int (nI n_205)]) (rest := []) ⟨hx, hb, hml, hown, hts⟩ (c_R_readDated l dC dI _ h0 ta s1_213 e1_214 ab tp cB fb 0 (nI n_34) (nI n_205) zo (by omega) (by omega) (by omega) (by assumption) (okLn_0 ⟨n_205, by omega, rfl⟩)) (cwV 3 hts gc_R_readLine_R_readDated rfl rfl rfl (by decide +kernel) ⟨Nat.le_of_ble_eq_true rfl, Nat.le_of_ble_eq_true rfl⟩) ⟨fun a U g mk q => by obtain ⟨q0, q1, qP, qK, qD, q_hE⟩ := q; exact ⟨q0, q1, qP, va_K.moved (u := U) (U := U.calling g mk a) (Vm.Alike.refl U.vm) qK, qD, okEnv.same rfl q_hE⟩, va_recv hKc hPc (ci := 5) (q0 := 0) rfl rfl, fun U hU hW => ⟨rfl, by rw [hU], by rw [hU]; exact hPc, va_K.moved hW.alike hKc, hDc.weaken (fun _ _ _ _ => trivial), by rw [hU]; exact okEnv.pass hE hW hS hFc⟩⟩ rfl rfl hl.1 rfl (lv_room (Nat.le_of_ble_eq_true rfl)) dX4_readLine_78 ⟨by decide, by decide⟩) hS (fun q _ h => hFc q h) hFc (fun r_219 u t H1 locs ht hvm hw hB hz1 hk1 hS => ?_)
              obtain ⟨s1_221, e1_222, hf_223, hf_224, hf_225, hP1, hK1, hD1⟩ := hB
              rw [ht] at hP1
              rcases hw with ⟨rfl, rfl⟩ | ⟨q_226, tt_227, kd_228, pe_229, ot_230, dy_231, gr_232, rfl, rfl, hl_233, hk_234, hq_235⟩
              · obtain ⟨hP, hD⟩ := va_join (wr := []) (w1 := [(h0, .inr (5, [.ref ta, .int (nI s1_221), .int (nI e1_222)])), (ta, .inr (6, [.ref ab, .int (nI tp)])), (ab, .inl (cB, 300, .inl fb))]) hP hD [0, 1, 2] [] rfl rfl (by decide) (by decide) hk1 hFc hP1 hD1
                generalize H1 = H at hP hS ⊢
                have hP : va_P (dC, dI) vwCl [(h0, .inr (5, [.ref ta, .int (nI s1_221), .int (nI e1_222)])), (ta, .inr (6, [.ref ab, .int (nI tp)])), (ab, .inl (cB, 300, .inl fb))] H := hP
                have hD : va_D A [(h0, .inr (5, [.ref ta, .int (nI s1_221), .int (nI e1_222)])), (ta, .inr (6, [.ref ab, .int (nI tp)])), (ab, .inl (cB, 300, .inl fb))] := hD
                refine W.widen (k := 1) (n := 6) (by omega) (by omega) ?_
                refine W.eq (g2 := F0 m 81 ls [.null]) rfl ?_
                refine lv_goto (tgt := 85) hx hb dX4_readLine_81 (by decide) ?_
                have hP9 := hP.sub (ws' := [(h0, .inr (5, [.ref ta, .int (nI s1_221), .int (nI e1_222)])), (ta, .inr (6, [.ref ab, .int (nI tp)])), (ab, .inl (cB, 300, .inl fb))]) [0, 1, 2] rfl
                have hD9 := hD.sub (ws' := [(h0, .inr (5, [.ref ta, .int (nI s1_221), .int (nI e1_222)])), (ta, .inr (6, [.ref ab, .int (nI tp)])), (ab, .inl (cB, 300, .inl fb))]) [0, 1, 2] (by decide) rfl
                have hK9 := hK.sub (tys' := [(cB, .int)]) [0] rfl
                refine W.widen (k := 1) (n := 6) (by omega) (by omega) ?_
                exact W.aret (v := .null) hx hb hr (by first | exact Or.inl ⟨_, rfl⟩ | exact Or.inr ⟨_, rfl⟩) (Or.inl rfl) (fun t ht hW => ⟨⟨none, [], rfl, Or.inl ⟨rfl, rfl⟩, s1_221, e1_222, (by omega), (by omega), (by assumption), by rw [ht]; exact hP9, va_K.moved hW.alike hK9, hD9⟩, hS.F ht⟩) hS.2.2 dX4_readLine_85
              · obtain ⟨hP, hD⟩ := va_join (wr := []) (w1 := [(h0, .inr (5, [.ref ta, .int (nI s1_221), .int (nI e1_222)])), (ta, .inr (6, [.ref ab, .int (nI tp)])), (ab, .inl (cB, 300, .inl fb)), (q_226, .inr (3, [.int kd_228, .int pe_229, .int ot_230, .int (nI tt_227), .int dy_231, .long gr_232]))]) hP hD [0, 1, 2] [] rfl rfl (by decide) (by decide) hk1 hFc hP1 hD1
                generalize H1 = H at hP hS ⊢
                have hP : va_P (dC, dI) vwCl [(h0, .inr (5, [.ref ta, .int (nI s1_221), .int (nI e1_222)])), (ta, .inr (6, [.ref ab, .int (nI tp)])), (ab, .inl (cB, 300, .inl fb)), (q_226, .inr (3, [.int kd_228, .int pe_229, .int ot_230, .int (nI tt_227), .int dy_231, .long gr_232]))] H := hP
                have hD : va_D A [(h0, .inr (5, [.ref ta, .int (nI s1_221), .int (nI e1_222)])), (ta, .inr (6, [.ref ab, .int (nI tp)])), (ab, .inl (cB, 300, .inl fb)), (q_226, .inr (3, [.int kd_228, .int pe_229, .int ot_230, .int (nI tt_227), .int dy_231, .long gr_232]))] := hD
                refine W.widen (k := 1) (n := 6) (by omega) (by omega) ?_
                refine W.eq (g2 := F0 m 81 ls [.ref q_226]) rfl ?_
                refine lv_goto (tgt := 85) hx hb dX4_readLine_81 (by decide) ?_
                have hP9 := hP.sub (ws' := [(h0, .inr (5, [.ref ta, .int (nI s1_221), .int (nI e1_222)])), (ta, .inr (6, [.ref ab, .int (nI tp)])), (ab, .inl (cB, 300, .inl fb)), (q_226, .inr (3, [.int kd_228, .int pe_229, .int ot_230, .int (nI tt_227), .int dy_231, .long gr_232]))]) [0, 1, 2, 3] rfl
                have hD9 := hD.sub (ws' := [(h0, .inr (5, [.ref ta, .int (nI s1_221), .int (nI e1_222)])), (ta, .inr (6, [.ref ab, .int (nI tp)])), (ab, .inl (cB, 300, .inl fb)), (q_226, .inr (3, [.int kd_228, .int pe_229, .int ot_230, .int (nI tt_227), .int dy_231, .long gr_232]))]) [0, 1, 2, 3] (by decide) rfl
                have hK9 := hK.sub (tys' := [(cB, .int)]) [0] rfl
                refine W.widen (k := 1) (n := 6) (by omega) (by omega) ?_
                exact W.aret (v := .ref q_226) hx hb hr (by first | exact Or.inl ⟨_, rfl⟩ | exact Or.inr ⟨_, rfl⟩) (Or.inr ⟨_, rfl⟩) (fun t ht hW => ⟨⟨some q_226, [(q_226, .inr (3, [.int kd_228, .int pe_229, .int ot_230, .int (nI tt_227), .int dy_231, .long gr_232]))], rfl, Or.inr ⟨q_226, tt_227, kd_228, pe_229, ot_230, dy_231, gr_232, rfl, rfl, hl_233, hk_234, (Nat.le_trans hz_220 hq_235)⟩, s1_221, e1_222, (by omega), (by omega), (by assumption), by rw [ht]; exact hP9, va_K.moved hW.alike hK9, hD9⟩, hS.F ht⟩) hS.2.2 dX4_readLine_85
      · refine lv_null hx hb dX4_readLine_44 ?_
        have hP9 := hP.sub (ws' := [(h0, .inr (5, [.ref ta, .int (nI s1_28), .int (nI e1_29)])), (ta, .inr (6, [.ref ab, .int (nI tp)])), (ab, .inl (cB, 300, .inl fb))]) [0, 1, 2] rfl
        have hD9 := hD.sub (ws' := [(h0, .inr (5, [.ref ta, .int (nI s1_28), .int (nI e1_29)])), (ta, .inr (6, [.ref ab, .int (nI tp)])), (ab, .inl (cB, 300, .inl fb))]) [0, 1, 2] (by decide) rfl
        have hK9 := hK.sub (tys' := [(cB, .int)]) [0] rfl
        refine W.widen (k := 1) (n := 6) (by omega) (by omega) ?_
        exact W.aret (v := .null) hx hb hr (by first | exact Or.inl ⟨_, rfl⟩ | exact Or.inr ⟨_, rfl⟩) (Or.inl rfl) (fun t ht hW => ⟨⟨none, [], rfl, Or.inl ⟨rfl, rfl⟩, s1_28, e1_29, (by omega), (by omega), (by assumption), by rw [ht]; exact hP9, va_K.moved hW.alike hK9, hD9⟩, hS.F ht⟩) hS.2.2 dX4_readLine_45
    · refine lv_aload_n hx hb dX4_readLine_26 rfl (lv_at hl 0 rfl) ?_
      refine lv_bipush (v := 7) hx hb dX4_readLine_27 (by decide) ?_
      refine lv_iconst (v := (-1)) hx hb dX4_readLine_29 (by decide) ?_
      have hPc := hP.sub (ws' := [(h0, .inr (5, [.ref ta, .int (nI s1_21), .int (nI e1_22)])), (ta, .inr (6, [.ref ab, .int (nI tp)])), (ab, .inl (cB, 300, .inl fb))]) [0, 1, 2] rfl
      have hDc := hD.sub (ws' := [(h0, .inr (5, [.ref ta, .int (nI s1_21), .int (nI e1_22)])), (ta, .inr (6, [.ref ab, .int (nI tp)])), (ab, .inl (cB, 300, .inl fb))]) [0, 1, 2] (by decide) rfl
      have hKc := hK.sub (tys' := [(cB, .int)]) [0] rfl
      have hFc := va_free (wc := [(h0, .inr (5, [.ref ta, .int (nI s1_21), .int (nI e1_22)])), (ta, .inr (6, [.ref ab, .int (nI tp)])), (ab, .inl (cB, 300, .inl fb))]) hD hS hA [0, 1, 2] rfl
      have hz_237 := hS.1
      refine va_callq (va_runV (As := [.int 7, .int (-1)]) (rest := []) ⟨hx, hb, hml, hown, hts⟩ (c_R_readThing l dC dI _ h0 ta s1_21 e1_22 ab tp cB fb 7 (-1) zo (by omega) (by omega) (by omega) (by assumption) (okLn_7 _ _)) (cwV 2 hts gc_R_readLine_R_readThing rfl rfl rfl (by decide +kernel) ⟨Nat.le_of_ble_eq_true rfl, Nat.le_of_ble_eq_true rfl⟩) ⟨fun a U g mk q => by obtain ⟨q0, q1, qP, qK, qD, q_hE⟩ := q; exact ⟨q0, q1, qP, va_K.moved (u := U) (U := U.calling g mk a) (Vm.Alike.refl U.vm) qK, qD, okEnv.same rfl q_hE⟩, va_recv hKc hPc (ci := 5) (q0 := 0) rfl rfl, fun U hU hW => ⟨rfl, by rw [hU], by rw [hU]; exact hPc, va_K.moved hW.alike hKc, hDc.weaken (fun _ _ _ _ => trivial), by rw [hU]; exact okEnv.pass hE hW hS hFc⟩⟩ rfl rfl hl.1 rfl (lv_room (Nat.le_of_ble_eq_true rfl)) dX4_readLine_30 ⟨by decide, by decide⟩) hS (fun q _ h => hFc q h) hFc (fun r_236 u t H1 locs ht hvm hw hB hz1 hk1 hS => ?_)
      obtain ⟨s1_238, e1_239, hf_240, hf_241, hf_242, hP1, hK1, hD1⟩ := hB
      rw [ht] at hP1
      rcases hw with ⟨rfl, rfl⟩ | ⟨q_243, tt_244, kd_245, pe_246, ot_247, dy_248, gr_249, rfl, rfl, hl_250, hk_251, hq_252⟩
      · obtain ⟨hP, hD⟩ := va_join (wr := []) (w1 := [(h0, .inr (5, [.ref ta, .int (nI s1_238), .int (nI e1_239)])), (ta, .inr (6, [.ref ab, .int (nI tp)])), (ab, .inl (cB, 300, .inl fb))]) hP hD [0, 1, 2] [] rfl rfl (by decide) (by decide) hk1 hFc hP1 hD1
        generalize H1 = H at hP hS ⊢
        have hP : va_P (dC, dI) vwCl [(h0, .inr (5, [.ref ta, .int (nI s1_238), .int (nI e1_239)])), (ta, .inr (6, [.ref ab, .int (nI tp)])), (ab, .inl (cB, 300, .inl fb))] H := hP
        have hD : va_D A [(h0, .inr (5, [.ref ta, .int (nI s1_238), .int (nI e1_239)])), (ta, .inr (6, [.ref ab, .int (nI tp)])), (ab, .inl (cB, 300, .inl fb))] := hD
        refine W.widen (k := 1) (n := 6) (by omega) (by omega) ?_
        refine W.eq (g2 := F0 m 33 ls [.null]) rfl ?_
        have hP9 := hP.sub (ws' := [(h0, .inr (5, [.ref ta, .int (nI s1_238), .int (nI e1_239)])), (ta, .inr (6, [.ref ab, .int (nI tp)])), (ab, .inl (cB, 300, .inl fb))]) [0, 1, 2] rfl
        have hD9 := hD.sub (ws' := [(h0, .inr (5, [.ref ta, .int (nI s1_238), .int (nI e1_239)])), (ta, .inr (6, [.ref ab, .int (nI tp)])), (ab, .inl (cB, 300, .inl fb))]) [0, 1, 2] (by decide) rfl
        have hK9 := hK.sub (tys' := [(cB, .int)]) [0] rfl
        refine W.widen (k := 1) (n := 6) (by omega) (by omega) ?_
        exact W.aret (v := .null) hx hb hr (by first | exact Or.inl ⟨_, rfl⟩ | exact Or.inr ⟨_, rfl⟩) (Or.inl rfl) (fun t ht hW => ⟨⟨none, [], rfl, Or.inl ⟨rfl, rfl⟩, s1_238, e1_239, (by omega), (by omega), (by assumption), by rw [ht]; exact hP9, va_K.moved hW.alike hK9, hD9⟩, hS.F ht⟩) hS.2.2 dX4_readLine_33
      · obtain ⟨hP, hD⟩ := va_join (wr := []) (w1 := [(h0, .inr (5, [.ref ta, .int (nI s1_238), .int (nI e1_239)])), (ta, .inr (6, [.ref ab, .int (nI tp)])), (ab, .inl (cB, 300, .inl fb)), (q_243, .inr (3, [.int kd_245, .int pe_246, .int ot_247, .int (nI tt_244), .int dy_248, .long gr_249]))]) hP hD [0, 1, 2] [] rfl rfl (by decide) (by decide) hk1 hFc hP1 hD1
        generalize H1 = H at hP hS ⊢
        have hP : va_P (dC, dI) vwCl [(h0, .inr (5, [.ref ta, .int (nI s1_238), .int (nI e1_239)])), (ta, .inr (6, [.ref ab, .int (nI tp)])), (ab, .inl (cB, 300, .inl fb)), (q_243, .inr (3, [.int kd_245, .int pe_246, .int ot_247, .int (nI tt_244), .int dy_248, .long gr_249]))] H := hP
        have hD : va_D A [(h0, .inr (5, [.ref ta, .int (nI s1_238), .int (nI e1_239)])), (ta, .inr (6, [.ref ab, .int (nI tp)])), (ab, .inl (cB, 300, .inl fb)), (q_243, .inr (3, [.int kd_245, .int pe_246, .int ot_247, .int (nI tt_244), .int dy_248, .long gr_249]))] := hD
        refine W.widen (k := 1) (n := 6) (by omega) (by omega) ?_
        refine W.eq (g2 := F0 m 33 ls [.ref q_243]) rfl ?_
        have hP9 := hP.sub (ws' := [(h0, .inr (5, [.ref ta, .int (nI s1_238), .int (nI e1_239)])), (ta, .inr (6, [.ref ab, .int (nI tp)])), (ab, .inl (cB, 300, .inl fb)), (q_243, .inr (3, [.int kd_245, .int pe_246, .int ot_247, .int (nI tt_244), .int dy_248, .long gr_249]))]) [0, 1, 2, 3] rfl
        have hD9 := hD.sub (ws' := [(h0, .inr (5, [.ref ta, .int (nI s1_238), .int (nI e1_239)])), (ta, .inr (6, [.ref ab, .int (nI tp)])), (ab, .inl (cB, 300, .inl fb)), (q_243, .inr (3, [.int kd_245, .int pe_246, .int ot_247, .int (nI tt_244), .int dy_248, .long gr_249]))]) [0, 1, 2, 3] (by decide) rfl
        have hK9 := hK.sub (tys' := [(cB, .int)]) [0] rfl
        refine W.widen (k := 1) (n := 6) (by omega) (by omega) ?_
        exact W.aret (v := .ref q_243) hx hb hr (by first | exact Or.inl ⟨_, rfl⟩ | exact Or.inr ⟨_, rfl⟩) (Or.inr ⟨_, rfl⟩) (fun t ht hW => ⟨⟨some q_243, [(q_243, .inr (3, [.int kd_245, .int pe_246, .int ot_247, .int (nI tt_244), .int dy_248, .long gr_249]))], rfl, Or.inr ⟨q_243, tt_244, kd_245, pe_246, ot_247, dy_248, gr_249, rfl, rfl, hl_250, hk_251, (Nat.le_trans hz_237 hq_252)⟩, s1_238, e1_239, (by omega), (by omega), (by assumption), by rw [ht]; exact hP9, va_K.moved hW.alike hK9, hD9⟩, hS.F ht⟩) hS.2.2 dX4_readLine_33
  · refine lv_aload_n hx hb dX4_readLine_9 rfl (lv_at hl 0 rfl) ?_
    refine lv_bipush (v := 6) hx hb dX4_readLine_10 (by decide) ?_
    refine lv_iconst (v := (-1)) hx hb dX4_readLine_12 (by decide) ?_
    have hPc := hP.sub (ws' := [(h0, .inr (5, [.ref ta, .int (nI s1_8), .int (nI e1_9)])), (ta, .inr (6, [.ref ab, .int (nI tp)])), (ab, .inl (cB, 300, .inl fb))]) [0, 1, 2] rfl
    have hDc := hD.sub (ws' := [(h0, .inr (5, [.ref ta, .int (nI s1_8), .int (nI e1_9)])), (ta, .inr (6, [.ref ab, .int (nI tp)])), (ab, .inl (cB, 300, .inl fb))]) [0, 1, 2] (by decide) rfl
    have hKc := hK.sub (tys' := [(cB, .int)]) [0] rfl
    have hFc := va_free (wc := [(h0, .inr (5, [.ref ta, .int (nI s1_8), .int (nI e1_9)])), (ta, .inr (6, [.ref ab, .int (nI tp)])), (ab, .inl (cB, 300, .inl fb))]) hD hS hA [0, 1, 2] rfl
    have hz_254 := hS.1
    refine va_callq (va_runV (As := [.int 6, .int (-1)]) (rest := []) ⟨hx, hb, hml, hown, hts⟩ (c_R_readThing l dC dI _ h0 ta s1_8 e1_9 ab tp cB fb 6 (-1) zo (by omega) (by omega) (by omega) (by assumption) (okLn_6 _ _)) (cwV 2 hts gc_R_readLine_R_readThing rfl rfl rfl (by decide +kernel) ⟨Nat.le_of_ble_eq_true rfl, Nat.le_of_ble_eq_true rfl⟩) ⟨fun a U g mk q => by obtain ⟨q0, q1, qP, qK, qD, q_hE⟩ := q; exact ⟨q0, q1, qP, va_K.moved (u := U) (U := U.calling g mk a) (Vm.Alike.refl U.vm) qK, qD, okEnv.same rfl q_hE⟩, va_recv hKc hPc (ci := 5) (q0 := 0) rfl rfl, fun U hU hW => ⟨rfl, by rw [hU], by rw [hU]; exact hPc, va_K.moved hW.alike hKc, hDc.weaken (fun _ _ _ _ => trivial), by rw [hU]; exact okEnv.pass hE hW hS hFc⟩⟩ rfl rfl hl.1 rfl (lv_room (Nat.le_of_ble_eq_true rfl)) dX4_readLine_13 ⟨by decide, by decide⟩) hS (fun q _ h => hFc q h) hFc (fun r_253 u t H1 locs ht hvm hw hB hz1 hk1 hS => ?_)
    obtain ⟨s1_255, e1_256, hf_257, hf_258, hf_259, hP1, hK1, hD1⟩ := hB
    rw [ht] at hP1
    rcases hw with ⟨rfl, rfl⟩ | ⟨q_260, tt_261, kd_262, pe_263, ot_264, dy_265, gr_266, rfl, rfl, hl_267, hk_268, hq_269⟩
    · obtain ⟨hP, hD⟩ := va_join (wr := []) (w1 := [(h0, .inr (5, [.ref ta, .int (nI s1_255), .int (nI e1_256)])), (ta, .inr (6, [.ref ab, .int (nI tp)])), (ab, .inl (cB, 300, .inl fb))]) hP hD [0, 1, 2] [] rfl rfl (by decide) (by decide) hk1 hFc hP1 hD1
      generalize H1 = H at hP hS ⊢
      have hP : va_P (dC, dI) vwCl [(h0, .inr (5, [.ref ta, .int (nI s1_255), .int (nI e1_256)])), (ta, .inr (6, [.ref ab, .int (nI tp)])), (ab, .inl (cB, 300, .inl fb))] H := hP
      have hD : va_D A [(h0, .inr (5, [.ref ta, .int (nI s1_255), .int (nI e1_256)])), (ta, .inr (6, [.ref ab, .int (nI tp)])), (ab, .inl (cB, 300, .inl fb))] := hD
      refine W.widen (k := 1) (n := 6) (by omega) (by omega) ?_
      refine W.eq (g2 := F0 m 16 ls [.null]) rfl ?_
      have hP9 := hP.sub (ws' := [(h0, .inr (5, [.ref ta, .int (nI s1_255), .int (nI e1_256)])), (ta, .inr (6, [.ref ab, .int (nI tp)])), (ab, .inl (cB, 300, .inl fb))]) [0, 1, 2] rfl
      have hD9 := hD.sub (ws' := [(h0, .inr (5, [.ref ta, .int (nI s1_255), .int (nI e1_256)])), (ta, .inr (6, [.ref ab, .int (nI tp)])), (ab, .inl (cB, 300, .inl fb))]) [0, 1, 2] (by decide) rfl
      have hK9 := hK.sub (tys' := [(cB, .int)]) [0] rfl
      refine W.widen (k := 1) (n := 6) (by omega) (by omega) ?_
      exact W.aret (v := .null) hx hb hr (by first | exact Or.inl ⟨_, rfl⟩ | exact Or.inr ⟨_, rfl⟩) (Or.inl rfl) (fun t ht hW => ⟨⟨none, [], rfl, Or.inl ⟨rfl, rfl⟩, s1_255, e1_256, (by omega), (by omega), (by assumption), by rw [ht]; exact hP9, va_K.moved hW.alike hK9, hD9⟩, hS.F ht⟩) hS.2.2 dX4_readLine_16
    · obtain ⟨hP, hD⟩ := va_join (wr := []) (w1 := [(h0, .inr (5, [.ref ta, .int (nI s1_255), .int (nI e1_256)])), (ta, .inr (6, [.ref ab, .int (nI tp)])), (ab, .inl (cB, 300, .inl fb)), (q_260, .inr (3, [.int kd_262, .int pe_263, .int ot_264, .int (nI tt_261), .int dy_265, .long gr_266]))]) hP hD [0, 1, 2] [] rfl rfl (by decide) (by decide) hk1 hFc hP1 hD1
      generalize H1 = H at hP hS ⊢
      have hP : va_P (dC, dI) vwCl [(h0, .inr (5, [.ref ta, .int (nI s1_255), .int (nI e1_256)])), (ta, .inr (6, [.ref ab, .int (nI tp)])), (ab, .inl (cB, 300, .inl fb)), (q_260, .inr (3, [.int kd_262, .int pe_263, .int ot_264, .int (nI tt_261), .int dy_265, .long gr_266]))] H := hP
      have hD : va_D A [(h0, .inr (5, [.ref ta, .int (nI s1_255), .int (nI e1_256)])), (ta, .inr (6, [.ref ab, .int (nI tp)])), (ab, .inl (cB, 300, .inl fb)), (q_260, .inr (3, [.int kd_262, .int pe_263, .int ot_264, .int (nI tt_261), .int dy_265, .long gr_266]))] := hD
      refine W.widen (k := 1) (n := 6) (by omega) (by omega) ?_
      refine W.eq (g2 := F0 m 16 ls [.ref q_260]) rfl ?_
      have hP9 := hP.sub (ws' := [(h0, .inr (5, [.ref ta, .int (nI s1_255), .int (nI e1_256)])), (ta, .inr (6, [.ref ab, .int (nI tp)])), (ab, .inl (cB, 300, .inl fb)), (q_260, .inr (3, [.int kd_262, .int pe_263, .int ot_264, .int (nI tt_261), .int dy_265, .long gr_266]))]) [0, 1, 2, 3] rfl
      have hD9 := hD.sub (ws' := [(h0, .inr (5, [.ref ta, .int (nI s1_255), .int (nI e1_256)])), (ta, .inr (6, [.ref ab, .int (nI tp)])), (ab, .inl (cB, 300, .inl fb)), (q_260, .inr (3, [.int kd_262, .int pe_263, .int ot_264, .int (nI tt_261), .int dy_265, .long gr_266]))]) [0, 1, 2, 3] (by decide) rfl
      have hK9 := hK.sub (tys' := [(cB, .int)]) [0] rfl
      refine W.widen (k := 1) (n := 6) (by omega) (by omega) ?_
      exact W.aret (v := .ref q_260) hx hb hr (by first | exact Or.inl ⟨_, rfl⟩ | exact Or.inr ⟨_, rfl⟩) (Or.inr ⟨_, rfl⟩) (fun t ht hW => ⟨⟨some q_260, [(q_260, .inr (3, [.int kd_262, .int pe_263, .int ot_264, .int (nI tt_261), .int dy_265, .long gr_266]))], rfl, Or.inr ⟨q_260, tt_261, kd_262, pe_263, ot_264, dy_265, gr_266, rfl, rfl, hl_267, hk_268, (Nat.le_trans hz_254 hq_269)⟩, s1_255, e1_256, (by omega), (by omega), (by assumption), by rw [ht]; exact hP9, va_K.moved hW.alike hK9, hD9⟩, hS.F ht⟩) hS.2.2 dX4_readLine_16
