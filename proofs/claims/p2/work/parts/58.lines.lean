theorem dX4_readLines_11 : decode cX4_readLines 11 = .ok (.iload_n 2, 1) := by decide +kernel
theorem dX4_readLines_12 : decode cX4_readLines 12 = .ok (.bipush 20, 2) := by decide +kernel
theorem dX4_readLines_14 : decode cX4_readLines 14 = .ok (.if_icmp .ge 53, 3) := by decide +kernel
theorem dX4_readLines_17 : decode cX4_readLines 17 = .ok (.aload_n 0, 1) := by decide +kernel
theorem dX4_readLines_18 : decode cX4_readLines 18 = .ok (.invokevirtual 25, 3) := by decide +kernel
theorem dX4_readLines_21 : decode cX4_readLines 21 = .ok (.astore_n 3, 1) := by decide +kernel
theorem dX4_readLines_22 : decode cX4_readLines 22 = .ok (.aload_n 3, 1) := by decide +kernel
theorem dX4_readLines_23 : decode cX4_readLines 23 = .ok (.ifnonnull 5, 3) := by decide +kernel
theorem dX4_readLines_28 : decode cX4_readLines 28 = .ok (.aload_n 1, 1) := by decide +kernel
theorem dX4_readLines_29 : decode cX4_readLines 29 = .ok (.aload_n 3, 1) := by decide +kernel
theorem dX4_readLines_30 : decode cX4_readLines 30 = .ok (.invokevirtual 29, 3) := by decide +kernel
theorem dX4_readLines_33 : decode cX4_readLines 33 = .ok (.pop, 1) := by decide +kernel
theorem dX4_readLines_34 : decode cX4_readLines 34 = .ok (.aload_n 0, 1) := by decide +kernel
theorem dX4_readLines_35 : decode cX4_readLines 35 = .ok (.getfield 9, 3) := by decide +kernel
theorem dX4_readLines_38 : decode cX4_readLines 38 = .ok (.aload_n 0, 1) := by decide +kernel
theorem dX4_readLines_39 : decode cX4_readLines 39 = .ok (.getfield 18, 3) := by decide +kernel
theorem dX4_readLines_42 : decode cX4_readLines 42 = .ok (.getfield 35, 3) := by decide +kernel
theorem dX4_readLines_45 : decode cX4_readLines 45 = .ok (.if_icmp .lt 5, 3) := by decide +kernel
theorem dX4_readLines_50 : decode cX4_readLines 50 = .ok (.aload_n 0, 1) := by decide +kernel
theorem dX4_readLines_51 : decode cX4_readLines 51 = .ok (.ldc 40, 2) := by decide +kernel
theorem dX4_readLines_53 : decode cX4_readLines 53 = .ok (.invokevirtual 42, 3) := by decide +kernel
theorem dX4_readLines_56 : decode cX4_readLines 56 = .ok (.ifCond .ne 5, 3) := by decide +kernel
theorem dX4_readLines_61 : decode cX4_readLines 61 = .ok (.iinc 2 1, 3) := by decide +kernel
theorem dX4_readLines_64 : decode cX4_readLines 64 = .ok (.goto (-53), 3) := by decide +kernel
theorem dX4_readLines_0 : decode cX4_readLines 0 = .ok (.aload_n 0, 1) := by decide +kernel
theorem dX4_readLines_1 : decode cX4_readLines 1 = .ok (.iconst 0, 1) := by decide +kernel
theorem dX4_readLines_2 : decode cX4_readLines 2 = .ok (.putfield 15, 3) := by decide +kernel
theorem dX4_readLines_5 : decode cX4_readLines 5 = .ok (.aload_n 0, 1) := by decide +kernel
theorem dX4_readLines_6 : decode cX4_readLines 6 = .ok (.invokevirtual 22, 3) := by decide +kernel
theorem dX4_readLines_9 : decode cX4_readLines 9 = .ok (.iconst 0, 1) := by decide +kernel
theorem dX4_readLines_10 : decode cX4_readLines 10 = .ok (.istore_n 2, 1) := by decide +kernel
theorem dX4_readLines_26 : decode cX4_readLines 26 = .ok (.iconst 0, 1) := by decide +kernel
theorem dX4_readLines_27 : decode cX4_readLines 27 = .ok (.ireturn, 1) := by decide +kernel
theorem dX4_readLines_48 : decode cX4_readLines 48 = .ok (.iconst 1, 1) := by decide +kernel
theorem dX4_readLines_49 : decode cX4_readLines 49 = .ok (.ireturn, 1) := by decide +kernel
theorem dX4_readLines_59 : decode cX4_readLines 59 = .ok (.iconst 0, 1) := by decide +kernel
theorem dX4_readLines_60 : decode cX4_readLines 60 = .ok (.ireturn, 1) := by decide +kernel
theorem dX4_readLines_67 : decode cX4_readLines 67 = .ok (.iconst 0, 1) := by decide +kernel
theorem dX4_readLines_68 : decode cX4_readLines 68 = .ok (.ireturn, 1) := by decide +kernel
def wp_R_readLines : List Cond := .code yX4_readLines cX4_readLines 4 (some .boolean) :: (([.fieldLink RX4 15 "AgreedTalks$Reader" "stop" "I", .fieldLink RX4 9 "AgreedTalks$Reader" "start" "I", .fieldLink RX4 18 "AgreedTalks$Reader" "tape" "LAgreedTalks$Tape;", .fieldLink RX4 35 "AgreedTalks$Tape" "length" "I"] : List Cond) ++ wsX40 ++ wsX50 ++ (wsV RX4 22 RX4 yX4_step wp_R_step) ++ (wsV RX4 25 RX4 yX4_readLine wp_R_readLine) ++ (wsV RX4 29 RJx4a65c yJx4a65c_add_9ea2d wp_AL_addE) ++ (wsV RX4 42 RX4 yX4_takeWord wp_R_takeWord) ++ (wsV RX4 29 RJx4a65c yJx4a65c_add_9ea2d wp_AL_addF))
theorem gc_R_readLines_R_step : GoodIn wp_R_readLines (wsV RX4 22 RX4 yX4_step wp_R_step) := goodIn_sub (fun _ h => List.mem_cons_of_mem _ (List.mem_append_left _ (List.mem_append_left _ (List.mem_append_left _ (List.mem_append_left _ (List.mem_append_right _ h)))))) (by decide +kernel)
theorem gc_R_readLines_R_readLine : GoodIn wp_R_readLines (wsV RX4 25 RX4 yX4_readLine wp_R_readLine) := goodIn_sub (fun _ h => List.mem_cons_of_mem _ (List.mem_append_left _ (List.mem_append_left _ (List.mem_append_left _ (List.mem_append_right _ h))))) (by decide +kernel)
theorem gc_R_readLines_AL_addE : GoodIn wp_R_readLines (wsV RX4 29 RJx4a65c yJx4a65c_add_9ea2d wp_AL_addE) := goodIn_sub (fun _ h => List.mem_cons_of_mem _ (List.mem_append_left _ (List.mem_append_left _ (List.mem_append_right _ h)))) (by decide +kernel)
theorem gc_R_readLines_R_takeWord : GoodIn wp_R_readLines (wsV RX4 42 RX4 yX4_takeWord wp_R_takeWord) := goodIn_sub (fun _ h => List.mem_cons_of_mem _ (List.mem_append_left _ (List.mem_append_right _ h))) (by decide +kernel)
theorem gc_R_readLines_AL_addF : GoodIn wp_R_readLines (wsV RX4 29 RJx4a65c yJx4a65c_add_9ea2d wp_AL_addF) := goodIn_sub (fun _ h => List.mem_cons_of_mem _ (List.mem_append_right _ h)) (by decide +kernel)
set_option maxRecDepth 20000 in
theorem gi_R_readLines : GoodIn lw_tbl wp_R_readLines := (goodIn_ca (goodIn_ca (goodIn_ca (goodIn_ca (goodIn_ca (goodIn_ca (goodIn_ca (goodIn_r (.code yX4_readLines cX4_readLines 4 (some .boolean) :: ([.fieldLink RX4 15 "AgreedTalks$Reader" "stop" "I", .fieldLink RX4 9 "AgreedTalks$Reader" "start" "I", .fieldLink RX4 18 "AgreedTalks$Reader" "tape" "LAgreedTalks$Tape;", .fieldLink RX4 35 "AgreedTalks$Tape" "length" "I"] : List Cond)) [262, 128, 126, 125, 112] (by decide +kernel) (by decide +kernel)) wi_wsX4) wi_wsX5) (goodIn_app (goodIn_r _ [263, 265, 3, 53] (by decide +kernel) (by decide +kernel)) gi_R_step)) (goodIn_app (goodIn_r _ [270, 272, 4, 53] (by decide +kernel) (by decide +kernel)) gi_R_readLine)) (goodIn_app (goodIn_r _ [407, 408, 409, 51] (by decide +kernel) (by decide +kernel)) gi_AL_addE)) (goodIn_app (goodIn_r _ [275, 277, 5, 53] (by decide +kernel) (by decide +kernel)) gi_R_takeWord)) (goodIn_app (goodIn_r _ [407, 408, 409, 51] (by decide +kernel) (by decide +kernel)) gi_AL_addF))
set_option maxHeartbeats 4000000 in
set_option maxRecDepth 100000 in
theorem sg_R_readLines_11 {p : Program} {l : Launch} {e : Env} {s : State} {m : MethodId} {args : Array Value} {below : List Frame} {meth : Method} {c : Code} {Q : State → Prop} {A : Nat → Prop} {dC : Nat → ClassId} {dI : Nat → Nat → Nat} (h0 : Nat) (ta : Nat) (sv : Int32) (pv : Int32) (ab : Nat) (tp : Nat) (cB : ClassId) (fb : Nat → Int32) (h1 : Nat) (mc : Int32) (cO : ClassId) (ze : Nat) (mi : Nat) (zo : Option Nat) (qtp : tp ≤ 300) (hx : p.tables.exec = Jvm.exec) (hb : c.code = cX4_readLines) (hml : c.maxLocals = 4) (hown : s.vm.findClass RX4 = some m.cls) (hts : ∀ w ∈ wp_R_readLines, w.before args s = true) (hK : va_K (dC, dI) vwCl [(cB, .int), (cO, .object "java/lang/Object")] s) (hA : ∀ q : Nat, s.heap.size ≤ q → A q) (hE : okEnv zo A s s.heap) (nw4p : va_Nw (.methodLinkNest RX4 117 yX6_isPerson "AgreedTalks") s) (nw4b : va_Nw (.methodLinkNest RX4 101 yX6_bit "AgreedTalks") s) (hAL : okAL ze mi A s s.heap) (kk_26 : ∀ (s9 : Nat) (e9 : Nat) (H : Heap) (locs : List Loc) (ls : Array Slot), (s9 ≤ e9) → (e9 ≤ tp) → (okT fb s9 e9) → okPD (dC, dI) vwCl A [(h0, .inr (5, [.ref ta, .int (nI s9), .int (nI e9)])), (ta, .inr (6, [.ref ab, .int (nI tp)])), (ab, .inl (cB, 300, .inl fb))] H → va_S A s.heap H locs → lv_has ls 4 [(0, .ref h0)] → W p l e ({ frames := 8, cells := 42, slots := 1450, locals := 300 } : Room) s m args below meth c H locs (42) (1450) Q (F0 m 26 ls [])) (kk_48 : ∀ (s9 : Nat) (e9 : Nat) (mc9 : Int32) (ad9 : Nat) (cap9 : Nat) (g9 : Nat → Option Nat) (n9 : Nat) (pl9 : va_W) (H : Heap) (locs : List Loc) (ls : Array Slot), (s9 ≤ e9) → (e9 ≤ tp) → (okT fb s9 e9) → (1 ≤ n9) → (n9 ≤ 20) → (n9 ≤ cap9) → (cap9 ≤ 64) → (s.heap.size ≤ ad9) → (okLp g9 n9 pl9 s.heap.size) → okPD (dC, dI) vwCl A ([(h0, .inr (5, [.ref ta, .int (nI s9), .int (nI e9)])), (ta, .inr (6, [.ref ab, .int (nI tp)])), (ab, .inl (cB, 300, .inl fb)), (h1, .inr (0, [.int mc9, .ref ad9, .int (nI n9)])), (ad9, .inl (cO, cap9, .inr (.inr (.inr (.inr g9)))))] ++ pl9) H → va_S A s.heap H locs → lv_has ls 4 [(0, .ref h0)] → W p l e ({ frames := 8, cells := 42, slots := 1450, locals := 300 } : Room) s m args below meth c H locs (42) (1450) Q (F0 m 48 ls [])) (kk_59 : ∀ (s9 : Nat) (e9 : Nat) (H : Heap) (locs : List Loc) (ls : Array Slot), (s9 ≤ e9) → (e9 ≤ tp) → (okT fb s9 e9) → okPD (dC, dI) vwCl A [(h0, .inr (5, [.ref ta, .int (nI s9), .int (nI e9)])), (ta, .inr (6, [.ref ab, .int (nI tp)])), (ab, .inl (cB, 300, .inl fb))] H → va_S A s.heap H locs → lv_has ls 4 [(0, .ref h0)] → W p l e ({ frames := 8, cells := 42, slots := 1450, locals := 300 } : Room) s m args below meth c H locs (42) (1450) Q (F0 m 59 ls [])) (kk_67 : ∀ (s9 : Nat) (e9 : Nat) (H : Heap) (locs : List Loc) (ls : Array Slot), (s9 ≤ e9) → (e9 ≤ tp) → (okT fb s9 e9) → okPD (dC, dI) vwCl A [(h0, .inr (5, [.ref ta, .int (nI s9), .int (nI e9)])), (ta, .inr (6, [.ref ab, .int (nI tp)])), (ab, .inl (cB, 300, .inl fb))] H → va_S A s.heap H locs → lv_has ls 4 [(0, .ref h0)] → W p l e ({ frames := 8, cells := 42, slots := 1450, locals := 300 } : Room) s m args below meth c H locs (42) (1450) Q (F0 m 67 ls [])) : ∀ (n : Nat) (s9 : Nat) (e9 : Nat) (mc9 : Int32) (ad9 : Nat) (cap9 : Nat) (g9 : Nat → Option Nat) (i9 : Nat) (pl9 : va_W) (H : Heap) (locs : List Loc) (ls : Array Slot), 20 - i9 < n → (s9 ≤ e9) → (e9 ≤ tp) → (okT fb s9 e9) → (1 ≤ i9) → (i9 ≤ 20) → (i9 ≤ cap9) → (cap9 ≤ 64) → (s.heap.size ≤ ad9) → (okLp g9 i9 pl9 s.heap.size) → okPD (dC, dI) vwCl A ([(h0, .inr (5, [.ref ta, .int (nI s9), .int (nI e9)])), (ta, .inr (6, [.ref ab, .int (nI tp)])), (ab, .inl (cB, 300, .inl fb)), (h1, .inr (0, [.int mc9, .ref ad9, .int (nI i9)])), (ad9, .inl (cO, cap9, .inr (.inr (.inr (.inr g9)))))] ++ pl9) H → va_S A s.heap H locs → lv_has ls 4 [(0, .ref h0), (1, .ref h1), (2, .int (nI i9))] → W p l e ({ frames := 8, cells := 42, slots := 1450, locals := 300 } : Room) s m args below meth c H locs (2 * i9) (70 * i9) Q (F0 m 11 ls []) := by
  have hinX4 : ∀ w ∈ u_ws RX4 TX4 3, w ∈ wp_R_readLines := fun _ h => List.mem_cons_of_mem _ (List.mem_append_left _ (List.mem_append_left _ (List.mem_append_left _ (List.mem_append_left _ (List.mem_append_left _ (List.mem_append_left _ (List.mem_append_right _ h)))))))
  have hinX5 : ∀ w ∈ u_ws RX5 TX5 2, w ∈ wp_R_readLines := fun _ h => List.mem_cons_of_mem _ (List.mem_append_left _ (List.mem_append_left _ (List.mem_append_left _ (List.mem_append_left _ (List.mem_append_left _ (List.mem_append_right _ h))))))
  have hZT : va_T (.object "java/lang/Object") ze 0 (fun _ => .null) A s s.heap ∧ True := ⟨hAL.2.1, trivial⟩
  intro n
  induction n with
  | zero =>
    intro s9 e9 mc9 ad9 cap9 g9 i9 pl9 H locs ls hn
    exact absurd hn (Nat.not_lt_zero _)
  | succ n ih =>
    intro s9 e9 mc9 ad9 cap9 g9 i9 pl9 H locs ls hn hs9 he9 hT9 hn1 hn2 hn3 hn4 had hlp hPD hS hl
    obtain ⟨hP, hD⟩ := hPD
    refine lv_iload_n hx hb dX4_readLines_11 rfl (lv_at hl 2 rfl) ?_
    refine lv_bipush (v := 20) hx hb dX4_readLines_12 (by decide) ?_
    refine lv_icmp_ge (tgt := 67) hx hb dX4_readLines_14 (by decide) (fun c_48 => ?_) (fun c_48 => ?_)
    · have c_48 : 20 ≤ i9 := (nI_leI (a := 20) (b := i9) (by omega) (by omega)).mp c_48
      refine W.widen (k := 42) (n := 1450) (by omega) (by omega) ?_
      exact kk_67 s9 e9 _ _ _ (by omega) (by omega) (by assumption) ⟨(hP.sub (ws' := [(h0, .inr (5, [.ref ta, .int (nI s9), .int (nI e9)])), (ta, .inr (6, [.ref ab, .int (nI tp)])), (ab, .inl (cB, 300, .inl fb))]) [0, 1, 2] rfl), (hD.sub (ws' := [(h0, .inr (5, [.ref ta, .int (nI s9), .int (nI e9)])), (ta, .inr (6, [.ref ab, .int (nI tp)])), (ab, .inl (cB, 300, .inl fb))]) [0, 1, 2] (by decide) rfl)⟩ hS (lv_sub hl [0] rfl)
    · have c_48 : ¬ (20 ≤ i9) := fun h => c_48 ((nI_leI (a := 20) (b := i9) (by omega) (by omega)).mpr h)
      refine lv_aload_n hx hb dX4_readLines_17 rfl (lv_at hl 0 rfl) ?_
      have hPc := hP.sub (ws' := [(h0, .inr (5, [.ref ta, .int (nI s9), .int (nI e9)])), (ta, .inr (6, [.ref ab, .int (nI tp)])), (ab, .inl (cB, 300, .inl fb))]) [0, 1, 2] rfl
      have hDc := hD.sub (ws' := [(h0, .inr (5, [.ref ta, .int (nI s9), .int (nI e9)])), (ta, .inr (6, [.ref ab, .int (nI tp)])), (ab, .inl (cB, 300, .inl fb))]) [0, 1, 2] (by decide) rfl
      have hKc := hK.sub (tys' := [(cB, .int)]) [0] rfl
      have hFc := va_free (wc := [(h0, .inr (5, [.ref ta, .int (nI s9), .int (nI e9)])), (ta, .inr (6, [.ref ab, .int (nI tp)])), (ab, .inl (cB, 300, .inl fb))]) hD hS hA [0, 1, 2] rfl
      have hz_50 := hS.1
      refine va_callq (va_runV (As := []) (rest := []) ⟨hx, hb, hml, hown, hts⟩ (c_R_readLine l dC dI _ h0 ta s9 e9 ab tp cB fb zo (by omega) (by omega) (by omega) (by assumption)) (cwV 0 hts gc_R_readLines_R_readLine rfl rfl rfl (by decide +kernel) ⟨Nat.le_of_ble_eq_true rfl, Nat.le_of_ble_eq_true rfl⟩) ⟨fun a U g mk q => by obtain ⟨q0, q1, qP, qK, qD, q_hE, q_nw4p, q_nw4b⟩ := q; exact ⟨q0, q1, qP, va_K.moved (u := U) (U := U.calling g mk a) (Vm.Alike.refl U.vm) qK, qD, okEnv.same rfl q_hE, va_Nw.same rfl rfl q_nw4p, va_Nw.same rfl rfl q_nw4b⟩, va_recv hKc hPc (ci := 5) (q0 := 0) rfl rfl, fun U hU hW => ⟨rfl, by rw [hU], by rw [hU]; exact hPc, va_K.moved hW.alike hKc, hDc.weaken (fun _ _ _ _ => trivial), by rw [hU]; exact okEnv.pass hE hW hS hFc, va_Nw.warmM hW nw4p, va_Nw.warmM hW nw4b⟩⟩ rfl rfl hl.1 rfl (lv_room (Nat.le_of_ble_eq_true rfl)) dX4_readLines_18 ⟨by show 2 * i9 + 0 + 1 ≤ 42; omega, by show 70 * i9 + 0 + 6 ≤ 1450; omega⟩) hS (fun q _ h => hFc q h) hFc (fun r_49 u t H1 locs ht hvm hw hB hz1 hk1 hS => ?_)
      obtain ⟨s1_51, e1_52, hf_53, hf_54, hf_55, hP1, hK1, hD1⟩ := hB
      rw [ht] at hP1
      rcases hw with ⟨rfl, rfl⟩ | ⟨q_56, tt_57, kd_58, pe_59, ot_60, dy_61, gr_62, rfl, rfl, hl_63, hk_64, hq_65⟩
      · obtain ⟨hP, hD⟩ := va_joinQ (X := [(h0, .inr (5, [.ref ta, .int (nI s9), .int (nI e9)])), (ta, .inr (6, [.ref ab, .int (nI tp)])), (ab, .inl (cB, 300, .inl fb)), (h1, .inr (0, [.int mc9, .ref ad9, .int (nI i9)])), (ad9, .inl (cO, cap9, .inr (.inr (.inr (.inr g9)))))]) (cx := [(h0, .inr (5, [.ref ta, .int (nI s9), .int (nI e9)])), (ta, .inr (6, [.ref ab, .int (nI tp)])), (ab, .inl (cB, 300, .inl fb))]) (wr := [(h1, .inr (0, [.int mc9, .ref ad9, .int (nI i9)])), (ad9, .inl (cO, cap9, .inr (.inr (.inr (.inr g9)))))]) (w1 := [(h0, .inr (5, [.ref ta, .int (nI s1_51), .int (nI e1_52)])), (ta, .inr (6, [.ref ab, .int (nI tp)])), (ab, .inl (cB, 300, .inl fb))]) hP hD [0, 1, 2] [3, 4] rfl rfl (by decide) (by decide) hk1 hFc hP1 hD1
        generalize H1 = H at hP hS ⊢
        have hP : va_P (dC, dI) vwCl ([(h1, .inr (0, [.int mc9, .ref ad9, .int (nI i9)])), (ad9, .inl (cO, cap9, .inr (.inr (.inr (.inr g9))))), (h0, .inr (5, [.ref ta, .int (nI s1_51), .int (nI e1_52)])), (ta, .inr (6, [.ref ab, .int (nI tp)])), (ab, .inl (cB, 300, .inl fb))] ++ pl9) H := hP
        have hD : va_D A ([(h1, .inr (0, [.int mc9, .ref ad9, .int (nI i9)])), (ad9, .inl (cO, cap9, .inr (.inr (.inr (.inr g9))))), (h0, .inr (5, [.ref ta, .int (nI s1_51), .int (nI e1_52)])), (ta, .inr (6, [.ref ab, .int (nI tp)])), (ab, .inl (cB, 300, .inl fb))] ++ pl9) := hD
        refine W.widen (k := 2 * i9 + 1) (n := 70 * i9 + 6) (by omega) (by omega) ?_
        refine W.eq (g2 := F0 m 21 ls [.null]) rfl ?_
        refine lv_astore_nN (lv' := [(3, .null), (0, .ref h0), (1, .ref h1), (2, .int (nI i9))]) hx hb dX4_readLines_21 rfl hl (by decide) rfl (fun ls hl => ?_)
        refine lv_aload_nN hx hb dX4_readLines_22 rfl (lv_at hl 0 rfl) ?_
        refine lv_ifnonnullN hx hb dX4_readLines_23 ?_
        refine W.widen (k := 42) (n := 1450) (by omega) (by omega) ?_
        exact kk_26 s1_51 e1_52 _ _ _ (by omega) (by omega) (by assumption) ⟨(hP.sub (ws' := [(h0, .inr (5, [.ref ta, .int (nI s1_51), .int (nI e1_52)])), (ta, .inr (6, [.ref ab, .int (nI tp)])), (ab, .inl (cB, 300, .inl fb))]) [2, 3, 4] rfl), (hD.sub (ws' := [(h0, .inr (5, [.ref ta, .int (nI s1_51), .int (nI e1_52)])), (ta, .inr (6, [.ref ab, .int (nI tp)])), (ab, .inl (cB, 300, .inl fb))]) [2, 3, 4] (by decide) rfl)⟩ hS (lv_sub hl [1] rfl)
      · obtain ⟨hP, hD⟩ := va_joinQ (X := [(h0, .inr (5, [.ref ta, .int (nI s9), .int (nI e9)])), (ta, .inr (6, [.ref ab, .int (nI tp)])), (ab, .inl (cB, 300, .inl fb)), (h1, .inr (0, [.int mc9, .ref ad9, .int (nI i9)])), (ad9, .inl (cO, cap9, .inr (.inr (.inr (.inr g9)))))]) (cx := [(h0, .inr (5, [.ref ta, .int (nI s9), .int (nI e9)])), (ta, .inr (6, [.ref ab, .int (nI tp)])), (ab, .inl (cB, 300, .inl fb))]) (wr := [(h1, .inr (0, [.int mc9, .ref ad9, .int (nI i9)])), (ad9, .inl (cO, cap9, .inr (.inr (.inr (.inr g9)))))]) (w1 := [(h0, .inr (5, [.ref ta, .int (nI s1_51), .int (nI e1_52)])), (ta, .inr (6, [.ref ab, .int (nI tp)])), (ab, .inl (cB, 300, .inl fb)), (q_56, .inr (3, [.int kd_58, .int pe_59, .int ot_60, .int (nI tt_57), .int dy_61, .long gr_62]))]) hP hD [0, 1, 2] [3, 4] rfl rfl (by decide) (by decide) hk1 hFc hP1 hD1
        generalize H1 = H at hP hS ⊢
        have hP : va_P (dC, dI) vwCl ([(h1, .inr (0, [.int mc9, .ref ad9, .int (nI i9)])), (ad9, .inl (cO, cap9, .inr (.inr (.inr (.inr g9))))), (h0, .inr (5, [.ref ta, .int (nI s1_51), .int (nI e1_52)])), (ta, .inr (6, [.ref ab, .int (nI tp)])), (ab, .inl (cB, 300, .inl fb)), (q_56, .inr (3, [.int kd_58, .int pe_59, .int ot_60, .int (nI tt_57), .int dy_61, .long gr_62]))] ++ pl9) H := hP
        have hD : va_D A ([(h1, .inr (0, [.int mc9, .ref ad9, .int (nI i9)])), (ad9, .inl (cO, cap9, .inr (.inr (.inr (.inr g9))))), (h0, .inr (5, [.ref ta, .int (nI s1_51), .int (nI e1_52)])), (ta, .inr (6, [.ref ab, .int (nI tp)])), (ab, .inl (cB, 300, .inl fb)), (q_56, .inr (3, [.int kd_58, .int pe_59, .int ot_60, .int (nI tt_57), .int dy_61, .long gr_62]))] ++ pl9) := hD
        refine W.widen (k := 2 * i9 + 1) (n := 70 * i9 + 6) (by omega) (by omega) ?_
        refine W.eq (g2 := F0 m 21 ls [.ref q_56]) rfl ?_
        refine lv_astore_n (lv' := [(3, .ref q_56), (0, .ref h0), (1, .ref h1), (2, .int (nI i9))]) hx hb dX4_readLines_21 rfl hl (by decide) rfl (fun ls hl => ?_)
        refine lv_aload_n hx hb dX4_readLines_22 rfl (lv_at hl 0 rfl) ?_
        refine lv_ifnonnull (tgt := 28) hx hb dX4_readLines_23 (by decide) ?_
        refine lv_aload_n hx hb dX4_readLines_28 rfl (lv_at hl 2 rfl) ?_
        refine lv_aload_n hx hb dX4_readLines_29 rfl (lv_at hl 0 rfl) ?_
        have hPc := hP.sub (ws' := [(h1, .inr (0, [.int mc9, .ref ad9, .int (nI i9)])), (ad9, .inl (cO, cap9, .inr (.inr (.inr (.inr g9)))))]) [0, 1] rfl
        have hDc := hD.sub (ws' := [(h1, .inr (0, [.int mc9, .ref ad9, .int (nI i9)])), (ad9, .inl (cO, cap9, .inr (.inr (.inr (.inr g9)))))]) [0, 1] (by decide) rfl
        have hKc := hK.sub (tys' := [(cO, .object "java/lang/Object")]) [1] rfl
        have hFc := va_free (wc := [(h1, .inr (0, [.int mc9, .ref ad9, .int (nI i9)])), (ad9, .inl (cO, cap9, .inr (.inr (.inr (.inr g9)))))]) hD hS hA [0, 1] rfl
        have hz_67 := hS.1
        refine va_calli (va_runV (As := [.ref q_56]) (rest := []) ⟨hx, hb, hml, hown, hts⟩ (c_AL_addF l dC dI _ h1 mc9 q_56 ad9 i9 cap9 cO g9 ze mi (by omega) (by omega) (by omega) (by omega)) (cwV 1 hts gc_R_readLines_AL_addF rfl rfl rfl (by decide +kernel) ⟨Nat.le_of_ble_eq_true rfl, Nat.le_of_ble_eq_true rfl⟩) ⟨fun a U g mk q => by obtain ⟨q0, q1, qP, qK, qD, q_hAL, q_hAn, q_hAs⟩ := q; exact ⟨q0, q1, qP, va_K.moved (u := U) (U := U.calling g mk a) (Vm.Alike.refl U.vm) qK, qD, okAL.moved (Vm.Alike.refl U.vm) q_hAL, q_hAn, q_hAs⟩, va_recv hKc hPc (ci := 0) (q0 := 0) rfl rfl, fun U hU hW => ⟨rfl, by rw [hU], by rw [hU]; exact hPc, va_K.moved hW.alike hKc, hDc.weaken (fun _ _ _ _ => trivial), by rw [hU]; exact okAL.pass hAL hW hS hFc, by rw [hU]; exact ⟨3, _, Or.inl rfl, okF.of hP hD 5 rfl [0, 1] rfl (by decide)⟩, by rw [hU]; exact okLp.ans (X := [(h1, .inr (0, [.int mc9, .ref ad9, .int (nI i9)])), (ad9, .inl (cO, cap9, .inr (.inr (.inr (.inr g9))))), (h0, .inr (5, [.ref ta, .int (nI s1_51), .int (nI e1_52)])), (ta, .inr (6, [.ref ab, .int (nI tp)])), (ab, .inl (cB, 300, .inl fb)), (q_56, .inr (3, [.int kd_58, .int pe_59, .int ot_60, .int (nI tt_57), .int dy_61, .long gr_62]))]) hlp hP hD [0, 1] rfl (show ∀ i ∈ [0, 1], i < 6 from by decide)⟩⟩ rfl rfl hl.1 rfl (lv_room (Nat.le_of_ble_eq_true rfl)) dX4_readLines_30 ⟨by show 2 * i9 + 1 + 1 ≤ 42; omega, by show 70 * i9 + 6 + 64 ≤ 1450; omega⟩) hS (fun q _ h => hFc q h) hFc (fun r_66 u t H1 locs ht hvm hw hB hz1 hk1 hS => ?_)
        obtain ⟨ad2_68, cap2_69, g1_70, mc2_71, hf_72, hf_73, hf_74, hf_75, hf_76, hP1, hK1, hD1⟩ := hB
        rw [ht] at hP1
        obtain ⟨hP, hD⟩ := va_joinQ (X := [(h1, .inr (0, [.int mc9, .ref ad9, .int (nI i9)])), (ad9, .inl (cO, cap9, .inr (.inr (.inr (.inr g9))))), (h0, .inr (5, [.ref ta, .int (nI s1_51), .int (nI e1_52)])), (ta, .inr (6, [.ref ab, .int (nI tp)])), (ab, .inl (cB, 300, .inl fb)), (q_56, .inr (3, [.int kd_58, .int pe_59, .int ot_60, .int (nI tt_57), .int dy_61, .long gr_62]))]) (cx := [(h1, .inr (0, [.int mc9, .ref ad9, .int (nI i9)])), (ad9, .inl (cO, cap9, .inr (.inr (.inr (.inr g9)))))]) (wr := [(h0, .inr (5, [.ref ta, .int (nI s1_51), .int (nI e1_52)])), (ta, .inr (6, [.ref ab, .int (nI tp)])), (ab, .inl (cB, 300, .inl fb)), (q_56, .inr (3, [.int kd_58, .int pe_59, .int ot_60, .int (nI tt_57), .int dy_61, .long gr_62]))]) (w1 := [(h1, .inr (0, [.int mc2_71, .ref ad2_68, .int (nI (i9 + 1))])), (ad2_68, .inl (cO, cap2_69, .inr (.inr (.inr (.inr g1_70)))))]) hP hD [0, 1] [2, 3, 4, 5] rfl rfl (by decide) (by decide) hk1 hFc hP1 hD1
        generalize H1 = H at hP hS ⊢
        have hP : va_P (dC, dI) vwCl ([(h0, .inr (5, [.ref ta, .int (nI s1_51), .int (nI e1_52)])), (ta, .inr (6, [.ref ab, .int (nI tp)])), (ab, .inl (cB, 300, .inl fb)), (q_56, .inr (3, [.int kd_58, .int pe_59, .int ot_60, .int (nI tt_57), .int dy_61, .long gr_62])), (h1, .inr (0, [.int mc2_71, .ref ad2_68, .int (nI (i9 + 1))])), (ad2_68, .inl (cO, cap2_69, .inr (.inr (.inr (.inr g1_70)))))] ++ pl9) H := hP
        have hD : va_D A ([(h0, .inr (5, [.ref ta, .int (nI s1_51), .int (nI e1_52)])), (ta, .inr (6, [.ref ab, .int (nI tp)])), (ab, .inl (cB, 300, .inl fb)), (q_56, .inr (3, [.int kd_58, .int pe_59, .int ot_60, .int (nI tt_57), .int dy_61, .long gr_62])), (h1, .inr (0, [.int mc2_71, .ref ad2_68, .int (nI (i9 + 1))])), (ad2_68, .inl (cO, cap2_69, .inr (.inr (.inr (.inr g1_70)))))] ++ pl9) := hD
        refine W.widen (k := 2 * i9 + 2) (n := 70 * i9 + 70) (by omega) (by omega) ?_
        obtain rfl : r_66 = 1 := hw
        refine lv_pop hx hb dX4_readLines_33 rfl ?_
        refine lv_aload_n hx hb dX4_readLines_34 rfl (lv_at hl 1 rfl) ?_
        refine va_get (D := (dC, dI)) (ci := 5) (v := .int (nI s1_51)) (C := RX4) (T := TX4) (N := 3) hx hb hts hinX4 hown hK hP 0 rfl rfl 1 (by decide) (hts (.fieldLink RX4 9 "AgreedTalks$Reader" "start" "I") (by decide +kernel)) (fun _ h9 => h9) rfl dX4_readLines_35 ?_
        refine lv_aload_n hx hb dX4_readLines_38 rfl (lv_at hl 1 rfl) ?_
        refine va_get (D := (dC, dI)) (ci := 5) (v := .ref ta) (C := RX4) (T := TX4) (N := 3) hx hb hts hinX4 hown hK hP 0 rfl rfl 0 (by decide) (hts (.fieldLink RX4 18 "AgreedTalks$Reader" "tape" "LAgreedTalks$Tape;") (by decide +kernel)) (fun _ h9 => h9) rfl dX4_readLines_39 ?_
        refine va_get (D := (dC, dI)) (ci := 6) (v := .int (nI tp)) (C := RX5) (T := TX5) (N := 2) hx hb hts hinX5 hown hK hP 1 rfl rfl 1 (by decide) (hts (.fieldLink RX4 35 "AgreedTalks$Tape" "length" "I") (by decide +kernel)) (fun _ h9 => h9) rfl dX4_readLines_42 ?_
        refine lv_icmp_lt (tgt := 50) hx hb dX4_readLines_45 (by decide) (fun c_77 => ?_) (fun c_77 => ?_)
        · have c_77 : s1_51 < tp := (nI_ltI (a := s1_51) (b := tp) (by omega) (by omega)).mp c_77
          refine lv_aload_n hx hb dX4_readLines_50 rfl (lv_at hl 1 rfl) ?_
          obtain ⟨sa_78, sv_79, sn_80, sf_81, hR_82, hs_83⟩ := hE.2.2 (40, ";") (by decide)
          refine va_ldcS hx hb hown hR_82 dX4_readLines_51 ?_
          have hPc := hP.sub (ws' := [(h0, .inr (5, [.ref ta, .int (nI s1_51), .int (nI e1_52)])), (ta, .inr (6, [.ref ab, .int (nI tp)])), (ab, .inl (cB, 300, .inl fb))]) [0, 1, 2] rfl
          have hDc := hD.sub (ws' := [(h0, .inr (5, [.ref ta, .int (nI s1_51), .int (nI e1_52)])), (ta, .inr (6, [.ref ab, .int (nI tp)])), (ab, .inl (cB, 300, .inl fb))]) [0, 1, 2] (by decide) rfl
          have hKc := hK.sub (tys' := [(cB, .int)]) [0] rfl
          have hFc := va_free (wc := [(h0, .inr (5, [.ref ta, .int (nI s1_51), .int (nI e1_52)])), (ta, .inr (6, [.ref ab, .int (nI tp)])), (ab, .inl (cB, 300, .inl fb))]) hD hS hA [0, 1, 2] rfl
          refine va_calli (va_runV (As := [.ref sa_78]) (rest := []) ⟨hx, hb, hml, hown, hts⟩ (c_R_takeWord l dC dI _ h0 ta s1_51 e1_52 ab tp cB fb sa_78 sv_79 sn_80 sf_81 zo (by omega) (by omega) (by omega) (by assumption)) (cwV 1 hts gc_R_readLines_R_takeWord rfl rfl rfl (by decide +kernel) ⟨Nat.le_of_ble_eq_true rfl, Nat.le_of_ble_eq_true rfl⟩) ⟨fun a U g mk q => by obtain ⟨q0, q1, qP, qK, qD, q_hE, q_hs⟩ := q; exact ⟨q0, q1, qP, va_K.moved (u := U) (U := U.calling g mk a) (Vm.Alike.refl U.vm) qK, qD, okEnv.same rfl q_hE, okStr.moved (Vm.Alike.refl U.vm) q_hs⟩, va_recv hKc hPc (ci := 5) (q0 := 0) rfl rfl, fun U hU hW => ⟨rfl, by rw [hU], by rw [hU]; exact hPc, va_K.moved hW.alike hKc, hDc.weaken (fun _ _ _ _ => trivial), by rw [hU]; exact okEnv.pass hE hW hS hFc, by rw [hU]; exact okStr.pass hs_83 hW hS hFc⟩⟩ rfl rfl hl.1 rfl (lv_room (Nat.le_of_ble_eq_true rfl)) dX4_readLines_53 ⟨by show 2 * i9 + 2 + 0 ≤ 42; omega, by show 70 * i9 + 70 + 0 ≤ 1450; omega⟩) hS (fun q _ h => hFc q h) hFc (fun r_84 u t H1 locs ht hvm hw hB hz1 hk1 hS => ?_)
          obtain ⟨s1_85, e1_86, hf_87, hf_88, hf_89, hP1, hK1, hD1⟩ := hB
          rw [ht] at hP1
          obtain ⟨hP, hD⟩ := va_joinQ (X := [(h0, .inr (5, [.ref ta, .int (nI s1_51), .int (nI e1_52)])), (ta, .inr (6, [.ref ab, .int (nI tp)])), (ab, .inl (cB, 300, .inl fb)), (q_56, .inr (3, [.int kd_58, .int pe_59, .int ot_60, .int (nI tt_57), .int dy_61, .long gr_62])), (h1, .inr (0, [.int mc2_71, .ref ad2_68, .int (nI (i9 + 1))])), (ad2_68, .inl (cO, cap2_69, .inr (.inr (.inr (.inr g1_70)))))]) (cx := [(h0, .inr (5, [.ref ta, .int (nI s1_51), .int (nI e1_52)])), (ta, .inr (6, [.ref ab, .int (nI tp)])), (ab, .inl (cB, 300, .inl fb))]) (wr := [(q_56, .inr (3, [.int kd_58, .int pe_59, .int ot_60, .int (nI tt_57), .int dy_61, .long gr_62])), (h1, .inr (0, [.int mc2_71, .ref ad2_68, .int (nI (i9 + 1))])), (ad2_68, .inl (cO, cap2_69, .inr (.inr (.inr (.inr g1_70)))))]) (w1 := [(h0, .inr (5, [.ref ta, .int (nI s1_85), .int (nI e1_86)])), (ta, .inr (6, [.ref ab, .int (nI tp)])), (ab, .inl (cB, 300, .inl fb))]) hP hD [0, 1, 2] [3, 4, 5] rfl rfl (by decide) (by decide) hk1 hFc hP1 hD1
          generalize H1 = H at hP hS ⊢
          have hP : va_P (dC, dI) vwCl ([(q_56, .inr (3, [.int kd_58, .int pe_59, .int ot_60, .int (nI tt_57), .int dy_61, .long gr_62])), (h1, .inr (0, [.int mc2_71, .ref ad2_68, .int (nI (i9 + 1))])), (ad2_68, .inl (cO, cap2_69, .inr (.inr (.inr (.inr g1_70))))), (h0, .inr (5, [.ref ta, .int (nI s1_85), .int (nI e1_86)])), (ta, .inr (6, [.ref ab, .int (nI tp)])), (ab, .inl (cB, 300, .inl fb))] ++ pl9) H := hP
          have hD : va_D A ([(q_56, .inr (3, [.int kd_58, .int pe_59, .int ot_60, .int (nI tt_57), .int dy_61, .long gr_62])), (h1, .inr (0, [.int mc2_71, .ref ad2_68, .int (nI (i9 + 1))])), (ad2_68, .inl (cO, cap2_69, .inr (.inr (.inr (.inr g1_70))))), (h0, .inr (5, [.ref ta, .int (nI s1_85), .int (nI e1_86)])), (ta, .inr (6, [.ref ab, .int (nI tp)])), (ab, .inl (cB, 300, .inl fb))] ++ pl9) := hD
          have hr_84 := hw
          try dsimp only at hr_84
          refine lv_if_ne (tgt := 61) hx hb dX4_readLines_56 (by decide) (fun c_90 => ?_) (fun c_90 => ?_)
          · refine lv_iinc (v := (nI (i9 + 1))) (lv' := [(2, .int (nI (i9 + 1))), (3, .ref q_56), (0, .ref h0), (1, .ref h1)]) hx hb dX4_readLines_61 hl (k := 3) rfl (nI_1 _) (by decide) rfl (fun ls hl => ?_)
            refine lv_goto (tgt := 11) hx hb dX4_readLines_64 (by decide) ?_
            refine W.widen (k := 2 * (i9 + 1)) (n := 70 * (i9 + 1)) (by omega) (by omega) ?_
            exact ih s1_85 e1_86 mc2_71 ad2_68 cap2_69 g1_70 (i9 + 1) ((q_56, .inr (3, [.int kd_58, .int pe_59, .int ot_60, .int (nI tt_57), .int dy_61, .long gr_62])) :: pl9) _ _ _ (by omega) (by omega) (by omega) (by assumption) (by omega) (by omega) (by omega) (by omega) (hf_76.elim (fun h => by rw [h]; exact had) (fun h => Nat.le_trans hz_67 h)) (okLp.push hlp hf_74 hf_75 hl_63 hk_64 (Nat.le_trans hz_50 hq_65)) ⟨(hP.part (cx := [(h0, .inr (5, [.ref ta, .int (nI s1_85), .int (nI e1_86)])), (ta, .inr (6, [.ref ab, .int (nI tp)])), (ab, .inl (cB, 300, .inl fb)), (h1, .inr (0, [.int mc2_71, .ref ad2_68, .int (nI (i9 + 1))])), (ad2_68, .inl (cO, cap2_69, .inr (.inr (.inr (.inr g1_70))))), (q_56, .inr (3, [.int kd_58, .int pe_59, .int ot_60, .int (nI tt_57), .int dy_61, .long gr_62]))]) [3, 4, 5, 1, 2, 0] rfl), (hD.part (cx := [(h0, .inr (5, [.ref ta, .int (nI s1_85), .int (nI e1_86)])), (ta, .inr (6, [.ref ab, .int (nI tp)])), (ab, .inl (cB, 300, .inl fb)), (h1, .inr (0, [.int mc2_71, .ref ad2_68, .int (nI (i9 + 1))])), (ad2_68, .inl (cO, cap2_69, .inr (.inr (.inr (.inr g1_70))))), (q_56, .inr (3, [.int kd_58, .int pe_59, .int ot_60, .int (nI tt_57), .int dy_61, .long gr_62]))]) [3, 4, 5, 1, 2, 0] (by decide) rfl)⟩ hS (lv_sub hl [2, 3, 0] rfl)
          · refine W.widen (k := 42) (n := 1450) (by omega) (by omega) ?_
            exact kk_59 s1_85 e1_86 _ _ _ (by omega) (by omega) (by assumption) ⟨(hP.sub (ws' := [(h0, .inr (5, [.ref ta, .int (nI s1_85), .int (nI e1_86)])), (ta, .inr (6, [.ref ab, .int (nI tp)])), (ab, .inl (cB, 300, .inl fb))]) [3, 4, 5] rfl), (hD.sub (ws' := [(h0, .inr (5, [.ref ta, .int (nI s1_85), .int (nI e1_86)])), (ta, .inr (6, [.ref ab, .int (nI tp)])), (ab, .inl (cB, 300, .inl fb))]) [3, 4, 5] (by decide) rfl)⟩ hS (lv_sub hl [1] rfl)
        · have c_77 : ¬ (s1_51 < tp) := fun h => c_77 ((nI_ltI (a := s1_51) (b := tp) (by omega) (by omega)).mpr h)
          refine W.widen (k := 42) (n := 1450) (by omega) (by omega) ?_
          exact kk_48 s1_51 e1_52 mc2_71 ad2_68 cap2_69 g1_70 (i9 + 1) ((q_56, .inr (3, [.int kd_58, .int pe_59, .int ot_60, .int (nI tt_57), .int dy_61, .long gr_62])) :: pl9) _ _ _ (by omega) (by omega) (by assumption) (by omega) (by omega) (by omega) (by omega) (hf_76.elim (fun h => by rw [h]; exact had) (fun h => Nat.le_trans hz_67 h)) (okLp.push hlp hf_74 hf_75 hl_63 hk_64 (Nat.le_trans hz_50 hq_65)) ⟨(hP.part (cx := [(h0, .inr (5, [.ref ta, .int (nI s1_51), .int (nI e1_52)])), (ta, .inr (6, [.ref ab, .int (nI tp)])), (ab, .inl (cB, 300, .inl fb)), (h1, .inr (0, [.int mc2_71, .ref ad2_68, .int (nI (i9 + 1))])), (ad2_68, .inl (cO, cap2_69, .inr (.inr (.inr (.inr g1_70))))), (q_56, .inr (3, [.int kd_58, .int pe_59, .int ot_60, .int (nI tt_57), .int dy_61, .long gr_62]))]) [0, 1, 2, 4, 5, 3] rfl), (hD.part (cx := [(h0, .inr (5, [.ref ta, .int (nI s1_51), .int (nI e1_52)])), (ta, .inr (6, [.ref ab, .int (nI tp)])), (ab, .inl (cB, 300, .inl fb)), (h1, .inr (0, [.int mc2_71, .ref ad2_68, .int (nI (i9 + 1))])), (ad2_68, .inl (cO, cap2_69, .inr (.inr (.inr (.inr g1_70))))), (q_56, .inr (3, [.int kd_58, .int pe_59, .int ot_60, .int (nI tt_57), .int dy_61, .long gr_62]))]) [0, 1, 2, 4, 5, 3] (by decide) rfl)⟩ hS (lv_sub hl [1] rfl)
set_option maxHeartbeats 4000000 in
set_option maxRecDepth 100000 in
/-- readLines -/
theorem c_R_readLines (l : Launch) (dC : Nat → ClassId) (dI : Nat → Nat → Nat) (sz : Nat) (h0 : Nat) (ta : Nat) (sv : Int32) (pv : Int32) (ab : Nat) (tp : Nat) (cB : ClassId) (fb : Nat → Int32) (h1 : Nat) (mc : Int32) (cO : ClassId) (ze : Nat) (mi : Nat) (zo : Option Nat) (qtp : tp ≤ 300) : Met l yX4_readLines wp_R_readLines ({ frames := 8, cells := 42, slots := 1450, locals := 300 }) (va_Pc [.ref h0, .ref h1] (fun U => U.heap.size = sz ∧ va_P (dC, dI) vwCl [(h0, .inr (5, [.ref ta, .int sv, .int pv])), (ta, .inr (6, [.ref ab, .int (nI tp)])), (ab, .inl (cB, 300, .inl fb)), (h1, .inr (0, [.int mc, .ref ze, .int 0]))] U.heap ∧ va_K (dC, dI) vwCl [(cB, .int), (cO, .object "java/lang/Object")] U ∧ va_D (fun _ => True) [(h0, .inr (5, [.ref ta, .int sv, .int pv])), (ta, .inr (6, [.ref ab, .int (nI tp)])), (ab, .inl (cB, 300, .inl fb)), (h1, .inr (0, [.int mc, .ref ze, .int 0]))] ∧ okEnv zo (va_A [(h0, .inr (5, [.ref ta, .int sv, .int pv])), (ta, .inr (6, [.ref ab, .int (nI tp)])), (ab, .inl (cB, 300, .inl fb)), (h1, .inr (0, [.int mc, .ref ze, .int 0]))] sz) U U.heap ∧ va_Nw (.methodLinkNest RX4 117 yX6_isPerson "AgreedTalks") U ∧ va_Nw (.methodLinkNest RX4 101 yX6_bit "AgreedTalks") U ∧ okAL ze mi (va_A [(h0, .inr (5, [.ref ta, .int sv, .int pv])), (ta, .inr (6, [.ref ab, .int (nI tp)])), (ab, .inl (cB, 300, .inl fb)), (h1, .inr (0, [.int mc, .ref ze, .int 0]))] sz) U U.heap)) (va_Qi (fun (r : Int32) (u : va_W) => rlP sz h1 cO r u) (fun (u : va_W) (t : State) => ∃ (s1 : Nat), ∃ (e1 : Nat), (s1 ≤ e1) ∧ (e1 ≤ tp) ∧ (okT fb s1 e1) ∧ va_P (dC, dI) vwCl ([(h0, .inr (5, [.ref ta, .int (nI s1), .int (nI e1)])), (ta, .inr (6, [.ref ab, .int (nI tp)])), (ab, .inl (cB, 300, .inl fb))] ++ u) t.heap ∧ va_K (dC, dI) vwCl [(cB, .int), (cO, .object "java/lang/Object")] t ∧ va_D (va_A [(h0, .inr (5, [.ref ta, .int sv, .int pv])), (ta, .inr (6, [.ref ab, .int (nI tp)])), (ab, .inl (cB, 300, .inl fb)), (h1, .inr (0, [.int mc, .ref ze, .int 0]))] sz) ([(h0, .inr (5, [.ref ta, .int (nI s1), .int (nI e1)])), (ta, .inr (6, [.ref ab, .int (nI tp)])), (ab, .inl (cB, 300, .inl fb))] ++ u)) (va_A [(h0, .inr (5, [.ref ta, .int sv, .int pv])), (ta, .inr (6, [.ref ab, .int (nI tp)])), (ab, .inl (cB, 300, .inl fb)), (h1, .inr (0, [.int mc, .ref ze, .int 0]))] sz)) 42 1450 (va_A [(h0, .inr (5, [.ref ta, .int sv, .int pv])), (ta, .inr (6, [.ref ab, .int (nI tp)])), (ab, .inl (cB, 300, .inl fb)), (h1, .inr (0, [.int mc, .ref ze, .int 0]))] sz) := by
  refine Met.ofW (cc := cX4_readLines) (maxL := 4) (ret := (some .boolean)) (by decide) rfl ?_
  intro p e s m args below meth c s₁ B hml hv
  obtain ⟨rfl, hsz, hP, hK, hD0, hE, nw4p, nw4b, hAL⟩ := hv
  have hx := B.exec
  have hb := B.bytes
  have hr := B.returns
  have hts := atoms_spec (ws := wp_R_readLines) B.pre
  have hown : s.vm.findClass RX4 = some m.cls := findClass_of_methodNamed B.named
  have hlocks := B.notSynchronized
  subst hsz
  have hD := hD0.self (sz := s.heap.size)
  generalize hAe : va_A [(h0, .inr (5, [.ref ta, .int sv, .int pv])), (ta, .inr (6, [.ref ab, .int (nI tp)])), (ab, .inl (cB, 300, .inl fb)), (h1, .inr (0, [.int mc, .ref ze, .int 0]))] s.heap.size = A at hD hE hAL ⊢
  have hA : ∀ q : Nat, s.heap.size ≤ q → A q := fun q h => by rw [← hAe]; exact Or.inr h
  have hS : va_S A s.heap s.heap [] := va_S.rf
  have hP : va_P (dC, dI) vwCl [(h0, .inr (5, [.ref ta, .int sv, .int pv])), (ta, .inr (6, [.ref ab, .int (nI tp)])), (ab, .inl (cB, 300, .inl fb)), (h1, .inr (0, [.int mc, .ref ze, .int 0]))] s.heap := hP
  have hl := lv_entry ([.ref h0, .ref h1]) (n := 4) (Nat.le_of_ble_eq_true rfl)
  rw [lg_entry_eq]
  generalize (lg_sl ([.ref h0, .ref h1]) ++ List.replicate (4 - (lg_sl ([.ref h0, .ref h1])).length) Slot.unset).toArray = ls at hl ⊢
  have hl : lv_has ls 4 [(0, .ref h0), (1, .ref h1)] := hl
  have hinX4 : ∀ w ∈ u_ws RX4 TX4 3, w ∈ wp_R_readLines := fun _ h => List.mem_cons_of_mem _ (List.mem_append_left _ (List.mem_append_left _ (List.mem_append_left _ (List.mem_append_left _ (List.mem_append_left _ (List.mem_append_left _ (List.mem_append_right _ h)))))))
  have hinX5 : ∀ w ∈ u_ws RX5 TX5 2, w ∈ wp_R_readLines := fun _ h => List.mem_cons_of_mem _ (List.mem_append_left _ (List.mem_append_left _ (List.mem_append_left _ (List.mem_append_left _ (List.mem_append_left _ (List.mem_append_right _ h))))))
  have hZT : va_T (.object "java/lang/Object") ze 0 (fun _ => .null) A s s.heap ∧ True := ⟨hAL.2.1, trivial⟩
  refine lv_aload_n hx hb dX4_readLines_0 rfl (lv_at hl 0 rfl) ?_
  refine lv_iconst (v := 0) hx hb dX4_readLines_1 (by decide) ?_
  refine va_put (D := (dC, dI)) (ci := 5) (v := .int 0) (ty := .int) (C := RX4) (T := TX4) (N := 3) hx hb hts hinX4 tyX4 tyX4_ok nmX4 hown hK hP hD hS 0 rfl rfl 2 (by decide) (hts (.fieldLink RX4 15 "AgreedTalks$Reader" "stop" "I") (by decide +kernel)) (fun _ h9 => h9) rfl (by decide +kernel) rfl rfl (Nat.le_of_ble_eq_true rfl) dX4_readLines_2 (fun H locs hP hD hS => ?_)
  have hP : va_P (dC, dI) vwCl [(h0, .inr (5, [.ref ta, .int sv, .int 0])), (ta, .inr (6, [.ref ab, .int (nI tp)])), (ab, .inl (cB, 300, .inl fb)), (h1, .inr (0, [.int mc, .ref ze, .int 0]))] H := hP
  have hD : va_D A [(h0, .inr (5, [.ref ta, .int sv, .int 0])), (ta, .inr (6, [.ref ab, .int (nI tp)])), (ab, .inl (cB, 300, .inl fb)), (h1, .inr (0, [.int mc, .ref ze, .int 0]))] := hD
  refine lv_aload_n hx hb dX4_readLines_5 rfl (lv_at hl 0 rfl) ?_
  have hPc := hP.sub (ws' := [(h0, .inr (5, [.ref ta, .int sv, .int 0])), (ta, .inr (6, [.ref ab, .int (nI tp)])), (ab, .inl (cB, 300, .inl fb))]) [0, 1, 2] rfl
  have hDc := hD.sub (ws' := [(h0, .inr (5, [.ref ta, .int sv, .int 0])), (ta, .inr (6, [.ref ab, .int (nI tp)])), (ab, .inl (cB, 300, .inl fb))]) [0, 1, 2] (by decide) rfl
  have hKc := hK.sub (tys' := [(cB, .int)]) [0] rfl
  have hFc := va_free (wc := [(h0, .inr (5, [.ref ta, .int sv, .int 0])), (ta, .inr (6, [.ref ab, .int (nI tp)])), (ab, .inl (cB, 300, .inl fb))]) hD hS hA [0, 1, 2] rfl
  refine va_callv (va_runV (As := []) (rest := []) ⟨hx, hb, hml, hown, hts⟩ (c_R_step l dC dI _ h0 ta 0 ab tp cB fb sv (by omega) (by omega)) (cwV 0 hts gc_R_readLines_R_step rfl rfl rfl (by decide +kernel) ⟨Nat.le_of_ble_eq_true rfl, Nat.le_of_ble_eq_true rfl⟩) ⟨fun a U g mk q => by obtain ⟨q0, q1, qP, qK, qD⟩ := q; exact ⟨q0, q1, qP, va_K.moved (u := U) (U := U.calling g mk a) (Vm.Alike.refl U.vm) qK, qD⟩, va_recv hKc hPc (ci := 5) (q0 := 0) rfl rfl, fun U hU hW => ⟨rfl, by rw [hU], by rw [hU]; exact hPc, va_K.moved hW.alike hKc, hDc.weaken (fun _ _ _ _ => trivial)⟩⟩ rfl rfl hl.1 rfl (lv_room (Nat.le_of_ble_eq_true rfl)) dX4_readLines_6 ⟨Nat.zero_le _, Nat.zero_le _⟩) hS (fun q _ h => hFc q h) hFc (fun u t H1 locs ht hvm hw hB hz1 hk1 hS => ?_)
  obtain ⟨s1_1, e1_2, hf_3, hf_4, hf_5, hP1, hK1, hD1⟩ := hB
  rw [ht] at hP1
  obtain ⟨hP, hD⟩ := va_join (wr := [(h1, .inr (0, [.int mc, .ref ze, .int 0]))]) (w1 := [(h0, .inr (5, [.ref ta, .int (nI s1_1), .int (nI e1_2)])), (ta, .inr (6, [.ref ab, .int (nI tp)])), (ab, .inl (cB, 300, .inl fb))]) hP hD [0, 1, 2] [3] rfl rfl (by decide) (by decide) hk1 hFc hP1 hD1
  generalize H1 = H at hP hS ⊢
  have hP : va_P (dC, dI) vwCl [(h1, .inr (0, [.int mc, .ref ze, .int 0])), (h0, .inr (5, [.ref ta, .int (nI s1_1), .int (nI e1_2)])), (ta, .inr (6, [.ref ab, .int (nI tp)])), (ab, .inl (cB, 300, .inl fb))] H := hP
  have hD : va_D A [(h1, .inr (0, [.int mc, .ref ze, .int 0])), (h0, .inr (5, [.ref ta, .int (nI s1_1), .int (nI e1_2)])), (ta, .inr (6, [.ref ab, .int (nI tp)])), (ab, .inl (cB, 300, .inl fb))] := hD
  refine lv_iconst (v := 0) hx hb dX4_readLines_9 (by decide) ?_
  refine lv_istore_n (lv' := [(2, .int 0), (0, .ref h0), (1, .ref h1)]) hx hb dX4_readLines_10 rfl hl (by decide) rfl (fun ls hl => ?_)
  refine lv_iload_n hx hb dX4_readLines_11 rfl (lv_at hl 0 rfl) ?_
  refine lv_bipush (v := 20) hx hb dX4_readLines_12 (by decide) ?_
  refine lv_icmp_ge (tgt := 67) hx hb dX4_readLines_14 (by decide) (fun c_6 => ?_) (fun c_6 => ?_)
  · exact absurd c_6 (by decide)
  · refine lv_aload_n hx hb dX4_readLines_17 rfl (lv_at hl 1 rfl) ?_
    have hPc := hP.sub (ws' := [(h0, .inr (5, [.ref ta, .int (nI s1_1), .int (nI e1_2)])), (ta, .inr (6, [.ref ab, .int (nI tp)])), (ab, .inl (cB, 300, .inl fb))]) [1, 2, 3] rfl
    have hDc := hD.sub (ws' := [(h0, .inr (5, [.ref ta, .int (nI s1_1), .int (nI e1_2)])), (ta, .inr (6, [.ref ab, .int (nI tp)])), (ab, .inl (cB, 300, .inl fb))]) [1, 2, 3] (by decide) rfl
    have hKc := hK.sub (tys' := [(cB, .int)]) [0] rfl
    have hFc := va_free (wc := [(h0, .inr (5, [.ref ta, .int (nI s1_1), .int (nI e1_2)])), (ta, .inr (6, [.ref ab, .int (nI tp)])), (ab, .inl (cB, 300, .inl fb))]) hD hS hA [1, 2, 3] rfl
    have hz_8 := hS.1
    refine va_callq (va_runV (As := []) (rest := []) ⟨hx, hb, hml, hown, hts⟩ (c_R_readLine l dC dI _ h0 ta s1_1 e1_2 ab tp cB fb zo (by omega) (by omega) (by omega) (by assumption)) (cwV 0 hts gc_R_readLines_R_readLine rfl rfl rfl (by decide +kernel) ⟨Nat.le_of_ble_eq_true rfl, Nat.le_of_ble_eq_true rfl⟩) ⟨fun a U g mk q => by obtain ⟨q0, q1, qP, qK, qD, q_hE, q_nw4p, q_nw4b⟩ := q; exact ⟨q0, q1, qP, va_K.moved (u := U) (U := U.calling g mk a) (Vm.Alike.refl U.vm) qK, qD, okEnv.same rfl q_hE, va_Nw.same rfl rfl q_nw4p, va_Nw.same rfl rfl q_nw4b⟩, va_recv hKc hPc (ci := 5) (q0 := 0) rfl rfl, fun U hU hW => ⟨rfl, by rw [hU], by rw [hU]; exact hPc, va_K.moved hW.alike hKc, hDc.weaken (fun _ _ _ _ => trivial), by rw [hU]; exact okEnv.pass hE hW hS hFc, va_Nw.warmM hW nw4p, va_Nw.warmM hW nw4b⟩⟩ rfl rfl hl.1 rfl (lv_room (Nat.le_of_ble_eq_true rfl)) dX4_readLines_18 ⟨by decide, by decide⟩) hS (fun q _ h => hFc q h) hFc (fun r_7 u t H1 locs ht hvm hw hB hz1 hk1 hS => ?_)
    obtain ⟨s1_9, e1_10, hf_11, hf_12, hf_13, hP1, hK1, hD1⟩ := hB
    rw [ht] at hP1
    rcases hw with ⟨rfl, rfl⟩ | ⟨q_14, tt_15, kd_16, pe_17, ot_18, dy_19, gr_20, rfl, rfl, hl_21, hk_22, hq_23⟩
    · obtain ⟨hP, hD⟩ := va_join (wr := [(h1, .inr (0, [.int mc, .ref ze, .int 0]))]) (w1 := [(h0, .inr (5, [.ref ta, .int (nI s1_9), .int (nI e1_10)])), (ta, .inr (6, [.ref ab, .int (nI tp)])), (ab, .inl (cB, 300, .inl fb))]) hP hD [1, 2, 3] [0] rfl rfl (by decide) (by decide) hk1 hFc hP1 hD1
      generalize H1 = H at hP hS ⊢
      have hP : va_P (dC, dI) vwCl [(h1, .inr (0, [.int mc, .ref ze, .int 0])), (h0, .inr (5, [.ref ta, .int (nI s1_9), .int (nI e1_10)])), (ta, .inr (6, [.ref ab, .int (nI tp)])), (ab, .inl (cB, 300, .inl fb))] H := hP
      have hD : va_D A [(h1, .inr (0, [.int mc, .ref ze, .int 0])), (h0, .inr (5, [.ref ta, .int (nI s1_9), .int (nI e1_10)])), (ta, .inr (6, [.ref ab, .int (nI tp)])), (ab, .inl (cB, 300, .inl fb))] := hD
      refine W.widen (k := 1) (n := 6) (by omega) (by omega) ?_
      refine W.eq (g2 := F0 m 21 ls [.null]) rfl ?_
      refine lv_astore_nN (lv' := [(3, .null), (2, .int 0), (0, .ref h0), (1, .ref h1)]) hx hb dX4_readLines_21 rfl hl (by decide) rfl (fun ls hl => ?_)
      refine lv_aload_nN hx hb dX4_readLines_22 rfl (lv_at hl 0 rfl) ?_
      refine lv_ifnonnullN hx hb dX4_readLines_23 ?_
      refine lv_iconst (v := 0) hx hb dX4_readLines_26 (by decide) ?_
      have hP9 := hP.sub (ws' := [(h0, .inr (5, [.ref ta, .int (nI s1_9), .int (nI e1_10)])), (ta, .inr (6, [.ref ab, .int (nI tp)])), (ab, .inl (cB, 300, .inl fb))]) [1, 2, 3] rfl
      have hD9 := hD.sub (ws' := [(h0, .inr (5, [.ref ta, .int (nI s1_9), .int (nI e1_10)])), (ta, .inr (6, [.ref ab, .int (nI tp)])), (ab, .inl (cB, 300, .inl fb))]) [1, 2, 3] (by decide) rfl
      have hK9 := hK.sub (tys' := [(cB, .int), (cO, .object "java/lang/Object")]) [0, 1] rfl
      refine W.widen (k := 42) (n := 1450) (by omega) (by omega) ?_
      exact W.zret (v := 0) (ty := .boolean) hx hb hr rfl (fun t ht hW => ⟨⟨0, [], rfl, Or.inl ⟨rfl, rfl⟩, s1_9, e1_10, (by omega), (by omega), (by assumption), by rw [ht]; exact hP9, va_K.moved hW.alike hK9, hD9⟩, hS.F ht⟩) hS.2.2 dX4_readLines_27
    · obtain ⟨hP, hD⟩ := va_join (wr := [(h1, .inr (0, [.int mc, .ref ze, .int 0]))]) (w1 := [(h0, .inr (5, [.ref ta, .int (nI s1_9), .int (nI e1_10)])), (ta, .inr (6, [.ref ab, .int (nI tp)])), (ab, .inl (cB, 300, .inl fb)), (q_14, .inr (3, [.int kd_16, .int pe_17, .int ot_18, .int (nI tt_15), .int dy_19, .long gr_20]))]) hP hD [1, 2, 3] [0] rfl rfl (by decide) (by decide) hk1 hFc hP1 hD1
      generalize H1 = H at hP hS ⊢
      have hP : va_P (dC, dI) vwCl [(h1, .inr (0, [.int mc, .ref ze, .int 0])), (h0, .inr (5, [.ref ta, .int (nI s1_9), .int (nI e1_10)])), (ta, .inr (6, [.ref ab, .int (nI tp)])), (ab, .inl (cB, 300, .inl fb)), (q_14, .inr (3, [.int kd_16, .int pe_17, .int ot_18, .int (nI tt_15), .int dy_19, .long gr_20]))] H := hP
      have hD : va_D A [(h1, .inr (0, [.int mc, .ref ze, .int 0])), (h0, .inr (5, [.ref ta, .int (nI s1_9), .int (nI e1_10)])), (ta, .inr (6, [.ref ab, .int (nI tp)])), (ab, .inl (cB, 300, .inl fb)), (q_14, .inr (3, [.int kd_16, .int pe_17, .int ot_18, .int (nI tt_15), .int dy_19, .long gr_20]))] := hD
      refine W.widen (k := 1) (n := 6) (by omega) (by omega) ?_
      refine W.eq (g2 := F0 m 21 ls [.ref q_14]) rfl ?_
      refine lv_astore_n (lv' := [(3, .ref q_14), (2, .int 0), (0, .ref h0), (1, .ref h1)]) hx hb dX4_readLines_21 rfl hl (by decide) rfl (fun ls hl => ?_)
      refine lv_aload_n hx hb dX4_readLines_22 rfl (lv_at hl 0 rfl) ?_
      refine lv_ifnonnull (tgt := 28) hx hb dX4_readLines_23 (by decide) ?_
      refine lv_aload_n hx hb dX4_readLines_28 rfl (lv_at hl 3 rfl) ?_
      refine lv_aload_n hx hb dX4_readLines_29 rfl (lv_at hl 0 rfl) ?_
      have hPc := hP.sub (ws' := [(h1, .inr (0, [.int mc, .ref ze, .int 0]))]) [0] rfl
      have hDc := hD.sub (ws' := [(h1, .inr (0, [.int mc, .ref ze, .int 0]))]) [0] (by decide) rfl
      have hKc := hK.sub (tys' := [(cO, .object "java/lang/Object")]) [1] rfl
      have hFc := va_free (wc := [(h1, .inr (0, [.int mc, .ref ze, .int 0]))]) hD hS hA [0] rfl
      have hz_25 := hS.1
      refine va_calli (va_runV (As := [.ref q_14]) (rest := []) ⟨hx, hb, hml, hown, hts⟩ (c_AL_addE l dC dI _ h1 mc q_14 cO ze mi) (cwV 1 hts gc_R_readLines_AL_addE rfl rfl rfl (by decide +kernel) ⟨Nat.le_of_ble_eq_true rfl, Nat.le_of_ble_eq_true rfl⟩) ⟨fun a U g mk q => by obtain ⟨q0, q1, qP, qK, qD, q_hAL, q_hAn⟩ := q; exact ⟨q0, q1, qP, va_K.moved (u := U) (U := U.calling g mk a) (Vm.Alike.refl U.vm) qK, qD, okAL.moved (Vm.Alike.refl U.vm) q_hAL, q_hAn⟩, va_recv hKc hPc (ci := 0) (q0 := 0) rfl rfl, fun U hU hW => ⟨rfl, by rw [hU], by rw [hU]; exact hPc, va_K.moved hW.alike hKc, hDc.weaken (fun _ _ _ _ => trivial), by rw [hU]; exact okAL.pass hAL hW hS hFc, by rw [hU]; exact ⟨3, _, Or.inl rfl, okF.of hP hD 4 rfl [0] rfl (by decide)⟩⟩⟩ rfl rfl hl.1 rfl (lv_room (Nat.le_of_ble_eq_true rfl)) dX4_readLines_30 ⟨by decide, by decide⟩) hS (fun q _ h => hFc q h) hFc (fun r_24 u t H1 locs ht hvm hw hB hz1 hk1 hS => ?_)
      obtain ⟨ad2_26, cap2_27, g1_28, mc2_29, hf_30, hf_31, hf_32, hf_33, hP1, hK1, hD1⟩ := hB
      rw [ht] at hP1
      obtain ⟨hP, hD⟩ := va_join (wr := [(h0, .inr (5, [.ref ta, .int (nI s1_9), .int (nI e1_10)])), (ta, .inr (6, [.ref ab, .int (nI tp)])), (ab, .inl (cB, 300, .inl fb)), (q_14, .inr (3, [.int kd_16, .int pe_17, .int ot_18, .int (nI tt_15), .int dy_19, .long gr_20]))]) (w1 := [(h1, .inr (0, [.int mc2_29, .ref ad2_26, .int 1])), (ad2_26, .inl (cO, cap2_27, .inr (.inr (.inr (.inr g1_28)))))]) hP hD [0] [1, 2, 3, 4] rfl rfl (by decide) (by decide) hk1 hFc hP1 hD1
      generalize H1 = H at hP hS ⊢
      have hP : va_P (dC, dI) vwCl [(h0, .inr (5, [.ref ta, .int (nI s1_9), .int (nI e1_10)])), (ta, .inr (6, [.ref ab, .int (nI tp)])), (ab, .inl (cB, 300, .inl fb)), (q_14, .inr (3, [.int kd_16, .int pe_17, .int ot_18, .int (nI tt_15), .int dy_19, .long gr_20])), (h1, .inr (0, [.int mc2_29, .ref ad2_26, .int 1])), (ad2_26, .inl (cO, cap2_27, .inr (.inr (.inr (.inr g1_28)))))] H := hP
      have hD : va_D A [(h0, .inr (5, [.ref ta, .int (nI s1_9), .int (nI e1_10)])), (ta, .inr (6, [.ref ab, .int (nI tp)])), (ab, .inl (cB, 300, .inl fb)), (q_14, .inr (3, [.int kd_16, .int pe_17, .int ot_18, .int (nI tt_15), .int dy_19, .long gr_20])), (h1, .inr (0, [.int mc2_29, .ref ad2_26, .int 1])), (ad2_26, .inl (cO, cap2_27, .inr (.inr (.inr (.inr g1_28)))))] := hD
      refine W.widen (k := 2) (n := 70) (by omega) (by omega) ?_
      obtain rfl : r_24 = 1 := hw
      refine lv_pop hx hb dX4_readLines_33 rfl ?_
      refine lv_aload_n hx hb dX4_readLines_34 rfl (lv_at hl 2 rfl) ?_
      refine va_get (D := (dC, dI)) (ci := 5) (v := .int (nI s1_9)) (C := RX4) (T := TX4) (N := 3) hx hb hts hinX4 hown hK hP 0 rfl rfl 1 (by decide) (hts (.fieldLink RX4 9 "AgreedTalks$Reader" "start" "I") (by decide +kernel)) (fun _ h9 => h9) rfl dX4_readLines_35 ?_
      refine lv_aload_n hx hb dX4_readLines_38 rfl (lv_at hl 2 rfl) ?_
      refine va_get (D := (dC, dI)) (ci := 5) (v := .ref ta) (C := RX4) (T := TX4) (N := 3) hx hb hts hinX4 hown hK hP 0 rfl rfl 0 (by decide) (hts (.fieldLink RX4 18 "AgreedTalks$Reader" "tape" "LAgreedTalks$Tape;") (by decide +kernel)) (fun _ h9 => h9) rfl dX4_readLines_39 ?_
      refine va_get (D := (dC, dI)) (ci := 6) (v := .int (nI tp)) (C := RX5) (T := TX5) (N := 2) hx hb hts hinX5 hown hK hP 1 rfl rfl 1 (by decide) (hts (.fieldLink RX4 35 "AgreedTalks$Tape" "length" "I") (by decide +kernel)) (fun _ h9 => h9) rfl dX4_readLines_42 ?_
      refine lv_icmp_lt (tgt := 50) hx hb dX4_readLines_45 (by decide) (fun c_34 => ?_) (fun c_34 => ?_)
      · have c_34 : s1_9 < tp := (nI_ltI (a := s1_9) (b := tp) (by omega) (by omega)).mp c_34
        refine lv_aload_n hx hb dX4_readLines_50 rfl (lv_at hl 2 rfl) ?_
        obtain ⟨sa_35, sv_36, sn_37, sf_38, hR_39, hs_40⟩ := hE.2.2 (40, ";") (by decide)
        refine va_ldcS hx hb hown hR_39 dX4_readLines_51 ?_
        have hPc := hP.sub (ws' := [(h0, .inr (5, [.ref ta, .int (nI s1_9), .int (nI e1_10)])), (ta, .inr (6, [.ref ab, .int (nI tp)])), (ab, .inl (cB, 300, .inl fb))]) [0, 1, 2] rfl
        have hDc := hD.sub (ws' := [(h0, .inr (5, [.ref ta, .int (nI s1_9), .int (nI e1_10)])), (ta, .inr (6, [.ref ab, .int (nI tp)])), (ab, .inl (cB, 300, .inl fb))]) [0, 1, 2] (by decide) rfl
        have hKc := hK.sub (tys' := [(cB, .int)]) [0] rfl
        have hFc := va_free (wc := [(h0, .inr (5, [.ref ta, .int (nI s1_9), .int (nI e1_10)])), (ta, .inr (6, [.ref ab, .int (nI tp)])), (ab, .inl (cB, 300, .inl fb))]) hD hS hA [0, 1, 2] rfl
        refine va_calli (va_runV (As := [.ref sa_35]) (rest := []) ⟨hx, hb, hml, hown, hts⟩ (c_R_takeWord l dC dI _ h0 ta s1_9 e1_10 ab tp cB fb sa_35 sv_36 sn_37 sf_38 zo (by omega) (by omega) (by omega) (by assumption)) (cwV 1 hts gc_R_readLines_R_takeWord rfl rfl rfl (by decide +kernel) ⟨Nat.le_of_ble_eq_true rfl, Nat.le_of_ble_eq_true rfl⟩) ⟨fun a U g mk q => by obtain ⟨q0, q1, qP, qK, qD, q_hE, q_hs⟩ := q; exact ⟨q0, q1, qP, va_K.moved (u := U) (U := U.calling g mk a) (Vm.Alike.refl U.vm) qK, qD, okEnv.same rfl q_hE, okStr.moved (Vm.Alike.refl U.vm) q_hs⟩, va_recv hKc hPc (ci := 5) (q0 := 0) rfl rfl, fun U hU hW => ⟨rfl, by rw [hU], by rw [hU]; exact hPc, va_K.moved hW.alike hKc, hDc.weaken (fun _ _ _ _ => trivial), by rw [hU]; exact okEnv.pass hE hW hS hFc, by rw [hU]; exact okStr.pass hs_40 hW hS hFc⟩⟩ rfl rfl hl.1 rfl (lv_room (Nat.le_of_ble_eq_true rfl)) dX4_readLines_53 ⟨by decide, by decide⟩) hS (fun q _ h => hFc q h) hFc (fun r_41 u t H1 locs ht hvm hw hB hz1 hk1 hS => ?_)
        obtain ⟨s1_42, e1_43, hf_44, hf_45, hf_46, hP1, hK1, hD1⟩ := hB
        rw [ht] at hP1
        obtain ⟨hP, hD⟩ := va_join (wr := [(q_14, .inr (3, [.int kd_16, .int pe_17, .int ot_18, .int (nI tt_15), .int dy_19, .long gr_20])), (h1, .inr (0, [.int mc2_29, .ref ad2_26, .int 1])), (ad2_26, .inl (cO, cap2_27, .inr (.inr (.inr (.inr g1_28)))))]) (w1 := [(h0, .inr (5, [.ref ta, .int (nI s1_42), .int (nI e1_43)])), (ta, .inr (6, [.ref ab, .int (nI tp)])), (ab, .inl (cB, 300, .inl fb))]) hP hD [0, 1, 2] [3, 4, 5] rfl rfl (by decide) (by decide) hk1 hFc hP1 hD1
        generalize H1 = H at hP hS ⊢
        have hP : va_P (dC, dI) vwCl [(q_14, .inr (3, [.int kd_16, .int pe_17, .int ot_18, .int (nI tt_15), .int dy_19, .long gr_20])), (h1, .inr (0, [.int mc2_29, .ref ad2_26, .int 1])), (ad2_26, .inl (cO, cap2_27, .inr (.inr (.inr (.inr g1_28))))), (h0, .inr (5, [.ref ta, .int (nI s1_42), .int (nI e1_43)])), (ta, .inr (6, [.ref ab, .int (nI tp)])), (ab, .inl (cB, 300, .inl fb))] H := hP
        have hD : va_D A [(q_14, .inr (3, [.int kd_16, .int pe_17, .int ot_18, .int (nI tt_15), .int dy_19, .long gr_20])), (h1, .inr (0, [.int mc2_29, .ref ad2_26, .int 1])), (ad2_26, .inl (cO, cap2_27, .inr (.inr (.inr (.inr g1_28))))), (h0, .inr (5, [.ref ta, .int (nI s1_42), .int (nI e1_43)])), (ta, .inr (6, [.ref ab, .int (nI tp)])), (ab, .inl (cB, 300, .inl fb))] := hD
        have hr_41 := hw
        try dsimp only at hr_41
        refine lv_if_ne (tgt := 61) hx hb dX4_readLines_56 (by decide) (fun c_47 => ?_) (fun c_47 => ?_)
        · refine lv_iinc (v := 1) (lv' := [(2, .int 1), (3, .ref q_14), (0, .ref h0), (1, .ref h1)]) hx hb dX4_readLines_61 hl (k := 1) rfl (by decide) (by decide) rfl (fun ls hl => ?_)
          refine lv_goto (tgt := 11) hx hb dX4_readLines_64 (by decide) ?_
          refine W.widen (k := 2 * 1) (n := 70 * 1) (by omega) (by omega) ?_
          refine sg_R_readLines_11 h0 ta sv pv ab tp cB fb h1 mc cO ze mi zo qtp hx hb hml hown hts hK hA hE nw4p nw4b hAL (fun s9_91 e9_92 H locs ls hs9 he9 hT9 hPD hS hl => ?_) (fun s9_93 e9_94 mc9_95 ad9_96 cap9_97 g9_98 n9_99 pl9_100 H locs ls hs9 he9 hT9 hn1 hn2 hn3 hn4 had hlp hPD hS hl => ?_) (fun s9_101 e9_102 H locs ls hs9 he9 hT9 hPD hS hl => ?_) (fun s9_103 e9_104 H locs ls hs9 he9 hT9 hPD hS hl => ?_) ((20 - 1) + 1) s1_42 e1_43 mc2_29 ad2_26 cap2_27 g1_28 1 ((q_14, .inr (3, [.int kd_16, .int pe_17, .int ot_18, .int (nI tt_15), .int dy_19, .long gr_20])) :: []) _ _ _ (Nat.lt_succ_self _) (by omega) (by omega) (by assumption) (by omega) (by omega) (by omega) (by omega) (Nat.le_trans hz_25 hf_33) (okLp.one hf_32 hl_21 hk_22 (Nat.le_trans hz_8 hq_23)) ⟨(hP.sub (ws' := [(h0, .inr (5, [.ref ta, .int (nI s1_42), .int (nI e1_43)])), (ta, .inr (6, [.ref ab, .int (nI tp)])), (ab, .inl (cB, 300, .inl fb)), (h1, .inr (0, [.int mc2_29, .ref ad2_26, .int 1])), (ad2_26, .inl (cO, cap2_27, .inr (.inr (.inr (.inr g1_28))))), (q_14, .inr (3, [.int kd_16, .int pe_17, .int ot_18, .int (nI tt_15), .int dy_19, .long gr_20]))]) [3, 4, 5, 1, 2, 0] rfl), (hD.sub (ws' := [(h0, .inr (5, [.ref ta, .int (nI s1_42), .int (nI e1_43)])), (ta, .inr (6, [.ref ab, .int (nI tp)])), (ab, .inl (cB, 300, .inl fb)), (h1, .inr (0, [.int mc2_29, .ref ad2_26, .int 1])), (ad2_26, .inl (cO, cap2_27, .inr (.inr (.inr (.inr g1_28))))), (q_14, .inr (3, [.int kd_16, .int pe_17, .int ot_18, .int (nI tt_15), .int dy_19, .long gr_20]))]) [3, 4, 5, 1, 2, 0] (by decide) rfl)⟩ hS (lv_sub hl [2, 3, 0] rfl)
          · obtain ⟨hP, hD⟩ := hPD
            refine lv_iconst (v := 0) hx hb dX4_readLines_26 (by decide) ?_
            have hP9 := hP.sub (ws' := [(h0, .inr (5, [.ref ta, .int (nI s9_91), .int (nI e9_92)])), (ta, .inr (6, [.ref ab, .int (nI tp)])), (ab, .inl (cB, 300, .inl fb))]) [0, 1, 2] rfl
            have hD9 := hD.sub (ws' := [(h0, .inr (5, [.ref ta, .int (nI s9_91), .int (nI e9_92)])), (ta, .inr (6, [.ref ab, .int (nI tp)])), (ab, .inl (cB, 300, .inl fb))]) [0, 1, 2] (by decide) rfl
            have hK9 := hK.sub (tys' := [(cB, .int), (cO, .object "java/lang/Object")]) [0, 1] rfl
            refine W.widen (k := 42) (n := 1450) (by omega) (by omega) ?_
            exact W.zret (v := 0) (ty := .boolean) hx hb hr rfl (fun t ht hW => ⟨⟨0, [], rfl, Or.inl ⟨rfl, rfl⟩, s9_91, e9_92, (by omega), (by omega), (by assumption), by rw [ht]; exact hP9, va_K.moved hW.alike hK9, hD9⟩, hS.F ht⟩) hS.2.2 dX4_readLines_27
          · obtain ⟨hP, hD⟩ := hPD
            refine lv_iconst (v := 1) hx hb dX4_readLines_48 (by decide) ?_
            have hP9 := hP.part (cx := [(h0, .inr (5, [.ref ta, .int (nI s9_93), .int (nI e9_94)])), (ta, .inr (6, [.ref ab, .int (nI tp)])), (ab, .inl (cB, 300, .inl fb)), (h1, .inr (0, [.int mc9_95, .ref ad9_96, .int (nI n9_99)])), (ad9_96, .inl (cO, cap9_97, .inr (.inr (.inr (.inr g9_98)))))]) [0, 1, 2, 3, 4] rfl
            have hD9 := hD.part (cx := [(h0, .inr (5, [.ref ta, .int (nI s9_93), .int (nI e9_94)])), (ta, .inr (6, [.ref ab, .int (nI tp)])), (ab, .inl (cB, 300, .inl fb)), (h1, .inr (0, [.int mc9_95, .ref ad9_96, .int (nI n9_99)])), (ad9_96, .inl (cO, cap9_97, .inr (.inr (.inr (.inr g9_98)))))]) [0, 1, 2, 3, 4] (by decide) rfl
            have hK9 := hK.sub (tys' := [(cB, .int), (cO, .object "java/lang/Object")]) [0, 1] rfl
            refine W.widen (k := 42) (n := 1450) (by omega) (by omega) ?_
            exact W.zret (v := 1) (ty := .boolean) hx hb hr rfl (fun t ht hW => ⟨⟨1, ([(h1, .inr (0, [.int mc9_95, .ref ad9_96, .int (nI n9_99)])), (ad9_96, .inl (cO, cap9_97, .inr (.inr (.inr (.inr g9_98)))))] ++ pl9_100), rfl, Or.inr ⟨mc9_95, ad9_96, cap9_97, n9_99, g9_98, pl9_100, rfl, rfl, by omega, by omega, by omega, by omega, had, hlp⟩, s9_93, e9_94, (by omega), (by omega), (by assumption), by rw [ht]; exact hP9, va_K.moved hW.alike hK9, hD9⟩, hS.F ht⟩) hS.2.2 dX4_readLines_49
          · obtain ⟨hP, hD⟩ := hPD
            refine lv_iconst (v := 0) hx hb dX4_readLines_59 (by decide) ?_
            have hP9 := hP.sub (ws' := [(h0, .inr (5, [.ref ta, .int (nI s9_101), .int (nI e9_102)])), (ta, .inr (6, [.ref ab, .int (nI tp)])), (ab, .inl (cB, 300, .inl fb))]) [0, 1, 2] rfl
            have hD9 := hD.sub (ws' := [(h0, .inr (5, [.ref ta, .int (nI s9_101), .int (nI e9_102)])), (ta, .inr (6, [.ref ab, .int (nI tp)])), (ab, .inl (cB, 300, .inl fb))]) [0, 1, 2] (by decide) rfl
            have hK9 := hK.sub (tys' := [(cB, .int), (cO, .object "java/lang/Object")]) [0, 1] rfl
            refine W.widen (k := 42) (n := 1450) (by omega) (by omega) ?_
            exact W.zret (v := 0) (ty := .boolean) hx hb hr rfl (fun t ht hW => ⟨⟨0, [], rfl, Or.inl ⟨rfl, rfl⟩, s9_101, e9_102, (by omega), (by omega), (by assumption), by rw [ht]; exact hP9, va_K.moved hW.alike hK9, hD9⟩, hS.F ht⟩) hS.2.2 dX4_readLines_60
          · obtain ⟨hP, hD⟩ := hPD
            refine lv_iconst (v := 0) hx hb dX4_readLines_67 (by decide) ?_
            have hP9 := hP.sub (ws' := [(h0, .inr (5, [.ref ta, .int (nI s9_103), .int (nI e9_104)])), (ta, .inr (6, [.ref ab, .int (nI tp)])), (ab, .inl (cB, 300, .inl fb))]) [0, 1, 2] rfl
            have hD9 := hD.sub (ws' := [(h0, .inr (5, [.ref ta, .int (nI s9_103), .int (nI e9_104)])), (ta, .inr (6, [.ref ab, .int (nI tp)])), (ab, .inl (cB, 300, .inl fb))]) [0, 1, 2] (by decide) rfl
            have hK9 := hK.sub (tys' := [(cB, .int), (cO, .object "java/lang/Object")]) [0, 1] rfl
            refine W.widen (k := 42) (n := 1450) (by omega) (by omega) ?_
            exact W.zret (v := 0) (ty := .boolean) hx hb hr rfl (fun t ht hW => ⟨⟨0, [], rfl, Or.inl ⟨rfl, rfl⟩, s9_103, e9_104, (by omega), (by omega), (by assumption), by rw [ht]; exact hP9, va_K.moved hW.alike hK9, hD9⟩, hS.F ht⟩) hS.2.2 dX4_readLines_68
        · refine lv_iconst (v := 0) hx hb dX4_readLines_59 (by decide) ?_
          have hP9 := hP.sub (ws' := [(h0, .inr (5, [.ref ta, .int (nI s1_42), .int (nI e1_43)])), (ta, .inr (6, [.ref ab, .int (nI tp)])), (ab, .inl (cB, 300, .inl fb))]) [3, 4, 5] rfl
          have hD9 := hD.sub (ws' := [(h0, .inr (5, [.ref ta, .int (nI s1_42), .int (nI e1_43)])), (ta, .inr (6, [.ref ab, .int (nI tp)])), (ab, .inl (cB, 300, .inl fb))]) [3, 4, 5] (by decide) rfl
          have hK9 := hK.sub (tys' := [(cB, .int), (cO, .object "java/lang/Object")]) [0, 1] rfl
          refine W.widen (k := 42) (n := 1450) (by omega) (by omega) ?_
          exact W.zret (v := 0) (ty := .boolean) hx hb hr rfl (fun t ht hW => ⟨⟨0, [], rfl, Or.inl ⟨rfl, rfl⟩, s1_42, e1_43, (by omega), (by omega), (by assumption), by rw [ht]; exact hP9, va_K.moved hW.alike hK9, hD9⟩, hS.F ht⟩) hS.2.2 dX4_readLines_60
      · have c_34 : ¬ (s1_9 < tp) := fun h => c_34 ((nI_ltI (a := s1_9) (b := tp) (by omega) (by omega)).mpr h)
        refine lv_iconst (v := 1) hx hb dX4_readLines_48 (by decide) ?_
        have hP9 := hP.sub (ws' := [(h0, .inr (5, [.ref ta, .int (nI s1_9), .int (nI e1_10)])), (ta, .inr (6, [.ref ab, .int (nI tp)])), (ab, .inl (cB, 300, .inl fb)), (h1, .inr (0, [.int mc2_29, .ref ad2_26, .int 1])), (ad2_26, .inl (cO, cap2_27, .inr (.inr (.inr (.inr g1_28))))), (q_14, .inr (3, [.int kd_16, .int pe_17, .int ot_18, .int (nI tt_15), .int dy_19, .long gr_20]))]) [0, 1, 2, 4, 5, 3] rfl
        have hD9 := hD.sub (ws' := [(h0, .inr (5, [.ref ta, .int (nI s1_9), .int (nI e1_10)])), (ta, .inr (6, [.ref ab, .int (nI tp)])), (ab, .inl (cB, 300, .inl fb)), (h1, .inr (0, [.int mc2_29, .ref ad2_26, .int 1])), (ad2_26, .inl (cO, cap2_27, .inr (.inr (.inr (.inr g1_28))))), (q_14, .inr (3, [.int kd_16, .int pe_17, .int ot_18, .int (nI tt_15), .int dy_19, .long gr_20]))]) [0, 1, 2, 4, 5, 3] (by decide) rfl
        have hK9 := hK.sub (tys' := [(cB, .int), (cO, .object "java/lang/Object")]) [0, 1] rfl
        refine W.widen (k := 42) (n := 1450) (by omega) (by omega) ?_
        exact W.zret (v := 1) (ty := .boolean) hx hb hr rfl (fun t ht hW => ⟨⟨1, [(h1, .inr (0, [.int mc2_29, .ref ad2_26, .int 1])), (ad2_26, .inl (cO, cap2_27, .inr (.inr (.inr (.inr g1_28))))), (q_14, .inr (3, [.int kd_16, .int pe_17, .int ot_18, .int (nI tt_15), .int dy_19, .long gr_20]))], rfl, Or.inr ⟨mc2_29, ad2_26, cap2_27, 1, g1_28, ((q_14, .inr (3, [.int kd_16, .int pe_17, .int ot_18, .int (nI tt_15), .int dy_19, .long gr_20])) :: []), rfl, rfl, by omega, by omega, by omega, by omega, (Nat.le_trans hz_25 hf_33), (okLp.one hf_32 hl_21 hk_22 (Nat.le_trans hz_8 hq_23))⟩, s1_9, e1_10, (by omega), (by omega), (by assumption), by rw [ht]; exact hP9, va_K.moved hW.alike hK9, hD9⟩, hS.F ht⟩) hS.2.2 dX4_readLines_49
