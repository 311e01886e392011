theorem dX6_countingLines_4 : decode cX6_countingLines 4 = .ok (.iload_n 2, 1) := by decide +kernel
theorem dX6_countingLines_5 : decode cX6_countingLines 5 = .ok (.aload_n 0, 1) := by decide +kernel
theorem dX6_countingLines_6 : decode cX6_countingLines 6 = .ok (.getfield 53, 3) := by decide +kernel
theorem dX6_countingLines_9 : decode cX6_countingLines 9 = .ok (.if_icmp .ge 47, 3) := by decide +kernel
theorem dX6_countingLines_12 : decode cX6_countingLines 12 = .ok (.aload_n 0, 1) := by decide +kernel
theorem dX6_countingLines_13 : decode cX6_countingLines 13 = .ok (.aload_n 0, 1) := by decide +kernel
theorem dX6_countingLines_14 : decode cX6_countingLines 14 = .ok (.getfield 13, 3) := by decide +kernel
theorem dX6_countingLines_17 : decode cX6_countingLines 17 = .ok (.iload_n 2, 1) := by decide +kernel
theorem dX6_countingLines_18 : decode cX6_countingLines 18 = .ok (.iaload, 1) := by decide +kernel
theorem dX6_countingLines_19 : decode cX6_countingLines 19 = .ok (.invokevirtual 105, 3) := by decide +kernel
theorem dX6_countingLines_22 : decode cX6_countingLines 22 = .ok (.ifCond .eq 28, 3) := by decide +kernel
theorem dX6_countingLines_50 : decode cX6_countingLines 50 = .ok (.iinc 2 1, 3) := by decide +kernel
theorem dX6_countingLines_53 : decode cX6_countingLines 53 = .ok (.goto (-49), 3) := by decide +kernel
theorem dX6_countingLines_25 : decode cX6_countingLines 25 = .ok (.iload_n 1, 1) := by decide +kernel
theorem dX6_countingLines_26 : decode cX6_countingLines 26 = .ok (.aload_n 0, 1) := by decide +kernel
theorem dX6_countingLines_27 : decode cX6_countingLines 27 = .ok (.getfield 19, 3) := by decide +kernel
theorem dX6_countingLines_30 : decode cX6_countingLines 30 = .ok (.aload_n 0, 1) := by decide +kernel
theorem dX6_countingLines_31 : decode cX6_countingLines 31 = .ok (.getfield 13, 3) := by decide +kernel
theorem dX6_countingLines_34 : decode cX6_countingLines 34 = .ok (.iload_n 2, 1) := by decide +kernel
theorem dX6_countingLines_35 : decode cX6_countingLines 35 = .ok (.iaload, 1) := by decide +kernel
theorem dX6_countingLines_36 : decode cX6_countingLines 36 = .ok (.invokevirtual 108, 3) := by decide +kernel
theorem dX6_countingLines_39 : decode cX6_countingLines 39 = .ok (.checkcast 112, 3) := by decide +kernel
theorem dX6_countingLines_42 : decode cX6_countingLines 42 = .ok (.getfield 114, 3) := by decide +kernel
theorem dX6_countingLines_45 : decode cX6_countingLines 45 = .ok (.invokevirtual 91, 3) := by decide +kernel
theorem dX6_countingLines_48 : decode cX6_countingLines 48 = .ok (.iadd, 1) := by decide +kernel
theorem dX6_countingLines_49 : decode cX6_countingLines 49 = .ok (.istore_n 1, 1) := by decide +kernel
theorem dX6_countingLines_0 : decode cX6_countingLines 0 = .ok (.iconst 0, 1) := by decide +kernel
theorem dX6_countingLines_1 : decode cX6_countingLines 1 = .ok (.istore_n 1, 1) := by decide +kernel
theorem dX6_countingLines_2 : decode cX6_countingLines 2 = .ok (.iconst 0, 1) := by decide +kernel
theorem dX6_countingLines_3 : decode cX6_countingLines 3 = .ok (.istore_n 2, 1) := by decide +kernel
theorem dX6_countingLines_56 : decode cX6_countingLines 56 = .ok (.iload_n 1, 1) := by decide +kernel
theorem dX6_countingLines_57 : decode cX6_countingLines 57 = .ok (.ireturn, 1) := by decide +kernel
theorem dX6_of_0 : decode cX6_of 0 = .ok (.aload_n 0, 1) := by decide +kernel
theorem dX6_of_1 : decode cX6_of 1 = .ok (.iload_n 1, 1) := by decide +kernel
theorem dX6_of_2 : decode cX6_of 2 = .ok (.invokevirtual 105, 3) := by decide +kernel
theorem dX6_of_5 : decode cX6_of 5 = .ok (.ifCond .ne 5, 3) := by decide +kernel
theorem dX6_of_10 : decode cX6_of 10 = .ok (.aload_n 0, 1) := by decide +kernel
theorem dX6_of_11 : decode cX6_of 11 = .ok (.getfield 19, 3) := by decide +kernel
theorem dX6_of_14 : decode cX6_of 14 = .ok (.iload_n 1, 1) := by decide +kernel
theorem dX6_of_15 : decode cX6_of 15 = .ok (.invokevirtual 108, 3) := by decide +kernel
theorem dX6_of_18 : decode cX6_of 18 = .ok (.checkcast 112, 3) := by decide +kernel
theorem dX6_of_21 : decode cX6_of 21 = .ok (.astore_n 3, 1) := by decide +kernel
theorem dX6_of_22 : decode cX6_of 22 = .ok (.iload_n 2, 1) := by decide +kernel
theorem dX6_of_23 : decode cX6_of 23 = .ok (.tableswitch 57 0 2 #[25, 33, 38], 25) := by decide +kernel
theorem dX6_of_48 : decode cX6_of 48 = .ok (.aload_n 3, 1) := by decide +kernel
theorem dX6_of_49 : decode cX6_of 49 = .ok (.getfield 114, 3) := by decide +kernel
theorem dX6_of_52 : decode cX6_of 52 = .ok (.invokevirtual 91, 3) := by decide +kernel
theorem dX6_of_55 : decode cX6_of 55 = .ok (.ireturn, 1) := by decide +kernel
theorem dX6_of_56 : decode cX6_of 56 = .ok (.aload_n 3, 1) := by decide +kernel
theorem dX6_of_57 : decode cX6_of 57 = .ok (.getfield 117, 3) := by decide +kernel
theorem dX6_of_60 : decode cX6_of 60 = .ok (.ireturn, 1) := by decide +kernel
theorem dX6_of_61 : decode cX6_of 61 = .ok (.aload_n 0, 1) := by decide +kernel
theorem dX6_of_62 : decode cX6_of 62 = .ok (.getfield 13, 3) := by decide +kernel
theorem dX6_of_65 : decode cX6_of 65 = .ok (.aload_n 3, 1) := by decide +kernel
theorem dX6_of_66 : decode cX6_of 66 = .ok (.getfield 117, 3) := by decide +kernel
theorem dX6_of_69 : decode cX6_of 69 = .ok (.iaload, 1) := by decide +kernel
theorem dX6_of_70 : decode cX6_of 70 = .ok (.iload_n 1, 1) := by decide +kernel
theorem dX6_of_71 : decode cX6_of 71 = .ok (.if_icmp .ne 7, 3) := by decide +kernel
theorem dX6_of_78 : decode cX6_of 78 = .ok (.iconst 0, 1) := by decide +kernel
theorem dX6_of_79 : decode cX6_of 79 = .ok (.ireturn, 1) := by decide +kernel
theorem dX6_of_74 : decode cX6_of 74 = .ok (.iconst 1, 1) := by decide +kernel
theorem dX6_of_75 : decode cX6_of 75 = .ok (.goto 4, 3) := by decide +kernel
theorem dX6_of_80 : decode cX6_of 80 = .ok (.iconst (-1), 1) := by decide +kernel
theorem dX6_of_81 : decode cX6_of 81 = .ok (.ireturn, 1) := by decide +kernel
theorem dX6_of_8 : decode cX6_of 8 = .ok (.iconst (-1), 1) := by decide +kernel
theorem dX6_of_9 : decode cX6_of 9 = .ok (.ireturn, 1) := by decide +kernel
def wp_X6_countingLines : List Cond := .code yX6_countingLines cX6_countingLines 3 (some .int) :: (([.fieldLink RX6 53 "AgreedTalks" "meetings" "I", .fieldLink RX6 13 "AgreedTalks" "counting" "[I", .fieldLink RX6 19 "AgreedTalks" "records" "Ljava/util/ArrayList;", .classLink RX6 112 RX3, .fieldLink RX6 114 "AgreedTalks$Minutes" "lines" "Ljava/util/ArrayList;"] : List Cond) ++ wsX60 ++ wsX30 ++ (wsV RX6 105 RX6 yX6_isRecord wp_X6_isRecord) ++ (wsV RX6 108 RJx4a65c yJx4a65c_get_915e3 wp_AL_get) ++ (wsV RX6 91 RJx4a65c yJx4a65c_size_8abf5 wp_AL_sizeF))
theorem gc_X6_countingLines_X6_isRecord : GoodIn wp_X6_countingLines (wsV RX6 105 RX6 yX6_isRecord wp_X6_isRecord) := goodIn_sub (fun _ h => List.mem_cons_of_mem _ (List.mem_append_left _ (List.mem_append_left _ (List.mem_append_right _ h)))) (by decide +kernel)
theorem gc_X6_countingLines_AL_get : GoodIn wp_X6_countingLines (wsV RX6 108 RJx4a65c yJx4a65c_get_915e3 wp_AL_get) := goodIn_sub (fun _ h => List.mem_cons_of_mem _ (List.mem_append_left _ (List.mem_append_right _ h))) (by decide +kernel)
theorem gc_X6_countingLines_AL_sizeF : GoodIn wp_X6_countingLines (wsV RX6 91 RJx4a65c yJx4a65c_size_8abf5 wp_AL_sizeF) := goodIn_sub (fun _ h => List.mem_cons_of_mem _ (List.mem_append_right _ h)) (by decide +kernel)
set_option maxRecDepth 20000 in
theorem gi_X6_countingLines : GoodIn lw_tbl wp_X6_countingLines := (goodIn_ca (goodIn_ca (goodIn_ca (goodIn_ca (goodIn_ca (goodIn_r (.code yX6_countingLines cX6_countingLines 3 (some .int) :: ([.fieldLink RX6 53 "AgreedTalks" "meetings" "I", .fieldLink RX6 13 "AgreedTalks" "counting" "[I", .fieldLink RX6 19 "AgreedTalks" "records" "Ljava/util/ArrayList;", .classLink RX6 112 RX3, .fieldLink RX6 114 "AgreedTalks$Minutes" "lines" "Ljava/util/ArrayList;"] : List Cond)) [662, 196, 190, 191, 466, 475] (by decide +kernel) (by decide +kernel)) wi_wsX6) wi_wsX3) (goodIn_app (goodIn_r _ [490, 492, 16, 48] (by decide +kernel) (by decide +kernel)) gi_X6_isRecord)) (goodIn_app (goodIn_r _ [494, 495, 496, 51] (by decide +kernel) (by decide +kernel)) gi_AL_get)) (goodIn_app (goodIn_r _ [255, 256, 257, 51] (by decide +kernel) (by decide +kernel)) gi_AL_sizeF))
set_option maxHeartbeats 4000000 in
set_option maxRecDepth 100000 in
theorem sg_X6_countingLines_4 {p : Program} {l : Launch} {e : Env} {s : State} {m : MethodId} {args : Array Value} {below : List Frame} {meth : Method} {c : Code} {Q : State → Prop} {A : Nat → Prop} {dC : Nat → ClassId} {dI : Nat → Nat → Nat} (h0 : Nat) (a0 : Nat) (a1 : Nat) (a2 : Nat) (a3 : Nat) (a4 : Nat) (a5 : Nat) (a6 : Nat) (mk : Nat) (sh : Int32) (fp : Int32) (rf : Int32) (cC : ClassId) (fc : Nat → Int32) (mc : Int32) (ev : Value) (nr : Nat) (cO : ClassId) (qmk : mk ≤ 30) (qnr : nr < 2 ^ 31) (hx : p.tables.exec = Jvm.exec) (hb : c.code = cX6_countingLines) (hml : c.maxLocals = 3) (hown : s.vm.findClass RX6 = some m.cls) (hts : ∀ w ∈ wp_X6_countingLines, w.before args s = true) (hK : va_K (dC, dI) vwCl [(cC, .int), (cO, .object "java/lang/Object")] s) (hA : ∀ q : Nat, s.heap.size ≤ q → A q) (hRec : okRec (dC, dI) vwCl ev cO nr A s.heap) (kk_56 : ∀ (mv : Int32) (H : Heap) (locs : List Loc) (ls : Array Slot), okPD (dC, dI) vwCl A [(h0, .inr (7, [.ref a0, .ref a1, .ref a2, .ref a3, .ref a4, .ref a5, .ref a6, .int (nI mk), .int sh, .int fp, .int rf])), (a1, .inl (cC, 30, .inl fc)), (a2, .inr (0, [.int mc, ev, .int (nI nr)]))] H → va_S A s.heap H locs → lv_has ls 3 [(0, .ref h0), (1, .int mv)] → W p l e ({ frames := 3, cells := 0, slots := 0, locals := 100 } : Room) s m args below meth c H locs 0 0 Q (F0 m 56 ls [])) : ∀ (n : Nat) (mv : Int32) (k9 : Nat) (H : Heap) (locs : List Loc) (ls : Array Slot), mk - k9 < n → (k9 ≤ mk) → okPD (dC, dI) vwCl A [(h0, .inr (7, [.ref a0, .ref a1, .ref a2, .ref a3, .ref a4, .ref a5, .ref a6, .int (nI mk), .int sh, .int fp, .int rf])), (a1, .inl (cC, 30, .inl fc)), (a2, .inr (0, [.int mc, ev, .int (nI nr)]))] H → va_S A s.heap H locs → lv_has ls 3 [(0, .ref h0), (1, .int mv), (2, .int (nI k9))] → W p l e ({ frames := 3, cells := 0, slots := 0, locals := 100 } : Room) s m args below meth c H locs 0 0 Q (F0 m 4 ls []) := by
  have hinX6 : ∀ w ∈ u_ws RX6 TX6 11, w ∈ wp_X6_countingLines := fun _ h => List.mem_cons_of_mem _ (List.mem_append_left _ (List.mem_append_left _ (List.mem_append_left _ (List.mem_append_left _ (List.mem_append_right _ h)))))
  have hinX3 : ∀ w ∈ u_ws RX3 TX3 2, w ∈ wp_X6_countingLines := fun _ h => List.mem_cons_of_mem _ (List.mem_append_left _ (List.mem_append_left _ (List.mem_append_left _ (List.mem_append_right _ h))))
  intro n
  induction n with
  | zero =>
    intro mv k9 H locs ls hn
    exact absurd hn (Nat.not_lt_zero _)
  | succ n ih =>
    intro mv k9 H locs ls hn hk hPD hS hl
    obtain ⟨hP, hD⟩ := hPD
    refine lv_iload_n hx hb dX6_countingLines_4 rfl (lv_at hl 2 rfl) ?_
    refine lv_aload_n hx hb dX6_countingLines_5 rfl (lv_at hl 0 rfl) ?_
    refine va_get (D := (dC, dI)) (ci := 7) (v := .int (nI mk)) (C := RX6) (T := TX6) (N := 11) hx hb hts hinX6 hown hK hP 0 rfl rfl 7 (by decide) (hts (.fieldLink RX6 53 "AgreedTalks" "meetings" "I") (by decide +kernel)) (fun _ h9 => h9) rfl dX6_countingLines_6 ?_
    refine lv_icmp_ge (tgt := 56) hx hb dX6_countingLines_9 (by decide) (fun c_1 => ?_) (fun c_1 => ?_)
    · have c_1 : mk ≤ k9 := (nI_leI (a := mk) (b := k9) (by omega) (by omega)).mp c_1
      exact kk_56 mv _ _ _  ⟨hP, hD⟩ hS (lv_sub hl [0, 1] rfl)
    · have c_1 : ¬ (mk ≤ k9) := fun h => c_1 ((nI_leI (a := mk) (b := k9) (by omega) (by omega)).mpr h)
      refine lv_aload_n hx hb dX6_countingLines_12 rfl (lv_at hl 0 rfl) ?_
      refine lv_aload_n hx hb dX6_countingLines_13 rfl (lv_at hl 0 rfl) ?_
      refine va_get (D := (dC, dI)) (ci := 7) (v := .ref a1) (C := RX6) (T := TX6) (N := 11) hx hb hts hinX6 hown hK hP 0 rfl rfl 1 (by decide) (hts (.fieldLink RX6 13 "AgreedTalks" "counting" "[I") (by decide +kernel)) (fun _ h9 => h9) rfl dX6_countingLines_14 ?_
      refine lv_iload_n hx hb dX6_countingLines_17 rfl (lv_at hl 2 rfl) ?_
      refine va_iald hx hb hK hP 1 0 rfl rfl (vp_in_nI (by omega) (by omega)) dX6_countingLines_18 ?_
      refine lv_topi (fun x_2 ex_2 => ?_)
      rw [show (Int32.toNatClampNeg (nI k9)) = k9 from nI_clamp (by omega)] at ex_2
      have hPc := hP.sub (ws' := [(h0, .inr (7, [.ref a0, .ref a1, .ref a2, .ref a3, .ref a4, .ref a5, .ref a6, .int (nI mk), .int sh, .int fp, .int rf])), (a2, .inr (0, [.int mc, ev, .int (nI nr)]))]) [0, 2] rfl
      have hDc := hD.sub (ws' := [(h0, .inr (7, [.ref a0, .ref a1, .ref a2, .ref a3, .ref a4, .ref a5, .ref a6, .int (nI mk), .int sh, .int fp, .int rf])), (a2, .inr (0, [.int mc, ev, .int (nI nr)]))]) [0, 2] (by decide) rfl
      have hKc := hK.sub (tys' := []) [] rfl
      have hFc := va_free (wc := [(h0, .inr (7, [.ref a0, .ref a1, .ref a2, .ref a3, .ref a4, .ref a5, .ref a6, .int (nI mk), .int sh, .int fp, .int rf])), (a2, .inr (0, [.int mc, ev, .int (nI nr)]))]) hD hS hA [0, 2] rfl
      refine va_calli (va_runV (As := [.int x_2]) (rest := []) ⟨hx, hb, hml, hown, hts⟩ (c_X6_isRecord l dC dI _ h0 a0 a1 a2 a3 a4 a5 a6 mk sh fp rf x_2 mc ev nr (by omega)) (cwV 1 hts gc_X6_countingLines_X6_isRecord rfl rfl rfl (by decide +kernel) ⟨Nat.le_of_ble_eq_true rfl, Nat.le_of_ble_eq_true rfl⟩) ⟨fun a U g mk q => by obtain ⟨q0, q1, qP, qK, qD⟩ := q; exact ⟨q0, q1, qP, va_K.moved (u := U) (U := U.calling g mk a) (Vm.Alike.refl U.vm) qK, qD⟩, va_recv hKc hPc (ci := 7) (q0 := 0) rfl rfl, fun U hU hW => ⟨rfl, by rw [hU], by rw [hU]; exact hPc, va_K.moved hW.alike hKc, hDc.weaken (fun _ _ _ _ => trivial)⟩⟩ rfl rfl hl.1 rfl (lv_room (Nat.le_of_ble_eq_true rfl)) dX6_countingLines_19 ⟨Nat.zero_le _, Nat.zero_le _⟩) hS (fun q _ h => hFc q h) hFc (fun r_3 u t H1 locs ht hvm hw hB hz1 hk1 hS => ?_)
      obtain ⟨hP1, hK1, hD1⟩ := hB
      rw [ht] at hP1
      obtain ⟨hP, hD⟩ := va_join (wr := [(a1, .inl (cC, 30, .inl fc))]) (w1 := [(h0, .inr (7, [.ref a0, .ref a1, .ref a2, .ref a3, .ref a4, .ref a5, .ref a6, .int (nI mk), .int sh, .int fp, .int rf])), (a2, .inr (0, [.int mc, ev, .int (nI nr)]))]) hP hD [0, 2] [1] rfl rfl (by decide) (by decide) hk1 hFc hP1 hD1
      generalize H1 = H at hP hS ⊢
      have hP : va_P (dC, dI) vwCl [(a1, .inl (cC, 30, .inl fc)), (h0, .inr (7, [.ref a0, .ref a1, .ref a2, .ref a3, .ref a4, .ref a5, .ref a6, .int (nI mk), .int sh, .int fp, .int rf])), (a2, .inr (0, [.int mc, ev, .int (nI nr)]))] H := hP
      have hD : va_D A [(a1, .inl (cC, 30, .inl fc)), (h0, .inr (7, [.ref a0, .ref a1, .ref a2, .ref a3, .ref a4, .ref a5, .ref a6, .int (nI mk), .int sh, .int fp, .int rf])), (a2, .inr (0, [.int mc, ev, .int (nI nr)]))] := hD
      have hr_3 := hw
      try dsimp only at hr_3
      refine lv_if_eq (tgt := 50) hx hb dX6_countingLines_22 (by decide) (fun c_4 => ?_) (fun c_4 => ?_)
      · refine lv_iinc (v := (nI (k9 + 1))) (lv' := [(2, .int (nI (k9 + 1))), (0, .ref h0), (1, .int mv)]) hx hb dX6_countingLines_50 hl (k := 2) rfl (nI_1 _) (by decide) rfl (fun ls hl => ?_)
        refine lv_goto (tgt := 4) hx hb dX6_countingLines_53 (by decide) ?_
        exact ih mv (k9 + 1) _ _ _ (by omega) (by omega) ⟨(hP.sub [1, 0, 2] rfl), (hD.sub [1, 0, 2] (by decide) rfl)⟩ hS (lv_sub hl [1, 2, 0] rfl)
      · obtain ⟨n_5, hn_5, en_5⟩ : ∃ n, n < nr ∧ x_2 = nI n := by
          rcases hr_3 with h | ⟨_, h⟩
          · exact absurd h c_4
          · exact h
        have hv : fc k9 = nI n_5 := by rw [← ex_2]; exact en_5
        rcases hRec with h0r | ⟨ad, cap, g, hev, hnc, hcap, fzR, hRs⟩
        · exact absurd hn_5 (by omega)
        obtain ⟨qv, mt, lp, mcl, adl, nl, capl, gl, hg, fzm, hmt, fzA2, fzR2, hn20, hnl, hcl, hLs⟩ := hRs n_5 hn_5
        subst hev
        refine lv_iload_n hx hb dX6_countingLines_25 rfl (lv_at hl 1 rfl) ?_
        refine lv_aload_n hx hb dX6_countingLines_26 rfl (lv_at hl 0 rfl) ?_
        refine va_get (D := (dC, dI)) (ci := 7) (v := .ref a2) (C := RX6) (T := TX6) (N := 11) hx hb hts hinX6 hown hK hP 1 rfl rfl 2 (by decide) (hts (.fieldLink RX6 19 "AgreedTalks" "records" "Ljava/util/ArrayList;") (by decide +kernel)) (fun _ h9 => h9) rfl dX6_countingLines_27 ?_
        refine lv_aload_n hx hb dX6_countingLines_30 rfl (lv_at hl 0 rfl) ?_
        refine va_get (D := (dC, dI)) (ci := 7) (v := .ref a1) (C := RX6) (T := TX6) (N := 11) hx hb hts hinX6 hown hK hP 1 rfl rfl 1 (by decide) (hts (.fieldLink RX6 13 "AgreedTalks" "counting" "[I") (by decide +kernel)) (fun _ h9 => h9) rfl dX6_countingLines_31 ?_
        refine lv_iload_n hx hb dX6_countingLines_34 rfl (lv_at hl 2 rfl) ?_
        refine va_iald hx hb hK hP 0 0 rfl rfl (vp_in_nI (by omega) (by omega)) dX6_countingLines_35 ?_
        refine lv_topi (fun x_6 ex_6 => ?_)
        rw [show (Int32.toNatClampNeg (nI k9)) = k9 from nI_clamp (by omega)] at ex_6
        rw [hv] at ex_6
        subst ex_6
        have hPc := hP.sub (ws' := []) [] rfl
        have hDc := hD.sub (ws' := []) [] (by decide) rfl
        have hKc := hK.sub (tys' := [(cO, .object "java/lang/Object")]) [1] rfl
        have hFc := va_free (wc := []) hD hS hA [] rfl
        refine va_callr (va_runV (As := [.int (nI n_5)]) (rest := [.int mv]) ⟨hx, hb, hml, hown, hts⟩ (c_AL_get l dC dI _ a2 ad nr cap n_5 mc cO g qv (by omega) (by omega) (by omega) hg) (cwV 1 hts gc_X6_countingLines_AL_get rfl rfl rfl (by decide +kernel) ⟨Nat.le_of_ble_eq_true rfl, Nat.le_of_ble_eq_true rfl⟩) ⟨fun a U g mk q => by obtain ⟨q0, q1, qP, qK, qD, q_fzA, q_fzR⟩ := q; exact ⟨q0, q1, qP, va_K.moved (u := U) (U := U.calling g mk a) (Vm.Alike.refl U.vm) qK, qD, q_fzA, q_fzR⟩, va_recv hK hP (ci := 0) (q0 := 2) rfl rfl, fun U hU hW => ⟨rfl, by rw [hU], by rw [hU]; exact hPc, va_K.moved hW.alike hKc, hDc.weaken (fun _ _ _ _ => trivial), by rw [hU]; exact okF.of hP hD 2 rfl [] rfl (by decide), by rw [hU]; exact okF.pass fzR hS hFc⟩⟩ rfl rfl hl.1 rfl (lv_room (Nat.le_of_ble_eq_true rfl)) dX6_countingLines_36 ⟨Nat.zero_le _, Nat.zero_le _⟩) hS (fun q _ h => hFc q h) hFc (fun u r_7 t H1 locs ht hvm hw hB hz1 hk1 hS => ?_)
        obtain ⟨er_7, hP1, hK1, hD1⟩ := hB
        rw [ht] at hP1
        obtain ⟨hP, hD⟩ := va_join (wr := [(a1, .inl (cC, 30, .inl fc)), (h0, .inr (7, [.ref a0, .ref a1, .ref a2, .ref a3, .ref a4, .ref a5, .ref a6, .int (nI mk), .int sh, .int fp, .int rf])), (a2, .inr (0, [.int mc, .ref ad, .int (nI nr)]))]) (w1 := []) hP hD [] [0, 1, 2] rfl rfl (by decide) (by decide) hk1 hFc hP1 hD1
        generalize H1 = H at hP hS ⊢
        have hP : va_P (dC, dI) vwCl [(a1, .inl (cC, 30, .inl fc)), (h0, .inr (7, [.ref a0, .ref a1, .ref a2, .ref a3, .ref a4, .ref a5, .ref a6, .int (nI mk), .int sh, .int fp, .int rf])), (a2, .inr (0, [.int mc, .ref ad, .int (nI nr)]))] H := hP
        have hD : va_D A [(a1, .inl (cC, 30, .inl fc)), (h0, .inr (7, [.ref a0, .ref a1, .ref a2, .ref a3, .ref a4, .ref a5, .ref a6, .int (nI mk), .int sh, .int fp, .int rf])), (a2, .inr (0, [.int mc, .ref ad, .int (nI nr)]))] := hD
        have er_7 := er_7.symm
        subst er_7
        have hPz := okF.kept fzm hS
        refine va_castE hx hb hown (hts (.classLink RX6 112 RX3) (by decide +kernel)) (va_recv hK hPz (ci := 4) (q0 := 0) rfl rfl) dX6_countingLines_39 ?_
        have hPz := okF.kept fzm hS
        refine va_get (D := (dC, dI)) (ci := 4) (v := .ref lp) (C := RX3) (T := TX3) (N := 2) hx hb hts hinX3 hown hK hPz 0 rfl rfl 1 (by decide) (hts (.fieldLink RX6 114 "AgreedTalks$Minutes" "lines" "Ljava/util/ArrayList;") (by decide +kernel)) (fun _ h9 => h9) rfl dX6_countingLines_42 ?_
        have hPc := hP.sub (ws' := []) [] rfl
        have hDc := hD.sub (ws' := []) [] (by decide) rfl
        have hKc := hK.sub (tys' := []) [] rfl
        have hFc := va_free (wc := []) hD hS hA [] rfl
        refine va_calli (va_runV (As := []) (rest := [.int mv]) ⟨hx, hb, hml, hown, hts⟩ (c_AL_sizeF l dC dI _ lp adl nl mcl) (cwV 0 hts gc_X6_countingLines_AL_sizeF rfl rfl rfl (by decide +kernel) ⟨Nat.le_of_ble_eq_true rfl, Nat.le_of_ble_eq_true rfl⟩) ⟨fun a U g mk q => by obtain ⟨q0, q1, qP, qK, qD, q_fzA⟩ := q; exact ⟨q0, q1, qP, va_K.moved (u := U) (U := U.calling g mk a) (Vm.Alike.refl U.vm) qK, qD, q_fzA⟩, va_recv hKc (okF.kept fzA2 hS) (ci := 0) (q0 := 0) rfl rfl, fun U hU hW => ⟨rfl, by rw [hU], by rw [hU]; exact hPc, va_K.moved hW.alike hKc, hDc.weaken (fun _ _ _ _ => trivial), by rw [hU]; exact okF.pass fzA2 hS hFc⟩⟩ rfl rfl hl.1 rfl (lv_room (Nat.le_of_ble_eq_true rfl)) dX6_countingLines_45 ⟨Nat.zero_le _, Nat.zero_le _⟩) hS (fun q _ h => hFc q h) hFc (fun r_8 u t H1 locs ht hvm hw hB hz1 hk1 hS => ?_)
        obtain ⟨hP1, hK1, hD1⟩ := hB
        rw [ht] at hP1
        obtain ⟨hP, hD⟩ := va_join (wr := [(a1, .inl (cC, 30, .inl fc)), (h0, .inr (7, [.ref a0, .ref a1, .ref a2, .ref a3, .ref a4, .ref a5, .ref a6, .int (nI mk), .int sh, .int fp, .int rf])), (a2, .inr (0, [.int mc, .ref ad, .int (nI nr)]))]) (w1 := []) hP hD [] [0, 1, 2] rfl rfl (by decide) (by decide) hk1 hFc hP1 hD1
        generalize H1 = H at hP hS ⊢
        have hP : va_P (dC, dI) vwCl [(a1, .inl (cC, 30, .inl fc)), (h0, .inr (7, [.ref a0, .ref a1, .ref a2, .ref a3, .ref a4, .ref a5, .ref a6, .int (nI mk), .int sh, .int fp, .int rf])), (a2, .inr (0, [.int mc, .ref ad, .int (nI nr)]))] H := hP
        have hD : va_D A [(a1, .inl (cC, 30, .inl fc)), (h0, .inr (7, [.ref a0, .ref a1, .ref a2, .ref a3, .ref a4, .ref a5, .ref a6, .int (nI mk), .int sh, .int fp, .int rf])), (a2, .inr (0, [.int mc, .ref ad, .int (nI nr)]))] := hD
        obtain rfl : r_8 = (nI nl) := hw
        refine lv_iadd hx hb dX6_countingLines_48 ?_
        refine lv_topi (fun x_9 ex_9 => ?_)
        refine lv_istore_n (lv' := [(1, .int x_9), (0, .ref h0), (2, .int (nI k9))]) hx hb dX6_countingLines_49 rfl hl (by decide) rfl (fun ls hl => ?_)
        refine lv_iinc (v := (nI (k9 + 1))) (lv' := [(2, .int (nI (k9 + 1))), (1, .int x_9), (0, .ref h0)]) hx hb dX6_countingLines_50 hl (k := 2) rfl (nI_1 _) (by decide) rfl (fun ls hl => ?_)
        refine lv_goto (tgt := 4) hx hb dX6_countingLines_53 (by decide) ?_
        exact ih x_9 (k9 + 1) _ _ _ (by omega) (by omega) ⟨(hP.sub [1, 0, 2] rfl), (hD.sub [1, 0, 2] (by decide) rfl)⟩ hS (lv_sub hl [2, 1, 0] rfl)
set_option maxHeartbeats 4000000 in
set_option maxRecDepth 100000 in
/-- countingLines -/
theorem c_X6_countingLines (l : Launch) (dC : Nat → ClassId) (dI : Nat → Nat → Nat) (sz : Nat) (h0 : Nat) (a0 : Nat) (a1 : Nat) (a2 : Nat) (a3 : Nat) (a4 : Nat) (a5 : Nat) (a6 : Nat) (mk : Nat) (sh : Int32) (fp : Int32) (rf : Int32) (cC : ClassId) (fc : Nat → Int32) (mc : Int32) (ev : Value) (nr : Nat) (cO : ClassId) (qmk : mk ≤ 30) (qnr : nr < 2 ^ 31) : Met l yX6_countingLines wp_X6_countingLines ({ frames := 3, cells := 0, slots := 0, locals := 100 }) (va_Pc [.ref h0] (fun U => U.heap.size = sz ∧ va_P (dC, dI) vwCl [(h0, .inr (7, [.ref a0, .ref a1, .ref a2, .ref a3, .ref a4, .ref a5, .ref a6, .int (nI mk), .int sh, .int fp, .int rf])), (a1, .inl (cC, 30, .inl fc)), (a2, .inr (0, [.int mc, ev, .int (nI nr)]))] U.heap ∧ va_K (dC, dI) vwCl [(cC, .int), (cO, .object "java/lang/Object")] U ∧ va_D (fun _ => True) [(h0, .inr (7, [.ref a0, .ref a1, .ref a2, .ref a3, .ref a4, .ref a5, .ref a6, .int (nI mk), .int sh, .int fp, .int rf])), (a1, .inl (cC, 30, .inl fc)), (a2, .inr (0, [.int mc, ev, .int (nI nr)]))] ∧ okRec (dC, dI) vwCl ev cO nr (va_A [(h0, .inr (7, [.ref a0, .ref a1, .ref a2, .ref a3, .ref a4, .ref a5, .ref a6, .int (nI mk), .int sh, .int fp, .int rf])), (a1, .inl (cC, 30, .inl fc)), (a2, .inr (0, [.int mc, ev, .int (nI nr)]))] sz) U.heap)) (va_Qi (fun (r : Int32) (_ : Unit) => True) (fun (_ : Unit) (t : State) => va_P (dC, dI) vwCl [(h0, .inr (7, [.ref a0, .ref a1, .ref a2, .ref a3, .ref a4, .ref a5, .ref a6, .int (nI mk), .int sh, .int fp, .int rf])), (a1, .inl (cC, 30, .inl fc)), (a2, .inr (0, [.int mc, ev, .int (nI nr)]))] t.heap ∧ va_K (dC, dI) vwCl [(cC, .int), (cO, .object "java/lang/Object")] t ∧ va_D (va_A [(h0, .inr (7, [.ref a0, .ref a1, .ref a2, .ref a3, .ref a4, .ref a5, .ref a6, .int (nI mk), .int sh, .int fp, .int rf])), (a1, .inl (cC, 30, .inl fc)), (a2, .inr (0, [.int mc, ev, .int (nI nr)]))] sz) [(h0, .inr (7, [.ref a0, .ref a1, .ref a2, .ref a3, .ref a4, .ref a5, .ref a6, .int (nI mk), .int sh, .int fp, .int rf])), (a1, .inl (cC, 30, .inl fc)), (a2, .inr (0, [.int mc, ev, .int (nI nr)]))]) (va_A [(h0, .inr (7, [.ref a0, .ref a1, .ref a2, .ref a3, .ref a4, .ref a5, .ref a6, .int (nI mk), .int sh, .int fp, .int rf])), (a1, .inl (cC, 30, .inl fc)), (a2, .inr (0, [.int mc, ev, .int (nI nr)]))] sz)) 0 0 (va_A [(h0, .inr (7, [.ref a0, .ref a1, .ref a2, .ref a3, .ref a4, .ref a5, .ref a6, .int (nI mk), .int sh, .int fp, .int rf])), (a1, .inl (cC, 30, .inl fc)), (a2, .inr (0, [.int mc, ev, .int (nI nr)]))] sz) := by
  refine Met.ofW (cc := cX6_countingLines) (maxL := 3) (ret := (some .int)) (by decide) rfl ?_
  intro p e s m args below meth c s₁ B hml hv
  obtain ⟨rfl, hsz, hP, hK, hD0, hRec⟩ := hv
  have hx := B.exec
  have hb := B.bytes
  have hr := B.returns
  have hts := atoms_spec (ws := wp_X6_countingLines) B.pre
  have hown : s.vm.findClass RX6 = some m.cls := findClass_of_methodNamed B.named
  have hlocks := B.notSynchronized
  subst hsz
  have hD := hD0.self (sz := s.heap.size)
  generalize hAe : va_A [(h0, .inr (7, [.ref a0, .ref a1, .ref a2, .ref a3, .ref a4, .ref a5, .ref a6, .int (nI mk), .int sh, .int fp, .int rf])), (a1, .inl (cC, 30, .inl fc)), (a2, .inr (0, [.int mc, ev, .int (nI nr)]))] s.heap.size = A at hD hRec ⊢
  have hA : ∀ q : Nat, s.heap.size ≤ q → A q := fun q h => by rw [← hAe]; exact Or.inr h
  have hS : va_S A s.heap s.heap [] := va_S.rf
  have hP : va_P (dC, dI) vwCl [(h0, .inr (7, [.ref a0, .ref a1, .ref a2, .ref a3, .ref a4, .ref a5, .ref a6, .int (nI mk), .int sh, .int fp, .int rf])), (a1, .inl (cC, 30, .inl fc)), (a2, .inr (0, [.int mc, ev, .int (nI nr)]))] s.heap := hP
  have hl := lv_entry ([.ref h0]) (n := 3) (Nat.le_of_ble_eq_true rfl)
  rw [lg_entry_eq]
  generalize (lg_sl ([.ref h0]) ++ List.replicate (3 - (lg_sl ([.ref h0])).length) Slot.unset).toArray = ls at hl ⊢
  have hl : lv_has ls 3 [(0, .ref h0)] := hl
  have hinX6 : ∀ w ∈ u_ws RX6 TX6 11, w ∈ wp_X6_countingLines := fun _ h => List.mem_cons_of_mem _ (List.mem_append_left _ (List.mem_append_left _ (List.mem_append_left _ (List.mem_append_left _ (List.mem_append_right _ h)))))
  have hinX3 : ∀ w ∈ u_ws RX3 TX3 2, w ∈ wp_X6_countingLines := fun _ h => List.mem_cons_of_mem _ (List.mem_append_left _ (List.mem_append_left _ (List.mem_append_left _ (List.mem_append_right _ h))))
  refine lv_iconst (v := 0) hx hb dX6_countingLines_0 (by decide) ?_
  refine lv_istore_n (lv' := [(1, .int 0), (0, .ref h0)]) hx hb dX6_countingLines_1 rfl hl (by decide) rfl (fun ls hl => ?_)
  refine lv_iconst (v := 0) hx hb dX6_countingLines_2 (by decide) ?_
  refine lv_istore_n (lv' := [(2, .int 0), (1, .int 0), (0, .ref h0)]) hx hb dX6_countingLines_3 rfl hl (by decide) rfl (fun ls hl => ?_)
  refine sg_X6_countingLines_4 h0 a0 a1 a2 a3 a4 a5 a6 mk sh fp rf cC fc mc ev nr cO qmk qnr hx hb hml hown hts hK hA hRec (fun mv_10 H locs ls  hPD hS hl => ?_) ((mk - 0) + 1) 0 0 _ _ _ (Nat.lt_succ_self _) (by omega) ⟨hP, hD⟩ hS (lv_sub hl [2, 1, 0] rfl)
  obtain ⟨hP, hD⟩ := hPD
  refine lv_iload_n hx hb dX6_countingLines_56 rfl (lv_at hl 1 rfl) ?_
  have hP9 := hP.sub (ws' := [(h0, .inr (7, [.ref a0, .ref a1, .ref a2, .ref a3, .ref a4, .ref a5, .ref a6, .int (nI mk), .int sh, .int fp, .int rf])), (a1, .inl (cC, 30, .inl fc)), (a2, .inr (0, [.int mc, ev, .int (nI nr)]))]) [0, 1, 2] rfl
  have hD9 := hD.sub (ws' := [(h0, .inr (7, [.ref a0, .ref a1, .ref a2, .ref a3, .ref a4, .ref a5, .ref a6, .int (nI mk), .int sh, .int fp, .int rf])), (a1, .inl (cC, 30, .inl fc)), (a2, .inr (0, [.int mc, ev, .int (nI nr)]))]) [0, 1, 2] (by decide) rfl
  have hK9 := hK.sub (tys' := [(cC, .int), (cO, .object "java/lang/Object")]) [0, 1] rfl
  exact W.iret (v := mv_10) hx hb hr (fun t ht hW => ⟨⟨mv_10, (), rfl, trivial, by rw [ht]; exact hP9, va_K.moved hW.alike hK9, hD9⟩, hS.F ht⟩) hS.2.2 dX6_countingLines_57
def wp_X6_of : List Cond := .code yX6_of cX6_of 4 (some .int) :: (([.fieldLink RX6 19 "AgreedTalks" "records" "Ljava/util/ArrayList;", .classLink RX6 112 RX3, .fieldLink RX6 114 "AgreedTalks$Minutes" "lines" "Ljava/util/ArrayList;", .fieldLink RX6 117 "AgreedTalks$Minutes" "meeting" "I", .fieldLink RX6 13 "AgreedTalks" "counting" "[I"] : List Cond) ++ wsX60 ++ wsX30 ++ (wsV RX6 105 RX6 yX6_isRecord wp_X6_isRecord) ++ (wsV RX6 108 RJx4a65c yJx4a65c_get_915e3 wp_AL_get) ++ (wsV RX6 91 RJx4a65c yJx4a65c_size_8abf5 wp_AL_sizeF))
theorem gc_X6_of_X6_isRecord : GoodIn wp_X6_of (wsV RX6 105 RX6 yX6_isRecord wp_X6_isRecord) := goodIn_sub (fun _ h => List.mem_cons_of_mem _ (List.mem_append_left _ (List.mem_append_left _ (List.mem_append_right _ h)))) (by decide +kernel)
theorem gc_X6_of_AL_get : GoodIn wp_X6_of (wsV RX6 108 RJx4a65c yJx4a65c_get_915e3 wp_AL_get) := goodIn_sub (fun _ h => List.mem_cons_of_mem _ (List.mem_append_left _ (List.mem_append_right _ h))) (by decide +kernel)
theorem gc_X6_of_AL_sizeF : GoodIn wp_X6_of (wsV RX6 91 RJx4a65c yJx4a65c_size_8abf5 wp_AL_sizeF) := goodIn_sub (fun _ h => List.mem_cons_of_mem _ (List.mem_append_right _ h)) (by decide +kernel)
set_option maxRecDepth 20000 in
theorem gi_X6_of : GoodIn lw_tbl wp_X6_of := (goodIn_ca (goodIn_ca (goodIn_ca (goodIn_ca (goodIn_ca (goodIn_r (.code yX6_of cX6_of 4 (some .int) :: ([.fieldLink RX6 19 "AgreedTalks" "records" "Ljava/util/ArrayList;", .classLink RX6 112 RX3, .fieldLink RX6 114 "AgreedTalks$Minutes" "lines" "Ljava/util/ArrayList;", .fieldLink RX6 117 "AgreedTalks$Minutes" "meeting" "I", .fieldLink RX6 13 "AgreedTalks" "counting" "[I"] : List Cond)) [489, 191, 466, 475, 473, 190] (by decide +kernel) (by decide +kernel)) wi_wsX6) wi_wsX3) (goodIn_app (goodIn_r _ [490, 492, 16, 48] (by decide +kernel) (by decide +kernel)) gi_X6_isRecord)) (goodIn_app (goodIn_r _ [494, 495, 496, 51] (by decide +kernel) (by decide +kernel)) gi_AL_get)) (goodIn_app (goodIn_r _ [255, 256, 257, 51] (by decide +kernel) (by decide +kernel)) gi_AL_sizeF))
set_option maxHeartbeats 4000000 in
set_option maxRecDepth 100000 in
/-- of -/
theorem c_X6_of (l : Launch) (dC : Nat → ClassId) (dI : Nat → Nat → Nat) (sz : Nat) (h0 : Nat) (a0 : Nat) (a1 : Nat) (a2 : Nat) (a3 : Nat) (a4 : Nat) (a5 : Nat) (a6 : Nat) (mk : Nat) (sh : Int32) (fp : Int32) (rf : Int32) (cC : ClassId) (fc : Nat → Int32) (mc : Int32) (ev : Value) (nr : Nat) (cO : ClassId) (p0 : Int32) (p1 : Int32) (qnr : nr < 2 ^ 31) : Met l yX6_of wp_X6_of ({ frames := 3, cells := 0, slots := 0, locals := 100 }) (va_Pc [.ref h0, .int p0, .int p1] (fun U => U.heap.size = sz ∧ va_P (dC, dI) vwCl [(h0, .inr (7, [.ref a0, .ref a1, .ref a2, .ref a3, .ref a4, .ref a5, .ref a6, .int (nI mk), .int sh, .int fp, .int rf])), (a1, .inl (cC, 30, .inl fc)), (a2, .inr (0, [.int mc, ev, .int (nI nr)]))] U.heap ∧ va_K (dC, dI) vwCl [(cC, .int), (cO, .object "java/lang/Object")] U ∧ va_D (fun _ => True) [(h0, .inr (7, [.ref a0, .ref a1, .ref a2, .ref a3, .ref a4, .ref a5, .ref a6, .int (nI mk), .int sh, .int fp, .int rf])), (a1, .inl (cC, 30, .inl fc)), (a2, .inr (0, [.int mc, ev, .int (nI nr)]))] ∧ okRec (dC, dI) vwCl ev cO nr (va_A [(h0, .inr (7, [.ref a0, .ref a1, .ref a2, .ref a3, .ref a4, .ref a5, .ref a6, .int (nI mk), .int sh, .int fp, .int rf])), (a1, .inl (cC, 30, .inl fc)), (a2, .inr (0, [.int mc, ev, .int (nI nr)]))] sz) U.heap)) (va_Qi (fun (r : Int32) (_ : Unit) => True) (fun (_ : Unit) (t : State) => va_P (dC, dI) vwCl [(h0, .inr (7, [.ref a0, .ref a1, .ref a2, .ref a3, .ref a4, .ref a5, .ref a6, .int (nI mk), .int sh, .int fp, .int rf])), (a1, .inl (cC, 30, .inl fc)), (a2, .inr (0, [.int mc, ev, .int (nI nr)]))] t.heap ∧ va_K (dC, dI) vwCl [(cC, .int), (cO, .object "java/lang/Object")] t ∧ va_D (va_A [(h0, .inr (7, [.ref a0, .ref a1, .ref a2, .ref a3, .ref a4, .ref a5, .ref a6, .int (nI mk), .int sh, .int fp, .int rf])), (a1, .inl (cC, 30, .inl fc)), (a2, .inr (0, [.int mc, ev, .int (nI nr)]))] sz) [(h0, .inr (7, [.ref a0, .ref a1, .ref a2, .ref a3, .ref a4, .ref a5, .ref a6, .int (nI mk), .int sh, .int fp, .int rf])), (a1, .inl (cC, 30, .inl fc)), (a2, .inr (0, [.int mc, ev, .int (nI nr)]))]) (va_A [(h0, .inr (7, [.ref a0, .ref a1, .ref a2, .ref a3, .ref a4, .ref a5, .ref a6, .int (nI mk), .int sh, .int fp, .int rf])), (a1, .inl (cC, 30, .inl fc)), (a2, .inr (0, [.int mc, ev, .int (nI nr)]))] sz)) 0 0 (va_A [(h0, .inr (7, [.ref a0, .ref a1, .ref a2, .ref a3, .ref a4, .ref a5, .ref a6, .int (nI mk), .int sh, .int fp, .int rf])), (a1, .inl (cC, 30, .inl fc)), (a2, .inr (0, [.int mc, ev, .int (nI nr)]))] sz) := by
  refine Met.ofW (cc := cX6_of) (maxL := 4) (ret := (some .int)) (by decide) rfl ?_
  intro p e s m args below meth c s₁ B hml hv
  obtain ⟨rfl, hsz, hP, hK, hD0, hRec⟩ := hv
  have hx := B.exec
  have hb := B.bytes
  have hr := B.returns
  have hts := atoms_spec (ws := wp_X6_of) B.pre
  have hown : s.vm.findClass RX6 = some m.cls := findClass_of_methodNamed B.named
  have hlocks := B.notSynchronized
  subst hsz
  have hD := hD0.self (sz := s.heap.size)
  generalize hAe : va_A [(h0, .inr (7, [.ref a0, .ref a1, .ref a2, .ref a3, .ref a4, .ref a5, .ref a6, .int (nI mk), .int sh, .int fp, .int rf])), (a1, .inl (cC, 30, .inl fc)), (a2, .inr (0, [.int mc, ev, .int (nI nr)]))] s.heap.size = A at hD hRec ⊢
  have hA : ∀ q : Nat, s.heap.size ≤ q → A q := fun q h => by rw [← hAe]; exact Or.inr h
  have hS : va_S A s.heap s.heap [] := va_S.rf
  have hP : va_P (dC, dI) vwCl [(h0, .inr (7, [.ref a0, .ref a1, .ref a2, .ref a3, .ref a4, .ref a5, .ref a6, .int (nI mk), .int sh, .int fp, .int rf])), (a1, .inl (cC, 30, .inl fc)), (a2, .inr (0, [.int mc, ev, .int (nI nr)]))] s.heap := hP
  have hl := lv_entry ([.ref h0, .int p0, .int p1]) (n := 4) (Nat.le_of_ble_eq_true rfl)
  rw [lg_entry_eq]
  generalize (lg_sl ([.ref h0, .int p0, .int p1]) ++ List.replicate (4 - (lg_sl ([.ref h0, .int p0, .int p1])).length) Slot.unset).toArray = ls at hl ⊢
  have hl : lv_has ls 4 [(0, .ref h0), (1, .int p0), (2, .int p1)] := hl
  have hinX6 : ∀ w ∈ u_ws RX6 TX6 11, w ∈ wp_X6_of := fun _ h => List.mem_cons_of_mem _ (List.mem_append_left _ (List.mem_append_left _ (List.mem_append_left _ (List.mem_append_left _ (List.mem_append_right _ h)))))
  have hinX3 : ∀ w ∈ u_ws RX3 TX3 2, w ∈ wp_X6_of := fun _ h => List.mem_cons_of_mem _ (List.mem_append_left _ (List.mem_append_left _ (List.mem_append_left _ (List.mem_append_right _ h))))
  refine lv_aload_n hx hb dX6_of_0 rfl (lv_at hl 0 rfl) ?_
  refine lv_iload_n hx hb dX6_of_1 rfl (lv_at hl 1 rfl) ?_
  have hPc := hP.sub (ws' := [(h0, .inr (7, [.ref a0, .ref a1, .ref a2, .ref a3, .ref a4, .ref a5, .ref a6, .int (nI mk), .int sh, .int fp, .int rf])), (a2, .inr (0, [.int mc, ev, .int (nI nr)]))]) [0, 2] rfl
  have hDc := hD.sub (ws' := [(h0, .inr (7, [.ref a0, .ref a1, .ref a2, .ref a3, .ref a4, .ref a5, .ref a6, .int (nI mk), .int sh, .int fp, .int rf])), (a2, .inr (0, [.int mc, ev, .int (nI nr)]))]) [0, 2] (by decide) rfl
  have hKc := hK.sub (tys' := []) [] rfl
  have hFc := va_free (wc := [(h0, .inr (7, [.ref a0, .ref a1, .ref a2, .ref a3, .ref a4, .ref a5, .ref a6, .int (nI mk), .int sh, .int fp, .int rf])), (a2, .inr (0, [.int mc, ev, .int (nI nr)]))]) hD hS hA [0, 2] rfl
  refine va_calli (va_runV (As := [.int p0]) (rest := []) ⟨hx, hb, hml, hown, hts⟩ (c_X6_isRecord l dC dI _ h0 a0 a1 a2 a3 a4 a5 a6 mk sh fp rf p0 mc ev nr (by omega)) (cwV 1 hts gc_X6_of_X6_isRecord rfl rfl rfl (by decide +kernel) ⟨Nat.le_of_ble_eq_true rfl, Nat.le_of_ble_eq_true rfl⟩) ⟨fun a U g mk q => by obtain ⟨q0, q1, qP, qK, qD⟩ := q; exact ⟨q0, q1, qP, va_K.moved (u := U) (U := U.calling g mk a) (Vm.Alike.refl U.vm) qK, qD⟩, va_recv hKc hPc (ci := 7) (q0 := 0) rfl rfl, fun U hU hW => ⟨rfl, by rw [hU], by rw [hU]; exact hPc, va_K.moved hW.alike hKc, hDc.weaken (fun _ _ _ _ => trivial)⟩⟩ rfl rfl hl.1 rfl (lv_room (Nat.le_of_ble_eq_true rfl)) dX6_of_2 ⟨Nat.zero_le _, Nat.zero_le _⟩) hS (fun q _ h => hFc q h) hFc (fun r_1 u t H1 locs ht hvm hw hB hz1 hk1 hS => ?_)
  obtain ⟨hP1, hK1, hD1⟩ := hB
  rw [ht] at hP1
  obtain ⟨hP, hD⟩ := va_join (wr := [(a1, .inl (cC, 30, .inl fc))]) (w1 := [(h0, .inr (7, [.ref a0, .ref a1, .ref a2, .ref a3, .ref a4, .ref a5, .ref a6, .int (nI mk), .int sh, .int fp, .int rf])), (a2, .inr (0, [.int mc, ev, .int (nI nr)]))]) hP hD [0, 2] [1] rfl rfl (by decide) (by decide) hk1 hFc hP1 hD1
  generalize H1 = H at hP hS ⊢
  have hP : va_P (dC, dI) vwCl [(a1, .inl (cC, 30, .inl fc)), (h0, .inr (7, [.ref a0, .ref a1, .ref a2, .ref a3, .ref a4, .ref a5, .ref a6, .int (nI mk), .int sh, .int fp, .int rf])), (a2, .inr (0, [.int mc, ev, .int (nI nr)]))] H := hP
  have hD : va_D A [(a1, .inl (cC, 30, .inl fc)), (h0, .inr (7, [.ref a0, .ref a1, .ref a2, .ref a3, .ref a4, .ref a5, .ref a6, .int (nI mk), .int sh, .int fp, .int rf])), (a2, .inr (0, [.int mc, ev, .int (nI nr)]))] := hD
  have hr_1 := hw
  try dsimp only at hr_1
  refine lv_if_ne (tgt := 10) hx hb dX6_of_5 (by decide) (fun c_2 => ?_) (fun c_2 => ?_)
  · obtain ⟨n_3, hn_3, en_3⟩ : ∃ n, n < nr ∧ p0 = nI n := by
      rcases hr_1 with h | ⟨_, h⟩
      · exact absurd h c_2
      · exact h
    subst en_3
    rcases hRec with h0r | ⟨ad, cap, g, hev, hnc, hcap, fzR, hRs⟩
    · exact absurd hn_3 (by omega)
    obtain ⟨qv, mt, lp, mcl, adl, nl, capl, gl, hg, fzm, hmt, fzA2, fzR2, hn20, hnl, hcl, hLs⟩ := hRs n_3 hn_3
    subst hev
    refine lv_aload_n hx hb dX6_of_10 rfl (lv_at hl 0 rfl) ?_
    refine va_get (D := (dC, dI)) (ci := 7) (v := .ref a2) (C := RX6) (T := TX6) (N := 11) hx hb hts hinX6 hown hK hP 1 rfl rfl 2 (by decide) (hts (.fieldLink RX6 19 "AgreedTalks" "records" "Ljava/util/ArrayList;") (by decide +kernel)) (fun _ h9 => h9) rfl dX6_of_11 ?_
    refine lv_iload_n hx hb dX6_of_14 rfl (lv_at hl 1 rfl) ?_
    have hPc := hP.sub (ws' := []) [] rfl
    have hDc := hD.sub (ws' := []) [] (by decide) rfl
    have hKc := hK.sub (tys' := [(cO, .object "java/lang/Object")]) [1] rfl
    have hFc := va_free (wc := []) hD hS hA [] rfl
    refine va_callr (va_runV (As := [.int (nI n_3)]) (rest := []) ⟨hx, hb, hml, hown, hts⟩ (c_AL_get l dC dI _ a2 ad nr cap n_3 mc cO g qv (by omega) (by omega) (by omega) hg) (cwV 1 hts gc_X6_of_AL_get rfl rfl rfl (by decide +kernel) ⟨Nat.le_of_ble_eq_true rfl, Nat.le_of_ble_eq_true rfl⟩) ⟨fun a U g mk q => by obtain ⟨q0, q1, qP, qK, qD, q_fzA, q_fzR⟩ := q; exact ⟨q0, q1, qP, va_K.moved (u := U) (U := U.calling g mk a) (Vm.Alike.refl U.vm) qK, qD, q_fzA, q_fzR⟩, va_recv hK hP (ci := 0) (q0 := 2) rfl rfl, fun U hU hW => ⟨rfl, by rw [hU], by rw [hU]; exact hPc, va_K.moved hW.alike hKc, hDc.weaken (fun _ _ _ _ => trivial), by rw [hU]; exact okF.of hP hD 2 rfl [] rfl (by decide), by rw [hU]; exact okF.pass fzR hS hFc⟩⟩ rfl rfl hl.1 rfl (lv_room (Nat.le_of_ble_eq_true rfl)) dX6_of_15 ⟨Nat.zero_le _, Nat.zero_le _⟩) hS (fun q _ h => hFc q h) hFc (fun u r_4 t H1 locs ht hvm hw hB hz1 hk1 hS => ?_)
    obtain ⟨er_4, hP1, hK1, hD1⟩ := hB
    rw [ht] at hP1
    obtain ⟨hP, hD⟩ := va_join (wr := [(a1, .inl (cC, 30, .inl fc)), (h0, .inr (7, [.ref a0, .ref a1, .ref a2, .ref a3, .ref a4, .ref a5, .ref a6, .int (nI mk), .int sh, .int fp, .int rf])), (a2, .inr (0, [.int mc, .ref ad, .int (nI nr)]))]) (w1 := []) hP hD [] [0, 1, 2] rfl rfl (by decide) (by decide) hk1 hFc hP1 hD1
    generalize H1 = H at hP hS ⊢
    have hP : va_P (dC, dI) vwCl [(a1, .inl (cC, 30, .inl fc)), (h0, .inr (7, [.ref a0, .ref a1, .ref a2, .ref a3, .ref a4, .ref a5, .ref a6, .int (nI mk), .int sh, .int fp, .int rf])), (a2, .inr (0, [.int mc, .ref ad, .int (nI nr)]))] H := hP
    have hD : va_D A [(a1, .inl (cC, 30, .inl fc)), (h0, .inr (7, [.ref a0, .ref a1, .ref a2, .ref a3, .ref a4, .ref a5, .ref a6, .int (nI mk), .int sh, .int fp, .int rf])), (a2, .inr (0, [.int mc, .ref ad, .int (nI nr)]))] := hD
    have er_4 := er_4.symm
    subst er_4
    have hPz := okF.kept fzm hS
    refine va_castE hx hb hown (hts (.classLink RX6 112 RX3) (by decide +kernel)) (va_recv hK hPz (ci := 4) (q0 := 0) rfl rfl) dX6_of_18 ?_
    refine lv_astore_n (lv' := [(3, .ref qv), (0, .ref h0), (1, .int (nI n_3)), (2, .int p1)]) hx hb dX6_of_21 rfl hl (by decide) rfl (fun ls hl => ?_)
    refine lv_iload_n hx hb dX6_of_22 rfl (lv_at hl 3 rfl) ?_
    by_cases t_5_0 : p1 = 0
    · have tx : (p1).toInt = 0 := by rw [t_5_0]; decide
      refine lv_tableIn (off := 25) (tgt := 48) hx hb dX6_of_23 (by rw [tx]; decide) (by rw [tx]; decide) (by rw [tx]; decide +kernel) (by decide) ?_
      refine lv_aload_n hx hb dX6_of_48 rfl (lv_at hl 0 rfl) ?_
      have hPz := okF.kept fzm hS
      refine va_get (D := (dC, dI)) (ci := 4) (v := .ref lp) (C := RX3) (T := TX3) (N := 2) hx hb hts hinX3 hown hK hPz 0 rfl rfl 1 (by decide) (hts (.fieldLink RX6 114 "AgreedTalks$Minutes" "lines" "Ljava/util/ArrayList;") (by decide +kernel)) (fun _ h9 => h9) rfl dX6_of_49 ?_
      have hPc := hP.sub (ws' := []) [] rfl
      have hDc := hD.sub (ws' := []) [] (by decide) rfl
      have hKc := hK.sub (tys' := []) [] rfl
      have hFc := va_free (wc := []) hD hS hA [] rfl
      refine va_calli (va_runV (As := []) (rest := []) ⟨hx, hb, hml, hown, hts⟩ (c_AL_sizeF l dC dI _ lp adl nl mcl) (cwV 0 hts gc_X6_of_AL_sizeF rfl rfl rfl (by decide +kernel) ⟨Nat.le_of_ble_eq_true rfl, Nat.le_of_ble_eq_true rfl⟩) ⟨fun a U g mk q => by obtain ⟨q0, q1, qP, qK, qD, q_fzA⟩ := q; exact ⟨q0, q1, qP, va_K.moved (u := U) (U := U.calling g mk a) (Vm.Alike.refl U.vm) qK, qD, q_fzA⟩, va_recv hKc (okF.kept fzA2 hS) (ci := 0) (q0 := 0) rfl rfl, fun U hU hW => ⟨rfl, by rw [hU], by rw [hU]; exact hPc, va_K.moved hW.alike hKc, hDc.weaken (fun _ _ _ _ => trivial), by rw [hU]; exact okF.pass fzA2 hS hFc⟩⟩ rfl rfl hl.1 rfl (lv_room (Nat.le_of_ble_eq_true rfl)) dX6_of_52 ⟨Nat.zero_le _, Nat.zero_le _⟩) hS (fun q _ h => hFc q h) hFc (fun r_6 u t H1 locs ht hvm hw hB hz1 hk1 hS => ?_)
      obtain ⟨hP1, hK1, hD1⟩ := hB
      rw [ht] at hP1
      obtain ⟨hP, hD⟩ := va_join (wr := [(a1, .inl (cC, 30, .inl fc)), (h0, .inr (7, [.ref a0, .ref a1, .ref a2, .ref a3, .ref a4, .ref a5, .ref a6, .int (nI mk), .int sh, .int fp, .int rf])), (a2, .inr (0, [.int mc, .ref ad, .int (nI nr)]))]) (w1 := []) hP hD [] [0, 1, 2] rfl rfl (by decide) (by decide) hk1 hFc hP1 hD1
      generalize H1 = H at hP hS ⊢
      have hP : va_P (dC, dI) vwCl [(a1, .inl (cC, 30, .inl fc)), (h0, .inr (7, [.ref a0, .ref a1, .ref a2, .ref a3, .ref a4, .ref a5, .ref a6, .int (nI mk), .int sh, .int fp, .int rf])), (a2, .inr (0, [.int mc, .ref ad, .int (nI nr)]))] H := hP
      have hD : va_D A [(a1, .inl (cC, 30, .inl fc)), (h0, .inr (7, [.ref a0, .ref a1, .ref a2, .ref a3, .ref a4, .ref a5, .ref a6, .int (nI mk), .int sh, .int fp, .int rf])), (a2, .inr (0, [.int mc, .ref ad, .int (nI nr)]))] := hD
      obtain rfl : r_6 = (nI nl) := hw
      have hP9 := hP.sub (ws' := [(h0, .inr (7, [.ref a0, .ref a1, .ref a2, .ref a3, .ref a4, .ref a5, .ref a6, .int (nI mk), .int sh, .int fp, .int rf])), (a1, .inl (cC, 30, .inl fc)), (a2, .inr (0, [.int mc, .ref ad, .int (nI nr)]))]) [1, 0, 2] rfl
      have hD9 := hD.sub (ws' := [(h0, .inr (7, [.ref a0, .ref a1, .ref a2, .ref a3, .ref a4, .ref a5, .ref a6, .int (nI mk), .int sh, .int fp, .int rf])), (a1, .inl (cC, 30, .inl fc)), (a2, .inr (0, [.int mc, .ref ad, .int (nI nr)]))]) [1, 0, 2] (by decide) rfl
      have hK9 := hK.sub (tys' := [(cC, .int), (cO, .object "java/lang/Object")]) [0, 1] rfl
      exact W.iret (v := (nI nl)) hx hb hr (fun t ht hW => ⟨⟨(nI nl), (), rfl, trivial, by rw [ht]; exact hP9, va_K.moved hW.alike hK9, hD9⟩, hS.F ht⟩) hS.2.2 dX6_of_55
    by_cases t_5_1 : p1 = 1
    · have tx : (p1).toInt = 1 := by rw [t_5_1]; decide
      refine lv_tableIn (off := 33) (tgt := 56) hx hb dX6_of_23 (by rw [tx]; decide) (by rw [tx]; decide) (by rw [tx]; decide +kernel) (by decide) ?_
      refine lv_aload_n hx hb dX6_of_56 rfl (lv_at hl 0 rfl) ?_
      have hPz := okF.kept fzm hS
      refine va_get (D := (dC, dI)) (ci := 4) (v := .int (nI mt)) (C := RX3) (T := TX3) (N := 2) hx hb hts hinX3 hown hK hPz 0 rfl rfl 0 (by decide) (hts (.fieldLink RX6 117 "AgreedTalks$Minutes" "meeting" "I") (by decide +kernel)) (fun _ h9 => h9) rfl dX6_of_57 ?_
      have hP9 := hP.sub (ws' := [(h0, .inr (7, [.ref a0, .ref a1, .ref a2, .ref a3, .ref a4, .ref a5, .ref a6, .int (nI mk), .int sh, .int fp, .int rf])), (a1, .inl (cC, 30, .inl fc)), (a2, .inr (0, [.int mc, .ref ad, .int (nI nr)]))]) [1, 0, 2] rfl
      have hD9 := hD.sub (ws' := [(h0, .inr (7, [.ref a0, .ref a1, .ref a2, .ref a3, .ref a4, .ref a5, .ref a6, .int (nI mk), .int sh, .int fp, .int rf])), (a1, .inl (cC, 30, .inl fc)), (a2, .inr (0, [.int mc, .ref ad, .int (nI nr)]))]) [1, 0, 2] (by decide) rfl
      have hK9 := hK.sub (tys' := [(cC, .int), (cO, .object "java/lang/Object")]) [0, 1] rfl
      exact W.iret (v := (nI mt)) hx hb hr (fun t ht hW => ⟨⟨(nI mt), (), rfl, trivial, by rw [ht]; exact hP9, va_K.moved hW.alike hK9, hD9⟩, hS.F ht⟩) hS.2.2 dX6_of_60
    by_cases t_5_2 : p1 = 2
    · have tx : (p1).toInt = 2 := by rw [t_5_2]; decide
      refine lv_tableIn (off := 38) (tgt := 61) hx hb dX6_of_23 (by rw [tx]; decide) (by rw [tx]; decide) (by rw [tx]; decide +kernel) (by decide) ?_
      refine lv_aload_n hx hb dX6_of_61 rfl (lv_at hl 1 rfl) ?_
      refine va_get (D := (dC, dI)) (ci := 7) (v := .ref a1) (C := RX6) (T := TX6) (N := 11) hx hb hts hinX6 hown hK hP 1 rfl rfl 1 (by decide) (hts (.fieldLink RX6 13 "AgreedTalks" "counting" "[I") (by decide +kernel)) (fun _ h9 => h9) rfl dX6_of_62 ?_
      refine lv_aload_n hx hb dX6_of_65 rfl (lv_at hl 0 rfl) ?_
      have hPz := okF.kept fzm hS
      refine va_get (D := (dC, dI)) (ci := 4) (v := .int (nI mt)) (C := RX3) (T := TX3) (N := 2) hx hb hts hinX3 hown hK hPz 0 rfl rfl 0 (by decide) (hts (.fieldLink RX6 117 "AgreedTalks$Minutes" "meeting" "I") (by decide +kernel)) (fun _ h9 => h9) rfl dX6_of_66 ?_
      refine va_iald hx hb hK hP 0 0 rfl rfl (vp_in_nI (by omega) (by omega)) dX6_of_69 ?_
      refine lv_topi (fun x_7 ex_7 => ?_)
      rw [show (Int32.toNatClampNeg (nI mt)) = mt from nI_clamp (by omega)] at ex_7
      refine lv_iload_n hx hb dX6_of_70 rfl (lv_at hl 2 rfl) ?_
      refine lv_icmp_ne (tgt := 78) hx hb dX6_of_71 (by decide) (fun c_8 => ?_) (fun c_8 => ?_)
      · refine lv_iconst (v := 0) hx hb dX6_of_78 (by decide) ?_
        have hP9 := hP.sub (ws' := [(h0, .inr (7, [.ref a0, .ref a1, .ref a2, .ref a3, .ref a4, .ref a5, .ref a6, .int (nI mk), .int sh, .int fp, .int rf])), (a1, .inl (cC, 30, .inl fc)), (a2, .inr (0, [.int mc, .ref ad, .int (nI nr)]))]) [1, 0, 2] rfl
        have hD9 := hD.sub (ws' := [(h0, .inr (7, [.ref a0, .ref a1, .ref a2, .ref a3, .ref a4, .ref a5, .ref a6, .int (nI mk), .int sh, .int fp, .int rf])), (a1, .inl (cC, 30, .inl fc)), (a2, .inr (0, [.int mc, .ref ad, .int (nI nr)]))]) [1, 0, 2] (by decide) rfl
        have hK9 := hK.sub (tys' := [(cC, .int), (cO, .object "java/lang/Object")]) [0, 1] rfl
        exact W.iret (v := 0) hx hb hr (fun t ht hW => ⟨⟨0, (), rfl, trivial, by rw [ht]; exact hP9, va_K.moved hW.alike hK9, hD9⟩, hS.F ht⟩) hS.2.2 dX6_of_79
      · refine lv_iconst (v := 1) hx hb dX6_of_74 (by decide) ?_
        refine lv_goto (tgt := 79) hx hb dX6_of_75 (by decide) ?_
        have hP9 := hP.sub (ws' := [(h0, .inr (7, [.ref a0, .ref a1, .ref a2, .ref a3, .ref a4, .ref a5, .ref a6, .int (nI mk), .int sh, .int fp, .int rf])), (a1, .inl (cC, 30, .inl fc)), (a2, .inr (0, [.int mc, .ref ad, .int (nI nr)]))]) [1, 0, 2] rfl
        have hD9 := hD.sub (ws' := [(h0, .inr (7, [.ref a0, .ref a1, .ref a2, .ref a3, .ref a4, .ref a5, .ref a6, .int (nI mk), .int sh, .int fp, .int rf])), (a1, .inl (cC, 30, .inl fc)), (a2, .inr (0, [.int mc, .ref ad, .int (nI nr)]))]) [1, 0, 2] (by decide) rfl
        have hK9 := hK.sub (tys' := [(cC, .int), (cO, .object "java/lang/Object")]) [0, 1] rfl
        exact W.iret (v := 1) hx hb hr (fun t ht hW => ⟨⟨1, (), rfl, trivial, by rw [ht]; exact hP9, va_K.moved hW.alike hK9, hD9⟩, hS.F ht⟩) hS.2.2 dX6_of_79
    refine lv_tableOut (tgt := 80) hx hb dX6_of_23 (lk_out2 t_5_0 t_5_1 t_5_2) (by decide) ?_
    refine lv_iconst (v := (-1)) hx hb dX6_of_80 (by decide) ?_
    have hP9 := hP.sub (ws' := [(h0, .inr (7, [.ref a0, .ref a1, .ref a2, .ref a3, .ref a4, .ref a5, .ref a6, .int (nI mk), .int sh, .int fp, .int rf])), (a1, .inl (cC, 30, .inl fc)), (a2, .inr (0, [.int mc, .ref ad, .int (nI nr)]))]) [1, 0, 2] rfl
    have hD9 := hD.sub (ws' := [(h0, .inr (7, [.ref a0, .ref a1, .ref a2, .ref a3, .ref a4, .ref a5, .ref a6, .int (nI mk), .int sh, .int fp, .int rf])), (a1, .inl (cC, 30, .inl fc)), (a2, .inr (0, [.int mc, .ref ad, .int (nI nr)]))]) [1, 0, 2] (by decide) rfl
    have hK9 := hK.sub (tys' := [(cC, .int), (cO, .object "java/lang/Object")]) [0, 1] rfl
    exact W.iret (v := (-1)) hx hb hr (fun t ht hW => ⟨⟨(-1), (), rfl, trivial, by rw [ht]; exact hP9, va_K.moved hW.alike hK9, hD9⟩, hS.F ht⟩) hS.2.2 dX6_of_81
  · refine lv_iconst (v := (-1)) hx hb dX6_of_8 (by decide) ?_
    have hP9 := hP.sub (ws' := [(h0, .inr (7, [.ref a0, .ref a1, .ref a2, .ref a3, .ref a4, .ref a5, .ref a6, .int (nI mk), .int sh, .int fp, .int rf])), (a1, .inl (cC, 30, .inl fc)), (a2, .inr (0, [.int mc, ev, .int (nI nr)]))]) [1, 0, 2] rfl
    have hD9 := hD.sub (ws' := [(h0, .inr (7, [.ref a0, .ref a1, .ref a2, .ref a3, .ref a4, .ref a5, .ref a6, .int (nI mk), .int sh, .int fp, .int rf])), (a1, .inl (cC, 30, .inl fc)), (a2, .inr (0, [.int mc, ev, .int (nI nr)]))]) [1, 0, 2] (by decide) rfl
    have hK9 := hK.sub (tys' := [(cC, .int), (cO, .object "java/lang/Object")]) [0, 1] rfl
    exact W.iret (v := (-1)) hx hb hr (fun t ht hW => ⟨⟨(-1), (), rfl, trivial, by rw [ht]; exact hP9, va_K.moved hW.alike hK9, hD9⟩, hS.F ht⟩) hS.2.2 dX6_of_9
