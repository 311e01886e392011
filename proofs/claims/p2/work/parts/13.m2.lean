theorem dX7_isMeeting_0 : decode cX7_isMeeting 0 = .ok (.iload_n 1, 1) := by decide +kernel
theorem dX7_isMeeting_1 : decode cX7_isMeeting 1 = .ok (.i2l, 1) := by decide +kernel
theorem dX7_isMeeting_2 : decode cX7_isMeeting 2 = .ok (.lconst 0, 1) := by decide +kernel
theorem dX7_isMeeting_3 : decode cX7_isMeeting 3 = .ok (.aload_n 0, 1) := by decide +kernel
theorem dX7_isMeeting_4 : decode cX7_isMeeting 4 = .ok (.getfield 94, 3) := by decide +kernel
theorem dX7_isMeeting_7 : decode cX7_isMeeting 7 = .ok (.i2l, 1) := by decide +kernel
theorem dX7_isMeeting_8 : decode cX7_isMeeting 8 = .ok (.lconst 1, 1) := by decide +kernel
theorem dX7_isMeeting_9 : decode cX7_isMeeting 9 = .ok (.lsub, 1) := by decide +kernel
theorem dX7_isMeeting_10 : decode cX7_isMeeting 10 = .ok (.invokestatic 99, 3) := by decide +kernel
theorem dX7_isMeeting_13 : decode cX7_isMeeting 13 = .ok (.ireturn, 1) := by decide +kernel
theorem dX7_isRecord_0 : decode cX7_isRecord 0 = .ok (.iload_n 1, 1) := by decide +kernel
theorem dX7_isRecord_1 : decode cX7_isRecord 1 = .ok (.i2l, 1) := by decide +kernel
theorem dX7_isRecord_2 : decode cX7_isRecord 2 = .ok (.lconst 0, 1) := by decide +kernel
theorem dX7_isRecord_3 : decode cX7_isRecord 3 = .ok (.aload_n 0, 1) := by decide +kernel
theorem dX7_isRecord_4 : decode cX7_isRecord 4 = .ok (.getfield 193, 3) := by decide +kernel
theorem dX7_isRecord_7 : decode cX7_isRecord 7 = .ok (.i2l, 1) := by decide +kernel
theorem dX7_isRecord_8 : decode cX7_isRecord 8 = .ok (.lconst 1, 1) := by decide +kernel
theorem dX7_isRecord_9 : decode cX7_isRecord 9 = .ok (.lsub, 1) := by decide +kernel
theorem dX7_isRecord_10 : decode cX7_isRecord 10 = .ok (.invokestatic 99, 3) := by decide +kernel
theorem dX7_isRecord_13 : decode cX7_isRecord 13 = .ok (.ireturn, 1) := by decide +kernel
theorem dX7_isNumber_0 : decode cX7_isNumber 0 = .ok (.iload_n 0, 1) := by decide +kernel
theorem dX7_isNumber_1 : decode cX7_isNumber 1 = .ok (.i2l, 1) := by decide +kernel
theorem dX7_isNumber_2 : decode cX7_isNumber 2 = .ok (.lconst 0, 1) := by decide +kernel
theorem dX7_isNumber_3 : decode cX7_isNumber 3 = .ok (.ldc2_w 107, 3) := by decide +kernel
theorem dX7_isNumber_6 : decode cX7_isNumber 6 = .ok (.invokestatic 99, 3) := by decide +kernel
theorem dX7_isNumber_9 : decode cX7_isNumber 9 = .ok (.ireturn, 1) := by decide +kernel
theorem dX7_isPerson_0 : decode cX7_isPerson 0 = .ok (.iload_n 0, 1) := by decide +kernel
theorem dX7_isPerson_1 : decode cX7_isPerson 1 = .ok (.i2l, 1) := by decide +kernel
theorem dX7_isPerson_2 : decode cX7_isPerson 2 = .ok (.lconst 0, 1) := by decide +kernel
theorem dX7_isPerson_3 : decode cX7_isPerson 3 = .ok (.ldc2_w 109, 3) := by decide +kernel
theorem dX7_isPerson_6 : decode cX7_isPerson 6 = .ok (.invokestatic 99, 3) := by decide +kernel
theorem dX7_isPerson_9 : decode cX7_isPerson 9 = .ok (.ireturn, 1) := by decide +kernel
theorem dX7_four_0 : decode cX7_four 0 = .ok (.bipush 24, 2) := by decide +kernel
theorem dX7_four_2 : decode cX7_four 2 = .ok (.istore_n 2, 1) := by decide +kernel
theorem dX7_four_3 : decode cX7_four 3 = .ok (.iload_n 2, 1) := by decide +kernel
theorem dX7_four_4 : decode cX7_four 4 = .ok (.ifCond .lt 35, 3) := by decide +kernel
theorem dX7_four_7 : decode cX7_four 7 = .ok (.aload_n 0, 1) := by decide +kernel
theorem dX7_four_8 : decode cX7_four 8 = .ok (.getfield 59, 3) := by decide +kernel
theorem dX7_four_11 : decode cX7_four 11 = .ok (.aload_n 0, 1) := by decide +kernel
theorem dX7_four_12 : decode cX7_four 12 = .ok (.getfield 111, 3) := by decide +kernel
theorem dX7_four_15 : decode cX7_four 15 = .ok (.iload_n 1, 1) := by decide +kernel
theorem dX7_four_16 : decode cX7_four 16 = .ok (.iload_n 2, 1) := by decide +kernel
theorem dX7_four_17 : decode cX7_four 17 = .ok (.ishr, 1) := by decide +kernel
theorem dX7_four_18 : decode cX7_four 18 = .ok (.sipush 255, 3) := by decide +kernel
theorem dX7_four_21 : decode cX7_four 21 = .ok (.iand, 1) := by decide +kernel
theorem dX7_four_22 : decode cX7_four 22 = .ok (.iastore, 1) := by decide +kernel
theorem dX7_four_23 : decode cX7_four 23 = .ok (.aload_n 0, 1) := by decide +kernel
theorem dX7_four_24 : decode cX7_four 24 = .ok (.dup, 1) := by decide +kernel
theorem dX7_four_25 : decode cX7_four 25 = .ok (.getfield 111, 3) := by decide +kernel
theorem dX7_four_28 : decode cX7_four 28 = .ok (.iconst 1, 1) := by decide +kernel
theorem dX7_four_29 : decode cX7_four 29 = .ok (.iadd, 1) := by decide +kernel
theorem dX7_four_30 : decode cX7_four 30 = .ok (.putfield 111, 3) := by decide +kernel
theorem dX7_four_33 : decode cX7_four 33 = .ok (.iinc 2 (-8), 3) := by decide +kernel
theorem dX7_four_36 : decode cX7_four 36 = .ok (.goto (-33), 3) := by decide +kernel
theorem dX7_four_39 : decode cX7_four 39 = .ok (.return_, 1) := by decide +kernel
theorem dX7_feed_0 : decode cX7_feed 0 = .ok (.aload_n 0, 1) := by decide +kernel
theorem dX7_feed_1 : decode cX7_feed 1 = .ok (.iconst 0, 1) := by decide +kernel
theorem dX7_feed_2 : decode cX7_feed 2 = .ok (.putfield 88, 3) := by decide +kernel
theorem dX7_feed_5 : decode cX7_feed 5 = .ok (.aload_n 0, 1) := by decide +kernel
theorem dX7_feed_6 : decode cX7_feed 6 = .ok (.getfield 111, 3) := by decide +kernel
theorem dX7_feed_9 : decode cX7_feed 9 = .ok (.bipush 20, 2) := by decide +kernel
theorem dX7_feed_11 : decode cX7_feed 11 = .ok (.iadd, 1) := by decide +kernel
theorem dX7_feed_12 : decode cX7_feed 12 = .ok (.sipush 300, 3) := by decide +kernel
theorem dX7_feed_15 : decode cX7_feed 15 = .ok (.if_icmp .le 5, 3) := by decide +kernel
theorem dX7_feed_20 : decode cX7_feed 20 = .ok (.aload_n 0, 1) := by decide +kernel
theorem dX7_feed_21 : decode cX7_feed 21 = .ok (.iload_n 1, 1) := by decide +kernel
theorem dX7_feed_22 : decode cX7_feed 22 = .ok (.invokevirtual 114, 3) := by decide +kernel
theorem dX7_feed_25 : decode cX7_feed 25 = .ok (.aload_n 0, 1) := by decide +kernel
theorem dX7_feed_26 : decode cX7_feed 26 = .ok (.iload_n 2, 1) := by decide +kernel
theorem dX7_feed_27 : decode cX7_feed 27 = .ok (.invokevirtual 114, 3) := by decide +kernel
theorem dX7_feed_30 : decode cX7_feed 30 = .ok (.aload_n 0, 1) := by decide +kernel
theorem dX7_feed_31 : decode cX7_feed 31 = .ok (.iload_n 3, 1) := by decide +kernel
theorem dX7_feed_32 : decode cX7_feed 32 = .ok (.invokevirtual 114, 3) := by decide +kernel
theorem dX7_feed_35 : decode cX7_feed 35 = .ok (.aload_n 0, 1) := by decide +kernel
theorem dX7_feed_36 : decode cX7_feed 36 = .ok (.iload 4, 2) := by decide +kernel
theorem dX7_feed_38 : decode cX7_feed 38 = .ok (.invokevirtual 114, 3) := by decide +kernel
theorem dX7_feed_41 : decode cX7_feed 41 = .ok (.aload_n 0, 1) := by decide +kernel
theorem dX7_feed_42 : decode cX7_feed 42 = .ok (.iload 5, 2) := by decide +kernel
theorem dX7_feed_44 : decode cX7_feed 44 = .ok (.invokevirtual 114, 3) := by decide +kernel
theorem dX7_feed_47 : decode cX7_feed 47 = .ok (.aload_n 0, 1) := by decide +kernel
theorem dX7_feed_48 : decode cX7_feed 48 = .ok (.getfield 111, 3) := by decide +kernel
theorem dX7_feed_51 : decode cX7_feed 51 = .ok (.ireturn, 1) := by decide +kernel
theorem dX7_feed_18 : decode cX7_feed 18 = .ok (.iconst (-1), 1) := by decide +kernel
theorem dX7_feed_19 : decode cX7_feed 19 = .ok (.ireturn, 1) := by decide +kernel
theorem dX7_end_0 : decode cX7_end 0 = .ok (.aload_n 0, 1) := by decide +kernel
theorem dX7_end_1 : decode cX7_end 1 = .ok (.iconst 0, 1) := by decide +kernel
theorem dX7_end_2 : decode cX7_end 2 = .ok (.putfield 88, 3) := by decide +kernel
theorem dX7_end_5 : decode cX7_end 5 = .ok (.iload_n 1, 1) := by decide +kernel
theorem dX7_end_6 : decode cX7_end 6 = .ok (.ifCond .lt 11, 3) := by decide +kernel
theorem dX7_end_17 : decode cX7_end 17 = .ok (.iconst (-1), 1) := by decide +kernel
theorem dX7_end_18 : decode cX7_end 18 = .ok (.ireturn, 1) := by decide +kernel
theorem dX7_end_9 : decode cX7_end 9 = .ok (.iload_n 1, 1) := by decide +kernel
theorem dX7_end_10 : decode cX7_end 10 = .ok (.aload_n 0, 1) := by decide +kernel
theorem dX7_end_11 : decode cX7_end 11 = .ok (.getfield 111, 3) := by decide +kernel
theorem dX7_end_14 : decode cX7_end 14 = .ok (.if_icmp .le 5, 3) := by decide +kernel
theorem dX7_end_19 : decode cX7_end 19 = .ok (.aload_n 0, 1) := by decide +kernel
theorem dX7_end_20 : decode cX7_end 20 = .ok (.iload_n 1, 1) := by decide +kernel
theorem dX7_end_21 : decode cX7_end 21 = .ok (.putfield 111, 3) := by decide +kernel
theorem dX7_end_24 : decode cX7_end 24 = .ok (.iload_n 1, 1) := by decide +kernel
theorem dX7_end_25 : decode cX7_end 25 = .ok (.ireturn, 1) := by decide +kernel
def wp_X7_isMeeting : List Cond := .code yX7_isMeeting cX7_isMeeting 2 (some .boolean) :: (([.fieldLink RX7 94 "AgreedTalksModel" "meetings" "I"] : List Cond) ++ wsX70 ++ (va_wsS RX7 99 yX7_in wp_X7_in))
theorem gc_X7_isMeeting_X7_in : GoodIn wp_X7_isMeeting (va_wsS RX7 99 yX7_in wp_X7_in) := goodIn_sub (fun _ h => List.mem_cons_of_mem _ (List.mem_append_right _ h)) (by decide +kernel)
set_option maxRecDepth 20000 in
theorem gi_X7_isMeeting : GoodIn lw_tbl wp_X7_isMeeting := (goodIn_ca (goodIn_ca (goodIn_r (.code yX7_isMeeting cX7_isMeeting 2 (some .boolean) :: ([.fieldLink RX7 94 "AgreedTalksModel" "meetings" "I"] : List Cond)) [832, 675] (by decide +kernel) (by decide +kernel)) wi_wsX7) (goodIn_app (goodIn_r _ [806, 807, 57] (by decide +kernel) (by decide +kernel)) gi_X7_in))
set_option maxHeartbeats 4000000 in
set_option maxRecDepth 100000 in
/-- isMeeting -/
theorem c_X7_isMeeting (l : Launch) (dC : Nat → ClassId) (dI : Nat → Nat → Nat) (sz : Nat) (h0 : Nat) (b3 : Nat) (b4 : Nat) (b6 : Nat) (b7 : Nat) (b8 : Nat) (b9 : Nat) (b10 : Nat) (b11 : Nat) (b12 : Nat) (b13 : Nat) (b15 : Nat) (b16 : Nat) (b17 : Nat) (b18 : Nat) (b19 : Nat) (b20 : Nat) (b21 : Nat) (b34 : Nat) (b35 : Nat) (b37 : Nat) (b38 : Nat) (b39 : Nat) (b40 : Nat) (b41 : Nat) (i0 : Int32) (i1 : Int32) (mk : Nat) (rk : Nat) (nl : Nat) (tp : Nat) (i23 : Int32) (i24 : Int32) (i25 : Int32) (w26 : Int64) (i27 : Int32) (i28 : Int32) (i29 : Int32) (i30 : Int32) (i31 : Int32) (i32 : Int32) (i33 : Int32) (tm : Nat) (p0 : Int32) (qmk : mk ≤ 30) : Met l yX7_isMeeting wp_X7_isMeeting ({ frames := 1, cells := 0, slots := 0, locals := 30 }) (va_Pc [.ref h0, .int p0] (fun U => U.heap.size = sz ∧ va_P (dC, dI) vwCl [(h0, .inr (8, [.int i0, .int i1, .int (nI mk), .ref b3, .ref b4, .int (nI rk), .ref b6, .ref b7, .ref b8, .ref b9, .ref b10, .ref b11, .ref b12, .ref b13, .int (nI nl), .ref b15, .ref b16, .ref b17, .ref b18, .ref b19, .ref b20, .ref b21, .int (nI tp), .int i23, .int i24, .int i25, .long w26, .int i27, .int i28, .int i29, .int i30, .int i31, .int i32, .int i33, .ref b34, .ref b35, .int (nI tm), .ref b37, .ref b38, .ref b39, .ref b40, .ref b41]))] U.heap ∧ va_K (dC, dI) vwCl [] U ∧ va_D (fun _ => True) [(h0, .inr (8, [.int i0, .int i1, .int (nI mk), .ref b3, .ref b4, .int (nI rk), .ref b6, .ref b7, .ref b8, .ref b9, .ref b10, .ref b11, .ref b12, .ref b13, .int (nI nl), .ref b15, .ref b16, .ref b17, .ref b18, .ref b19, .ref b20, .ref b21, .int (nI tp), .int i23, .int i24, .int i25, .long w26, .int i27, .int i28, .int i29, .int i30, .int i31, .int i32, .int i33, .ref b34, .ref b35, .int (nI tm), .ref b37, .ref b38, .ref b39, .ref b40, .ref b41]))])) (va_Qi (fun (r : Int32) (_ : Unit) => r = 0 ∨ (r = 1 ∧ ∃ n, n < mk ∧ p0 = nI n)) (fun (_ : Unit) (t : State) => va_P (dC, dI) vwCl [(h0, .inr (8, [.int i0, .int i1, .int (nI mk), .ref b3, .ref b4, .int (nI rk), .ref b6, .ref b7, .ref b8, .ref b9, .ref b10, .ref b11, .ref b12, .ref b13, .int (nI nl), .ref b15, .ref b16, .ref b17, .ref b18, .ref b19, .ref b20, .ref b21, .int (nI tp), .int i23, .int i24, .int i25, .long w26, .int i27, .int i28, .int i29, .int i30, .int i31, .int i32, .int i33, .ref b34, .ref b35, .int (nI tm), .ref b37, .ref b38, .ref b39, .ref b40, .ref b41]))] t.heap ∧ va_K (dC, dI) vwCl [] t ∧ va_D (va_A [(h0, .inr (8, [.int i0, .int i1, .int (nI mk), .ref b3, .ref b4, .int (nI rk), .ref b6, .ref b7, .ref b8, .ref b9, .ref b10, .ref b11, .ref b12, .ref b13, .int (nI nl), .ref b15, .ref b16, .ref b17, .ref b18, .ref b19, .ref b20, .ref b21, .int (nI tp), .int i23, .int i24, .int i25, .long w26, .int i27, .int i28, .int i29, .int i30, .int i31, .int i32, .int i33, .ref b34, .ref b35, .int (nI tm), .ref b37, .ref b38, .ref b39, .ref b40, .ref b41]))] sz) [(h0, .inr (8, [.int i0, .int i1, .int (nI mk), .ref b3, .ref b4, .int (nI rk), .ref b6, .ref b7, .ref b8, .ref b9, .ref b10, .ref b11, .ref b12, .ref b13, .int (nI nl), .ref b15, .ref b16, .ref b17, .ref b18, .ref b19, .ref b20, .ref b21, .int (nI tp), .int i23, .int i24, .int i25, .long w26, .int i27, .int i28, .int i29, .int i30, .int i31, .int i32, .int i33, .ref b34, .ref b35, .int (nI tm), .ref b37, .ref b38, .ref b39, .ref b40, .ref b41]))]) (va_A [(h0, .inr (8, [.int i0, .int i1, .int (nI mk), .ref b3, .ref b4, .int (nI rk), .ref b6, .ref b7, .ref b8, .ref b9, .ref b10, .ref b11, .ref b12, .ref b13, .int (nI nl), .ref b15, .ref b16, .ref b17, .ref b18, .ref b19, .ref b20, .ref b21, .int (nI tp), .int i23, .int i24, .int i25, .long w26, .int i27, .int i28, .int i29, .int i30, .int i31, .int i32, .int i33, .ref b34, .ref b35, .int (nI tm), .ref b37, .ref b38, .ref b39, .ref b40, .ref b41]))] sz)) 0 0 (va_A [(h0, .inr (8, [.int i0, .int i1, .int (nI mk), .ref b3, .ref b4, .int (nI rk), .ref b6, .ref b7, .ref b8, .ref b9, .ref b10, .ref b11, .ref b12, .ref b13, .int (nI nl), .ref b15, .ref b16, .ref b17, .ref b18, .ref b19, .ref b20, .ref b21, .int (nI tp), .int i23, .int i24, .int i25, .long w26, .int i27, .int i28, .int i29, .int i30, .int i31, .int i32, .int i33, .ref b34, .ref b35, .int (nI tm), .ref b37, .ref b38, .ref b39, .ref b40, .ref b41]))] sz) := by
  refine Met.ofW (cc := cX7_isMeeting) (maxL := 2) (ret := (some .boolean)) (by decide) rfl ?_
  intro p e s m args below meth c s₁ B hml hv
  obtain ⟨rfl, hsz, hP, hK, hD0⟩ := hv
  have hx := B.exec
  have hb := B.bytes
  have hr := B.returns
  have hts := atoms_spec (ws := wp_X7_isMeeting) B.pre
  have hown : s.vm.findClass RX7 = some m.cls := findClass_of_methodNamed B.named
  have hlocks := B.notSynchronized
  subst hsz
  have hD := hD0.self (sz := s.heap.size)
  generalize hAe : va_A [(h0, .inr (8, [.int i0, .int i1, .int (nI mk), .ref b3, .ref b4, .int (nI rk), .ref b6, .ref b7, .ref b8, .ref b9, .ref b10, .ref b11, .ref b12, .ref b13, .int (nI nl), .ref b15, .ref b16, .ref b17, .ref b18, .ref b19, .ref b20, .ref b21, .int (nI tp), .int i23, .int i24, .int i25, .long w26, .int i27, .int i28, .int i29, .int i30, .int i31, .int i32, .int i33, .ref b34, .ref b35, .int (nI tm), .ref b37, .ref b38, .ref b39, .ref b40, .ref b41]))] s.heap.size = A at hD ⊢
  have hA : ∀ q : Nat, s.heap.size ≤ q → A q := fun q h => by rw [← hAe]; exact Or.inr h
  have hS : va_S A s.heap s.heap [] := va_S.rf
  have hP : va_P (dC, dI) vwCl [(h0, .inr (8, [.int i0, .int i1, .int (nI mk), .ref b3, .ref b4, .int (nI rk), .ref b6, .ref b7, .ref b8, .ref b9, .ref b10, .ref b11, .ref b12, .ref b13, .int (nI nl), .ref b15, .ref b16, .ref b17, .ref b18, .ref b19, .ref b20, .ref b21, .int (nI tp), .int i23, .int i24, .int i25, .long w26, .int i27, .int i28, .int i29, .int i30, .int i31, .int i32, .int i33, .ref b34, .ref b35, .int (nI tm), .ref b37, .ref b38, .ref b39, .ref b40, .ref b41]))] s.heap := hP
  have hl := lv_entry ([.ref h0, .int p0]) (n := 2) (Nat.le_of_ble_eq_true rfl)
  rw [lg_entry_eq]
  generalize (lg_sl ([.ref h0, .int p0]) ++ List.replicate (2 - (lg_sl ([.ref h0, .int p0])).length) Slot.unset).toArray = ls at hl ⊢
  have hl : lv_has ls 2 [(0, .ref h0), (1, .int p0)] := hl
  have hinX7 : ∀ w ∈ u_ws RX7 TX7 42, w ∈ wp_X7_isMeeting := fun _ h => List.mem_cons_of_mem _ (List.mem_append_left _ (List.mem_append_right _ h))
  refine lv_iload_n hx hb dX7_isMeeting_0 rfl (lv_at hl 1 rfl) ?_
  refine lv_i2l hx hb dX7_isMeeting_1 rfl ?_
  refine lv_lconst (v := 0) hx hb dX7_isMeeting_2 (by decide) ?_
  refine lv_aload_n hx hb dX7_isMeeting_3 rfl (lv_at hl 0 rfl) ?_
  refine va_get (D := (dC, dI)) (ci := 8) (v := .int (nI mk)) (C := RX7) (T := TX7) (N := 42) hx hb hts hinX7 hown hK hP 0 rfl rfl 2 (by decide) (hts (.fieldLink RX7 94 "AgreedTalksModel" "meetings" "I") (by decide +kernel)) (fun _ h9 => h9) rfl dX7_isMeeting_4 ?_
  refine lv_i2l hx hb dX7_isMeeting_7 rfl ?_
  refine lv_lconst (v := 1) hx hb dX7_isMeeting_8 (by decide) ?_
  refine lv_lsub hx hb dX7_isMeeting_9 ?_
  refine lv_topl (fun x_1 ex_1 => ?_)
  obtain rfl : x_1 = ((nI mk).toInt64 - 1) := by rw [ex_1]
  have hPc := hP.sub (ws' := []) [] rfl
  have hDc := hD.sub (ws' := []) [] (by decide) rfl
  have hKc := hK.sub (tys' := []) [] rfl
  have hFc := va_free (wc := []) hD hS hA [] rfl
  refine va_calli (va_runS (As := [.long ((p0).toInt64), .long 0, .long ((nI mk).toInt64 - 1)]) (rest := []) ⟨hx, hb, hml, hown, hts⟩ (c_X7_in l dC dI _ ((p0).toInt64) 0 ((nI mk).toInt64 - 1)) (va_cwS 3 hts gc_X7_isMeeting_X7_in rfl rfl rfl (by decide +kernel) ⟨Nat.le_of_ble_eq_true rfl, Nat.le_of_ble_eq_true rfl⟩) ⟨fun a U g mk q => by obtain ⟨q0, q1, qP, qK, qD⟩ := q; exact ⟨q0, q1, qP, va_K.moved (u := U) (U := U.calling g mk a) (Vm.Alike.refl U.vm) qK, qD⟩, fun U hU hW => ⟨rfl, by rw [hU], by rw [hU]; exact hPc, va_K.moved hW.alike hKc, hDc.weaken (fun _ _ _ _ => trivial)⟩⟩ rfl rfl hl.1 rfl (lv_room (Nat.le_of_ble_eq_true rfl)) dX7_isMeeting_10 ⟨Nat.zero_le _, Nat.zero_le _⟩) hS (fun q _ h => hFc q h) hFc (fun r_2 u t H1 locs ht hvm hw hB hz1 hk1 hS => ?_)
  obtain ⟨hP1, hK1, hD1⟩ := hB
  rw [ht] at hP1
  obtain ⟨hP, hD⟩ := va_join (wr := [(h0, .inr (8, [.int i0, .int i1, .int (nI mk), .ref b3, .ref b4, .int (nI rk), .ref b6, .ref b7, .ref b8, .ref b9, .ref b10, .ref b11, .ref b12, .ref b13, .int (nI nl), .ref b15, .ref b16, .ref b17, .ref b18, .ref b19, .ref b20, .ref b21, .int (nI tp), .int i23, .int i24, .int i25, .long w26, .int i27, .int i28, .int i29, .int i30, .int i31, .int i32, .int i33, .ref b34, .ref b35, .int (nI tm), .ref b37, .ref b38, .ref b39, .ref b40, .ref b41]))]) (w1 := []) hP hD [] [0] rfl rfl (by decide) (by decide) hk1 hFc hP1 hD1
  generalize H1 = H at hP hS ⊢
  have hP : va_P (dC, dI) vwCl [(h0, .inr (8, [.int i0, .int i1, .int (nI mk), .ref b3, .ref b4, .int (nI rk), .ref b6, .ref b7, .ref b8, .ref b9, .ref b10, .ref b11, .ref b12, .ref b13, .int (nI nl), .ref b15, .ref b16, .ref b17, .ref b18, .ref b19, .ref b20, .ref b21, .int (nI tp), .int i23, .int i24, .int i25, .long w26, .int i27, .int i28, .int i29, .int i30, .int i31, .int i32, .int i33, .ref b34, .ref b35, .int (nI tm), .ref b37, .ref b38, .ref b39, .ref b40, .ref b41]))] H := hP
  have hD : va_D A [(h0, .inr (8, [.int i0, .int i1, .int (nI mk), .ref b3, .ref b4, .int (nI rk), .ref b6, .ref b7, .ref b8, .ref b9, .ref b10, .ref b11, .ref b12, .ref b13, .int (nI nl), .ref b15, .ref b16, .ref b17, .ref b18, .ref b19, .ref b20, .ref b21, .int (nI tp), .int i23, .int i24, .int i25, .long w26, .int i27, .int i28, .int i29, .int i30, .int i31, .int i32, .int i33, .ref b34, .ref b35, .int (nI tm), .ref b37, .ref b38, .ref b39, .ref b40, .ref b41]))] := hD
  obtain rfl : r_2 = (if (p0).toInt64 < 0 ∨ ((nI mk).toInt64 - 1) < (p0).toInt64 then 0 else 1) := hw
  have hP9 := hP.sub (ws' := [(h0, .inr (8, [.int i0, .int i1, .int (nI mk), .ref b3, .ref b4, .int (nI rk), .ref b6, .ref b7, .ref b8, .ref b9, .ref b10, .ref b11, .ref b12, .ref b13, .int (nI nl), .ref b15, .ref b16, .ref b17, .ref b18, .ref b19, .ref b20, .ref b21, .int (nI tp), .int i23, .int i24, .int i25, .long w26, .int i27, .int i28, .int i29, .int i30, .int i31, .int i32, .int i33, .ref b34, .ref b35, .int (nI tm), .ref b37, .ref b38, .ref b39, .ref b40, .ref b41]))]) [0] rfl
  have hD9 := hD.sub (ws' := [(h0, .inr (8, [.int i0, .int i1, .int (nI mk), .ref b3, .ref b4, .int (nI rk), .ref b6, .ref b7, .ref b8, .ref b9, .ref b10, .ref b11, .ref b12, .ref b13, .int (nI nl), .ref b15, .ref b16, .ref b17, .ref b18, .ref b19, .ref b20, .ref b21, .int (nI tp), .int i23, .int i24, .int i25, .long w26, .int i27, .int i28, .int i29, .int i30, .int i31, .int i32, .int i33, .ref b34, .ref b35, .int (nI tm), .ref b37, .ref b38, .ref b39, .ref b40, .ref b41]))]) [0] (by decide) rfl
  have hK9 := hK.sub (tys' := []) [] rfl
  exact W.zret (v := (if (p0).toInt64 < 0 ∨ ((nI mk).toInt64 - 1) < (p0).toInt64 then 0 else 1)) (ty := .boolean) hx hb hr (by split <;> rfl) (fun t ht hW => ⟨⟨(if (p0).toInt64 < 0 ∨ ((nI mk).toInt64 - 1) < (p0).toInt64 then 0 else 1), (), rfl, lk_isN (lk_hi (by omega)), by rw [ht]; exact hP9, va_K.moved hW.alike hK9, hD9⟩, hS.F ht⟩) hS.2.2 dX7_isMeeting_13
def wp_X7_isRecord : List Cond := .code yX7_isRecord cX7_isRecord 2 (some .boolean) :: (([.fieldLink RX7 193 "AgreedTalksModel" "records" "I"] : List Cond) ++ wsX70 ++ (va_wsS RX7 99 yX7_in wp_X7_in))
theorem gc_X7_isRecord_X7_in : GoodIn wp_X7_isRecord (va_wsS RX7 99 yX7_in wp_X7_in) := goodIn_sub (fun _ h => List.mem_cons_of_mem _ (List.mem_append_right _ h)) (by decide +kernel)
set_option maxRecDepth 20000 in
theorem gi_X7_isRecord : GoodIn lw_tbl wp_X7_isRecord := (goodIn_ca (goodIn_ca (goodIn_r (.code yX7_isRecord cX7_isRecord 2 (some .boolean) :: ([.fieldLink RX7 193 "AgreedTalksModel" "records" "I"] : List Cond)) [895, 678] (by decide +kernel) (by decide +kernel)) wi_wsX7) (goodIn_app (goodIn_r _ [806, 807, 57] (by decide +kernel) (by decide +kernel)) gi_X7_in))
set_option maxHeartbeats 4000000 in
set_option maxRecDepth 100000 in
/-- isRecord -/
theorem c_X7_isRecord (l : Launch) (dC : Nat → ClassId) (dI : Nat → Nat → Nat) (sz : Nat) (h0 : Nat) (b3 : Nat) (b4 : Nat) (b6 : Nat) (b7 : Nat) (b8 : Nat) (b9 : Nat) (b10 : Nat) (b11 : Nat) (b12 : Nat) (b13 : Nat) (b15 : Nat) (b16 : Nat) (b17 : Nat) (b18 : Nat) (b19 : Nat) (b20 : Nat) (b21 : Nat) (b34 : Nat) (b35 : Nat) (b37 : Nat) (b38 : Nat) (b39 : Nat) (b40 : Nat) (b41 : Nat) (i0 : Int32) (i1 : Int32) (mk : Nat) (rk : Nat) (nl : Nat) (tp : Nat) (i23 : Int32) (i24 : Int32) (i25 : Int32) (w26 : Int64) (i27 : Int32) (i28 : Int32) (i29 : Int32) (i30 : Int32) (i31 : Int32) (i32 : Int32) (i33 : Int32) (tm : Nat) (p0 : Int32) (qrk : rk ≤ 40) : Met l yX7_isRecord wp_X7_isRecord ({ frames := 1, cells := 0, slots := 0, locals := 30 }) (va_Pc [.ref h0, .int p0] (fun U => U.heap.size = sz ∧ va_P (dC, dI) vwCl [(h0, .inr (8, [.int i0, .int i1, .int (nI mk), .ref b3, .ref b4, .int (nI rk), .ref b6, .ref b7, .ref b8, .ref b9, .ref b10, .ref b11, .ref b12, .ref b13, .int (nI nl), .ref b15, .ref b16, .ref b17, .ref b18, .ref b19, .ref b20, .ref b21, .int (nI tp), .int i23, .int i24, .int i25, .long w26, .int i27, .int i28, .int i29, .int i30, .int i31, .int i32, .int i33, .ref b34, .ref b35, .int (nI tm), .ref b37, .ref b38, .ref b39, .ref b40, .ref b41]))] U.heap ∧ va_K (dC, dI) vwCl [] U ∧ va_D (fun _ => True) [(h0, .inr (8, [.int i0, .int i1, .int (nI mk), .ref b3, .ref b4, .int (nI rk), .ref b6, .ref b7, .ref b8, .ref b9, .ref b10, .ref b11, .ref b12, .ref b13, .int (nI nl), .ref b15, .ref b16, .ref b17, .ref b18, .ref b19, .ref b20, .ref b21, .int (nI tp), .int i23, .int i24, .int i25, .long w26, .int i27, .int i28, .int i29, .int i30, .int i31, .int i32, .int i33, .ref b34, .ref b35, .int (nI tm), .ref b37, .ref b38, .ref b39, .ref b40, .ref b41]))])) (va_Qi (fun (r : Int32) (_ : Unit) => r = 0 ∨ (r = 1 ∧ ∃ n, n < rk ∧ p0 = nI n)) (fun (_ : Unit) (t : State) => va_P (dC, dI) vwCl [(h0, .inr (8, [.int i0, .int i1, .int (nI mk), .ref b3, .ref b4, .int (nI rk), .ref b6, .ref b7, .ref b8, .ref b9, .ref b10, .ref b11, .ref b12, .ref b13, .int (nI nl), .ref b15, .ref b16, .ref b17, .ref b18, .ref b19, .ref b20, .ref b21, .int (nI tp), .int i23, .int i24, .int i25, .long w26, .int i27, .int i28, .int i29, .int i30, .int i31, .int i32, .int i33, .ref b34, .ref b35, .int (nI tm), .ref b37, .ref b38, .ref b39, .ref b40, .ref b41]))] t.heap ∧ va_K (dC, dI) vwCl [] t ∧ va_D (va_A [(h0, .inr (8, [.int i0, .int i1, .int (nI mk), .ref b3, .ref b4, .int (nI rk), .ref b6, .ref b7, .ref b8, .ref b9, .ref b10, .ref b11, .ref b12, .ref b13, .int (nI nl), .ref b15, .ref b16, .ref b17, .ref b18, .ref b19, .ref b20, .ref b21, .int (nI tp), .int i23, .int i24, .int i25, .long w26, .int i27, .int i28, .int i29, .int i30, .int i31, .int i32, .int i33, .ref b34, .ref b35, .int (nI tm), .ref b37, .ref b38, .ref b39, .ref b40, .ref b41]))] sz) [(h0, .inr (8, [.int i0, .int i1, .int (nI mk), .ref b3, .ref b4, .int (nI rk), .ref b6, .ref b7, .ref b8, .ref b9, .ref b10, .ref b11, .ref b12, .ref b13, .int (nI nl), .ref b15, .ref b16, .ref b17, .ref b18, .ref b19, .ref b20, .ref b21, .int (nI tp), .int i23, .int i24, .int i25, .long w26, .int i27, .int i28, .int i29, .int i30, .int i31, .int i32, .int i33, .ref b34, .ref b35, .int (nI tm), .ref b37, .ref b38, .ref b39, .ref b40, .ref b41]))]) (va_A [(h0, .inr (8, [.int i0, .int i1, .int (nI mk), .ref b3, .ref b4, .int (nI rk), .ref b6, .ref b7, .ref b8, .ref b9, .ref b10, .ref b11, .ref b12, .ref b13, .int (nI nl), .ref b15, .ref b16, .ref b17, .ref b18, .ref b19, .ref b20, .ref b21, .int (nI tp), .int i23, .int i24, .int i25, .long w26, .int i27, .int i28, .int i29, .int i30, .int i31, .int i32, .int i33, .ref b34, .ref b35, .int (nI tm), .ref b37, .ref b38, .ref b39, .ref b40, .ref b41]))] sz)) 0 0 (va_A [(h0, .inr (8, [.int i0, .int i1, .int (nI mk), .ref b3, .ref b4, .int (nI rk), .ref b6, .ref b7, .ref b8, .ref b9, .ref b10, .ref b11, .ref b12, .ref b13, .int (nI nl), .ref b15, .ref b16, .ref b17, .ref b18, .ref b19, .ref b20, .ref b21, .int (nI tp), .int i23, .int i24, .int i25, .long w26, .int i27, .int i28, .int i29, .int i30, .int i31, .int i32, .int i33, .ref b34, .ref b35, .int (nI tm), .ref b37, .ref b38, .ref b39, .ref b40, .ref b41]))] sz) := by
  refine Met.ofW (cc := cX7_isRecord) (maxL := 2) (ret := (some .boolean)) (by decide) rfl ?_
  intro p e s m args below meth c s₁ B hml hv
  obtain ⟨rfl, hsz, hP, hK, hD0⟩ := hv
  have hx := B.exec
  have hb := B.bytes
  have hr := B.returns
  have hts := atoms_spec (ws := wp_X7_isRecord) B.pre
  have hown : s.vm.findClass RX7 = some m.cls := findClass_of_methodNamed B.named
  have hlocks := B.notSynchronized
  subst hsz
  have hD := hD0.self (sz := s.heap.size)
  generalize hAe : va_A [(h0, .inr (8, [.int i0, .int i1, .int (nI mk), .ref b3, .ref b4, .int (nI rk), .ref b6, .ref b7, .ref b8, .ref b9, .ref b10, .ref b11, .ref b12, .ref b13, .int (nI nl), .ref b15, .ref b16, .ref b17, .ref b18, .ref b19, .ref b20, .ref b21, .int (nI tp), .int i23, .int i24, .int i25, .long w26, .int i27, .int i28, .int i29, .int i30, .int i31, .int i32, .int i33, .ref b34, .ref b35, .int (nI tm), .ref b37, .ref b38, .ref b39, .ref b40, .ref b41]))] s.heap.size = A at hD ⊢
  have hA : ∀ q : Nat, s.heap.size ≤ q → A q := fun q h => by rw [← hAe]; exact Or.inr h
  have hS : va_S A s.heap s.heap [] := va_S.rf
  have hP : va_P (dC, dI) vwCl [(h0, .inr (8, [.int i0, .int i1, .int (nI mk), .ref b3, .ref b4, .int (nI rk), .ref b6, .ref b7, .ref b8, .ref b9, .ref b10, .ref b11, .ref b12, .ref b13, .int (nI nl), .ref b15, .ref b16, .ref b17, .ref b18, .ref b19, .ref b20, .ref b21, .int (nI tp), .int i23, .int i24, .int i25, .long w26, .int i27, .int i28, .int i29, .int i30, .int i31, .int i32, .int i33, .ref b34, .ref b35, .int (nI tm), .ref b37, .ref b38, .ref b39, .ref b40, .ref b41]))] s.heap := hP
  have hl := lv_entry ([.ref h0, .int p0]) (n := 2) (Nat.le_of_ble_eq_true rfl)
  rw [lg_entry_eq]
  generalize (lg_sl ([.ref h0, .int p0]) ++ List.replicate (2 - (lg_sl ([.ref h0, .int p0])).length) Slot.unset).toArray = ls at hl ⊢
  have hl : lv_has ls 2 [(0, .ref h0), (1, .int p0)] := hl
  have hinX7 : ∀ w ∈ u_ws RX7 TX7 42, w ∈ wp_X7_isRecord := fun _ h => List.mem_cons_of_mem _ (List.mem_append_left _ (List.mem_append_right _ h))
  refine lv_iload_n hx hb dX7_isRecord_0 rfl (lv_at hl 1 rfl) ?_
  refine lv_i2l hx hb dX7_isRecord_1 rfl ?_
  refine lv_lconst (v := 0) hx hb dX7_isRecord_2 (by decide) ?_
  refine lv_aload_n hx hb dX7_isRecord_3 rfl (lv_at hl 0 rfl) ?_
  refine va_get (D := (dC, dI)) (ci := 8) (v := .int (nI rk)) (C := RX7) (T := TX7) (N := 42) hx hb hts hinX7 hown hK hP 0 rfl rfl 5 (by decide) (hts (.fieldLink RX7 193 "AgreedTalksModel" "records" "I") (by decide +kernel)) (fun _ h9 => h9) rfl dX7_isRecord_4 ?_
  refine lv_i2l hx hb dX7_isRecord_7 rfl ?_
  refine lv_lconst (v := 1) hx hb dX7_isRecord_8 (by decide) ?_
  refine lv_lsub hx hb dX7_isRecord_9 ?_
  refine lv_topl (fun x_1 ex_1 => ?_)
  obtain rfl : x_1 = ((nI rk).toInt64 - 1) := by rw [ex_1]
  have hPc := hP.sub (ws' := []) [] rfl
  have hDc := hD.sub (ws' := []) [] (by decide) rfl
  have hKc := hK.sub (tys' := []) [] rfl
  have hFc := va_free (wc := []) hD hS hA [] rfl
  refine va_calli (va_runS (As := [.long ((p0).toInt64), .long 0, .long ((nI rk).toInt64 - 1)]) (rest := []) ⟨hx, hb, hml, hown, hts⟩ (c_X7_in l dC dI _ ((p0).toInt64) 0 ((nI rk).toInt64 - 1)) (va_cwS 3 hts gc_X7_isRecord_X7_in rfl rfl rfl (by decide +kernel) ⟨Nat.le_of_ble_eq_true rfl, Nat.le_of_ble_eq_true rfl⟩) ⟨fun a U g mk q => by obtain ⟨q0, q1, qP, qK, qD⟩ := q; exact ⟨q0, q1, qP, va_K.moved (u := U) (U := U.calling g mk a) (Vm.Alike.refl U.vm) qK, qD⟩, fun U hU hW => ⟨rfl, by rw [hU], by rw [hU]; exact hPc, va_K.moved hW.alike hKc, hDc.weaken (fun _ _ _ _ => trivial)⟩⟩ rfl rfl hl.1 rfl (lv_room (Nat.le_of_ble_eq_true rfl)) dX7_isRecord_10 ⟨Nat.zero_le _, Nat.zero_le _⟩) hS (fun q _ h => hFc q h) hFc (fun r_2 u t H1 locs ht hvm hw hB hz1 hk1 hS => ?_)
  obtain ⟨hP1, hK1, hD1⟩ := hB
  rw [ht] at hP1
  obtain ⟨hP, hD⟩ := va_join (wr := [(h0, .inr (8, [.int i0, .int i1, .int (nI mk), .ref b3, .ref b4, .int (nI rk), .ref b6, .ref b7, .ref b8, .ref b9, .ref b10, .ref b11, .ref b12, .ref b13, .int (nI nl), .ref b15, .ref b16, .ref b17, .ref b18, .ref b19, .ref b20, .ref b21, .int (nI tp), .int i23, .int i24, .int i25, .long w26, .int i27, .int i28, .int i29, .int i30, .int i31, .int i32, .int i33, .ref b34, .ref b35, .int (nI tm), .ref b37, .ref b38, .ref b39, .ref b40, .ref b41]))]) (w1 := []) hP hD [] [0] rfl rfl (by decide) (by decide) hk1 hFc hP1 hD1
  generalize H1 = H at hP hS ⊢
  have hP : va_P (dC, dI) vwCl [(h0, .inr (8, [.int i0, .int i1, .int (nI mk), .ref b3, .ref b4, .int (nI rk), .ref b6, .ref b7, .ref b8, .ref b9, .ref b10, .ref b11, .ref b12, .ref b13, .int (nI nl), .ref b15, .ref b16, .ref b17, .ref b18, .ref b19, .ref b20, .ref b21, .int (nI tp), .int i23, .int i24, .int i25, .long w26, .int i27, .int i28, .int i29, .int i30, .int i31, .int i32, .int i33, .ref b34, .ref b35, .int (nI tm), .ref b37, .ref b38, .ref b39, .ref b40, .ref b41]))] H := hP
  have hD : va_D A [(h0, .inr (8, [.int i0, .int i1, .int (nI mk), .ref b3, .ref b4, .int (nI rk), .ref b6, .ref b7, .ref b8, .ref b9, .ref b10, .ref b11, .ref b12, .ref b13, .int (nI nl), .ref b15, .ref b16, .ref b17, .ref b18, .ref b19, .ref b20, .ref b21, .int (nI tp), .int i23, .int i24, .int i25, .long w26, .int i27, .int i28, .int i29, .int i30, .int i31, .int i32, .int i33, .ref b34, .ref b35, .int (nI tm), .ref b37, .ref b38, .ref b39, .ref b40, .ref b41]))] := hD
  obtain rfl : r_2 = (if (p0).toInt64 < 0 ∨ ((nI rk).toInt64 - 1) < (p0).toInt64 then 0 else 1) := hw
  have hP9 := hP.sub (ws' := [(h0, .inr (8, [.int i0, .int i1, .int (nI mk), .ref b3, .ref b4, .int (nI rk), .ref b6, .ref b7, .ref b8, .ref b9, .ref b10, .ref b11, .ref b12, .ref b13, .int (nI nl), .ref b15, .ref b16, .ref b17, .ref b18, .ref b19, .ref b20, .ref b21, .int (nI tp), .int i23, .int i24, .int i25, .long w26, .int i27, .int i28, .int i29, .int i30, .int i31, .int i32, .int i33, .ref b34, .ref b35, .int (nI tm), .ref b37, .ref b38, .ref b39, .ref b40, .ref b41]))]) [0] rfl
  have hD9 := hD.sub (ws' := [(h0, .inr (8, [.int i0, .int i1, .int (nI mk), .ref b3, .ref b4, .int (nI rk), .ref b6, .ref b7, .ref b8, .ref b9, .ref b10, .ref b11, .ref b12, .ref b13, .int (nI nl), .ref b15, .ref b16, .ref b17, .ref b18, .ref b19, .ref b20, .ref b21, .int (nI tp), .int i23, .int i24, .int i25, .long w26, .int i27, .int i28, .int i29, .int i30, .int i31, .int i32, .int i33, .ref b34, .ref b35, .int (nI tm), .ref b37, .ref b38, .ref b39, .ref b40, .ref b41]))]) [0] (by decide) rfl
  have hK9 := hK.sub (tys' := []) [] rfl
  exact W.zret (v := (if (p0).toInt64 < 0 ∨ ((nI rk).toInt64 - 1) < (p0).toInt64 then 0 else 1)) (ty := .boolean) hx hb hr (by split <;> rfl) (fun t ht hW => ⟨⟨(if (p0).toInt64 < 0 ∨ ((nI rk).toInt64 - 1) < (p0).toInt64 then 0 else 1), (), rfl, lk_isN (lk_hi (by omega)), by rw [ht]; exact hP9, va_K.moved hW.alike hK9, hD9⟩, hS.F ht⟩) hS.2.2 dX7_isRecord_13
def wp_X7_isNumber : List Cond := .code yX7_isNumber cX7_isNumber 1 (some .boolean) :: (([.constantLong RX7 107 (39)] : List Cond) ++ (va_wsS RX7 99 yX7_in wp_X7_in))
theorem gc_X7_isNumber_X7_in : GoodIn wp_X7_isNumber (va_wsS RX7 99 yX7_in wp_X7_in) := goodIn_sub (fun _ h => List.mem_cons_of_mem _ (List.mem_append_right _ h)) (by decide +kernel)
set_option maxRecDepth 20000 in
theorem gi_X7_isNumber : GoodIn lw_tbl wp_X7_isNumber := (goodIn_ca (goodIn_r (.code yX7_isNumber cX7_isNumber 1 (some .boolean) :: ([.constantLong RX7 107 (39)] : List Cond)) [902, 878] (by decide +kernel) (by decide +kernel)) (goodIn_app (goodIn_r _ [806, 807, 57] (by decide +kernel) (by decide +kernel)) gi_X7_in))
set_option maxHeartbeats 4000000 in
set_option maxRecDepth 100000 in
/-- isNumber -/
theorem c_X7_isNumber (l : Launch) (dC : Nat → ClassId) (dI : Nat → Nat → Nat) (sz : Nat) (p0 : Int32) : Met l yX7_isNumber wp_X7_isNumber ({ frames := 1, cells := 0, slots := 0, locals := 30 }) (va_Pc [.int p0] (fun U => U.heap.size = sz ∧ va_P (dC, dI) vwCl [] U.heap ∧ va_K (dC, dI) vwCl [] U ∧ va_D (fun _ => True) [])) (va_Qi (fun (r : Int32) (_ : Unit) => r = 0 ∨ (r = 1 ∧ ∃ n, n < 40 ∧ p0 = nI n)) (fun (_ : Unit) (t : State) => va_P (dC, dI) vwCl [] t.heap ∧ va_K (dC, dI) vwCl [] t ∧ va_D (va_A [] sz) []) (va_A [] sz)) 0 0 (va_A [] sz) := by
  refine Met.ofW (cc := cX7_isNumber) (maxL := 1) (ret := (some .boolean)) (by decide) rfl ?_
  intro p e s m args below meth c s₁ B hml hv
  obtain ⟨rfl, hsz, hP, hK, hD0⟩ := hv
  have hx := B.exec
  have hb := B.bytes
  have hr := B.returns
  have hts := atoms_spec (ws := wp_X7_isNumber) B.pre
  have hown : s.vm.findClass RX7 = some m.cls := findClass_of_methodNamed B.named
  have hlocks := B.notSynchronized
  subst hsz
  have hD := hD0.self (sz := s.heap.size)
  generalize hAe : va_A [] s.heap.size = A at hD ⊢
  have hA : ∀ q : Nat, s.heap.size ≤ q → A q := fun q h => by rw [← hAe]; exact Or.inr h
  have hS : va_S A s.heap s.heap [] := va_S.rf
  have hP : va_P (dC, dI) vwCl [] s.heap := hP
  have hl := lv_entry ([.int p0]) (n := 1) (Nat.le_of_ble_eq_true rfl)
  rw [lg_entry_eq]
  generalize (lg_sl ([.int p0]) ++ List.replicate (1 - (lg_sl ([.int p0])).length) Slot.unset).toArray = ls at hl ⊢
  have hl : lv_has ls 1 [(0, .int p0)] := hl
  refine lv_iload_n hx hb dX7_isNumber_0 rfl (lv_at hl 0 rfl) ?_
  refine lv_i2l hx hb dX7_isNumber_1 rfl ?_
  refine lv_lconst (v := 0) hx hb dX7_isNumber_2 (by decide) ?_
  refine lv_ldc2 (v := 39) hx hb hown (hts (.constantLong RX7 107 (39)) (by decide +kernel)) dX7_isNumber_3 ?_
  have hPc := hP.sub (ws' := []) [] rfl
  have hDc := hD.sub (ws' := []) [] (by decide) rfl
  have hKc := hK.sub (tys' := []) [] rfl
  have hFc := va_free (wc := []) hD hS hA [] rfl
  refine va_calli (va_runS (As := [.long ((p0).toInt64), .long 0, .long 39]) (rest := []) ⟨hx, hb, hml, hown, hts⟩ (c_X7_in l dC dI _ ((p0).toInt64) 0 39) (va_cwS 3 hts gc_X7_isNumber_X7_in rfl rfl rfl (by decide +kernel) ⟨Nat.le_of_ble_eq_true rfl, Nat.le_of_ble_eq_true rfl⟩) ⟨fun a U g mk q => by obtain ⟨q0, q1, qP, qK, qD⟩ := q; exact ⟨q0, q1, qP, va_K.moved (u := U) (U := U.calling g mk a) (Vm.Alike.refl U.vm) qK, qD⟩, fun U hU hW => ⟨rfl, by rw [hU], by rw [hU]; exact hPc, va_K.moved hW.alike hKc, hDc.weaken (fun _ _ _ _ => trivial)⟩⟩ rfl rfl hl.1 rfl (lv_room (Nat.le_of_ble_eq_true rfl)) dX7_isNumber_6 ⟨Nat.zero_le _, Nat.zero_le _⟩) hS (fun q _ h => hFc q h) hFc (fun r_1 u t H1 locs ht hvm hw hB hz1 hk1 hS => ?_)
  obtain ⟨hP1, hK1, hD1⟩ := hB
  rw [ht] at hP1
  obtain ⟨hP, hD⟩ := va_join (wr := []) (w1 := []) hP hD [] [] rfl rfl (by decide) (by decide) hk1 hFc hP1 hD1
  generalize H1 = H at hP hS ⊢
  have hP : va_P (dC, dI) vwCl [] H := hP
  have hD : va_D A [] := hD
  obtain rfl : r_1 = (if (p0).toInt64 < 0 ∨ 39 < (p0).toInt64 then 0 else 1) := hw
  have hP9 := hP.sub (ws' := []) [] rfl
  have hD9 := hD.sub (ws' := []) [] (by decide) rfl
  have hK9 := hK.sub (tys' := []) [] rfl
  exact W.zret (v := (if (p0).toInt64 < 0 ∨ 39 < (p0).toInt64 then 0 else 1)) (ty := .boolean) hx hb hr (by split <;> rfl) (fun t ht hW => ⟨⟨(if (p0).toInt64 < 0 ∨ 39 < (p0).toInt64 then 0 else 1), (), rfl, lk_isN (k := 40) (by decide), by rw [ht]; exact hP9, va_K.moved hW.alike hK9, hD9⟩, hS.F ht⟩) hS.2.2 dX7_isNumber_9
def wp_X7_isPerson : List Cond := .code yX7_isPerson cX7_isPerson 1 (some .boolean) :: (([.constantLong RX7 109 (11)] : List Cond) ++ (va_wsS RX7 99 yX7_in wp_X7_in))
theorem gc_X7_isPerson_X7_in : GoodIn wp_X7_isPerson (va_wsS RX7 99 yX7_in wp_X7_in) := goodIn_sub (fun _ h => List.mem_cons_of_mem _ (List.mem_append_right _ h)) (by decide +kernel)
set_option maxRecDepth 20000 in
theorem gi_X7_isPerson : GoodIn lw_tbl wp_X7_isPerson := (goodIn_ca (goodIn_r (.code yX7_isPerson cX7_isPerson 1 (some .boolean) :: ([.constantLong RX7 109 (11)] : List Cond)) [925, 926] (by decide +kernel) (by decide +kernel)) (goodIn_app (goodIn_r _ [806, 807, 57] (by decide +kernel) (by decide +kernel)) gi_X7_in))
set_option maxHeartbeats 4000000 in
set_option maxRecDepth 100000 in
/-- isPerson -/
theorem c_X7_isPerson (l : Launch) (dC : Nat → ClassId) (dI : Nat → Nat → Nat) (sz : Nat) (p0 : Int32) : Met l yX7_isPerson wp_X7_isPerson ({ frames := 1, cells := 0, slots := 0, locals := 30 }) (va_Pc [.int p0] (fun U => U.heap.size = sz ∧ va_P (dC, dI) vwCl [] U.heap ∧ va_K (dC, dI) vwCl [] U ∧ va_D (fun _ => True) [])) (va_Qi (fun (r : Int32) (_ : Unit) => r = 0 ∨ (r = 1 ∧ ∃ n, n < 12 ∧ p0 = nI n)) (fun (_ : Unit) (t : State) => va_P (dC, dI) vwCl [] t.heap ∧ va_K (dC, dI) vwCl [] t ∧ va_D (va_A [] sz) []) (va_A [] sz)) 0 0 (va_A [] sz) := by
  refine Met.ofW (cc := cX7_isPerson) (maxL := 1) (ret := (some .boolean)) (by decide) rfl ?_
  intro p e s m args below meth c s₁ B hml hv
  obtain ⟨rfl, hsz, hP, hK, hD0⟩ := hv
  have hx := B.exec
  have hb := B.bytes
  have hr := B.returns
  have hts := atoms_spec (ws := wp_X7_isPerson) B.pre
  have hown : s.vm.findClass RX7 = some m.cls := findClass_of_methodNamed B.named
  have hlocks := B.notSynchronized
  subst hsz
  have hD := hD0.self (sz := s.heap.size)
  generalize hAe : va_A [] s.heap.size = A at hD ⊢
  have hA : ∀ q : Nat, s.heap.size ≤ q → A q := fun q h => by rw [← hAe]; exact Or.inr h
  have hS : va_S A s.heap s.heap [] := va_S.rf
  have hP : va_P (dC, dI) vwCl [] s.heap := hP
  have hl := lv_entry ([.int p0]) (n := 1) (Nat.le_of_ble_eq_true rfl)
  rw [lg_entry_eq]
  generalize (lg_sl ([.int p0]) ++ List.replicate (1 - (lg_sl ([.int p0])).length) Slot.unset).toArray = ls at hl ⊢
  have hl : lv_has ls 1 [(0, .int p0)] := hl
  refine lv_iload_n hx hb dX7_isPerson_0 rfl (lv_at hl 0 rfl) ?_
  refine lv_i2l hx hb dX7_isPerson_1 rfl ?_
  refine lv_lconst (v := 0) hx hb dX7_isPerson_2 (by decide) ?_
  refine lv_ldc2 (v := 11) hx hb hown (hts (.constantLong RX7 109 (11)) (by decide +kernel)) dX7_isPerson_3 ?_
  have hPc := hP.sub (ws' := []) [] rfl
  have hDc := hD.sub (ws' := []) [] (by decide) rfl
  have hKc := hK.sub (tys' := []) [] rfl
  have hFc := va_free (wc := []) hD hS hA [] rfl
  refine va_calli (va_runS (As := [.long ((p0).toInt64), .long 0, .long 11]) (rest := []) ⟨hx, hb, hml, hown, hts⟩ (c_X7_in l dC dI _ ((p0).toInt64) 0 11) (va_cwS 3 hts gc_X7_isPerson_X7_in rfl rfl rfl (by decide +kernel) ⟨Nat.le_of_ble_eq_true rfl, Nat.le_of_ble_eq_true rfl⟩) ⟨fun a U g mk q => by obtain ⟨q0, q1, qP, qK, qD⟩ := q; exact ⟨q0, q1, qP, va_K.moved (u := U) (U := U.calling g mk a) (Vm.Alike.refl U.vm) qK, qD⟩, fun U hU hW => ⟨rfl, by rw [hU], by rw [hU]; exact hPc, va_K.moved hW.alike hKc, hDc.weaken (fun _ _ _ _ => trivial)⟩⟩ rfl rfl hl.1 rfl (lv_room (Nat.le_of_ble_eq_true rfl)) dX7_isPerson_6 ⟨Nat.zero_le _, Nat.zero_le _⟩) hS (fun q _ h => hFc q h) hFc (fun r_1 u t H1 locs ht hvm hw hB hz1 hk1 hS => ?_)
  obtain ⟨hP1, hK1, hD1⟩ := hB
  rw [ht] at hP1
  obtain ⟨hP, hD⟩ := va_join (wr := []) (w1 := []) hP hD [] [] rfl rfl (by decide) (by decide) hk1 hFc hP1 hD1
  generalize H1 = H at hP hS ⊢
  have hP : va_P (dC, dI) vwCl [] H := hP
  have hD : va_D A [] := hD
  obtain rfl : r_1 = (if (p0).toInt64 < 0 ∨ 11 < (p0).toInt64 then 0 else 1) := hw
  have hP9 := hP.sub (ws' := []) [] rfl
  have hD9 := hD.sub (ws' := []) [] (by decide) rfl
  have hK9 := hK.sub (tys' := []) [] rfl
  exact W.zret (v := (if (p0).toInt64 < 0 ∨ 11 < (p0).toInt64 then 0 else 1)) (ty := .boolean) hx hb hr (by split <;> rfl) (fun t ht hW => ⟨⟨(if (p0).toInt64 < 0 ∨ 11 < (p0).toInt64 then 0 else 1), (), rfl, lk_isN (k := 12) (by decide), by rw [ht]; exact hP9, va_K.moved hW.alike hK9, hD9⟩, hS.F ht⟩) hS.2.2 dX7_isPerson_9
def wp_X7_four : List Cond := .code yX7_four cX7_four 3 none :: (([.fieldLink RX7 59 "AgreedTalksModel" "tape" "[I", .fieldLink RX7 111 "AgreedTalksModel" "taped" "I"] : List Cond) ++ wsX70)
set_option maxRecDepth 20000 in
theorem gi_X7_four : GoodIn lw_tbl wp_X7_four := (goodIn_ca (goodIn_r (.code yX7_four cX7_four 3 none :: ([.fieldLink RX7 59 "AgreedTalksModel" "tape" "[I", .fieldLink RX7 111 "AgreedTalksModel" "taped" "I"] : List Cond)) [820, 694, 695] (by decide +kernel) (by decide +kernel)) wi_wsX7)
set_option maxHeartbeats 4000000 in
set_option maxRecDepth 100000 in
/-- four(v) -/
theorem c_X7_four (l : Launch) (dC : Nat → ClassId) (dI : Nat → Nat → Nat) (sz : Nat) (h0 : Nat) (b3 : Nat) (b4 : Nat) (b6 : Nat) (b7 : Nat) (b8 : Nat) (b9 : Nat) (b10 : Nat) (b11 : Nat) (b12 : Nat) (b13 : Nat) (b15 : Nat) (b16 : Nat) (b17 : Nat) (b18 : Nat) (b19 : Nat) (b20 : Nat) (b21 : Nat) (b34 : Nat) (b35 : Nat) (b37 : Nat) (b38 : Nat) (b39 : Nat) (b40 : Nat) (b41 : Nat) (i0 : Int32) (i1 : Int32) (mk : Nat) (rk : Nat) (nl : Nat) (tp : Nat) (i23 : Int32) (i24 : Int32) (i25 : Int32) (w26 : Int64) (i27 : Int32) (i28 : Int32) (i29 : Int32) (i30 : Int32) (i31 : Int32) (i32 : Int32) (i33 : Int32) (tm : Nat) (p0 : Int32) (cT : ClassId) (ft : Nat → Int32) (qk : tp ≤ 296) : Met l yX7_four wp_X7_four ({ frames := 0, cells := 0, slots := 0, locals := 0 }) (va_Pc [.ref h0, .int p0] (fun U => U.heap.size = sz ∧ va_P (dC, dI) vwCl [(h0, .inr (8, [.int i0, .int i1, .int (nI mk), .ref b3, .ref b4, .int (nI rk), .ref b6, .ref b7, .ref b8, .ref b9, .ref b10, .ref b11, .ref b12, .ref b13, .int (nI nl), .ref b15, .ref b16, .ref b17, .ref b18, .ref b19, .ref b20, .ref b21, .int (nI tp), .int i23, .int i24, .int i25, .long w26, .int i27, .int i28, .int i29, .int i30, .int i31, .int i32, .int i33, .ref b34, .ref b35, .int (nI tm), .ref b37, .ref b38, .ref b39, .ref b40, .ref b41])), (b21, .inl (cT, 300, .inl ft))] U.heap ∧ va_K (dC, dI) vwCl [(cT, .int)] U ∧ va_D (fun _ => True) [(h0, .inr (8, [.int i0, .int i1, .int (nI mk), .ref b3, .ref b4, .int (nI rk), .ref b6, .ref b7, .ref b8, .ref b9, .ref b10, .ref b11, .ref b12, .ref b13, .int (nI nl), .ref b15, .ref b16, .ref b17, .ref b18, .ref b19, .ref b20, .ref b21, .int (nI tp), .int i23, .int i24, .int i25, .long w26, .int i27, .int i28, .int i29, .int i30, .int i31, .int i32, .int i33, .ref b34, .ref b35, .int (nI tm), .ref b37, .ref b38, .ref b39, .ref b40, .ref b41])), (b21, .inl (cT, 300, .inl ft))])) (va_Qv (fun (_ : Unit) => True) (fun (_ : Unit) (t : State) => ∃ (gt : Nat → Int32), va_P (dC, dI) vwCl [(h0, .inr (8, [.int i0, .int i1, .int (nI mk), .ref b3, .ref b4, .int (nI rk), .ref b6, .ref b7, .ref b8, .ref b9, .ref b10, .ref b11, .ref b12, .ref b13, .int (nI nl), .ref b15, .ref b16, .ref b17, .ref b18, .ref b19, .ref b20, .ref b21, .int (nI (tp + 4)), .int i23, .int i24, .int i25, .long w26, .int i27, .int i28, .int i29, .int i30, .int i31, .int i32, .int i33, .ref b34, .ref b35, .int (nI tm), .ref b37, .ref b38, .ref b39, .ref b40, .ref b41])), (b21, .inl (cT, 300, .inl gt))] t.heap ∧ va_K (dC, dI) vwCl [(cT, .int)] t ∧ va_D (va_A [(h0, .inr (8, [.int i0, .int i1, .int (nI mk), .ref b3, .ref b4, .int (nI rk), .ref b6, .ref b7, .ref b8, .ref b9, .ref b10, .ref b11, .ref b12, .ref b13, .int (nI nl), .ref b15, .ref b16, .ref b17, .ref b18, .ref b19, .ref b20, .ref b21, .int (nI tp), .int i23, .int i24, .int i25, .long w26, .int i27, .int i28, .int i29, .int i30, .int i31, .int i32, .int i33, .ref b34, .ref b35, .int (nI tm), .ref b37, .ref b38, .ref b39, .ref b40, .ref b41])), (b21, .inl (cT, 300, .inl ft))] sz) [(h0, .inr (8, [.int i0, .int i1, .int (nI mk), .ref b3, .ref b4, .int (nI rk), .ref b6, .ref b7, .ref b8, .ref b9, .ref b10, .ref b11, .ref b12, .ref b13, .int (nI nl), .ref b15, .ref b16, .ref b17, .ref b18, .ref b19, .ref b20, .ref b21, .int (nI (tp + 4)), .int i23, .int i24, .int i25, .long w26, .int i27, .int i28, .int i29, .int i30, .int i31, .int i32, .int i33, .ref b34, .ref b35, .int (nI tm), .ref b37, .ref b38, .ref b39, .ref b40, .ref b41])), (b21, .inl (cT, 300, .inl gt))]) (va_A [(h0, .inr (8, [.int i0, .int i1, .int (nI mk), .ref b3, .ref b4, .int (nI rk), .ref b6, .ref b7, .ref b8, .ref b9, .ref b10, .ref b11, .ref b12, .ref b13, .int (nI nl), .ref b15, .ref b16, .ref b17, .ref b18, .ref b19, .ref b20, .ref b21, .int (nI tp), .int i23, .int i24, .int i25, .long w26, .int i27, .int i28, .int i29, .int i30, .int i31, .int i32, .int i33, .ref b34, .ref b35, .int (nI tm), .ref b37, .ref b38, .ref b39, .ref b40, .ref b41])), (b21, .inl (cT, 300, .inl ft))] sz)) 0 0 (va_A [(h0, .inr (8, [.int i0, .int i1, .int (nI mk), .ref b3, .ref b4, .int (nI rk), .ref b6, .ref b7, .ref b8, .ref b9, .ref b10, .ref b11, .ref b12, .ref b13, .int (nI nl), .ref b15, .ref b16, .ref b17, .ref b18, .ref b19, .ref b20, .ref b21, .int (nI tp), .int i23, .int i24, .int i25, .long w26, .int i27, .int i28, .int i29, .int i30, .int i31, .int i32, .int i33, .ref b34, .ref b35, .int (nI tm), .ref b37, .ref b38, .ref b39, .ref b40, .ref b41])), (b21, .inl (cT, 300, .inl ft))] sz) := by
  refine Met.ofW (cc := cX7_four) (maxL := 3) (ret := none) (by decide) rfl ?_
  intro p e s m args below meth c s₁ B hml hv
  obtain ⟨rfl, hsz, hP, hK, hD0⟩ := hv
  have hx := B.exec
  have hb := B.bytes
  have hr := B.returns
  have hts := atoms_spec (ws := wp_X7_four) B.pre
  have hown : s.vm.findClass RX7 = some m.cls := findClass_of_methodNamed B.named
  have hlocks := B.notSynchronized
  subst hsz
  have hD := hD0.self (sz := s.heap.size)
  generalize hAe : va_A [(h0, .inr (8, [.int i0, .int i1, .int (nI mk), .ref b3, .ref b4, .int (nI rk), .ref b6, .ref b7, .ref b8, .ref b9, .ref b10, .ref b11, .ref b12, .ref b13, .int (nI nl), .ref b15, .ref b16, .ref b17, .ref b18, .ref b19, .ref b20, .ref b21, .int (nI tp), .int i23, .int i24, .int i25, .long w26, .int i27, .int i28, .int i29, .int i30, .int i31, .int i32, .int i33, .ref b34, .ref b35, .int (nI tm), .ref b37, .ref b38, .ref b39, .ref b40, .ref b41])), (b21, .inl (cT, 300, .inl ft))] s.heap.size = A at hD ⊢
  have hA : ∀ q : Nat, s.heap.size ≤ q → A q := fun q h => by rw [← hAe]; exact Or.inr h
  have hS : va_S A s.heap s.heap [] := va_S.rf
  have hP : va_P (dC, dI) vwCl [(h0, .inr (8, [.int i0, .int i1, .int (nI mk), .ref b3, .ref b4, .int (nI rk), .ref b6, .ref b7, .ref b8, .ref b9, .ref b10, .ref b11, .ref b12, .ref b13, .int (nI nl), .ref b15, .ref b16, .ref b17, .ref b18, .ref b19, .ref b20, .ref b21, .int (nI tp), .int i23, .int i24, .int i25, .long w26, .int i27, .int i28, .int i29, .int i30, .int i31, .int i32, .int i33, .ref b34, .ref b35, .int (nI tm), .ref b37, .ref b38, .ref b39, .ref b40, .ref b41])), (b21, .inl (cT, 300, .inl ft))] s.heap := hP
  have hl := lv_entry ([.ref h0, .int p0]) (n := 3) (Nat.le_of_ble_eq_true rfl)
  rw [lg_entry_eq]
  generalize (lg_sl ([.ref h0, .int p0]) ++ List.replicate (3 - (lg_sl ([.ref h0, .int p0])).length) Slot.unset).toArray = ls at hl ⊢
  have hl : lv_has ls 3 [(0, .ref h0), (1, .int p0)] := hl
  have hinX7 : ∀ w ∈ u_ws RX7 TX7 42, w ∈ wp_X7_four := fun _ h => List.mem_cons_of_mem _ (List.mem_append_right _ h)
  refine lv_bipush (v := 24) hx hb dX7_four_0 (by decide) ?_
  refine lv_istore_n (lv' := [(2, .int 24), (0, .ref h0), (1, .int p0)]) hx hb dX7_four_2 rfl hl (by decide) rfl (fun ls hl => ?_)
  refine lv_iload_n hx hb dX7_four_3 rfl (lv_at hl 0 rfl) ?_
  refine lv_if_lt (tgt := 39) hx hb dX7_four_4 (by decide) (fun c_1 => ?_) (fun c_1 => ?_)
  · exact absurd c_1 (by decide)
  · refine lv_aload_n hx hb dX7_four_7 rfl (lv_at hl 1 rfl) ?_
    refine va_get (D := (dC, dI)) (ci := 8) (v := .ref b21) (C := RX7) (T := TX7) (N := 42) hx hb hts hinX7 hown hK hP 0 rfl rfl 21 (by decide) (hts (.fieldLink RX7 59 "AgreedTalksModel" "tape" "[I") (by decide +kernel)) (fun _ h9 => h9) rfl dX7_four_8 ?_
    refine lv_aload_n hx hb dX7_four_11 rfl (lv_at hl 1 rfl) ?_
    refine va_get (D := (dC, dI)) (ci := 8) (v := .int (nI tp)) (C := RX7) (T := TX7) (N := 42) hx hb hts hinX7 hown hK hP 0 rfl rfl 22 (by decide) (hts (.fieldLink RX7 111 "AgreedTalksModel" "taped" "I") (by decide +kernel)) (fun _ h9 => h9) rfl dX7_four_12 ?_
    refine lv_iload_n hx hb dX7_four_15 rfl (lv_at hl 2 rfl) ?_
    refine lv_iload_n hx hb dX7_four_16 rfl (lv_at hl 0 rfl) ?_
    refine lv_ishr hx hb dX7_four_17 ?_
    refine lv_topi (fun x_2 ex_2 => ?_)
    refine lv_sipush (v := 255) hx hb dX7_four_18 (by decide) ?_
    refine lv_iand hx hb dX7_four_21 ?_
    refine lv_topi (fun x_3 ex_3 => ?_)
    refine va_iast hx hb hK hP hD hS 1 0 rfl rfl (vp_in_nI (by omega) (by omega)) dX7_four_22 (fun H locs hP hD hS => ?_)
    have hP : va_P (dC, dI) vwCl [(h0, .inr (8, [.int i0, .int i1, .int (nI mk), .ref b3, .ref b4, .int (nI rk), .ref b6, .ref b7, .ref b8, .ref b9, .ref b10, .ref b11, .ref b12, .ref b13, .int (nI nl), .ref b15, .ref b16, .ref b17, .ref b18, .ref b19, .ref b20, .ref b21, .int (nI tp), .int i23, .int i24, .int i25, .long w26, .int i27, .int i28, .int i29, .int i30, .int i31, .int i32, .int i33, .ref b34, .ref b35, .int (nI tm), .ref b37, .ref b38, .ref b39, .ref b40, .ref b41])), (b21, .inl (cT, 300, .inl (upd ft (Int32.toNatClampNeg (nI tp)) x_3)))] H := hP
    have hD : va_D A [(h0, .inr (8, [.int i0, .int i1, .int (nI mk), .ref b3, .ref b4, .int (nI rk), .ref b6, .ref b7, .ref b8, .ref b9, .ref b10, .ref b11, .ref b12, .ref b13, .int (nI nl), .ref b15, .ref b16, .ref b17, .ref b18, .ref b19, .ref b20, .ref b21, .int (nI tp), .int i23, .int i24, .int i25, .long w26, .int i27, .int i28, .int i29, .int i30, .int i31, .int i32, .int i33, .ref b34, .ref b35, .int (nI tm), .ref b37, .ref b38, .ref b39, .ref b40, .ref b41])), (b21, .inl (cT, 300, .inl (upd ft (Int32.toNatClampNeg (nI tp)) x_3)))] := hD
    generalize ef_4 : upd ft (Int32.toNatClampNeg (nI tp)) x_3 = f_4 at hP hD
    rw [show Int32.toNatClampNeg (nI tp) = tp from nI_clamp (by omega)] at ef_4
    refine lv_aload_n hx hb dX7_four_23 rfl (lv_at hl 1 rfl) ?_
    refine lv_dup hx hb dX7_four_24 rfl ?_
    refine va_get (D := (dC, dI)) (ci := 8) (v := .int (nI tp)) (C := RX7) (T := TX7) (N := 42) hx hb hts hinX7 hown hK hP 0 rfl rfl 22 (by decide) (hts (.fieldLink RX7 111 "AgreedTalksModel" "taped" "I") (by decide +kernel)) (fun _ h9 => h9) rfl dX7_four_25 ?_
    refine lv_iconst (v := 1) hx hb dX7_four_28 (by decide) ?_
    refine lv_iadd hx hb dX7_four_29 ?_
    refine lv_topi (fun x_5 ex_5 => ?_)
    obtain rfl : x_5 = (nI (tp + 1)) := by rw [ex_5]; exact nI_add _ _
    refine va_put (D := (dC, dI)) (ci := 8) (v := .int (nI (tp + 1))) (ty := .int) (C := RX7) (T := TX7) (N := 42) hx hb hts hinX7 tyX7 tyX7_ok nmX7 hown hK hP hD hS 0 rfl rfl 22 (by decide) (hts (.fieldLink RX7 111 "AgreedTalksModel" "taped" "I") (by decide +kernel)) (fun _ h9 => h9) rfl (by decide +kernel) rfl rfl (Nat.le_of_ble_eq_true rfl) dX7_four_30 (fun H locs hP hD hS => ?_)
    have hP : va_P (dC, dI) vwCl [(h0, .inr (8, [.int i0, .int i1, .int (nI mk), .ref b3, .ref b4, .int (nI rk), .ref b6, .ref b7, .ref b8, .ref b9, .ref b10, .ref b11, .ref b12, .ref b13, .int (nI nl), .ref b15, .ref b16, .ref b17, .ref b18, .ref b19, .ref b20, .ref b21, .int (nI (tp + 1)), .int i23, .int i24, .int i25, .long w26, .int i27, .int i28, .int i29, .int i30, .int i31, .int i32, .int i33, .ref b34, .ref b35, .int (nI tm), .ref b37, .ref b38, .ref b39, .ref b40, .ref b41])), (b21, .inl (cT, 300, .inl f_4))] H := hP
    have hD : va_D A [(h0, .inr (8, [.int i0, .int i1, .int (nI mk), .ref b3, .ref b4, .int (nI rk), .ref b6, .ref b7, .ref b8, .ref b9, .ref b10, .ref b11, .ref b12, .ref b13, .int (nI nl), .ref b15, .ref b16, .ref b17, .ref b18, .ref b19, .ref b20, .ref b21, .int (nI (tp + 1)), .int i23, .int i24, .int i25, .long w26, .int i27, .int i28, .int i29, .int i30, .int i31, .int i32, .int i33, .ref b34, .ref b35, .int (nI tm), .ref b37, .ref b38, .ref b39, .ref b40, .ref b41])), (b21, .inl (cT, 300, .inl f_4))] := hD
    refine lv_iinc (v := 16) (lv' := [(2, .int 16), (0, .ref h0), (1, .int p0)]) hx hb dX7_four_33 hl (k := 0) rfl (by decide) (by decide) rfl (fun ls hl => ?_)
    refine lv_goto (tgt := 3) hx hb dX7_four_36 (by decide) ?_
    refine lv_iload_n hx hb dX7_four_3 rfl (lv_at hl 0 rfl) ?_
    refine lv_if_lt (tgt := 39) hx hb dX7_four_4 (by decide) (fun c_6 => ?_) (fun c_6 => ?_)
    · exact absurd c_6 (by decide)
    · refine lv_aload_n hx hb dX7_four_7 rfl (lv_at hl 1 rfl) ?_
      refine va_get (D := (dC, dI)) (ci := 8) (v := .ref b21) (C := RX7) (T := TX7) (N := 42) hx hb hts hinX7 hown hK hP 0 rfl rfl 21 (by decide) (hts (.fieldLink RX7 59 "AgreedTalksModel" "tape" "[I") (by decide +kernel)) (fun _ h9 => h9) rfl dX7_four_8 ?_
      refine lv_aload_n hx hb dX7_four_11 rfl (lv_at hl 1 rfl) ?_
      refine va_get (D := (dC, dI)) (ci := 8) (v := .int (nI (tp + 1))) (C := RX7) (T := TX7) (N := 42) hx hb hts hinX7 hown hK hP 0 rfl rfl 22 (by decide) (hts (.fieldLink RX7 111 "AgreedTalksModel" "taped" "I") (by decide +kernel)) (fun _ h9 => h9) rfl dX7_four_12 ?_
      refine lv_iload_n hx hb dX7_four_15 rfl (lv_at hl 2 rfl) ?_
      refine lv_iload_n hx hb dX7_four_16 rfl (lv_at hl 0 rfl) ?_
      refine lv_ishr hx hb dX7_four_17 ?_
      refine lv_topi (fun x_7 ex_7 => ?_)
      refine lv_sipush (v := 255) hx hb dX7_four_18 (by decide) ?_
      refine lv_iand hx hb dX7_four_21 ?_
      refine lv_topi (fun x_8 ex_8 => ?_)
      refine va_iast hx hb hK hP hD hS 1 0 rfl rfl (vp_in_nI (by omega) (by omega)) dX7_four_22 (fun H locs hP hD hS => ?_)
      have hP : va_P (dC, dI) vwCl [(h0, .inr (8, [.int i0, .int i1, .int (nI mk), .ref b3, .ref b4, .int (nI rk), .ref b6, .ref b7, .ref b8, .ref b9, .ref b10, .ref b11, .ref b12, .ref b13, .int (nI nl), .ref b15, .ref b16, .ref b17, .ref b18, .ref b19, .ref b20, .ref b21, .int (nI (tp + 1)), .int i23, .int i24, .int i25, .long w26, .int i27, .int i28, .int i29, .int i30, .int i31, .int i32, .int i33, .ref b34, .ref b35, .int (nI tm), .ref b37, .ref b38, .ref b39, .ref b40, .ref b41])), (b21, .inl (cT, 300, .inl (upd f_4 (Int32.toNatClampNeg (nI (tp + 1))) x_8)))] H := hP
      have hD : va_D A [(h0, .inr (8, [.int i0, .int i1, .int (nI mk), .ref b3, .ref b4, .int (nI rk), .ref b6, .ref b7, .ref b8, .ref b9, .ref b10, .ref b11, .ref b12, .ref b13, .int (nI nl), .ref b15, .ref b16, .ref b17, .ref b18, .ref b19, .ref b20, .ref b21, .int (nI (tp + 1)), .int i23, .int i24, .int i25, .long w26, .int i27, .int i28, .int i29, .int i30, .int i31, .int i32, .int i33, .ref b34, .ref b35, .int (nI tm), .ref b37, .ref b38, .ref b39, .ref b40, .ref b41])), (b21, .inl (cT, 300, .inl (upd f_4 (Int32.toNatClampNeg (nI (tp + 1))) x_8)))] := hD
      generalize ef_9 : upd f_4 (Int32.toNatClampNeg (nI (tp + 1))) x_8 = f_9 at hP hD
      rw [show Int32.toNatClampNeg (nI (tp + 1)) = tp + 1 from nI_clamp (by omega)] at ef_9
      refine lv_aload_n hx hb dX7_four_23 rfl (lv_at hl 1 rfl) ?_
      refine lv_dup hx hb dX7_four_24 rfl ?_
      refine va_get (D := (dC, dI)) (ci := 8) (v := .int (nI (tp + 1))) (C := RX7) (T := TX7) (N := 42) hx hb hts hinX7 hown hK hP 0 rfl rfl 22 (by decide) (hts (.fieldLink RX7 111 "AgreedTalksModel" "taped" "I") (by decide +kernel)) (fun _ h9 => h9) rfl dX7_four_25 ?_
      refine lv_iconst (v := 1) hx hb dX7_four_28 (by decide) ?_
      refine lv_iadd hx hb dX7_four_29 ?_
      refine lv_topi (fun x_10 ex_10 => ?_)
      obtain rfl : x_10 = (nI (tp + 2)) := by rw [ex_10]; exact nI_add _ _
      refine va_put (D := (dC, dI)) (ci := 8) (v := .int (nI (tp + 2))) (ty := .int) (C := RX7) (T := TX7) (N := 42) hx hb hts hinX7 tyX7 tyX7_ok nmX7 hown hK hP hD hS 0 rfl rfl 22 (by decide) (hts (.fieldLink RX7 111 "AgreedTalksModel" "taped" "I") (by decide +kernel)) (fun _ h9 => h9) rfl (by decide +kernel) rfl rfl (Nat.le_of_ble_eq_true rfl) dX7_four_30 (fun H locs hP hD hS => ?_)
      have hP : va_P (dC, dI) vwCl [(h0, .inr (8, [.int i0, .int i1, .int (nI mk), .ref b3, .ref b4, .int (nI rk), .ref b6, .ref b7, .ref b8, .ref b9, .ref b10, .ref b11, .ref b12, .ref b13, .int (nI nl), .ref b15, .ref b16, .ref b17, .ref b18, .ref b19, .ref b20, .ref b21, .int (nI (tp + 2)), .int i23, .int i24, .int i25, .long w26, .int i27, .int i28, .int i29, .int i30, .int i31, .int i32, .int i33, .ref b34, .ref b35, .int (nI tm), .ref b37, .ref b38, .ref b39, .ref b40, .ref b41])), (b21, .inl (cT, 300, .inl f_9))] H := hP
      have hD : va_D A [(h0, .inr (8, [.int i0, .int i1, .int (nI mk), .ref b3, .ref b4, .int (nI rk), .ref b6, .ref b7, .ref b8, .ref b9, .ref b10, .ref b11, .ref b12, .ref b13, .int (nI nl), .ref b15, .ref b16, .ref b17, .ref b18, .ref b19, .ref b20, .ref b21, .int (nI (tp + 2)), .int i23, .int i24, .int i25, .long w26, .int i27, .int i28, .int i29, .int i30, .int i31, .int i32, .int i33, .ref b34, .ref b35, .int (nI tm), .ref b37, .ref b38, .ref b39, .ref b40, .ref b41])), (b21, .inl (cT, 300, .inl f_9))] := hD
      refine lv_iinc (v := 8) (lv' := [(2, .int 8), (0, .ref h0), (1, .int p0)]) hx hb dX7_four_33 hl (k := 0) rfl (by decide) (by decide) rfl (fun ls hl => ?_)
      refine lv_goto (tgt := 3) hx hb dX7_four_36 (by decide) ?_
      refine lv_iload_n hx hb dX7_four_3 rfl (lv_at hl 0 rfl) ?_
      refine lv_if_lt (tgt := 39) hx hb dX7_four_4 (by decide) (fun c_11 => ?_) (fun c_11 => ?_)
      · exact absurd c_11 (by decide)
      · refine lv_aload_n hx hb dX7_four_7 rfl (lv_at hl 1 rfl) ?_
        refine va_get (D := (dC, dI)) (ci := 8) (v := .ref b21) (C := RX7) (T := TX7) (N := 42) hx hb hts hinX7 hown hK hP 0 rfl rfl 21 (by decide) (hts (.fieldLink RX7 59 "AgreedTalksModel" "tape" "[I") (by decide +kernel)) (fun _ h9 => h9) rfl dX7_four_8 ?_
        refine lv_aload_n hx hb dX7_four_11 rfl (lv_at hl 1 rfl) ?_
        refine va_get (D := (dC, dI)) (ci := 8) (v := .int (nI (tp + 2))) (C := RX7) (T := TX7) (N := 42) hx hb hts hinX7 hown hK hP 0 rfl rfl 22 (by decide) (hts (.fieldLink RX7 111 "AgreedTalksModel" "taped" "I") (by decide +kernel)) (fun _ h9 => h9) rfl dX7_four_12 ?_
        refine lv_iload_n hx hb dX7_four_15 rfl (lv_at hl 2 rfl) ?_
        refine lv_iload_n hx hb dX7_four_16 rfl (lv_at hl 0 rfl) ?_
        refine lv_ishr hx hb dX7_four_17 ?_
        refine lv_topi (fun x_12 ex_12 => ?_)
        refine lv_sipush (v := 255) hx hb dX7_four_18 (by decide) ?_
        refine lv_iand hx hb dX7_four_21 ?_
        refine lv_topi (fun x_13 ex_13 => ?_)
        refine va_iast hx hb hK hP hD hS 1 0 rfl rfl (vp_in_nI (by omega) (by omega)) dX7_four_22 (fun H locs hP hD hS => ?_)
        have hP : va_P (dC, dI) vwCl [(h0, .inr (8, [.int i0, .int i1, .int (nI mk), .ref b3, .ref b4, .int (nI rk), .ref b6, .ref b7, .ref b8, .ref b9, .ref b10, .ref b11, .ref b12, .ref b13, .int (nI nl), .ref b15, .ref b16, .ref b17, .ref b18, .ref b19, .ref b20, .ref b21, .int (nI (tp + 2)), .int i23, .int i24, .int i25, .long w26, .int i27, .int i28, .int i29, .int i30, .int i31, .int i32, .int i33, .ref b34, .ref b35, .int (nI tm), .ref b37, .ref b38, .ref b39, .ref b40, .ref b41])), (b21, .inl (cT, 300, .inl (upd f_9 (Int32.toNatClampNeg (nI (tp + 2))) x_13)))] H := hP
        have hD : va_D A [(h0, .inr (8, [.int i0, .int i1, .int (nI mk), .ref b3, .ref b4, .int (nI rk), .ref b6, .ref b7, .ref b8, .ref b9, .ref b10, .ref b11, .ref b12, .ref b13, .int (nI nl), .ref b15, .ref b16, .ref b17, .ref b18, .ref b19, .ref b20, .ref b21, .int (nI (tp + 2)), .int i23, .int i24, .int i25, .long w26, .int i27, .int i28, .int i29, .int i30, .int i31, .int i32, .int i33, .ref b34, .ref b35, .int (nI tm), .ref b37, .ref b38, .ref b39, .ref b40, .ref b41])), (b21, .inl (cT, 300, .inl (upd f_9 (Int32.toNatClampNeg (nI (tp + 2))) x_13)))] := hD
        generalize ef_14 : upd f_9 (Int32.toNatClampNeg (nI (tp + 2))) x_13 = f_14 at hP hD
        rw [show Int32.toNatClampNeg (nI (tp + 2)) = tp + 2 from nI_clamp (by omega)] at ef_14
        refine lv_aload_n hx hb dX7_four_23 rfl (lv_at hl 1 rfl) ?_
        refine lv_dup hx hb dX7_four_24 rfl ?_
        refine va_get (D := (dC, dI)) (ci := 8) (v := .int (nI (tp + 2))) (C := RX7) (T := TX7) (N := 42) hx hb hts hinX7 hown hK hP 0 rfl rfl 22 (by decide) (hts (.fieldLink RX7 111 "AgreedTalksModel" "taped" "I") (by decide +kernel)) (fun _ h9 => h9) rfl dX7_four_25 ?_
        refine lv_iconst (v := 1) hx hb dX7_four_28 (by decide) ?_
        refine lv_iadd hx hb dX7_four_29 ?_
        refine lv_topi (fun x_15 ex_15 => ?_)
        obtain rfl : x_15 = (nI (tp + 3)) := by rw [ex_15]; exact nI_add _ _
        refine va_put (D := (dC, dI)) (ci := 8) (v := .int (nI (tp + 3))) (ty := .int) (C := RX7) (T := TX7) (N := 42) hx hb hts hinX7 tyX7 tyX7_ok nmX7 hown hK hP hD hS 0 rfl rfl 22 (by decide) (hts (.fieldLink RX7 111 "AgreedTalksModel" "taped" "I") (by decide +kernel)) (fun _ h9 => h9) rfl (by decide +kernel) rfl rfl (Nat.le_of_ble_eq_true rfl) dX7_four_30 (fun H locs hP hD hS => ?_)
        have hP : va_P (dC, dI) vwCl [(h0, .inr (8, [.int i0, .int i1, .int (nI mk), .ref b3, .ref b4, .int (nI rk), .ref b6, .ref b7, .ref b8, .ref b9, .ref b10, .ref b11, .ref b12, .ref b13, .int (nI nl), .ref b15, .ref b16, .ref b17, .ref b18, .ref b19, .ref b20, .ref b21, .int (nI (tp + 3)), .int i23, .int i24, .int i25, .long w26, .int i27, .int i28, .int i29, .int i30, .int i31, .int i32, .int i33, .ref b34, .ref b35, .int (nI tm), .ref b37, .ref b38, .ref b39, .ref b40, .ref b41])), (b21, .inl (cT, 300, .inl f_14))] H := hP
        have hD : va_D A [(h0, .inr (8, [.int i0, .int i1, .int (nI mk), .ref b3, .ref b4, .int (nI rk), .ref b6, .ref b7, .ref b8, .ref b9, .ref b10, .ref b11, .ref b12, .ref b13, .int (nI nl), .ref b15, .ref b16, .ref b17, .ref b18, .ref b19, .ref b20, .ref b21, .int (nI (tp + 3)), .int i23, .int i24, .int i25, .long w26, .int i27, .int i28, .int i29, .int i30, .int i31, .int i32, .int i33, .ref b34, .ref b35, .int (nI tm), .ref b37, .ref b38, .ref b39, .ref b40, .ref b41])), (b21, .inl (cT, 300, .inl f_14))] := hD
        refine lv_iinc (v := 0) (lv' := [(2, .int 0), (0, .ref h0), (1, .int p0)]) hx hb dX7_four_33 hl (k := 0) rfl (by decide) (by decide) rfl (fun ls hl => ?_)
        refine lv_goto (tgt := 3) hx hb dX7_four_36 (by decide) ?_
        refine lv_iload_n hx hb dX7_four_3 rfl (lv_at hl 0 rfl) ?_
        refine lv_if_lt (tgt := 39) hx hb dX7_four_4 (by decide) (fun c_16 => ?_) (fun c_16 => ?_)
        · exact absurd c_16 (by decide)
        · refine lv_aload_n hx hb dX7_four_7 rfl (lv_at hl 1 rfl) ?_
          refine va_get (D := (dC, dI)) (ci := 8) (v := .ref b21) (C := RX7) (T := TX7) (N := 42) hx hb hts hinX7 hown hK hP 0 rfl rfl 21 (by decide) (hts (.fieldLink RX7 59 "AgreedTalksModel" "tape" "[I") (by decide +kernel)) (fun _ h9 => h9) rfl dX7_four_8 ?_
          refine lv_aload_n hx hb dX7_four_11 rfl (lv_at hl 1 rfl) ?_
          refine va_get (D := (dC, dI)) (ci := 8) (v := .int (nI (tp + 3))) (C := RX7) (T := TX7) (N := 42) hx hb hts hinX7 hown hK hP 0 rfl rfl 22 (by decide) (hts (.fieldLink RX7 111 "AgreedTalksModel" "taped" "I") (by decide +kernel)) (fun _ h9 => h9) rfl dX7_four_12 ?_
          refine lv_iload_n hx hb dX7_four_15 rfl (lv_at hl 2 rfl) ?_
          refine lv_iload_n hx hb dX7_four_16 rfl (lv_at hl 0 rfl) ?_
          refine lv_ishr hx hb dX7_four_17 ?_
          refine lv_topi (fun x_17 ex_17 => ?_)
          refine lv_sipush (v := 255) hx hb dX7_four_18 (by decide) ?_
          refine lv_iand hx hb dX7_four_21 ?_
          refine lv_topi (fun x_18 ex_18 => ?_)
          refine va_iast hx hb hK hP hD hS 1 0 rfl rfl (vp_in_nI (by omega) (by omega)) dX7_four_22 (fun H locs hP hD hS => ?_)
          have hP : va_P (dC, dI) vwCl [(h0, .inr (8, [.int i0, .int i1, .int (nI mk), .ref b3, .ref b4, .int (nI rk), .ref b6, .ref b7, .ref b8, .ref b9, .ref b10, .ref b11, .ref b12, .ref b13, .int (nI nl), .ref b15, .ref b16, .ref b17, .ref b18, .ref b19, .ref b20, .ref b21, .int (nI (tp + 3)), .int i23, .int i24, .int i25, .long w26, .int i27, .int i28, .int i29, .int i30, .int i31, .int i32, .int i33, .ref b34, .ref b35, .int (nI tm), .ref b37, .ref b38, .ref b39, .ref b40, .ref b41])), (b21, .inl (cT, 300, .inl (upd f_14 (Int32.toNatClampNeg (nI (tp + 3))) x_18)))] H := hP
          have hD : va_D A [(h0, .inr (8, [.int i0, .int i1, .int (nI mk), .ref b3, .ref b4, .int (nI rk), .ref b6, .ref b7, .ref b8, .ref b9, .ref b10, .ref b11, .ref b12, .ref b13, .int (nI nl), .ref b15, .ref b16, .ref b17, .ref b18, .ref b19, .ref b20, .ref b21, .int (nI (tp + 3)), .int i23, .int i24, .int i25, .long w26, .int i27, .int i28, .int i29, .int i30, .int i31, .int i32, .int i33, .ref b34, .ref b35, .int (nI tm), .ref b37, .ref b38, .ref b39, .ref b40, .ref b41])), (b21, .inl (cT, 300, .inl (upd f_14 (Int32.toNatClampNeg (nI (tp + 3))) x_18)))] := hD
          generalize ef_19 : upd f_14 (Int32.toNatClampNeg (nI (tp + 3))) x_18 = f_19 at hP hD
          rw [show Int32.toNatClampNeg (nI (tp + 3)) = tp + 3 from nI_clamp (by omega)] at ef_19
          refine lv_aload_n hx hb dX7_four_23 rfl (lv_at hl 1 rfl) ?_
          refine lv_dup hx hb dX7_four_24 rfl ?_
          refine va_get (D := (dC, dI)) (ci := 8) (v := .int (nI (tp + 3))) (C := RX7) (T := TX7) (N := 42) hx hb hts hinX7 hown hK hP 0 rfl rfl 22 (by decide) (hts (.fieldLink RX7 111 "AgreedTalksModel" "taped" "I") (by decide +kernel)) (fun _ h9 => h9) rfl dX7_four_25 ?_
          refine lv_iconst (v := 1) hx hb dX7_four_28 (by decide) ?_
          refine lv_iadd hx hb dX7_four_29 ?_
          refine lv_topi (fun x_20 ex_20 => ?_)
          obtain rfl : x_20 = (nI (tp + 4)) := by rw [ex_20]; exact nI_add _ _
          refine va_put (D := (dC, dI)) (ci := 8) (v := .int (nI (tp + 4))) (ty := .int) (C := RX7) (T := TX7) (N := 42) hx hb hts hinX7 tyX7 tyX7_ok nmX7 hown hK hP hD hS 0 rfl rfl 22 (by decide) (hts (.fieldLink RX7 111 "AgreedTalksModel" "taped" "I") (by decide +kernel)) (fun _ h9 => h9) rfl (by decide +kernel) rfl rfl (Nat.le_of_ble_eq_true rfl) dX7_four_30 (fun H locs hP hD hS => ?_)
          have hP : va_P (dC, dI) vwCl [(h0, .inr (8, [.int i0, .int i1, .int (nI mk), .ref b3, .ref b4, .int (nI rk), .ref b6, .ref b7, .ref b8, .ref b9, .ref b10, .ref b11, .ref b12, .ref b13, .int (nI nl), .ref b15, .ref b16, .ref b17, .ref b18, .ref b19, .ref b20, .ref b21, .int (nI (tp + 4)), .int i23, .int i24, .int i25, .long w26, .int i27, .int i28, .int i29, .int i30, .int i31, .int i32, .int i33, .ref b34, .ref b35, .int (nI tm), .ref b37, .ref b38, .ref b39, .ref b40, .ref b41])), (b21, .inl (cT, 300, .inl f_19))] H := hP
          have hD : va_D A [(h0, .inr (8, [.int i0, .int i1, .int (nI mk), .ref b3, .ref b4, .int (nI rk), .ref b6, .ref b7, .ref b8, .ref b9, .ref b10, .ref b11, .ref b12, .ref b13, .int (nI nl), .ref b15, .ref b16, .ref b17, .ref b18, .ref b19, .ref b20, .ref b21, .int (nI (tp + 4)), .int i23, .int i24, .int i25, .long w26, .int i27, .int i28, .int i29, .int i30, .int i31, .int i32, .int i33, .ref b34, .ref b35, .int (nI tm), .ref b37, .ref b38, .ref b39, .ref b40, .ref b41])), (b21, .inl (cT, 300, .inl f_19))] := hD
          refine lv_iinc (v := (-8)) (lv' := [(2, .int (-8)), (0, .ref h0), (1, .int p0)]) hx hb dX7_four_33 hl (k := 0) rfl (by decide) (by decide) rfl (fun ls hl => ?_)
          refine lv_goto (tgt := 3) hx hb dX7_four_36 (by decide) ?_
          refine lv_iload_n hx hb dX7_four_3 rfl (lv_at hl 0 rfl) ?_
          refine lv_if_lt (tgt := 39) hx hb dX7_four_4 (by decide) (fun c_21 => ?_) (fun c_21 => ?_)
          · have hP9 := hP.sub (ws' := [(h0, .inr (8, [.int i0, .int i1, .int (nI mk), .ref b3, .ref b4, .int (nI rk), .ref b6, .ref b7, .ref b8, .ref b9, .ref b10, .ref b11, .ref b12, .ref b13, .int (nI nl), .ref b15, .ref b16, .ref b17, .ref b18, .ref b19, .ref b20, .ref b21, .int (nI (tp + 4)), .int i23, .int i24, .int i25, .long w26, .int i27, .int i28, .int i29, .int i30, .int i31, .int i32, .int i33, .ref b34, .ref b35, .int (nI tm), .ref b37, .ref b38, .ref b39, .ref b40, .ref b41])), (b21, .inl (cT, 300, .inl f_19))]) [0, 1] rfl
            have hD9 := hD.sub (ws' := [(h0, .inr (8, [.int i0, .int i1, .int (nI mk), .ref b3, .ref b4, .int (nI rk), .ref b6, .ref b7, .ref b8, .ref b9, .ref b10, .ref b11, .ref b12, .ref b13, .int (nI nl), .ref b15, .ref b16, .ref b17, .ref b18, .ref b19, .ref b20, .ref b21, .int (nI (tp + 4)), .int i23, .int i24, .int i25, .long w26, .int i27, .int i28, .int i29, .int i30, .int i31, .int i32, .int i33, .ref b34, .ref b35, .int (nI tm), .ref b37, .ref b38, .ref b39, .ref b40, .ref b41])), (b21, .inl (cT, 300, .inl f_19))]) [0, 1] (by decide) rfl
            have hK9 := hK.sub (tys' := [(cT, .int)]) [0] rfl
            exact W.vret hx hb hr (fun t ht hW => ⟨⟨(), rfl, trivial, f_19, by rw [ht]; exact hP9, va_K.moved hW.alike hK9, hD9⟩, hS.F ht⟩) hS.2.2 dX7_four_39
          · exact absurd c_21 (by decide)
def wp_X7_feed : List Cond := .code yX7_feed cX7_feed 6 (some .int) :: (([.fieldLink RX7 88 "AgreedTalksModel" "thrown" "I", .fieldLink RX7 111 "AgreedTalksModel" "taped" "I"] : List Cond) ++ wsX70 ++ (wsV RX7 114 RX7 yX7_four wp_X7_four))
theorem gc_X7_feed_X7_four : GoodIn wp_X7_feed (wsV RX7 114 RX7 yX7_four wp_X7_four) := goodIn_sub (fun _ h => List.mem_cons_of_mem _ (List.mem_append_right _ h)) (by decide +kernel)
set_option maxRecDepth 20000 in
theorem gi_X7_feed : GoodIn lw_tbl wp_X7_feed := (goodIn_ca (goodIn_ca (goodIn_r (.code yX7_feed cX7_feed 6 (some .int) :: ([.fieldLink RX7 88 "AgreedTalksModel" "thrown" "I", .fieldLink RX7 111 "AgreedTalksModel" "taped" "I"] : List Cond)) [816, 673, 695] (by decide +kernel) (by decide +kernel)) wi_wsX7) (goodIn_app (goodIn_r _ [817, 819, 27, 57] (by decide +kernel) (by decide +kernel)) gi_X7_four))
set_option maxHeartbeats 4000000 in
set_option maxRecDepth 100000 in
/-- feed -/
theorem c_X7_feed (l : Launch) (dC : Nat → ClassId) (dI : Nat → Nat → Nat) (sz : Nat) (h0 : Nat) (b3 : Nat) (b4 : Nat) (b6 : Nat) (b7 : Nat) (b8 : Nat) (b9 : Nat) (b10 : Nat) (b11 : Nat) (b12 : Nat) (b13 : Nat) (b15 : Nat) (b16 : Nat) (b17 : Nat) (b18 : Nat) (b19 : Nat) (b20 : Nat) (b21 : Nat) (b34 : Nat) (b35 : Nat) (b37 : Nat) (b38 : Nat) (b39 : Nat) (b40 : Nat) (b41 : Nat) (i0 : Int32) (i1 : Int32) (mk : Nat) (rk : Nat) (nl : Nat) (tp : Nat) (i23 : Int32) (i24 : Int32) (i25 : Int32) (w26 : Int64) (i27 : Int32) (i28 : Int32) (i29 : Int32) (i30 : Int32) (i31 : Int32) (i32 : Int32) (i33 : Int32) (tm : Nat) (p0 : Int32) (p1 : Int32) (p2 : Int32) (p3 : Int32) (p4 : Int32) (cT : ClassId) (ft : Nat → Int32) (qtp : tp ≤ 300) : Met l yX7_feed wp_X7_feed ({ frames := 1, cells := 0, slots := 0, locals := 30 }) (va_Pc [.ref h0, .int p0, .int p1, .int p2, .int p3, .int p4] (fun U => U.heap.size = sz ∧ va_P (dC, dI) vwCl [(h0, .inr (8, [.int i0, .int i1, .int (nI mk), .ref b3, .ref b4, .int (nI rk), .ref b6, .ref b7, .ref b8, .ref b9, .ref b10, .ref b11, .ref b12, .ref b13, .int (nI nl), .ref b15, .ref b16, .ref b17, .ref b18, .ref b19, .ref b20, .ref b21, .int (nI tp), .int i23, .int i24, .int i25, .long w26, .int i27, .int i28, .int i29, .int i30, .int i31, .int i32, .int i33, .ref b34, .ref b35, .int (nI tm), .ref b37, .ref b38, .ref b39, .ref b40, .ref b41])), (b21, .inl (cT, 300, .inl ft))] U.heap ∧ va_K (dC, dI) vwCl [(cT, .int)] U ∧ va_D (fun _ => True) [(h0, .inr (8, [.int i0, .int i1, .int (nI mk), .ref b3, .ref b4, .int (nI rk), .ref b6, .ref b7, .ref b8, .ref b9, .ref b10, .ref b11, .ref b12, .ref b13, .int (nI nl), .ref b15, .ref b16, .ref b17, .ref b18, .ref b19, .ref b20, .ref b21, .int (nI tp), .int i23, .int i24, .int i25, .long w26, .int i27, .int i28, .int i29, .int i30, .int i31, .int i32, .int i33, .ref b34, .ref b35, .int (nI tm), .ref b37, .ref b38, .ref b39, .ref b40, .ref b41])), (b21, .inl (cT, 300, .inl ft))])) (va_Qi (fun (r : Int32) (_ : Unit) => True) (fun (_ : Unit) (t : State) => ∃ (th : Int32), ∃ (tq : Nat), ∃ (gt : Nat → Int32), (tq ≤ 300) ∧ va_P (dC, dI) vwCl [(h0, .inr (8, [.int th, .int i1, .int (nI mk), .ref b3, .ref b4, .int (nI rk), .ref b6, .ref b7, .ref b8, .ref b9, .ref b10, .ref b11, .ref b12, .ref b13, .int (nI nl), .ref b15, .ref b16, .ref b17, .ref b18, .ref b19, .ref b20, .ref b21, .int (nI tq), .int i23, .int i24, .int i25, .long w26, .int i27, .int i28, .int i29, .int i30, .int i31, .int i32, .int i33, .ref b34, .ref b35, .int (nI tm), .ref b37, .ref b38, .ref b39, .ref b40, .ref b41])), (b21, .inl (cT, 300, .inl gt))] t.heap ∧ va_K (dC, dI) vwCl [(cT, .int)] t ∧ va_D (va_A [(h0, .inr (8, [.int i0, .int i1, .int (nI mk), .ref b3, .ref b4, .int (nI rk), .ref b6, .ref b7, .ref b8, .ref b9, .ref b10, .ref b11, .ref b12, .ref b13, .int (nI nl), .ref b15, .ref b16, .ref b17, .ref b18, .ref b19, .ref b20, .ref b21, .int (nI tp), .int i23, .int i24, .int i25, .long w26, .int i27, .int i28, .int i29, .int i30, .int i31, .int i32, .int i33, .ref b34, .ref b35, .int (nI tm), .ref b37, .ref b38, .ref b39, .ref b40, .ref b41])), (b21, .inl (cT, 300, .inl ft))] sz) [(h0, .inr (8, [.int th, .int i1, .int (nI mk), .ref b3, .ref b4, .int (nI rk), .ref b6, .ref b7, .ref b8, .ref b9, .ref b10, .ref b11, .ref b12, .ref b13, .int (nI nl), .ref b15, .ref b16, .ref b17, .ref b18, .ref b19, .ref b20, .ref b21, .int (nI tq), .int i23, .int i24, .int i25, .long w26, .int i27, .int i28, .int i29, .int i30, .int i31, .int i32, .int i33, .ref b34, .ref b35, .int (nI tm), .ref b37, .ref b38, .ref b39, .ref b40, .ref b41])), (b21, .inl (cT, 300, .inl gt))]) (va_A [(h0, .inr (8, [.int i0, .int i1, .int (nI mk), .ref b3, .ref b4, .int (nI rk), .ref b6, .ref b7, .ref b8, .ref b9, .ref b10, .ref b11, .ref b12, .ref b13, .int (nI nl), .ref b15, .ref b16, .ref b17, .ref b18, .ref b19, .ref b20, .ref b21, .int (nI tp), .int i23, .int i24, .int i25, .long w26, .int i27, .int i28, .int i29, .int i30, .int i31, .int i32, .int i33, .ref b34, .ref b35, .int (nI tm), .ref b37, .ref b38, .ref b39, .ref b40, .ref b41])), (b21, .inl (cT, 300, .inl ft))] sz)) 0 0 (va_A [(h0, .inr (8, [.int i0, .int i1, .int (nI mk), .ref b3, .ref b4, .int (nI rk), .ref b6, .ref b7, .ref b8, .ref b9, .ref b10, .ref b11, .ref b12, .ref b13, .int (nI nl), .ref b15, .ref b16, .ref b17, .ref b18, .ref b19, .ref b20, .ref b21, .int (nI tp), .int i23, .int i24, .int i25, .long w26, .int i27, .int i28, .int i29, .int i30, .int i31, .int i32, .int i33, .ref b34, .ref b35, .int (nI tm), .ref b37, .ref b38, .ref b39, .ref b40, .ref b41])), (b21, .inl (cT, 300, .inl ft))] sz) := by
  refine Met.ofW (cc := cX7_feed) (maxL := 6) (ret := (some .int)) (by decide) rfl ?_
  intro p e s m args below meth c s₁ B hml hv
  obtain ⟨rfl, hsz, hP, hK, hD0⟩ := hv
  have hx := B.exec
  have hb := B.bytes
  have hr := B.returns
  have hts := atoms_spec (ws := wp_X7_feed) B.pre
  have hown : s.vm.findClass RX7 = some m.cls := findClass_of_methodNamed B.named
  have hlocks := B.notSynchronized
  subst hsz
  have hD := hD0.self (sz := s.heap.size)
  generalize hAe : va_A [(h0, .inr (8, [.int i0, .int i1, .int (nI mk), .ref b3, .ref b4, .int (nI rk), .ref b6, .ref b7, .ref b8, .ref b9, .ref b10, .ref b11, .ref b12, .ref b13, .int (nI nl), .ref b15, .ref b16, .ref b17, .ref b18, .ref b19, .ref b20, .ref b21, .int (nI tp), .int i23, .int i24, .int i25, .long w26, .int i27, .int i28, .int i29, .int i30, .int i31, .int i32, .int i33, .ref b34, .ref b35, .int (nI tm), .ref b37, .ref b38, .ref b39, .ref b40, .ref b41])), (b21, .inl (cT, 300, .inl ft))] s.heap.size = A at hD ⊢
  have hA : ∀ q : Nat, s.heap.size ≤ q → A q := fun q h => by rw [← hAe]; exact Or.inr h
  have hS : va_S A s.heap s.heap [] := va_S.rf
  have hP : va_P (dC, dI) vwCl [(h0, .inr (8, [.int i0, .int i1, .int (nI mk), .ref b3, .ref b4, .int (nI rk), .ref b6, .ref b7, .ref b8, .ref b9, .ref b10, .ref b11, .ref b12, .ref b13, .int (nI nl), .ref b15, .ref b16, .ref b17, .ref b18, .ref b19, .ref b20, .ref b21, .int (nI tp), .int i23, .int i24, .int i25, .long w26, .int i27, .int i28, .int i29, .int i30, .int i31, .int i32, .int i33, .ref b34, .ref b35, .int (nI tm), .ref b37, .ref b38, .ref b39, .ref b40, .ref b41])), (b21, .inl (cT, 300, .inl ft))] s.heap := hP
  have hl := lv_entry ([.ref h0, .int p0, .int p1, .int p2, .int p3, .int p4]) (n := 6) (Nat.le_of_ble_eq_true rfl)
  rw [lg_entry_eq]
  generalize (lg_sl ([.ref h0, .int p0, .int p1, .int p2, .int p3, .int p4]) ++ List.replicate (6 - (lg_sl ([.ref h0, .int p0, .int p1, .int p2, .int p3, .int p4])).length) Slot.unset).toArray = ls at hl ⊢
  have hl : lv_has ls 6 [(0, .ref h0), (1, .int p0), (2, .int p1), (3, .int p2), (4, .int p3), (5, .int p4)] := hl
  have hinX7 : ∀ w ∈ u_ws RX7 TX7 42, w ∈ wp_X7_feed := fun _ h => List.mem_cons_of_mem _ (List.mem_append_left _ (List.mem_append_right _ h))
  refine lv_aload_n hx hb dX7_feed_0 rfl (lv_at hl 0 rfl) ?_
  refine lv_iconst (v := 0) hx hb dX7_feed_1 (by decide) ?_
  refine va_put (D := (dC, dI)) (ci := 8) (v := .int 0) (ty := .int) (C := RX7) (T := TX7) (N := 42) hx hb hts hinX7 tyX7 tyX7_ok nmX7 hown hK hP hD hS 0 rfl rfl 0 (by decide) (hts (.fieldLink RX7 88 "AgreedTalksModel" "thrown" "I") (by decide +kernel)) (fun _ h9 => h9) rfl (by decide +kernel) rfl rfl (Nat.le_of_ble_eq_true rfl) dX7_feed_2 (fun H locs hP hD hS => ?_)
  have hP : va_P (dC, dI) vwCl [(h0, .inr (8, [.int 0, .int i1, .int (nI mk), .ref b3, .ref b4, .int (nI rk), .ref b6, .ref b7, .ref b8, .ref b9, .ref b10, .ref b11, .ref b12, .ref b13, .int (nI nl), .ref b15, .ref b16, .ref b17, .ref b18, .ref b19, .ref b20, .ref b21, .int (nI tp), .int i23, .int i24, .int i25, .long w26, .int i27, .int i28, .int i29, .int i30, .int i31, .int i32, .int i33, .ref b34, .ref b35, .int (nI tm), .ref b37, .ref b38, .ref b39, .ref b40, .ref b41])), (b21, .inl (cT, 300, .inl ft))] H := hP
  have hD : va_D A [(h0, .inr (8, [.int 0, .int i1, .int (nI mk), .ref b3, .ref b4, .int (nI rk), .ref b6, .ref b7, .ref b8, .ref b9, .ref b10, .ref b11, .ref b12, .ref b13, .int (nI nl), .ref b15, .ref b16, .ref b17, .ref b18, .ref b19, .ref b20, .ref b21, .int (nI tp), .int i23, .int i24, .int i25, .long w26, .int i27, .int i28, .int i29, .int i30, .int i31, .int i32, .int i33, .ref b34, .ref b35, .int (nI tm), .ref b37, .ref b38, .ref b39, .ref b40, .ref b41])), (b21, .inl (cT, 300, .inl ft))] := hD
  refine lv_aload_n hx hb dX7_feed_5 rfl (lv_at hl 0 rfl) ?_
  refine va_get (D := (dC, dI)) (ci := 8) (v := .int (nI tp)) (C := RX7) (T := TX7) (N := 42) hx hb hts hinX7 hown hK hP 0 rfl rfl 22 (by decide) (hts (.fieldLink RX7 111 "AgreedTalksModel" "taped" "I") (by decide +kernel)) (fun _ h9 => h9) rfl dX7_feed_6 ?_
  refine lv_bipush (v := 20) hx hb dX7_feed_9 (by decide) ?_
  refine lv_iadd hx hb dX7_feed_11 ?_
  refine lv_topi (fun x_1 ex_1 => ?_)
  obtain rfl : x_1 = (nI (tp + 20)) := by rw [ex_1]; exact nI_add _ _
  refine lv_sipush (v := 300) hx hb dX7_feed_12 (by decide) ?_
  refine lv_icmp_le (tgt := 20) hx hb dX7_feed_15 (by decide) (fun c_2 => ?_) (fun c_2 => ?_)
  · have c_2 : tp + 20 ≤ 300 := (nI_leI (a := tp + 20) (b := 300) (by omega) (by omega)).mp c_2
    refine lv_aload_n hx hb dX7_feed_20 rfl (lv_at hl 0 rfl) ?_
    refine lv_iload_n hx hb dX7_feed_21 rfl (lv_at hl 1 rfl) ?_
    have hPc := hP.sub (ws' := [(h0, .inr (8, [.int 0, .int i1, .int (nI mk), .ref b3, .ref b4, .int (nI rk), .ref b6, .ref b7, .ref b8, .ref b9, .ref b10, .ref b11, .ref b12, .ref b13, .int (nI nl), .ref b15, .ref b16, .ref b17, .ref b18, .ref b19, .ref b20, .ref b21, .int (nI tp), .int i23, .int i24, .int i25, .long w26, .int i27, .int i28, .int i29, .int i30, .int i31, .int i32, .int i33, .ref b34, .ref b35, .int (nI tm), .ref b37, .ref b38, .ref b39, .ref b40, .ref b41])), (b21, .inl (cT, 300, .inl ft))]) [0, 1] rfl
    have hDc := hD.sub (ws' := [(h0, .inr (8, [.int 0, .int i1, .int (nI mk), .ref b3, .ref b4, .int (nI rk), .ref b6, .ref b7, .ref b8, .ref b9, .ref b10, .ref b11, .ref b12, .ref b13, .int (nI nl), .ref b15, .ref b16, .ref b17, .ref b18, .ref b19, .ref b20, .ref b21, .int (nI tp), .int i23, .int i24, .int i25, .long w26, .int i27, .int i28, .int i29, .int i30, .int i31, .int i32, .int i33, .ref b34, .ref b35, .int (nI tm), .ref b37, .ref b38, .ref b39, .ref b40, .ref b41])), (b21, .inl (cT, 300, .inl ft))]) [0, 1] (by decide) rfl
    have hKc := hK.sub (tys' := [(cT, .int)]) [0] rfl
    have hFc := va_free (wc := [(h0, .inr (8, [.int 0, .int i1, .int (nI mk), .ref b3, .ref b4, .int (nI rk), .ref b6, .ref b7, .ref b8, .ref b9, .ref b10, .ref b11, .ref b12, .ref b13, .int (nI nl), .ref b15, .ref b16, .ref b17, .ref b18, .ref b19, .ref b20, .ref b21, .int (nI tp), .int i23, .int i24, .int i25, .long w26, .int i27, .int i28, .int i29, .int i30, .int i31, .int i32, .int i33, .ref b34, .ref b35, .int (nI tm), .ref b37, .ref b38, .ref b39, .ref b40, .ref b41])), (b21, .inl (cT, 300, .inl ft))]) hD hS hA [0, 1] rfl
    refine va_callv (va_runV (As := [.int p0]) (rest := []) ⟨hx, hb, hml, hown, hts⟩ (c_X7_four l dC dI _ h0 b3 b4 b6 b7 b8 b9 b10 b11 b12 b13 b15 b16 b17 b18 b19 b20 b21 b34 b35 b37 b38 b39 b40 b41 0 i1 mk rk nl tp i23 i24 i25 w26 i27 i28 i29 i30 i31 i32 i33 tm p0 cT ft (by omega)) (cwV 1 hts gc_X7_feed_X7_four rfl rfl rfl (by decide +kernel) ⟨Nat.le_of_ble_eq_true rfl, Nat.le_of_ble_eq_true rfl⟩) ⟨fun a U g mk q => by obtain ⟨q0, q1, qP, qK, qD⟩ := q; exact ⟨q0, q1, qP, va_K.moved (u := U) (U := U.calling g mk a) (Vm.Alike.refl U.vm) qK, qD⟩, va_recv hKc hPc (ci := 8) (q0 := 0) rfl rfl, fun U hU hW => ⟨rfl, by rw [hU], by rw [hU]; exact hPc, va_K.moved hW.alike hKc, hDc.weaken (fun _ _ _ _ => trivial)⟩⟩ rfl rfl hl.1 rfl (lv_room (Nat.le_of_ble_eq_true rfl)) dX7_feed_22 ⟨Nat.zero_le _, Nat.zero_le _⟩) hS (fun q _ h => hFc q h) hFc (fun u t H1 locs ht hvm hw hB hz1 hk1 hS => ?_)
    obtain ⟨gt_3, hP1, hK1, hD1⟩ := hB
    rw [ht] at hP1
    obtain ⟨hP, hD⟩ := va_join (wr := []) (w1 := [(h0, .inr (8, [.int 0, .int i1, .int (nI mk), .ref b3, .ref b4, .int (nI rk), .ref b6, .ref b7, .ref b8, .ref b9, .ref b10, .ref b11, .ref b12, .ref b13, .int (nI nl), .ref b15, .ref b16, .ref b17, .ref b18, .ref b19, .ref b20, .ref b21, .int (nI (tp + 4)), .int i23, .int i24, .int i25, .long w26, .int i27, .int i28, .int i29, .int i30, .int i31, .int i32, .int i33, .ref b34, .ref b35, .int (nI tm), .ref b37, .ref b38, .ref b39, .ref b40, .ref b41])), (b21, .inl (cT, 300, .inl gt_3))]) hP hD [0, 1] [] rfl rfl (by decide) (by decide) hk1 hFc hP1 hD1
    generalize H1 = H at hP hS ⊢
    have hP : va_P (dC, dI) vwCl [(h0, .inr (8, [.int 0, .int i1, .int (nI mk), .ref b3, .ref b4, .int (nI rk), .ref b6, .ref b7, .ref b8, .ref b9, .ref b10, .ref b11, .ref b12, .ref b13, .int (nI nl), .ref b15, .ref b16, .ref b17, .ref b18, .ref b19, .ref b20, .ref b21, .int (nI (tp + 4)), .int i23, .int i24, .int i25, .long w26, .int i27, .int i28, .int i29, .int i30, .int i31, .int i32, .int i33, .ref b34, .ref b35, .int (nI tm), .ref b37, .ref b38, .ref b39, .ref b40, .ref b41])), (b21, .inl (cT, 300, .inl gt_3))] H := hP
    have hD : va_D A [(h0, .inr (8, [.int 0, .int i1, .int (nI mk), .ref b3, .ref b4, .int (nI rk), .ref b6, .ref b7, .ref b8, .ref b9, .ref b10, .ref b11, .ref b12, .ref b13, .int (nI nl), .ref b15, .ref b16, .ref b17, .ref b18, .ref b19, .ref b20, .ref b21, .int (nI (tp + 4)), .int i23, .int i24, .int i25, .long w26, .int i27, .int i28, .int i29, .int i30, .int i31, .int i32, .int i33, .ref b34, .ref b35, .int (nI tm), .ref b37, .ref b38, .ref b39, .ref b40, .ref b41])), (b21, .inl (cT, 300, .inl gt_3))] := hD
    refine lv_aload_n hx hb dX7_feed_25 rfl (lv_at hl 0 rfl) ?_
    refine lv_iload_n hx hb dX7_feed_26 rfl (lv_at hl 2 rfl) ?_
    have hPc := hP.sub (ws' := [(h0, .inr (8, [.int 0, .int i1, .int (nI mk), .ref b3, .ref b4, .int (nI rk), .ref b6, .ref b7, .ref b8, .ref b9, .ref b10, .ref b11, .ref b12, .ref b13, .int (nI nl), .ref b15, .ref b16, .ref b17, .ref b18, .ref b19, .ref b20, .ref b21, .int (nI (tp + 4)), .int i23, .int i24, .int i25, .long w26, .int i27, .int i28, .int i29, .int i30, .int i31, .int i32, .int i33, .ref b34, .ref b35, .int (nI tm), .ref b37, .ref b38, .ref b39, .ref b40, .ref b41])), (b21, .inl (cT, 300, .inl gt_3))]) [0, 1] rfl
    have hDc := hD.sub (ws' := [(h0, .inr (8, [.int 0, .int i1, .int (nI mk), .ref b3, .ref b4, .int (nI rk), .ref b6, .ref b7, .ref b8, .ref b9, .ref b10, .ref b11, .ref b12, .ref b13, .int (nI nl), .ref b15, .ref b16, .ref b17, .ref b18, .ref b19, .ref b20, .ref b21, .int (nI (tp + 4)), .int i23, .int i24, .int i25, .long w26, .int i27, .int i28, .int i29, .int i30, .int i31, .int i32, .int i33, .ref b34, .ref b35, .int (nI tm), .ref b37, .ref b38, .ref b39, .ref b40, .ref b41])), (b21, .inl (cT, 300, .inl gt_3))]) [0, 1] (by decide) rfl
    have hKc := hK.sub (tys' := [(cT, .int)]) [0] rfl
    have hFc := va_free (wc := [(h0, .inr (8, [.int 0, .int i1, .int (nI mk), .ref b3, .ref b4, .int (nI rk), .ref b6, .ref b7, .ref b8, .ref b9, .ref b10, .ref b11, .ref b12, .ref b13, .int (nI nl), .ref b15, .ref b16, .ref b17, .ref b18, .ref b19, .ref b20, .ref b21, .int (nI (tp + 4)), .int i23, .int i24, .int i25, .long w26, .int i27, .int i28, .int i29, .int i30, .int i31, .int i32, .int i33, .ref b34, .ref b35, .int (nI tm), .ref b37, .ref b38, .ref b39, .ref b40, .ref b41])), (b21, .inl (cT, 300, .inl gt_3))]) hD hS hA [0, 1] rfl
    refine va_callv (va_runV (As := [.int p1]) (rest := []) ⟨hx, hb, hml, hown, hts⟩ (c_X7_four l dC dI _ h0 b3 b4 b6 b7 b8 b9 b10 b11 b12 b13 b15 b16 b17 b18 b19 b20 b21 b34 b35 b37 b38 b39 b40 b41 0 i1 mk rk nl (tp + 4) i23 i24 i25 w26 i27 i28 i29 i30 i31 i32 i33 tm p1 cT gt_3 (by omega)) (cwV 1 hts gc_X7_feed_X7_four rfl rfl rfl (by decide +kernel) ⟨Nat.le_of_ble_eq_true rfl, Nat.le_of_ble_eq_true rfl⟩) ⟨fun a U g mk q => by obtain ⟨q0, q1, qP, qK, qD⟩ := q; exact ⟨q0, q1, qP, va_K.moved (u := U) (U := U.calling g mk a) (Vm.Alike.refl U.vm) qK, qD⟩, va_recv hKc hPc (ci := 8) (q0 := 0) rfl rfl, fun U hU hW => ⟨rfl, by rw [hU], by rw [hU]; exact hPc, va_K.moved hW.alike hKc, hDc.weaken (fun _ _ _ _ => trivial)⟩⟩ rfl rfl hl.1 rfl (lv_room (Nat.le_of_ble_eq_true rfl)) dX7_feed_27 ⟨Nat.zero_le _, Nat.zero_le _⟩) hS (fun q _ h => hFc q h) hFc (fun u t H1 locs ht hvm hw hB hz1 hk1 hS => ?_)
    obtain ⟨gt_4, hP1, hK1, hD1⟩ := hB
    rw [ht] at hP1
    obtain ⟨hP, hD⟩ := va_join (wr := []) (w1 := [(h0, .inr (8, [.int 0, .int i1, .int (nI mk), .ref b3, .ref b4, .int (nI rk), .ref b6, .ref b7, .ref b8, .ref b9, .ref b10, .ref b11, .ref b12, .ref b13, .int (nI nl), .ref b15, .ref b16, .ref b17, .ref b18, .ref b19, .ref b20, .ref b21, .int (nI ((tp + 4) + 4)), .int i23, .int i24, .int i25, .long w26, .int i27, .int i28, .int i29, .int i30, .int i31, .int i32, .int i33, .ref b34, .ref b35, .int (nI tm), .ref b37, .ref b38, .ref b39, .ref b40, .ref b41])), (b21, .inl (cT, 300, .inl gt_4))]) hP hD [0, 1] [] rfl rfl (by decide) (by decide) hk1 hFc hP1 hD1
    generalize H1 = H at hP hS ⊢
    have hP : va_P (dC, dI) vwCl [(h0, .inr (8, [.int 0, .int i1, .int (nI mk), .ref b3, .ref b4, .int (nI rk), .ref b6, .ref b7, .ref b8, .ref b9, .ref b10, .ref b11, .ref b12, .ref b13, .int (nI nl), .ref b15, .ref b16, .ref b17, .ref b18, .ref b19, .ref b20, .ref b21, .int (nI ((tp + 4) + 4)), .int i23, .int i24, .int i25, .long w26, .int i27, .int i28, .int i29, .int i30, .int i31, .int i32, .int i33, .ref b34, .ref b35, .int (nI tm), .ref b37, .ref b38, .ref b39, .ref b40, .ref b41])), (b21, .inl (cT, 300, .inl gt_4))] H := hP
    have hD : va_D A [(h0, .inr (8, [.int 0, .int i1, .int (nI mk), .ref b3, .ref b4, .int (nI rk), .ref b6, .ref b7, .ref b8, .ref b9, .ref b10, .ref b11, .ref b12, .ref b13, .int (nI nl), .ref b15, .ref b16, .ref b17, .ref b18, .ref b19, .ref b20, .ref b21, .int (nI ((tp + 4) + 4)), .int i23, .int i24, .int i25, .long w26, .int i27, .int i28, .int i29, .int i30, .int i31, .int i32, .int i33, .ref b34, .ref b35, .int (nI tm), .ref b37, .ref b38, .ref b39, .ref b40, .ref b41])), (b21, .inl (cT, 300, .inl gt_4))] := hD
    refine lv_aload_n hx hb dX7_feed_30 rfl (lv_at hl 0 rfl) ?_
    refine lv_iload_n hx hb dX7_feed_31 rfl (lv_at hl 3 rfl) ?_
    have hPc := hP.sub (ws' := [(h0, .inr (8, [.int 0, .int i1, .int (nI mk), .ref b3, .ref b4, .int (nI rk), .ref b6, .ref b7, .ref b8, .ref b9, .ref b10, .ref b11, .ref b12, .ref b13, .int (nI nl), .ref b15, .ref b16, .ref b17, .ref b18, .ref b19, .ref b20, .ref b21, .int (nI ((tp + 4) + 4)), .int i23, .int i24, .int i25, .long w26, .int i27, .int i28, .int i29, .int i30, .int i31, .int i32, .int i33, .ref b34, .ref b35, .int (nI tm), .ref b37, .ref b38, .ref b39, .ref b40, .ref b41])), (b21, .inl (cT, 300, .inl gt_4))]) [0, 1] rfl
    have hDc := hD.sub (ws' := [(h0, .inr (8, [.int 0, .int i1, .int (nI mk), .ref b3, .ref b4, .int (nI rk), .ref b6, .ref b7, .ref b8, .ref b9, .ref b10, .ref b11, .ref b12, .ref b13, .int (nI nl), .ref b15, .ref b16, .ref b17, .ref b18, .ref b19, .ref b20, .ref b21, .int (nI ((tp + 4) + 4)), .int i23, .int i24, .int i25, .long w26, .int i27, .int i28, .int i29, .int i30, .int i31, .int i32, .int i33, .ref b34, .ref b35, .int (nI tm), .ref b37, .ref b38, .ref b39, .ref b40, .ref b41])), (b21, .inl (cT, 300, .inl gt_4))]) [0, 1] (by decide) rfl
    have hKc := hK.sub (tys' := [(cT, .int)]) [0] rfl
    have hFc := va_free (wc := [(h0, .inr (8, [.int 0, .int i1, .int (nI mk), .ref b3, .ref b4, .int (nI rk), .ref b6, .ref b7, .ref b8, .ref b9, .ref b10, .ref b11, .ref b12, .ref b13, .int (nI nl), .ref b15, .ref b16, .ref b17, .ref b18, .ref b19, .ref b20, .ref b21, .int (nI ((tp + 4) + 4)), .int i23, .int i24, .int i25, .long w26, .int i27, .int i28, .int i29, .int i30, .int i31, .int i32, .int i33, .ref b34, .ref b35, .int (nI tm), .ref b37, .ref b38, .ref b39, .ref b40, .ref b41])), (b21, .inl (cT, 300, .inl gt_4))]) hD hS hA [0, 1] rfl
    refine va_callv (va_runV (As := [.int p2]) (rest := []) ⟨hx, hb, hml, hown, hts⟩ (c_X7_four l dC dI _ h0 b3 b4 b6 b7 b8 b9 b10 b11 b12 b13 b15 b16 b17 b18 b19 b20 b21 b34 b35 b37 b38 b39 b40 b41 0 i1 mk rk nl ((tp + 4) + 4) i23 i24 i25 w26 i27 i28 i29 i30 i31 i32 i33 tm p2 cT gt_4 (by omega)) (cwV 1 hts gc_X7_feed_X7_four rfl rfl rfl (by decide +kernel) ⟨Nat.le_of_ble_eq_true rfl, Nat.le_of_ble_eq_true rfl⟩) ⟨fun a U g mk q => by obtain ⟨q0, q1, qP, qK, qD⟩ := q; exact ⟨q0, q1, qP, va_K.moved (u := U) (U := U.calling g mk a) (Vm.Alike.refl U.vm) qK, qD⟩, va_recv hKc hPc (ci := 8) (q0 := 0) rfl rfl, fun U hU hW => ⟨rfl, by rw [hU], by rw [hU]; exact hPc, va_K.moved hW.alike hKc, hDc.weaken (fun _ _ _ _ => trivial)⟩⟩ rfl rfl hl.1 rfl (lv_room (Nat.le_of_ble_eq_true rfl)) dX7_feed_32 ⟨Nat.zero_le _, Nat.zero_le _⟩) hS (fun q _ h => hFc q h) hFc (fun u t H1 locs ht hvm hw hB hz1 hk1 hS => ?_)
    obtain ⟨gt_5, hP1, hK1, hD1⟩ := hB
    rw [ht] at hP1
    obtain ⟨hP, hD⟩ := va_join (wr := []) (w1 := [(h0, .inr (8, [.int 0, .int i1, .int (nI mk), .ref b3, .ref b4, .int (nI rk), .ref b6, .ref b7, .ref b8, .ref b9, .ref b10, .ref b11, .ref b12, .ref b13, .int (nI nl), .ref b15, .ref b16, .ref b17, .ref b18, .ref b19, .ref b20, .ref b21, .int (nI (((tp + 4) + 4) + 4)), .int i23, .int i24, .int i25, .long w26, .int i27, .int i28, .int i29, .int i30, .int i31, .int i32, .int i33, .ref b34, .ref b35, .int (nI tm), .ref b37, .ref b38, .ref b39, .ref b40, .ref b41])), (b21, .inl (cT, 300, .inl gt_5))]) hP hD [0, 1] [] rfl rfl (by decide) (by decide) hk1 hFc hP1 hD1
    generalize H1 = H at hP hS ⊢
    have hP : va_P (dC, dI) vwCl [(h0, .inr (8, [.int 0, .int i1, .int (nI mk), .ref b3, .ref b4, .int (nI rk), .ref b6, .ref b7, .ref b8, .ref b9, .ref b10, .ref b11, .ref b12, .ref b13, .int (nI nl), .ref b15, .ref b16, .ref b17, .ref b18, .ref b19, .ref b20, .ref b21, .int (nI (((tp + 4) + 4) + 4)), .int i23, .int i24, .int i25, .long w26, .int i27, .int i28, .int i29, .int i30, .int i31, .int i32, .int i33, .ref b34, .ref b35, .int (nI tm), .ref b37, .ref b38, .ref b39, .ref b40, .ref b41])), (b21, .inl (cT, 300, .inl gt_5))] H := hP
    have hD : va_D A [(h0, .inr (8, [.int 0, .int i1, .int (nI mk), .ref b3, .ref b4, .int (nI rk), .ref b6, .ref b7, .ref b8, .ref b9, .ref b10, .ref b11, .ref b12, .ref b13, .int (nI nl), .ref b15, .ref b16, .ref b17, .ref b18, .ref b19, .ref b20, .ref b21, .int (nI (((tp + 4) + 4) + 4)), .int i23, .int i24, .int i25, .long w26, .int i27, .int i28, .int i29, .int i30, .int i31, .int i32, .int i33, .ref b34, .ref b35, .int (nI tm), .ref b37, .ref b38, .ref b39, .ref b40, .ref b41])), (b21, .inl (cT, 300, .inl gt_5))] := hD
    refine lv_aload_n hx hb dX7_feed_35 rfl (lv_at hl 0 rfl) ?_
    refine lv_iload hx hb dX7_feed_36 (lv_at hl 4 rfl) ?_
    have hPc := hP.sub (ws' := [(h0, .inr (8, [.int 0, .int i1, .int (nI mk), .ref b3, .ref b4, .int (nI rk), .ref b6, .ref b7, .ref b8, .ref b9, .ref b10, .ref b11, .ref b12, .ref b13, .int (nI nl), .ref b15, .ref b16, .ref b17, .ref b18, .ref b19, .ref b20, .ref b21, .int (nI (((tp + 4) + 4) + 4)), .int i23, .int i24, .int i25, .long w26, .int i27, .int i28, .int i29, .int i30, .int i31, .int i32, .int i33, .ref b34, .ref b35, .int (nI tm), .ref b37, .ref b38, .ref b39, .ref b40, .ref b41])), (b21, .inl (cT, 300, .inl gt_5))]) [0, 1] rfl
    have hDc := hD.sub (ws' := [(h0, .inr (8, [.int 0, .int i1, .int (nI mk), .ref b3, .ref b4, .int (nI rk), .ref b6, .ref b7, .ref b8, .ref b9, .ref b10, .ref b11, .ref b12, .ref b13, .int (nI nl), .ref b15, .ref b16, .ref b17, .ref b18, .ref b19, .ref b20, .ref b21, .int (nI (((tp + 4) + 4) + 4)), .int i23, .int i24, .int i25, .long w26, .int i27, .int i28, .int i29, .int i30, .int i31, .int i32, .int i33, .ref b34, .ref b35, .int (nI tm), .ref b37, .ref b38, .ref b39, .ref b40, .ref b41])), (b21, .inl (cT, 300, .inl gt_5))]) [0, 1] (by decide) rfl
    have hKc := hK.sub (tys' := [(cT, .int)]) [0] rfl
    have hFc := va_free (wc := [(h0, .inr (8, [.int 0, .int i1, .int (nI mk), .ref b3, .ref b4, .int (nI rk), .ref b6, .ref b7, .ref b8, .ref b9, .ref b10, .ref b11, .ref b12, .ref b13, .int (nI nl), .ref b15, .ref b16, .ref b17, .ref b18, .ref b19, .ref b20, .ref b21, .int (nI (((tp + 4) + 4) + 4)), .int i23, .int i24, .int i25, .long w26, .int i27, .int i28, .int i29, .int i30, .int i31, .int i32, .int i33, .ref b34, .ref b35, .int (nI tm), .ref b37, .ref b38, .ref b39, .ref b40, .ref b41])), (b21, .inl (cT, 300, .inl gt_5))]) hD hS hA [0, 1] rfl
    refine va_callv (va_runV (As := [.int p3]) (rest := []) ⟨hx, hb, hml, hown, hts⟩ (c_X7_four l dC dI _ h0 b3 b4 b6 b7 b8 b9 b10 b11 b12 b13 b15 b16 b17 b18 b19 b20 b21 b34 b35 b37 b38 b39 b40 b41 0 i1 mk rk nl (((tp + 4) + 4) + 4) i23 i24 i25 w26 i27 i28 i29 i30 i31 i32 i33 tm p3 cT gt_5 (by omega)) (cwV 1 hts gc_X7_feed_X7_four rfl rfl rfl (by decide +kernel) ⟨Nat.le_of_ble_eq_true rfl, Nat.le_of_ble_eq_true rfl⟩) ⟨fun a U g mk q => by obtain ⟨q0, q1, qP, qK, qD⟩ := q; exact ⟨q0, q1, qP, va_K.moved (u := U) (U := U.calling g mk a) (Vm.Alike.refl U.vm) qK, qD⟩, va_recv hKc hPc (ci := 8) (q0 := 0) rfl rfl, fun U hU hW => ⟨rfl, by rw [hU], by rw [hU]; exact hPc, va_K.moved hW.alike hKc, hDc.weaken (fun _ _ _ _ => trivial)⟩⟩ rfl rfl hl.1 rfl (lv_room (Nat.le_of_ble_eq_true rfl)) dX7_feed_38 ⟨Nat.zero_le _, Nat.zero_le _⟩) hS (fun q _ h => hFc q h) hFc (fun u t H1 locs ht hvm hw hB hz1 hk1 hS => ?_)
    obtain ⟨gt_6, hP1, hK1, hD1⟩ := hB
    rw [ht] at hP1
    obtain ⟨hP, hD⟩ := va_join (wr := []) (w1 := [(h0, .inr (8, [.int 0, .int i1, .int (nI mk), .ref b3, .ref b4, .int (nI rk), .ref b6, .ref b7, .ref b8, .ref b9, .ref b10, .ref b11, .ref b12, .ref b13, .int (nI nl), .ref b15, .ref b16, .ref b17, .ref b18, .ref b19, .ref b20, .ref b21, .int (nI ((((tp + 4) + 4) + 4) + 4)), .int i23, .int i24, .int i25, .long w26, .int i27, .int i28, .int i29, .int i30, .int i31, .int i32, .int i33, .ref b34, .ref b35, .int (nI tm), .ref b37, .ref b38, .ref b39, .ref b40, .ref b41])), (b21, .inl (cT, 300, .inl gt_6))]) hP hD [0, 1] [] rfl rfl (by decide) (by decide) hk1 hFc hP1 hD1
    generalize H1 = H at hP hS ⊢
    have hP : va_P (dC, dI) vwCl [(h0, .inr (8, [.int 0, .int i1, .int (nI mk), .ref b3, .ref b4, .int (nI rk), .ref b6, .ref b7, .ref b8, .ref b9, .ref b10, .ref b11, .ref b12, .ref b13, .int (nI nl), .ref b15, .ref b16, .ref b17, .ref b18, .ref b19, .ref b20, .ref b21, .int (nI ((((tp + 4) + 4) + 4) + 4)), .int i23, .int i24, .int i25, .long w26, .int i27, .int i28, .int i29, .int i30, .int i31, .int i32, .int i33, .ref b34, .ref b35, .int (nI tm), .ref b37, .ref b38, .ref b39, .ref b40, .ref b41])), (b21, .inl (cT, 300, .inl gt_6))] H := hP
    have hD : va_D A [(h0, .inr (8, [.int 0, .int i1, .int (nI mk), .ref b3, .ref b4, .int (nI rk), .ref b6, .ref b7, .ref b8, .ref b9, .ref b10, .ref b11, .ref b12, .ref b13, .int (nI nl), .ref b15, .ref b16, .ref b17, .ref b18, .ref b19, .ref b20, .ref b21, .int (nI ((((tp + 4) + 4) + 4) + 4)), .int i23, .int i24, .int i25, .long w26, .int i27, .int i28, .int i29, .int i30, .int i31, .int i32, .int i33, .ref b34, .ref b35, .int (nI tm), .ref b37, .ref b38, .ref b39, .ref b40, .ref b41])), (b21, .inl (cT, 300, .inl gt_6))] := hD
    refine lv_aload_n hx hb dX7_feed_41 rfl (lv_at hl 0 rfl) ?_
    refine lv_iload hx hb dX7_feed_42 (lv_at hl 5 rfl) ?_
    have hPc := hP.sub (ws' := [(h0, .inr (8, [.int 0, .int i1, .int (nI mk), .ref b3, .ref b4, .int (nI rk), .ref b6, .ref b7, .ref b8, .ref b9, .ref b10, .ref b11, .ref b12, .ref b13, .int (nI nl), .ref b15, .ref b16, .ref b17, .ref b18, .ref b19, .ref b20, .ref b21, .int (nI ((((tp + 4) + 4) + 4) + 4)), .int i23, .int i24, .int i25, .long w26, .int i27, .int i28, .int i29, .int i30, .int i31, .int i32, .int i33, .ref b34, .ref b35, .int (nI tm), .ref b37, .ref b38, .ref b39, .ref b40, .ref b41])), (b21, .inl (cT, 300, .inl gt_6))]) [0, 1] rfl
    have hDc := hD.sub (ws' := [(h0, .inr (8, [.int 0, .int i1, .int (nI mk), .ref b3, .ref b4, .int (nI rk), .ref b6, .ref b7, .ref b8, .ref b9, .ref b10, .ref b11, .ref b12, .ref b13, .int (nI nl), .ref b15, .ref b16, .ref b17, .ref b18, .ref b19, .ref b20, .ref b21, .int (nI ((((tp + 4) + 4) + 4) + 4)), .int i23, .int i24, .int i25, .long w26, .int i27, .int i28, .int i29, .int i30, .int i31, .int i32, .int i33, .ref b34, .ref b35, .int (nI tm), .ref b37, .ref b38, .ref b39, .ref b40, .ref b41])), (b21, .inl (cT, 300, .inl gt_6))]) [0, 1] (by decide) rfl
    have hKc := hK.sub (tys' := [(cT, .int)]) [0] rfl
    have hFc := va_free (wc := [(h0, .inr (8, [.int 0, .int i1, .int (nI mk), .ref b3, .ref b4, .int (nI rk), .ref b6, .ref b7, .ref b8, .ref b9, .ref b10, .ref b11, .ref b12, .ref b13, .int (nI nl), .ref b15, .ref b16, .ref b17, .ref b18, .ref b19, .ref b20, .ref b21, .int (nI ((((tp + 4) + 4) + 4) + 4)), .int i23, .int i24, .int i25, .long w26, .int i27, .int i28, .int i29, .int i30, .int i31, .int i32, .int i33, .ref b34, .ref b35, .int (nI tm), .ref b37, .ref b38, .ref b39, .ref b40, .ref b41])), (b21, .inl (cT, 300, .inl gt_6))]) hD hS hA [0, 1] rfl
    refine va_callv (va_runV (As := [.int p4]) (rest := []) ⟨hx, hb, hml, hown, hts⟩ (c_X7_four l dC dI _ h0 b3 b4 b6 b7 b8 b9 b10 b11 b12 b13 b15 b16 b17 b18 b19 b20 b21 b34 b35 b37 b38 b39 b40 b41 0 i1 mk rk nl ((((tp + 4) + 4) + 4) + 4) i23 i24 i25 w26 i27 i28 i29 i30 i31 i32 i33 tm p4 cT gt_6 (by omega)) (cwV 1 hts gc_X7_feed_X7_four rfl rfl rfl (by decide +kernel) ⟨Nat.le_of_ble_eq_true rfl, Nat.le_of_ble_eq_true rfl⟩) ⟨fun a U g mk q => by obtain ⟨q0, q1, qP, qK, qD⟩ := q; exact ⟨q0, q1, qP, va_K.moved (u := U) (U := U.calling g mk a) (Vm.Alike.refl U.vm) qK, qD⟩, va_recv hKc hPc (ci := 8) (q0 := 0) rfl rfl, fun U hU hW => ⟨rfl, by rw [hU], by rw [hU]; exact hPc, va_K.moved hW.alike hKc, hDc.weaken (fun _ _ _ _ => trivial)⟩⟩ rfl rfl hl.1 rfl (lv_room (Nat.le_of_ble_eq_true rfl)) dX7_feed_44 ⟨Nat.zero_le _, Nat.zero_le _⟩) hS (fun q _ h => hFc q h) hFc (fun u t H1 locs ht hvm hw hB hz1 hk1 hS => ?_)
    obtain ⟨gt_7, hP1, hK1, hD1⟩ := hB
    rw [ht] at hP1
    obtain ⟨hP, hD⟩ := va_join (wr := []) (w1 := [(h0, .inr (8, [.int 0, .int i1, .int (nI mk), .ref b3, .ref b4, .int (nI rk), .ref b6, .ref b7, .ref b8, .ref b9, .ref b10, .ref b11, .ref b12, .ref b13, .int (nI nl), .ref b15, .ref b16, .ref b17, .ref b18, .ref b19, .ref b20, .ref b21, .int (nI (((((tp + 4) + 4) + 4) + 4) + 4)), .int i23, .int i24, .int i25, .long w26, .int i27, .int i28, .int i29, .int i30, .int i31, .int i32, .int i33, .ref b34, .ref b35, .int (nI tm), .ref b37, .ref b38, .ref b39, .ref b40, .ref b41])), (b21, .inl (cT, 300, .inl gt_7))]) hP hD [0, 1] [] rfl rfl (by decide) (by decide) hk1 hFc hP1 hD1
    generalize H1 = H at hP hS ⊢
    have hP : va_P (dC, dI) vwCl [(h0, .inr (8, [.int 0, .int i1, .int (nI mk), .ref b3, .ref b4, .int (nI rk), .ref b6, .ref b7, .ref b8, .ref b9, .ref b10, .ref b11, .ref b12, .ref b13, .int (nI nl), .ref b15, .ref b16, .ref b17, .ref b18, .ref b19, .ref b20, .ref b21, .int (nI (((((tp + 4) + 4) + 4) + 4) + 4)), .int i23, .int i24, .int i25, .long w26, .int i27, .int i28, .int i29, .int i30, .int i31, .int i32, .int i33, .ref b34, .ref b35, .int (nI tm), .ref b37, .ref b38, .ref b39, .ref b40, .ref b41])), (b21, .inl (cT, 300, .inl gt_7))] H := hP
    have hD : va_D A [(h0, .inr (8, [.int 0, .int i1, .int (nI mk), .ref b3, .ref b4, .int (nI rk), .ref b6, .ref b7, .ref b8, .ref b9, .ref b10, .ref b11, .ref b12, .ref b13, .int (nI nl), .ref b15, .ref b16, .ref b17, .ref b18, .ref b19, .ref b20, .ref b21, .int (nI (((((tp + 4) + 4) + 4) + 4) + 4)), .int i23, .int i24, .int i25, .long w26, .int i27, .int i28, .int i29, .int i30, .int i31, .int i32, .int i33, .ref b34, .ref b35, .int (nI tm), .ref b37, .ref b38, .ref b39, .ref b40, .ref b41])), (b21, .inl (cT, 300, .inl gt_7))] := hD
    refine lv_aload_n hx hb dX7_feed_47 rfl (lv_at hl 0 rfl) ?_
    refine va_get (D := (dC, dI)) (ci := 8) (v := .int (nI (((((tp + 4) + 4) + 4) + 4) + 4))) (C := RX7) (T := TX7) (N := 42) hx hb hts hinX7 hown hK hP 0 rfl rfl 22 (by decide) (hts (.fieldLink RX7 111 "AgreedTalksModel" "taped" "I") (by decide +kernel)) (fun _ h9 => h9) rfl dX7_feed_48 ?_
    have hP9 := hP.sub (ws' := [(h0, .inr (8, [.int 0, .int i1, .int (nI mk), .ref b3, .ref b4, .int (nI rk), .ref b6, .ref b7, .ref b8, .ref b9, .ref b10, .ref b11, .ref b12, .ref b13, .int (nI nl), .ref b15, .ref b16, .ref b17, .ref b18, .ref b19, .ref b20, .ref b21, .int (nI (((((tp + 4) + 4) + 4) + 4) + 4)), .int i23, .int i24, .int i25, .long w26, .int i27, .int i28, .int i29, .int i30, .int i31, .int i32, .int i33, .ref b34, .ref b35, .int (nI tm), .ref b37, .ref b38, .ref b39, .ref b40, .ref b41])), (b21, .inl (cT, 300, .inl gt_7))]) [0, 1] rfl
    have hD9 := hD.sub (ws' := [(h0, .inr (8, [.int 0, .int i1, .int (nI mk), .ref b3, .ref b4, .int (nI rk), .ref b6, .ref b7, .ref b8, .ref b9, .ref b10, .ref b11, .ref b12, .ref b13, .int (nI nl), .ref b15, .ref b16, .ref b17, .ref b18, .ref b19, .ref b20, .ref b21, .int (nI (((((tp + 4) + 4) + 4) + 4) + 4)), .int i23, .int i24, .int i25, .long w26, .int i27, .int i28, .int i29, .int i30, .int i31, .int i32, .int i33, .ref b34, .ref b35, .int (nI tm), .ref b37, .ref b38, .ref b39, .ref b40, .ref b41])), (b21, .inl (cT, 300, .inl gt_7))]) [0, 1] (by decide) rfl
    have hK9 := hK.sub (tys' := [(cT, .int)]) [0] rfl
    exact W.iret (v := (nI (((((tp + 4) + 4) + 4) + 4) + 4))) hx hb hr (fun t ht hW => ⟨⟨(nI (((((tp + 4) + 4) + 4) + 4) + 4)), (), rfl, trivial, 0, (((((tp + 4) + 4) + 4) + 4) + 4), gt_7, (by omega), by rw [ht]; exact hP9, va_K.moved hW.alike hK9, hD9⟩, hS.F ht⟩) hS.2.2 dX7_feed_51
  · have c_2 : ¬ (tp + 20 ≤ 300) := fun h => c_2 ((nI_leI (a := tp + 20) (b := 300) (by omega) (by omega)).mpr h)
    refine lv_iconst (v := (-1)) hx hb dX7_feed_18 (by decide) ?_
    have hP9 := hP.sub (ws' := [(h0, .inr (8, [.int 0, .int i1, .int (nI mk), .ref b3, .ref b4, .int (nI rk), .ref b6, .ref b7, .ref b8, .ref b9, .ref b10, .ref b11, .ref b12, .ref b13, .int (nI nl), .ref b15, .ref b16, .ref b17, .ref b18, .ref b19, .ref b20, .ref b21, .int (nI tp), .int i23, .int i24, .int i25, .long w26, .int i27, .int i28, .int i29, .int i30, .int i31, .int i32, .int i33, .ref b34, .ref b35, .int (nI tm), .ref b37, .ref b38, .ref b39, .ref b40, .ref b41])), (b21, .inl (cT, 300, .inl ft))]) [0, 1] rfl
    have hD9 := hD.sub (ws' := [(h0, .inr (8, [.int 0, .int i1, .int (nI mk), .ref b3, .ref b4, .int (nI rk), .ref b6, .ref b7, .ref b8, .ref b9, .ref b10, .ref b11, .ref b12, .ref b13, .int (nI nl), .ref b15, .ref b16, .ref b17, .ref b18, .ref b19, .ref b20, .ref b21, .int (nI tp), .int i23, .int i24, .int i25, .long w26, .int i27, .int i28, .int i29, .int i30, .int i31, .int i32, .int i33, .ref b34, .ref b35, .int (nI tm), .ref b37, .ref b38, .ref b39, .ref b40, .ref b41])), (b21, .inl (cT, 300, .inl ft))]) [0, 1] (by decide) rfl
    have hK9 := hK.sub (tys' := [(cT, .int)]) [0] rfl
    exact W.iret (v := (-1)) hx hb hr (fun t ht hW => ⟨⟨(-1), (), rfl, trivial, 0, tp, ft, (by omega), by rw [ht]; exact hP9, va_K.moved hW.alike hK9, hD9⟩, hS.F ht⟩) hS.2.2 dX7_feed_19
def wp_X7_end : List Cond := .code yX7_end cX7_end 2 (some .int) :: (([.fieldLink RX7 88 "AgreedTalksModel" "thrown" "I", .fieldLink RX7 111 "AgreedTalksModel" "taped" "I"] : List Cond) ++ wsX70)
set_option maxRecDepth 20000 in
theorem gi_X7_end : GoodIn lw_tbl wp_X7_end := (goodIn_ca (goodIn_r (.code yX7_end cX7_end 2 (some .int) :: ([.fieldLink RX7 88 "AgreedTalksModel" "thrown" "I", .fieldLink RX7 111 "AgreedTalksModel" "taped" "I"] : List Cond)) [824, 673, 695] (by decide +kernel) (by decide +kernel)) wi_wsX7)
set_option maxHeartbeats 4000000 in
set_option maxRecDepth 100000 in
/-- end -/
theorem c_X7_end (l : Launch) (dC : Nat → ClassId) (dI : Nat → Nat → Nat) (sz : Nat) (h0 : Nat) (b3 : Nat) (b4 : Nat) (b6 : Nat) (b7 : Nat) (b8 : Nat) (b9 : Nat) (b10 : Nat) (b11 : Nat) (b12 : Nat) (b13 : Nat) (b15 : Nat) (b16 : Nat) (b17 : Nat) (b18 : Nat) (b19 : Nat) (b20 : Nat) (b21 : Nat) (b34 : Nat) (b35 : Nat) (b37 : Nat) (b38 : Nat) (b39 : Nat) (b40 : Nat) (b41 : Nat) (i0 : Int32) (i1 : Int32) (mk : Nat) (rk : Nat) (nl : Nat) (tp : Nat) (i23 : Int32) (i24 : Int32) (i25 : Int32) (w26 : Int64) (i27 : Int32) (i28 : Int32) (i29 : Int32) (i30 : Int32) (i31 : Int32) (i32 : Int32) (i33 : Int32) (tm : Nat) (p0 : Int32) (qtp : tp ≤ 300) : Met l yX7_end wp_X7_end ({ frames := 0, cells := 0, slots := 0, locals := 0 }) (va_Pc [.ref h0, .int p0] (fun U => U.heap.size = sz ∧ va_P (dC, dI) vwCl [(h0, .inr (8, [.int i0, .int i1, .int (nI mk), .ref b3, .ref b4, .int (nI rk), .ref b6, .ref b7, .ref b8, .ref b9, .ref b10, .ref b11, .ref b12, .ref b13, .int (nI nl), .ref b15, .ref b16, .ref b17, .ref b18, .ref b19, .ref b20, .ref b21, .int (nI tp), .int i23, .int i24, .int i25, .long w26, .int i27, .int i28, .int i29, .int i30, .int i31, .int i32, .int i33, .ref b34, .ref b35, .int (nI tm), .ref b37, .ref b38, .ref b39, .ref b40, .ref b41]))] U.heap ∧ va_K (dC, dI) vwCl [] U ∧ va_D (fun _ => True) [(h0, .inr (8, [.int i0, .int i1, .int (nI mk), .ref b3, .ref b4, .int (nI rk), .ref b6, .ref b7, .ref b8, .ref b9, .ref b10, .ref b11, .ref b12, .ref b13, .int (nI nl), .ref b15, .ref b16, .ref b17, .ref b18, .ref b19, .ref b20, .ref b21, .int (nI tp), .int i23, .int i24, .int i25, .long w26, .int i27, .int i28, .int i29, .int i30, .int i31, .int i32, .int i33, .ref b34, .ref b35, .int (nI tm), .ref b37, .ref b38, .ref b39, .ref b40, .ref b41]))])) (va_Qi (fun (r : Int32) (_ : Unit) => True) (fun (_ : Unit) (t : State) => ∃ (th : Int32), ∃ (tq : Nat), (tq ≤ 300) ∧ va_P (dC, dI) vwCl [(h0, .inr (8, [.int th, .int i1, .int (nI mk), .ref b3, .ref b4, .int (nI rk), .ref b6, .ref b7, .ref b8, .ref b9, .ref b10, .ref b11, .ref b12, .ref b13, .int (nI nl), .ref b15, .ref b16, .ref b17, .ref b18, .ref b19, .ref b20, .ref b21, .int (nI tq), .int i23, .int i24, .int i25, .long w26, .int i27, .int i28, .int i29, .int i30, .int i31, .int i32, .int i33, .ref b34, .ref b35, .int (nI tm), .ref b37, .ref b38, .ref b39, .ref b40, .ref b41]))] t.heap ∧ va_K (dC, dI) vwCl [] t ∧ va_D (va_A [(h0, .inr (8, [.int i0, .int i1, .int (nI mk), .ref b3, .ref b4, .int (nI rk), .ref b6, .ref b7, .ref b8, .ref b9, .ref b10, .ref b11, .ref b12, .ref b13, .int (nI nl), .ref b15, .ref b16, .ref b17, .ref b18, .ref b19, .ref b20, .ref b21, .int (nI tp), .int i23, .int i24, .int i25, .long w26, .int i27, .int i28, .int i29, .int i30, .int i31, .int i32, .int i33, .ref b34, .ref b35, .int (nI tm), .ref b37, .ref b38, .ref b39, .ref b40, .ref b41]))] sz) [(h0, .inr (8, [.int th, .int i1, .int (nI mk), .ref b3, .ref b4, .int (nI rk), .ref b6, .ref b7, .ref b8, .ref b9, .ref b10, .ref b11, .ref b12, .ref b13, .int (nI nl), .ref b15, .ref b16, .ref b17, .ref b18, .ref b19, .ref b20, .ref b21, .int (nI tq), .int i23, .int i24, .int i25, .long w26, .int i27, .int i28, .int i29, .int i30, .int i31, .int i32, .int i33, .ref b34, .ref b35, .int (nI tm), .ref b37, .ref b38, .ref b39, .ref b40, .ref b41]))]) (va_A [(h0, .inr (8, [.int i0, .int i1, .int (nI mk), .ref b3, .ref b4, .int (nI rk), .ref b6, .ref b7, .ref b8, .ref b9, .ref b10, .ref b11, .ref b12, .ref b13, .int (nI nl), .ref b15, .ref b16, .ref b17, .ref b18, .ref b19, .ref b20, .ref b21, .int (nI tp), .int i23, .int i24, .int i25, .long w26, .int i27, .int i28, .int i29, .int i30, .int i31, .int i32, .int i33, .ref b34, .ref b35, .int (nI tm), .ref b37, .ref b38, .ref b39, .ref b40, .ref b41]))] sz)) 0 0 (va_A [(h0, .inr (8, [.int i0, .int i1, .int (nI mk), .ref b3, .ref b4, .int (nI rk), .ref b6, .ref b7, .ref b8, .ref b9, .ref b10, .ref b11, .ref b12, .ref b13, .int (nI nl), .ref b15, .ref b16, .ref b17, .ref b18, .ref b19, .ref b20, .ref b21, .int (nI tp), .int i23, .int i24, .int i25, .long w26, .int i27, .int i28, .int i29, .int i30, .int i31, .int i32, .int i33, .ref b34, .ref b35, .int (nI tm), .ref b37, .ref b38, .ref b39, .ref b40, .ref b41]))] sz) := by
  refine Met.ofW (cc := cX7_end) (maxL := 2) (ret := (some .int)) (by decide) rfl ?_
  intro p e s m args below meth c s₁ B hml hv
  obtain ⟨rfl, hsz, hP, hK, hD0⟩ := hv
  have hx := B.exec
  have hb := B.bytes
  have hr := B.returns
  have hts := atoms_spec (ws := wp_X7_end) B.pre
  have hown : s.vm.findClass RX7 = some m.cls := findClass_of_methodNamed B.named
  have hlocks := B.notSynchronized
  subst hsz
  have hD := hD0.self (sz := s.heap.size)
  generalize hAe : va_A [(h0, .inr (8, [.int i0, .int i1, .int (nI mk), .ref b3, .ref b4, .int (nI rk), .ref b6, .ref b7, .ref b8, .ref b9, .ref b10, .ref b11, .ref b12, .ref b13, .int (nI nl), .ref b15, .ref b16, .ref b17, .ref b18, .ref b19, .ref b20, .ref b21, .int (nI tp), .int i23, .int i24, .int i25, .long w26, .int i27, .int i28, .int i29, .int i30, .int i31, .int i32, .int i33, .ref b34, .ref b35, .int (nI tm), .ref b37, .ref b38, .ref b39, .ref b40, .ref b41]))] s.heap.size = A at hD ⊢
  have hA : ∀ q : Nat, s.heap.size ≤ q → A q := fun q h => by rw [← hAe]; exact Or.inr h
  have hS : va_S A s.heap s.heap [] := va_S.rf
  have hP : va_P (dC, dI) vwCl [(h0, .inr (8, [.int i0, .int i1, .int (nI mk), .ref b3, .ref b4, .int (nI rk), .ref b6, .ref b7, .ref b8, .ref b9, .ref b10, .ref b11, .ref b12, .ref b13, .int (nI nl), .ref b15, .ref b16, .ref b17, .ref b18, .ref b19, .ref b20, .ref b21, .int (nI tp), .int i23, .int i24, .int i25, .long w26, .int i27, .int i28, .int i29, .int i30, .int i31, .int i32, .int i33, .ref b34, .ref b35, .int (nI tm), .ref b37, .ref b38, .ref b39, .ref b40, .ref b41]))] s.heap := hP
  have hl := lv_entry ([.ref h0, .int p0]) (n := 2) (Nat.le_of_ble_eq_true rfl)
  rw [lg_entry_eq]
  generalize (lg_sl ([.ref h0, .int p0]) ++ List.replicate (2 - (lg_sl ([.ref h0, .int p0])).length) Slot.unset).toArray = ls at hl ⊢
  have hl : lv_has ls 2 [(0, .ref h0), (1, .int p0)] := hl
  have hinX7 : ∀ w ∈ u_ws RX7 TX7 42, w ∈ wp_X7_end := fun _ h => List.mem_cons_of_mem _ (List.mem_append_right _ h)
  refine lv_aload_n hx hb dX7_end_0 rfl (lv_at hl 0 rfl) ?_
  refine lv_iconst (v := 0) hx hb dX7_end_1 (by decide) ?_
  refine va_put (D := (dC, dI)) (ci := 8) (v := .int 0) (ty := .int) (C := RX7) (T := TX7) (N := 42) hx hb hts hinX7 tyX7 tyX7_ok nmX7 hown hK hP hD hS 0 rfl rfl 0 (by decide) (hts (.fieldLink RX7 88 "AgreedTalksModel" "thrown" "I") (by decide +kernel)) (fun _ h9 => h9) rfl (by decide +kernel) rfl rfl (Nat.le_of_ble_eq_true rfl) dX7_end_2 (fun H locs hP hD hS => ?_)
  have hP : va_P (dC, dI) vwCl [(h0, .inr (8, [.int 0, .int i1, .int (nI mk), .ref b3, .ref b4, .int (nI rk), .ref b6, .ref b7, .ref b8, .ref b9, .ref b10, .ref b11, .ref b12, .ref b13, .int (nI nl), .ref b15, .ref b16, .ref b17, .ref b18, .ref b19, .ref b20, .ref b21, .int (nI tp), .int i23, .int i24, .int i25, .long w26, .int i27, .int i28, .int i29, .int i30, .int i31, .int i32, .int i33, .ref b34, .ref b35, .int (nI tm), .ref b37, .ref b38, .ref b39, .ref b40, .ref b41]))] H := hP
  have hD : va_D A [(h0, .inr (8, [.int 0, .int i1, .int (nI mk), .ref b3, .ref b4, .int (nI rk), .ref b6, .ref b7, .ref b8, .ref b9, .ref b10, .ref b11, .ref b12, .ref b13, .int (nI nl), .ref b15, .ref b16, .ref b17, .ref b18, .ref b19, .ref b20, .ref b21, .int (nI tp), .int i23, .int i24, .int i25, .long w26, .int i27, .int i28, .int i29, .int i30, .int i31, .int i32, .int i33, .ref b34, .ref b35, .int (nI tm), .ref b37, .ref b38, .ref b39, .ref b40, .ref b41]))] := hD
  refine lv_iload_n hx hb dX7_end_5 rfl (lv_at hl 1 rfl) ?_
  refine lv_if_lt (tgt := 17) hx hb dX7_end_6 (by decide) (fun c_1 => ?_) (fun c_1 => ?_)
  · refine lv_iconst (v := (-1)) hx hb dX7_end_17 (by decide) ?_
    have hP9 := hP.sub (ws' := [(h0, .inr (8, [.int 0, .int i1, .int (nI mk), .ref b3, .ref b4, .int (nI rk), .ref b6, .ref b7, .ref b8, .ref b9, .ref b10, .ref b11, .ref b12, .ref b13, .int (nI nl), .ref b15, .ref b16, .ref b17, .ref b18, .ref b19, .ref b20, .ref b21, .int (nI tp), .int i23, .int i24, .int i25, .long w26, .int i27, .int i28, .int i29, .int i30, .int i31, .int i32, .int i33, .ref b34, .ref b35, .int (nI tm), .ref b37, .ref b38, .ref b39, .ref b40, .ref b41]))]) [0] rfl
    have hD9 := hD.sub (ws' := [(h0, .inr (8, [.int 0, .int i1, .int (nI mk), .ref b3, .ref b4, .int (nI rk), .ref b6, .ref b7, .ref b8, .ref b9, .ref b10, .ref b11, .ref b12, .ref b13, .int (nI nl), .ref b15, .ref b16, .ref b17, .ref b18, .ref b19, .ref b20, .ref b21, .int (nI tp), .int i23, .int i24, .int i25, .long w26, .int i27, .int i28, .int i29, .int i30, .int i31, .int i32, .int i33, .ref b34, .ref b35, .int (nI tm), .ref b37, .ref b38, .ref b39, .ref b40, .ref b41]))]) [0] (by decide) rfl
    have hK9 := hK.sub (tys' := []) [] rfl
    exact W.iret (v := (-1)) hx hb hr (fun t ht hW => ⟨⟨(-1), (), rfl, trivial, 0, tp, (by omega), by rw [ht]; exact hP9, va_K.moved hW.alike hK9, hD9⟩, hS.F ht⟩) hS.2.2 dX7_end_18
  · obtain ⟨n_2, hn_2, en_2⟩ := nI_of c_1
    subst en_2
    refine lv_iload_n hx hb dX7_end_9 rfl (lv_at hl 1 rfl) ?_
    refine lv_aload_n hx hb dX7_end_10 rfl (lv_at hl 0 rfl) ?_
    refine va_get (D := (dC, dI)) (ci := 8) (v := .int (nI tp)) (C := RX7) (T := TX7) (N := 42) hx hb hts hinX7 hown hK hP 0 rfl rfl 22 (by decide) (hts (.fieldLink RX7 111 "AgreedTalksModel" "taped" "I") (by decide +kernel)) (fun _ h9 => h9) rfl dX7_end_11 ?_
    refine lv_icmp_le (tgt := 19) hx hb dX7_end_14 (by decide) (fun c_3 => ?_) (fun c_3 => ?_)
    · have c_3 : n_2 ≤ tp := (nI_leI (a := n_2) (b := tp) (by omega) (by omega)).mp c_3
      refine lv_aload_n hx hb dX7_end_19 rfl (lv_at hl 0 rfl) ?_
      refine lv_iload_n hx hb dX7_end_20 rfl (lv_at hl 1 rfl) ?_
      refine va_put (D := (dC, dI)) (ci := 8) (v := .int (nI n_2)) (ty := .int) (C := RX7) (T := TX7) (N := 42) hx hb hts hinX7 tyX7 tyX7_ok nmX7 hown hK hP hD hS 0 rfl rfl 22 (by decide) (hts (.fieldLink RX7 111 "AgreedTalksModel" "taped" "I") (by decide +kernel)) (fun _ h9 => h9) rfl (by decide +kernel) rfl rfl (Nat.le_of_ble_eq_true rfl) dX7_end_21 (fun H locs hP hD hS => ?_)
      have hP : va_P (dC, dI) vwCl [(h0, .inr (8, [.int 0, .int i1, .int (nI mk), .ref b3, .ref b4, .int (nI rk), .ref b6, .ref b7, .ref b8, .ref b9, .ref b10, .ref b11, .ref b12, .ref b13, .int (nI nl), .ref b15, .ref b16, .ref b17, .ref b18, .ref b19, .ref b20, .ref b21, .int (nI n_2), .int i23, .int i24, .int i25, .long w26, .int i27, .int i28, .int i29, .int i30, .int i31, .int i32, .int i33, .ref b34, .ref b35, .int (nI tm), .ref b37, .ref b38, .ref b39, .ref b40, .ref b41]))] H := hP
      have hD : va_D A [(h0, .inr (8, [.int 0, .int i1, .int (nI mk), .ref b3, .ref b4, .int (nI rk), .ref b6, .ref b7, .ref b8, .ref b9, .ref b10, .ref b11, .ref b12, .ref b13, .int (nI nl), .ref b15, .ref b16, .ref b17, .ref b18, .ref b19, .ref b20, .ref b21, .int (nI n_2), .int i23, .int i24, .int i25, .long w26, .int i27, .int i28, .int i29, .int i30, .int i31, .int i32, .int i33, .ref b34, .ref b35, .int (nI tm), .ref b37, .ref b38, .ref b39, .ref b40, .ref b41]))] := hD
      refine lv_iload_n hx hb dX7_end_24 rfl (lv_at hl 1 rfl) ?_
      have hP9 := hP.sub (ws' := [(h0, .inr (8, [.int 0, .int i1, .int (nI mk), .ref b3, .ref b4, .int (nI rk), .ref b6, .ref b7, .ref b8, .ref b9, .ref b10, .ref b11, .ref b12, .ref b13, .int (nI nl), .ref b15, .ref b16, .ref b17, .ref b18, .ref b19, .ref b20, .ref b21, .int (nI n_2), .int i23, .int i24, .int i25, .long w26, .int i27, .int i28, .int i29, .int i30, .int i31, .int i32, .int i33, .ref b34, .ref b35, .int (nI tm), .ref b37, .ref b38, .ref b39, .ref b40, .ref b41]))]) [0] rfl
      have hD9 := hD.sub (ws' := [(h0, .inr (8, [.int 0, .int i1, .int (nI mk), .ref b3, .ref b4, .int (nI rk), .ref b6, .ref b7, .ref b8, .ref b9, .ref b10, .ref b11, .ref b12, .ref b13, .int (nI nl), .ref b15, .ref b16, .ref b17, .ref b18, .ref b19, .ref b20, .ref b21, .int (nI n_2), .int i23, .int i24, .int i25, .long w26, .int i27, .int i28, .int i29, .int i30, .int i31, .int i32, .int i33, .ref b34, .ref b35, .int (nI tm), .ref b37, .ref b38, .ref b39, .ref b40, .ref b41]))]) [0] (by decide) rfl
      have hK9 := hK.sub (tys' := []) [] rfl
      exact W.iret (v := (nI n_2)) hx hb hr (fun t ht hW => ⟨⟨(nI n_2), (), rfl, trivial, 0, n_2, (by omega), by rw [ht]; exact hP9, va_K.moved hW.alike hK9, hD9⟩, hS.F ht⟩) hS.2.2 dX7_end_25
    · have c_3 : ¬ (n_2 ≤ tp) := fun h => c_3 ((nI_leI (a := n_2) (b := tp) (by omega) (by omega)).mpr h)
      refine lv_iconst (v := (-1)) hx hb dX7_end_17 (by decide) ?_
      have hP9 := hP.sub (ws' := [(h0, .inr (8, [.int 0, .int i1, .int (nI mk), .ref b3, .ref b4, .int (nI rk), .ref b6, .ref b7, .ref b8, .ref b9, .ref b10, .ref b11, .ref b12, .ref b13, .int (nI nl), .ref b15, .ref b16, .ref b17, .ref b18, .ref b19, .ref b20, .ref b21, .int (nI tp), .int i23, .int i24, .int i25, .long w26, .int i27, .int i28, .int i29, .int i30, .int i31, .int i32, .int i33, .ref b34, .ref b35, .int (nI tm), .ref b37, .ref b38, .ref b39, .ref b40, .ref b41]))]) [0] rfl
      have hD9 := hD.sub (ws' := [(h0, .inr (8, [.int 0, .int i1, .int (nI mk), .ref b3, .ref b4, .int (nI rk), .ref b6, .ref b7, .ref b8, .ref b9, .ref b10, .ref b11, .ref b12, .ref b13, .int (nI nl), .ref b15, .ref b16, .ref b17, .ref b18, .ref b19, .ref b20, .ref b21, .int (nI tp), .int i23, .int i24, .int i25, .long w26, .int i27, .int i28, .int i29, .int i30, .int i31, .int i32, .int i33, .ref b34, .ref b35, .int (nI tm), .ref b37, .ref b38, .ref b39, .ref b40, .ref b41]))]) [0] (by decide) rfl
      have hK9 := hK.sub (tys' := []) [] rfl
      exact W.iret (v := (-1)) hx hb hr (fun t ht hW => ⟨⟨(-1), (), rfl, trivial, 0, tp, (by omega), by rw [ht]; exact hP9, va_K.moved hW.alike hK9, hD9⟩, hS.F ht⟩) hS.2.2 dX7_end_18
