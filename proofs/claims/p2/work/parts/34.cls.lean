theorem dX6_refuse_0 : decode cX6_refuse 0 = .ok (.aload_n 0, 1) := by decide +kernel
theorem dX6_refuse_1 : decode cX6_refuse 1 = .ok (.iload_n 1, 1) := by decide +kernel
theorem dX6_refuse_2 : decode cX6_refuse 2 = .ok (.putfield 63, 3) := by decide +kernel
theorem dX6_refuse_5 : decode cX6_refuse 5 = .ok (.iload_n 1, 1) := by decide +kernel
theorem dX6_refuse_6 : decode cX6_refuse 6 = .ok (.ireturn, 1) := by decide +kernel
theorem dX6_lastDay_0 : decode cX6_lastDay 0 = .ok (.aload_n 0, 1) := by decide +kernel
theorem dX6_lastDay_1 : decode cX6_lastDay 1 = .ok (.getfield 53, 3) := by decide +kernel
theorem dX6_lastDay_4 : decode cX6_lastDay 4 = .ok (.ifCond .ne 7, 3) := by decide +kernel
theorem dX6_lastDay_11 : decode cX6_lastDay 11 = .ok (.aload_n 0, 1) := by decide +kernel
theorem dX6_lastDay_12 : decode cX6_lastDay 12 = .ok (.getfield 9, 3) := by decide +kernel
theorem dX6_lastDay_15 : decode cX6_lastDay 15 = .ok (.aload_n 0, 1) := by decide +kernel
theorem dX6_lastDay_16 : decode cX6_lastDay 16 = .ok (.getfield 53, 3) := by decide +kernel
theorem dX6_lastDay_19 : decode cX6_lastDay 19 = .ok (.iconst 1, 1) := by decide +kernel
theorem dX6_lastDay_20 : decode cX6_lastDay 20 = .ok (.isub, 1) := by decide +kernel
theorem dX6_lastDay_21 : decode cX6_lastDay 21 = .ok (.iaload, 1) := by decide +kernel
theorem dX6_lastDay_22 : decode cX6_lastDay 22 = .ok (.ireturn, 1) := by decide +kernel
theorem dX6_lastDay_7 : decode cX6_lastDay 7 = .ok (.iconst 0, 1) := by decide +kernel
theorem dX6_lastDay_8 : decode cX6_lastDay 8 = .ok (.goto 14, 3) := by decide +kernel
theorem dX6_isMeeting_0 : decode cX6_isMeeting 0 = .ok (.iload_n 1, 1) := by decide +kernel
theorem dX6_isMeeting_1 : decode cX6_isMeeting 1 = .ok (.ifCond .lt 15, 3) := by decide +kernel
theorem dX6_isMeeting_16 : decode cX6_isMeeting 16 = .ok (.iconst 0, 1) := by decide +kernel
theorem dX6_isMeeting_17 : decode cX6_isMeeting 17 = .ok (.ireturn, 1) := by decide +kernel
theorem dX6_isMeeting_4 : decode cX6_isMeeting 4 = .ok (.iload_n 1, 1) := by decide +kernel
theorem dX6_isMeeting_5 : decode cX6_isMeeting 5 = .ok (.aload_n 0, 1) := by decide +kernel
theorem dX6_isMeeting_6 : decode cX6_isMeeting 6 = .ok (.getfield 53, 3) := by decide +kernel
theorem dX6_isMeeting_9 : decode cX6_isMeeting 9 = .ok (.if_icmp .ge 7, 3) := by decide +kernel
theorem dX6_isMeeting_12 : decode cX6_isMeeting 12 = .ok (.iconst 1, 1) := by decide +kernel
theorem dX6_isMeeting_13 : decode cX6_isMeeting 13 = .ok (.goto 4, 3) := by decide +kernel
theorem dX6_isPerson_0 : decode cX6_isPerson 0 = .ok (.iload_n 0, 1) := by decide +kernel
theorem dX6_isPerson_1 : decode cX6_isPerson 1 = .ok (.ifCond .lt 13, 3) := by decide +kernel
theorem dX6_isPerson_14 : decode cX6_isPerson 14 = .ok (.iconst 0, 1) := by decide +kernel
theorem dX6_isPerson_15 : decode cX6_isPerson 15 = .ok (.ireturn, 1) := by decide +kernel
theorem dX6_isPerson_4 : decode cX6_isPerson 4 = .ok (.iload_n 0, 1) := by decide +kernel
theorem dX6_isPerson_5 : decode cX6_isPerson 5 = .ok (.bipush 12, 2) := by decide +kernel
theorem dX6_isPerson_7 : decode cX6_isPerson 7 = .ok (.if_icmp .ge 7, 3) := by decide +kernel
theorem dX6_isPerson_10 : decode cX6_isPerson 10 = .ok (.iconst 1, 1) := by decide +kernel
theorem dX6_isPerson_11 : decode cX6_isPerson 11 = .ok (.goto 4, 3) := by decide +kernel
theorem dX6_isThing_0 : decode cX6_isThing 0 = .ok (.iload_n 0, 1) := by decide +kernel
theorem dX6_isThing_1 : decode cX6_isThing 1 = .ok (.ifCond .lt 13, 3) := by decide +kernel
theorem dX6_isThing_14 : decode cX6_isThing 14 = .ok (.iconst 0, 1) := by decide +kernel
theorem dX6_isThing_15 : decode cX6_isThing 15 = .ok (.ireturn, 1) := by decide +kernel
theorem dX6_isThing_4 : decode cX6_isThing 4 = .ok (.iload_n 0, 1) := by decide +kernel
theorem dX6_isThing_5 : decode cX6_isThing 5 = .ok (.bipush 40, 2) := by decide +kernel
theorem dX6_isThing_7 : decode cX6_isThing 7 = .ok (.if_icmp .ge 7, 3) := by decide +kernel
theorem dX6_isThing_10 : decode cX6_isThing 10 = .ok (.iconst 1, 1) := by decide +kernel
theorem dX6_isThing_11 : decode cX6_isThing 11 = .ok (.goto 4, 3) := by decide +kernel
theorem dJx4a65c_size_8abf5_0 : decode cJx4a65c_size_8abf5 0 = .ok (.aload_n 0, 1) := by decide +kernel
theorem dJx4a65c_size_8abf5_1 : decode cJx4a65c_size_8abf5 1 = .ok (.getfield 48, 3) := by decide +kernel
theorem dJx4a65c_size_8abf5_4 : decode cJx4a65c_size_8abf5 4 = .ok (.ireturn, 1) := by decide +kernel
theorem dX6_isRecord_0 : decode cX6_isRecord 0 = .ok (.iload_n 1, 1) := by decide +kernel
theorem dX6_isRecord_1 : decode cX6_isRecord 1 = .ok (.ifCond .lt 18, 3) := by decide +kernel
theorem dX6_isRecord_19 : decode cX6_isRecord 19 = .ok (.iconst 0, 1) := by decide +kernel
theorem dX6_isRecord_20 : decode cX6_isRecord 20 = .ok (.ireturn, 1) := by decide +kernel
theorem dX6_isRecord_4 : decode cX6_isRecord 4 = .ok (.iload_n 1, 1) := by decide +kernel
theorem dX6_isRecord_5 : decode cX6_isRecord 5 = .ok (.aload_n 0, 1) := by decide +kernel
theorem dX6_isRecord_6 : decode cX6_isRecord 6 = .ok (.getfield 19, 3) := by decide +kernel
theorem dX6_isRecord_9 : decode cX6_isRecord 9 = .ok (.invokevirtual 91, 3) := by decide +kernel
theorem dX6_isRecord_12 : decode cX6_isRecord 12 = .ok (.if_icmp .ge 7, 3) := by decide +kernel
theorem dX6_isRecord_15 : decode cX6_isRecord 15 = .ok (.iconst 1, 1) := by decide +kernel
theorem dX6_isRecord_16 : decode cX6_isRecord 16 = .ok (.goto 4, 3) := by decide +kernel
theorem dX5_append_0 : decode cX5_append 0 = .ok (.bipush 24, 2) := by decide +kernel
theorem dX5_append_2 : decode cX5_append 2 = .ok (.istore_n 2, 1) := by decide +kernel
theorem dX5_append_3 : decode cX5_append 3 = .ok (.iload_n 2, 1) := by decide +kernel
theorem dX5_append_4 : decode cX5_append 4 = .ok (.ifCond .lt 45, 3) := by decide +kernel
theorem dX5_append_7 : decode cX5_append 7 = .ok (.aload_n 0, 1) := by decide +kernel
theorem dX5_append_8 : decode cX5_append 8 = .ok (.getfield 15, 3) := by decide +kernel
theorem dX5_append_11 : decode cX5_append 11 = .ok (.sipush 300, 3) := by decide +kernel
theorem dX5_append_14 : decode cX5_append 14 = .ok (.if_icmp .ge 35, 3) := by decide +kernel
theorem dX5_append_17 : decode cX5_append 17 = .ok (.aload_n 0, 1) := by decide +kernel
theorem dX5_append_18 : decode cX5_append 18 = .ok (.getfield 9, 3) := by decide +kernel
theorem dX5_append_21 : decode cX5_append 21 = .ok (.aload_n 0, 1) := by decide +kernel
theorem dX5_append_22 : decode cX5_append 22 = .ok (.getfield 15, 3) := by decide +kernel
theorem dX5_append_25 : decode cX5_append 25 = .ok (.iload_n 1, 1) := by decide +kernel
theorem dX5_append_26 : decode cX5_append 26 = .ok (.iload_n 2, 1) := by decide +kernel
theorem dX5_append_27 : decode cX5_append 27 = .ok (.iushr, 1) := by decide +kernel
theorem dX5_append_28 : decode cX5_append 28 = .ok (.sipush 255, 3) := by decide +kernel
theorem dX5_append_31 : decode cX5_append 31 = .ok (.iand, 1) := by decide +kernel
theorem dX5_append_32 : decode cX5_append 32 = .ok (.iastore, 1) := by decide +kernel
theorem dX5_append_33 : decode cX5_append 33 = .ok (.aload_n 0, 1) := by decide +kernel
theorem dX5_append_34 : decode cX5_append 34 = .ok (.dup, 1) := by decide +kernel
theorem dX5_append_35 : decode cX5_append 35 = .ok (.getfield 15, 3) := by decide +kernel
theorem dX5_append_38 : decode cX5_append 38 = .ok (.iconst 1, 1) := by decide +kernel
theorem dX5_append_39 : decode cX5_append 39 = .ok (.iadd, 1) := by decide +kernel
theorem dX5_append_40 : decode cX5_append 40 = .ok (.putfield 15, 3) := by decide +kernel
theorem dX5_append_43 : decode cX5_append 43 = .ok (.iinc 2 (-8), 3) := by decide +kernel
theorem dX5_append_46 : decode cX5_append 46 = .ok (.goto (-43), 3) := by decide +kernel
theorem dX5_append_49 : decode cX5_append 49 = .ok (.return_, 1) := by decide +kernel
theorem dX6_feed_0 : decode cX6_feed 0 = .ok (.aload_n 0, 1) := by decide +kernel
theorem dX6_feed_1 : decode cX6_feed 1 = .ok (.getfield 26, 3) := by decide +kernel
theorem dX6_feed_4 : decode cX6_feed 4 = .ok (.getfield 80, 3) := by decide +kernel
theorem dX6_feed_7 : decode cX6_feed 7 = .ok (.bipush 20, 2) := by decide +kernel
theorem dX6_feed_9 : decode cX6_feed 9 = .ok (.iadd, 1) := by decide +kernel
theorem dX6_feed_10 : decode cX6_feed 10 = .ok (.sipush 300, 3) := by decide +kernel
theorem dX6_feed_13 : decode cX6_feed 13 = .ok (.if_icmp .le 5, 3) := by decide +kernel
theorem dX6_feed_18 : decode cX6_feed 18 = .ok (.aload_n 0, 1) := by decide +kernel
theorem dX6_feed_19 : decode cX6_feed 19 = .ok (.getfield 26, 3) := by decide +kernel
theorem dX6_feed_22 : decode cX6_feed 22 = .ok (.iload_n 1, 1) := by decide +kernel
theorem dX6_feed_23 : decode cX6_feed 23 = .ok (.invokevirtual 83, 3) := by decide +kernel
theorem dX6_feed_26 : decode cX6_feed 26 = .ok (.aload_n 0, 1) := by decide +kernel
theorem dX6_feed_27 : decode cX6_feed 27 = .ok (.getfield 26, 3) := by decide +kernel
theorem dX6_feed_30 : decode cX6_feed 30 = .ok (.iload_n 2, 1) := by decide +kernel
theorem dX6_feed_31 : decode cX6_feed 31 = .ok (.invokevirtual 83, 3) := by decide +kernel
theorem dX6_feed_34 : decode cX6_feed 34 = .ok (.aload_n 0, 1) := by decide +kernel
theorem dX6_feed_35 : decode cX6_feed 35 = .ok (.getfield 26, 3) := by decide +kernel
theorem dX6_feed_38 : decode cX6_feed 38 = .ok (.iload_n 3, 1) := by decide +kernel
theorem dX6_feed_39 : decode cX6_feed 39 = .ok (.invokevirtual 83, 3) := by decide +kernel
theorem dX6_feed_42 : decode cX6_feed 42 = .ok (.aload_n 0, 1) := by decide +kernel
theorem dX6_feed_43 : decode cX6_feed 43 = .ok (.getfield 26, 3) := by decide +kernel
theorem dX6_feed_46 : decode cX6_feed 46 = .ok (.iload 4, 2) := by decide +kernel
theorem dX6_feed_48 : decode cX6_feed 48 = .ok (.invokevirtual 83, 3) := by decide +kernel
theorem dX6_feed_51 : decode cX6_feed 51 = .ok (.aload_n 0, 1) := by decide +kernel
theorem dX6_feed_52 : decode cX6_feed 52 = .ok (.getfield 26, 3) := by decide +kernel
theorem dX6_feed_55 : decode cX6_feed 55 = .ok (.iload 5, 2) := by decide +kernel
theorem dX6_feed_57 : decode cX6_feed 57 = .ok (.invokevirtual 83, 3) := by decide +kernel
theorem dX6_feed_60 : decode cX6_feed 60 = .ok (.aload_n 0, 1) := by decide +kernel
theorem dX6_feed_61 : decode cX6_feed 61 = .ok (.getfield 26, 3) := by decide +kernel
theorem dX6_feed_64 : decode cX6_feed 64 = .ok (.getfield 80, 3) := by decide +kernel
theorem dX6_feed_67 : decode cX6_feed 67 = .ok (.ireturn, 1) := by decide +kernel
theorem dX6_feed_16 : decode cX6_feed 16 = .ok (.iconst (-1), 1) := by decide +kernel
theorem dX6_feed_17 : decode cX6_feed 17 = .ok (.ireturn, 1) := by decide +kernel
theorem dX6_end_0 : decode cX6_end 0 = .ok (.iload_n 1, 1) := by decide +kernel
theorem dX6_end_1 : decode cX6_end 1 = .ok (.ifCond .lt 14, 3) := by decide +kernel
theorem dX6_end_15 : decode cX6_end 15 = .ok (.iconst (-1), 1) := by decide +kernel
theorem dX6_end_16 : decode cX6_end 16 = .ok (.ireturn, 1) := by decide +kernel
theorem dX6_end_4 : decode cX6_end 4 = .ok (.iload_n 1, 1) := by decide +kernel
theorem dX6_end_5 : decode cX6_end 5 = .ok (.aload_n 0, 1) := by decide +kernel
theorem dX6_end_6 : decode cX6_end 6 = .ok (.getfield 26, 3) := by decide +kernel
theorem dX6_end_9 : decode cX6_end 9 = .ok (.getfield 80, 3) := by decide +kernel
theorem dX6_end_12 : decode cX6_end 12 = .ok (.if_icmp .le 5, 3) := by decide +kernel
theorem dX6_end_17 : decode cX6_end 17 = .ok (.aload_n 0, 1) := by decide +kernel
theorem dX6_end_18 : decode cX6_end 18 = .ok (.getfield 26, 3) := by decide +kernel
theorem dX6_end_21 : decode cX6_end 21 = .ok (.iload_n 1, 1) := by decide +kernel
theorem dX6_end_22 : decode cX6_end 22 = .ok (.putfield 80, 3) := by decide +kernel
theorem dX6_end_25 : decode cX6_end 25 = .ok (.iload_n 1, 1) := by decide +kernel
theorem dX6_end_26 : decode cX6_end 26 = .ok (.ireturn, 1) := by decide +kernel
theorem dX6_fault_0 : decode cX6_fault 0 = .ok (.aload_n 0, 1) := by decide +kernel
theorem dX6_fault_1 : decode cX6_fault 1 = .ok (.getfield 60, 3) := by decide +kernel
theorem dX6_fault_4 : decode cX6_fault 4 = .ok (.ireturn, 1) := by decide +kernel
theorem dX6_status_0 : decode cX6_status 0 = .ok (.aload_n 0, 1) := by decide +kernel
theorem dX6_status_1 : decode cX6_status 1 = .ok (.getfield 63, 3) := by decide +kernel
theorem dX6_status_4 : decode cX6_status 4 = .ok (.ireturn, 1) := by decide +kernel
theorem dX6_meeting_0 : decode cX6_meeting 0 = .ok (.iload_n 1, 1) := by decide +kernel
theorem dX6_meeting_1 : decode cX6_meeting 1 = .ok (.ifCond .lt 18, 3) := by decide +kernel
theorem dX6_meeting_19 : decode cX6_meeting 19 = .ok (.aload_n 0, 1) := by decide +kernel
theorem dX6_meeting_20 : decode cX6_meeting 20 = .ok (.iconst (-1), 1) := by decide +kernel
theorem dX6_meeting_21 : decode cX6_meeting 21 = .ok (.invokevirtual 76, 3) := by decide +kernel
theorem dX6_meeting_24 : decode cX6_meeting 24 = .ok (.ireturn, 1) := by decide +kernel
theorem dX6_meeting_4 : decode cX6_meeting 4 = .ok (.iload_n 1, 1) := by decide +kernel
theorem dX6_meeting_5 : decode cX6_meeting 5 = .ok (.sipush 1000, 3) := by decide +kernel
theorem dX6_meeting_8 : decode cX6_meeting 8 = .ok (.if_icmp .ge 11, 3) := by decide +kernel
theorem dX6_meeting_11 : decode cX6_meeting 11 = .ok (.iload_n 1, 1) := by decide +kernel
theorem dX6_meeting_12 : decode cX6_meeting 12 = .ok (.aload_n 0, 1) := by decide +kernel
theorem dX6_meeting_13 : decode cX6_meeting 13 = .ok (.invokevirtual 72, 3) := by decide +kernel
theorem dX6_meeting_16 : decode cX6_meeting 16 = .ok (.if_icmp .ge 9, 3) := by decide +kernel
theorem dX6_meeting_25 : decode cX6_meeting 25 = .ok (.aload_n 0, 1) := by decide +kernel
theorem dX6_meeting_26 : decode cX6_meeting 26 = .ok (.getfield 53, 3) := by decide +kernel
theorem dX6_meeting_29 : decode cX6_meeting 29 = .ok (.bipush 30, 2) := by decide +kernel
theorem dX6_meeting_31 : decode cX6_meeting 31 = .ok (.if_icmp .lt 10, 3) := by decide +kernel
theorem dX6_meeting_41 : decode cX6_meeting 41 = .ok (.aload_n 0, 1) := by decide +kernel
theorem dX6_meeting_42 : decode cX6_meeting 42 = .ok (.getfield 9, 3) := by decide +kernel
theorem dX6_meeting_45 : decode cX6_meeting 45 = .ok (.aload_n 0, 1) := by decide +kernel
theorem dX6_meeting_46 : decode cX6_meeting 46 = .ok (.getfield 53, 3) := by decide +kernel
theorem dX6_meeting_49 : decode cX6_meeting 49 = .ok (.iload_n 1, 1) := by decide +kernel
theorem dX6_meeting_50 : decode cX6_meeting 50 = .ok (.iastore, 1) := by decide +kernel
theorem dX6_meeting_51 : decode cX6_meeting 51 = .ok (.aload_n 0, 1) := by decide +kernel
theorem dX6_meeting_52 : decode cX6_meeting 52 = .ok (.dup, 1) := by decide +kernel
theorem dX6_meeting_53 : decode cX6_meeting 53 = .ok (.getfield 53, 3) := by decide +kernel
theorem dX6_meeting_56 : decode cX6_meeting 56 = .ok (.iconst 1, 1) := by decide +kernel
theorem dX6_meeting_57 : decode cX6_meeting 57 = .ok (.iadd, 1) := by decide +kernel
theorem dX6_meeting_58 : decode cX6_meeting 58 = .ok (.putfield 53, 3) := by decide +kernel
theorem dX6_meeting_61 : decode cX6_meeting 61 = .ok (.aload_n 0, 1) := by decide +kernel
theorem dX6_meeting_62 : decode cX6_meeting 62 = .ok (.iconst 0, 1) := by decide +kernel
theorem dX6_meeting_63 : decode cX6_meeting 63 = .ok (.putfield 63, 3) := by decide +kernel
theorem dX6_meeting_66 : decode cX6_meeting 66 = .ok (.aload_n 0, 1) := by decide +kernel
theorem dX6_meeting_67 : decode cX6_meeting 67 = .ok (.getfield 53, 3) := by decide +kernel
theorem dX6_meeting_70 : decode cX6_meeting 70 = .ok (.iconst 1, 1) := by decide +kernel
theorem dX6_meeting_71 : decode cX6_meeting 71 = .ok (.isub, 1) := by decide +kernel
theorem dX6_meeting_72 : decode cX6_meeting 72 = .ok (.ireturn, 1) := by decide +kernel
theorem dX6_meeting_34 : decode cX6_meeting 34 = .ok (.aload_n 0, 1) := by decide +kernel
theorem dX6_meeting_35 : decode cX6_meeting 35 = .ok (.bipush (-5), 2) := by decide +kernel
theorem dX6_meeting_37 : decode cX6_meeting 37 = .ok (.invokevirtual 76, 3) := by decide +kernel
theorem dX6_meeting_40 : decode cX6_meeting 40 = .ok (.ireturn, 1) := by decide +kernel
def wp_X6_refuse : List Cond := .code yX6_refuse cX6_refuse 2 (some .int) :: (([.fieldLink RX6 63 "AgreedTalks" "refusal" "I"] : List Cond) ++ wsX60)
set_option maxRecDepth 20000 in
theorem gi_X6_refuse : GoodIn lw_tbl wp_X6_refuse := (goodIn_ca (goodIn_r (.code yX6_refuse cX6_refuse 2 (some .int) :: ([.fieldLink RX6 63 "AgreedTalks" "refusal" "I"] : List Cond)) [234, 199] (by decide +kernel) (by decide +kernel)) wi_wsX6)
set_option maxHeartbeats 4000000 in
set_option maxRecDepth 100000 in
/-- refuse -/
theorem c_X6_refuse (l : Launch) (dC : Nat → ClassId) (dI : Nat → Nat → Nat) (sz : Nat) (h0 : Nat) (a0 : Nat) (a1 : Nat) (a2 : Nat) (a3 : Nat) (a4 : Nat) (a5 : Nat) (a6 : Nat) (mk : Nat) (sh : Int32) (fp : Int32) (rf : Int32) (p0 : Int32) : Met l yX6_refuse wp_X6_refuse ({ frames := 0, cells := 0, slots := 0, locals := 0 }) (va_Pc [.ref h0, .int p0] (fun U => U.heap.size = sz ∧ va_P (dC, dI) vwCl [(h0, .inr (7, [.ref a0, .ref a1, .ref a2, .ref a3, .ref a4, .ref a5, .ref a6, .int (nI mk), .int sh, .int fp, .int rf]))] U.heap ∧ va_K (dC, dI) vwCl [] U ∧ va_D (fun _ => True) [(h0, .inr (7, [.ref a0, .ref a1, .ref a2, .ref a3, .ref a4, .ref a5, .ref a6, .int (nI mk), .int sh, .int fp, .int rf]))])) (va_Qi (fun (r : Int32) (_ : Unit) => r = p0) (fun (_ : Unit) (t : State) => va_P (dC, dI) vwCl [(h0, .inr (7, [.ref a0, .ref a1, .ref a2, .ref a3, .ref a4, .ref a5, .ref a6, .int (nI mk), .int sh, .int fp, .int p0]))] t.heap ∧ va_K (dC, dI) vwCl [] t ∧ va_D (va_A [(h0, .inr (7, [.ref a0, .ref a1, .ref a2, .ref a3, .ref a4, .ref a5, .ref a6, .int (nI mk), .int sh, .int fp, .int rf]))] sz) [(h0, .inr (7, [.ref a0, .ref a1, .ref a2, .ref a3, .ref a4, .ref a5, .ref a6, .int (nI mk), .int sh, .int fp, .int p0]))]) (va_A [(h0, .inr (7, [.ref a0, .ref a1, .ref a2, .ref a3, .ref a4, .ref a5, .ref a6, .int (nI mk), .int sh, .int fp, .int rf]))] sz)) 0 0 (va_A [(h0, .inr (7, [.ref a0, .ref a1, .ref a2, .ref a3, .ref a4, .ref a5, .ref a6, .int (nI mk), .int sh, .int fp, .int rf]))] sz) := by
  refine Met.ofW (cc := cX6_refuse) (maxL := 2) (ret := (some .int)) (by decide) rfl ?_
  intro p e s m args below meth c s₁ B hml hv
  obtain ⟨rfl, hsz, hP, hK, hD0⟩ := hv
  have hx := B.exec
  have hb := B.bytes
  have hr := B.returns
  have hts := atoms_spec (ws := wp_X6_refuse) B.pre
  have hown : s.vm.findClass RX6 = some m.cls := findClass_of_methodNamed B.named
  have hlocks := B.notSynchronized
  subst hsz
  have hD := hD0.self (sz := s.heap.size)
  generalize hAe : va_A [(h0, .inr (7, [.ref a0, .ref a1, .ref a2, .ref a3, .ref a4, .ref a5, .ref a6, .int (nI mk), .int sh, .int fp, .int rf]))] s.heap.size = A at hD ⊢
  have hA : ∀ q : Nat, s.heap.size ≤ q → A q := fun q h => by rw [← hAe]; exact Or.inr h
  have hS : va_S A s.heap s.heap [] := va_S.rf
  have hP : va_P (dC, dI) vwCl [(h0, .inr (7, [.ref a0, .ref a1, .ref a2, .ref a3, .ref a4, .ref a5, .ref a6, .int (nI mk), .int sh, .int fp, .int rf]))] s.heap := hP
  have hl := lv_entry ([.ref h0, .int p0]) (n := 2) (Nat.le_of_ble_eq_true rfl)
  rw [lg_entry_eq]
  generalize (lg_sl ([.ref h0, .int p0]) ++ List.replicate (2 - (lg_sl ([.ref h0, .int p0])).length) Slot.unset).toArray = ls at hl ⊢
  have hl : lv_has ls 2 [(0, .ref h0), (1, .int p0)] := hl
  have hinX6 : ∀ w ∈ u_ws RX6 TX6 11, w ∈ wp_X6_refuse := fun _ h => List.mem_cons_of_mem _ (List.mem_append_right _ h)
  refine lv_aload_n hx hb dX6_refuse_0 rfl (lv_at hl 0 rfl) ?_
  refine lv_iload_n hx hb dX6_refuse_1 rfl (lv_at hl 1 rfl) ?_
  refine va_put (D := (dC, dI)) (ci := 7) (v := .int p0) (ty := .int) (C := RX6) (T := TX6) (N := 11) hx hb hts hinX6 tyX6 tyX6_ok nmX6 hown hK hP hD hS 0 rfl rfl 10 (by decide) (hts (.fieldLink RX6 63 "AgreedTalks" "refusal" "I") (by decide +kernel)) (fun _ h9 => h9) rfl (by decide +kernel) rfl rfl (Nat.le_of_ble_eq_true rfl) dX6_refuse_2 (fun H locs hP hD hS => ?_)
  have hP : va_P (dC, dI) vwCl [(h0, .inr (7, [.ref a0, .ref a1, .ref a2, .ref a3, .ref a4, .ref a5, .ref a6, .int (nI mk), .int sh, .int fp, .int p0]))] H := hP
  have hD : va_D A [(h0, .inr (7, [.ref a0, .ref a1, .ref a2, .ref a3, .ref a4, .ref a5, .ref a6, .int (nI mk), .int sh, .int fp, .int p0]))] := hD
  refine lv_iload_n hx hb dX6_refuse_5 rfl (lv_at hl 1 rfl) ?_
  have hP9 := hP.sub (ws' := [(h0, .inr (7, [.ref a0, .ref a1, .ref a2, .ref a3, .ref a4, .ref a5, .ref a6, .int (nI mk), .int sh, .int fp, .int p0]))]) [0] rfl
  have hD9 := hD.sub (ws' := [(h0, .inr (7, [.ref a0, .ref a1, .ref a2, .ref a3, .ref a4, .ref a5, .ref a6, .int (nI mk), .int sh, .int fp, .int p0]))]) [0] (by decide) rfl
  have hK9 := hK.sub (tys' := []) [] rfl
  exact W.iret (v := p0) hx hb hr (fun t ht hW => ⟨⟨p0, (), rfl, rfl, by rw [ht]; exact hP9, va_K.moved hW.alike hK9, hD9⟩, hS.F ht⟩) hS.2.2 dX6_refuse_6
def wp_X6_lastDay : List Cond := .code yX6_lastDay cX6_lastDay 1 (some .int) :: (([.fieldLink RX6 53 "AgreedTalks" "meetings" "I", .fieldLink RX6 9 "AgreedTalks" "days" "[I"] : List Cond) ++ wsX60)
set_option maxRecDepth 20000 in
theorem gi_X6_lastDay : GoodIn lw_tbl wp_X6_lastDay := (goodIn_ca (goodIn_r (.code yX6_lastDay cX6_lastDay 1 (some .int) :: ([.fieldLink RX6 53 "AgreedTalks" "meetings" "I", .fieldLink RX6 9 "AgreedTalks" "days" "[I"] : List Cond)) [230, 196, 189] (by decide +kernel) (by decide +kernel)) wi_wsX6)
set_option maxHeartbeats 4000000 in
set_option maxRecDepth 100000 in
/-- lastDay -/
theorem c_X6_lastDay (l : Launch) (dC : Nat → ClassId) (dI : Nat → Nat → Nat) (sz : Nat) (h0 : Nat) (a0 : Nat) (a1 : Nat) (a2 : Nat) (a3 : Nat) (a4 : Nat) (a5 : Nat) (a6 : Nat) (mk : Nat) (sh : Int32) (fp : Int32) (rf : Int32) (cA : ClassId) (fa : Nat → Int32) (qmk : mk ≤ 30) : Met l yX6_lastDay wp_X6_lastDay ({ frames := 0, cells := 0, slots := 0, locals := 0 }) (va_Pc [.ref h0] (fun U => U.heap.size = sz ∧ va_P (dC, dI) vwCl [(h0, .inr (7, [.ref a0, .ref a1, .ref a2, .ref a3, .ref a4, .ref a5, .ref a6, .int (nI mk), .int sh, .int fp, .int rf])), (a0, .inl (cA, 30, .inl fa))] U.heap ∧ va_K (dC, dI) vwCl [(cA, .int)] U ∧ va_D (fun _ => True) [(h0, .inr (7, [.ref a0, .ref a1, .ref a2, .ref a3, .ref a4, .ref a5, .ref a6, .int (nI mk), .int sh, .int fp, .int rf])), (a0, .inl (cA, 30, .inl fa))])) (va_Qi (fun (r : Int32) (_ : Unit) => r = (lastD fa mk)) (fun (_ : Unit) (t : State) => va_P (dC, dI) vwCl [(h0, .inr (7, [.ref a0, .ref a1, .ref a2, .ref a3, .ref a4, .ref a5, .ref a6, .int (nI mk), .int sh, .int fp, .int rf])), (a0, .inl (cA, 30, .inl fa))] t.heap ∧ va_K (dC, dI) vwCl [(cA, .int)] t ∧ va_D (va_A [(h0, .inr (7, [.ref a0, .ref a1, .ref a2, .ref a3, .ref a4, .ref a5, .ref a6, .int (nI mk), .int sh, .int fp, .int rf])), (a0, .inl (cA, 30, .inl fa))] sz) [(h0, .inr (7, [.ref a0, .ref a1, .ref a2, .ref a3, .ref a4, .ref a5, .ref a6, .int (nI mk), .int sh, .int fp, .int rf])), (a0, .inl (cA, 30, .inl fa))]) (va_A [(h0, .inr (7, [.ref a0, .ref a1, .ref a2, .ref a3, .ref a4, .ref a5, .ref a6, .int (nI mk), .int sh, .int fp, .int rf])), (a0, .inl (cA, 30, .inl fa))] sz)) 0 0 (va_A [(h0, .inr (7, [.ref a0, .ref a1, .ref a2, .ref a3, .ref a4, .ref a5, .ref a6, .int (nI mk), .int sh, .int fp, .int rf])), (a0, .inl (cA, 30, .inl fa))] sz) := by
  refine Met.ofW (cc := cX6_lastDay) (maxL := 1) (ret := (some .int)) (by decide) rfl ?_
  intro p e s m args below meth c s₁ B hml hv
  obtain ⟨rfl, hsz, hP, hK, hD0⟩ := hv
  have hx := B.exec
  have hb := B.bytes
  have hr := B.returns
  have hts := atoms_spec (ws := wp_X6_lastDay) B.pre
  have hown : s.vm.findClass RX6 = some m.cls := findClass_of_methodNamed B.named
  have hlocks := B.notSynchronized
  subst hsz
  have hD := hD0.self (sz := s.heap.size)
  generalize hAe : va_A [(h0, .inr (7, [.ref a0, .ref a1, .ref a2, .ref a3, .ref a4, .ref a5, .ref a6, .int (nI mk), .int sh, .int fp, .int rf])), (a0, .inl (cA, 30, .inl fa))] s.heap.size = A at hD ⊢
  have hA : ∀ q : Nat, s.heap.size ≤ q → A q := fun q h => by rw [← hAe]; exact Or.inr h
  have hS : va_S A s.heap s.heap [] := va_S.rf
  have hP : va_P (dC, dI) vwCl [(h0, .inr (7, [.ref a0, .ref a1, .ref a2, .ref a3, .ref a4, .ref a5, .ref a6, .int (nI mk), .int sh, .int fp, .int rf])), (a0, .inl (cA, 30, .inl fa))] s.heap := hP
  have hl := lv_entry ([.ref h0]) (n := 1) (Nat.le_of_ble_eq_true rfl)
  rw [lg_entry_eq]
  generalize (lg_sl ([.ref h0]) ++ List.replicate (1 - (lg_sl ([.ref h0])).length) Slot.unset).toArray = ls at hl ⊢
  have hl : lv_has ls 1 [(0, .ref h0)] := hl
  have hinX6 : ∀ w ∈ u_ws RX6 TX6 11, w ∈ wp_X6_lastDay := fun _ h => List.mem_cons_of_mem _ (List.mem_append_right _ h)
  refine lv_aload_n hx hb dX6_lastDay_0 rfl (lv_at hl 0 rfl) ?_
  refine va_get (D := (dC, dI)) (ci := 7) (v := .int (nI mk)) (C := RX6) (T := TX6) (N := 11) hx hb hts hinX6 hown hK hP 0 rfl rfl 7 (by decide) (hts (.fieldLink RX6 53 "AgreedTalks" "meetings" "I") (by decide +kernel)) (fun _ h9 => h9) rfl dX6_lastDay_1 ?_
  refine lv_if_ne (tgt := 11) hx hb dX6_lastDay_4 (by decide) (fun c_1 => ?_) (fun c_1 => ?_)
  · have c_1 : ¬ (mk = 0) := fun h => c_1 ((nI_eq (a := mk) (b := 0) (by omega) (by omega)).mpr h)
    refine lv_aload_n hx hb dX6_lastDay_11 rfl (lv_at hl 0 rfl) ?_
    refine va_get (D := (dC, dI)) (ci := 7) (v := .ref a0) (C := RX6) (T := TX6) (N := 11) hx hb hts hinX6 hown hK hP 0 rfl rfl 0 (by decide) (hts (.fieldLink RX6 9 "AgreedTalks" "days" "[I") (by decide +kernel)) (fun _ h9 => h9) rfl dX6_lastDay_12 ?_
    refine lv_aload_n hx hb dX6_lastDay_15 rfl (lv_at hl 0 rfl) ?_
    refine va_get (D := (dC, dI)) (ci := 7) (v := .int (nI mk)) (C := RX6) (T := TX6) (N := 11) hx hb hts hinX6 hown hK hP 0 rfl rfl 7 (by decide) (hts (.fieldLink RX6 53 "AgreedTalks" "meetings" "I") (by decide +kernel)) (fun _ h9 => h9) rfl dX6_lastDay_16 ?_
    refine lv_iconst (v := 1) hx hb dX6_lastDay_19 (by decide) ?_
    refine lv_isub hx hb dX6_lastDay_20 ?_
    refine lv_topi (fun x_2 ex_2 => ?_)
    obtain rfl : x_2 = (nI (mk - 1)) := by rw [ex_2]; exact pk_sub (b := 1) (by omega)
    refine va_iald hx hb hK hP 1 0 rfl rfl (vp_in_nI (by omega) (by omega)) dX6_lastDay_21 ?_
    refine lv_topi (fun x_3 ex_3 => ?_)
    rw [show (Int32.toNatClampNeg (nI (mk - 1))) = mk - 1 from nI_clamp (by omega)] at ex_3
    have hP9 := hP.sub (ws' := [(h0, .inr (7, [.ref a0, .ref a1, .ref a2, .ref a3, .ref a4, .ref a5, .ref a6, .int (nI mk), .int sh, .int fp, .int rf])), (a0, .inl (cA, 30, .inl fa))]) [0, 1] rfl
    have hD9 := hD.sub (ws' := [(h0, .inr (7, [.ref a0, .ref a1, .ref a2, .ref a3, .ref a4, .ref a5, .ref a6, .int (nI mk), .int sh, .int fp, .int rf])), (a0, .inl (cA, 30, .inl fa))]) [0, 1] (by decide) rfl
    have hK9 := hK.sub (tys' := [(cA, .int)]) [0] rfl
    exact W.iret (v := x_3) hx hb hr (fun t ht hW => ⟨⟨x_3, (), rfl, (by rw [lastD, if_neg c_1, ← ex_3]), by rw [ht]; exact hP9, va_K.moved hW.alike hK9, hD9⟩, hS.F ht⟩) hS.2.2 dX6_lastDay_22
  · have c_1 : mk = 0 := (nI_eq (a := mk) (b := 0) (by omega) (by omega)).mp c_1
    refine lv_iconst (v := 0) hx hb dX6_lastDay_7 (by decide) ?_
    refine lv_goto (tgt := 22) hx hb dX6_lastDay_8 (by decide) ?_
    have hP9 := hP.sub (ws' := [(h0, .inr (7, [.ref a0, .ref a1, .ref a2, .ref a3, .ref a4, .ref a5, .ref a6, .int (nI mk), .int sh, .int fp, .int rf])), (a0, .inl (cA, 30, .inl fa))]) [0, 1] rfl
    have hD9 := hD.sub (ws' := [(h0, .inr (7, [.ref a0, .ref a1, .ref a2, .ref a3, .ref a4, .ref a5, .ref a6, .int (nI mk), .int sh, .int fp, .int rf])), (a0, .inl (cA, 30, .inl fa))]) [0, 1] (by decide) rfl
    have hK9 := hK.sub (tys' := [(cA, .int)]) [0] rfl
    exact W.iret (v := 0) hx hb hr (fun t ht hW => ⟨⟨0, (), rfl, (by rw [lastD, if_pos c_1]), by rw [ht]; exact hP9, va_K.moved hW.alike hK9, hD9⟩, hS.F ht⟩) hS.2.2 dX6_lastDay_22
def wp_X6_isMeeting : List Cond := .code yX6_isMeeting cX6_isMeeting 2 (some .boolean) :: (([.fieldLink RX6 53 "AgreedTalks" "meetings" "I"] : List Cond) ++ wsX60)
set_option maxRecDepth 20000 in
theorem gi_X6_isMeeting : GoodIn lw_tbl wp_X6_isMeeting := (goodIn_ca (goodIn_r (.code yX6_isMeeting cX6_isMeeting 2 (some .boolean) :: ([.fieldLink RX6 53 "AgreedTalks" "meetings" "I"] : List Cond)) [254, 196] (by decide +kernel) (by decide +kernel)) wi_wsX6)
set_option maxHeartbeats 4000000 in
set_option maxRecDepth 100000 in
/-- isMeeting -/
theorem c_X6_isMeeting (l : Launch) (dC : Nat → ClassId) (dI : Nat → Nat → Nat) (sz : Nat) (h0 : Nat) (a0 : Nat) (a1 : Nat) (a2 : Nat) (a3 : Nat) (a4 : Nat) (a5 : Nat) (a6 : Nat) (mk : Nat) (sh : Int32) (fp : Int32) (rf : Int32) (p0 : Int32) (qmk : mk ≤ 30) : Met l yX6_isMeeting wp_X6_isMeeting ({ frames := 0, cells := 0, slots := 0, locals := 0 }) (va_Pc [.ref h0, .int p0] (fun U => U.heap.size = sz ∧ va_P (dC, dI) vwCl [(h0, .inr (7, [.ref a0, .ref a1, .ref a2, .ref a3, .ref a4, .ref a5, .ref a6, .int (nI mk), .int sh, .int fp, .int rf]))] U.heap ∧ va_K (dC, dI) vwCl [] U ∧ va_D (fun _ => True) [(h0, .inr (7, [.ref a0, .ref a1, .ref a2, .ref a3, .ref a4, .ref a5, .ref a6, .int (nI mk), .int sh, .int fp, .int rf]))])) (va_Qi (fun (r : Int32) (_ : Unit) => r = 0 ∨ (r = 1 ∧ ∃ n, n < mk ∧ p0 = nI n)) (fun (_ : Unit) (t : State) => va_P (dC, dI) vwCl [(h0, .inr (7, [.ref a0, .ref a1, .ref a2, .ref a3, .ref a4, .ref a5, .ref a6, .int (nI mk), .int sh, .int fp, .int rf]))] t.heap ∧ va_K (dC, dI) vwCl [] t ∧ va_D (va_A [(h0, .inr (7, [.ref a0, .ref a1, .ref a2, .ref a3, .ref a4, .ref a5, .ref a6, .int (nI mk), .int sh, .int fp, .int rf]))] sz) [(h0, .inr (7, [.ref a0, .ref a1, .ref a2, .ref a3, .ref a4, .ref a5, .ref a6, .int (nI mk), .int sh, .int fp, .int rf]))]) (va_A [(h0, .inr (7, [.ref a0, .ref a1, .ref a2, .ref a3, .ref a4, .ref a5, .ref a6, .int (nI mk), .int sh, .int fp, .int rf]))] sz)) 0 0 (va_A [(h0, .inr (7, [.ref a0, .ref a1, .ref a2, .ref a3, .ref a4, .ref a5, .ref a6, .int (nI mk), .int sh, .int fp, .int rf]))] sz) := by
  refine Met.ofW (cc := cX6_isMeeting) (maxL := 2) (ret := (some .boolean)) (by decide) rfl ?_
  intro p e s m args below meth c s₁ B hml hv
  obtain ⟨rfl, hsz, hP, hK, hD0⟩ := hv
  have hx := B.exec
  have hb := B.bytes
  have hr := B.returns
  have hts := atoms_spec (ws := wp_X6_isMeeting) B.pre
  have hown : s.vm.findClass RX6 = some m.cls := findClass_of_methodNamed B.named
  have hlocks := B.notSynchronized
  subst hsz
  have hD := hD0.self (sz := s.heap.size)
  generalize hAe : va_A [(h0, .inr (7, [.ref a0, .ref a1, .ref a2, .ref a3, .ref a4, .ref a5, .ref a6, .int (nI mk), .int sh, .int fp, .int rf]))] s.heap.size = A at hD ⊢
  have hA : ∀ q : Nat, s.heap.size ≤ q → A q := fun q h => by rw [← hAe]; exact Or.inr h
  have hS : va_S A s.heap s.heap [] := va_S.rf
  have hP : va_P (dC, dI) vwCl [(h0, .inr (7, [.ref a0, .ref a1, .ref a2, .ref a3, .ref a4, .ref a5, .ref a6, .int (nI mk), .int sh, .int fp, .int rf]))] s.heap := hP
  have hl := lv_entry ([.ref h0, .int p0]) (n := 2) (Nat.le_of_ble_eq_true rfl)
  rw [lg_entry_eq]
  generalize (lg_sl ([.ref h0, .int p0]) ++ List.replicate (2 - (lg_sl ([.ref h0, .int p0])).length) Slot.unset).toArray = ls at hl ⊢
  have hl : lv_has ls 2 [(0, .ref h0), (1, .int p0)] := hl
  have hinX6 : ∀ w ∈ u_ws RX6 TX6 11, w ∈ wp_X6_isMeeting := fun _ h => List.mem_cons_of_mem _ (List.mem_append_right _ h)
  refine lv_iload_n hx hb dX6_isMeeting_0 rfl (lv_at hl 1 rfl) ?_
  refine lv_if_lt (tgt := 16) hx hb dX6_isMeeting_1 (by decide) (fun c_1 => ?_) (fun c_1 => ?_)
  · refine lv_iconst (v := 0) hx hb dX6_isMeeting_16 (by decide) ?_
    have hP9 := hP.sub (ws' := [(h0, .inr (7, [.ref a0, .ref a1, .ref a2, .ref a3, .ref a4, .ref a5, .ref a6, .int (nI mk), .int sh, .int fp, .int rf]))]) [0] rfl
    have hD9 := hD.sub (ws' := [(h0, .inr (7, [.ref a0, .ref a1, .ref a2, .ref a3, .ref a4, .ref a5, .ref a6, .int (nI mk), .int sh, .int fp, .int rf]))]) [0] (by decide) rfl
    have hK9 := hK.sub (tys' := []) [] rfl
    exact W.zret (v := 0) (ty := .boolean) hx hb hr rfl (fun t ht hW => ⟨⟨0, (), rfl, Or.inl rfl, by rw [ht]; exact hP9, va_K.moved hW.alike hK9, hD9⟩, hS.F ht⟩) hS.2.2 dX6_isMeeting_17
  · obtain ⟨n_2, hn_2, en_2⟩ := nI_of c_1
    subst en_2
    refine lv_iload_n hx hb dX6_isMeeting_4 rfl (lv_at hl 1 rfl) ?_
    refine lv_aload_n hx hb dX6_isMeeting_5 rfl (lv_at hl 0 rfl) ?_
    refine va_get (D := (dC, dI)) (ci := 7) (v := .int (nI mk)) (C := RX6) (T := TX6) (N := 11) hx hb hts hinX6 hown hK hP 0 rfl rfl 7 (by decide) (hts (.fieldLink RX6 53 "AgreedTalks" "meetings" "I") (by decide +kernel)) (fun _ h9 => h9) rfl dX6_isMeeting_6 ?_
    refine lv_icmp_ge (tgt := 16) hx hb dX6_isMeeting_9 (by decide) (fun c_3 => ?_) (fun c_3 => ?_)
    · have c_3 : mk ≤ n_2 := (nI_leI (a := mk) (b := n_2) (by omega) (by omega)).mp c_3
      refine lv_iconst (v := 0) hx hb dX6_isMeeting_16 (by decide) ?_
      have hP9 := hP.sub (ws' := [(h0, .inr (7, [.ref a0, .ref a1, .ref a2, .ref a3, .ref a4, .ref a5, .ref a6, .int (nI mk), .int sh, .int fp, .int rf]))]) [0] rfl
      have hD9 := hD.sub (ws' := [(h0, .inr (7, [.ref a0, .ref a1, .ref a2, .ref a3, .ref a4, .ref a5, .ref a6, .int (nI mk), .int sh, .int fp, .int rf]))]) [0] (by decide) rfl
      have hK9 := hK.sub (tys' := []) [] rfl
      exact W.zret (v := 0) (ty := .boolean) hx hb hr rfl (fun t ht hW => ⟨⟨0, (), rfl, Or.inl rfl, by rw [ht]; exact hP9, va_K.moved hW.alike hK9, hD9⟩, hS.F ht⟩) hS.2.2 dX6_isMeeting_17
    · have c_3 : ¬ (mk ≤ n_2) := fun h => c_3 ((nI_leI (a := mk) (b := n_2) (by omega) (by omega)).mpr h)
      refine lv_iconst (v := 1) hx hb dX6_isMeeting_12 (by decide) ?_
      refine lv_goto (tgt := 17) hx hb dX6_isMeeting_13 (by decide) ?_
      have hP9 := hP.sub (ws' := [(h0, .inr (7, [.ref a0, .ref a1, .ref a2, .ref a3, .ref a4, .ref a5, .ref a6, .int (nI mk), .int sh, .int fp, .int rf]))]) [0] rfl
      have hD9 := hD.sub (ws' := [(h0, .inr (7, [.ref a0, .ref a1, .ref a2, .ref a3, .ref a4, .ref a5, .ref a6, .int (nI mk), .int sh, .int fp, .int rf]))]) [0] (by decide) rfl
      have hK9 := hK.sub (tys' := []) [] rfl
      exact W.zret (v := 1) (ty := .boolean) hx hb hr rfl (fun t ht hW => ⟨⟨1, (), rfl, Or.inr ⟨rfl, n_2, by omega, rfl⟩, by rw [ht]; exact hP9, va_K.moved hW.alike hK9, hD9⟩, hS.F ht⟩) hS.2.2 dX6_isMeeting_17
def wp_X6_isPerson : List Cond := .code yX6_isPerson cX6_isPerson 1 (some .boolean) :: (([] : List Cond))
set_option maxRecDepth 20000 in
theorem gi_X6_isPerson : GoodIn lw_tbl wp_X6_isPerson := (goodIn_r (.code yX6_isPerson cX6_isPerson 1 (some .boolean) :: ([] : List Cond)) [380] (by decide +kernel) (by decide +kernel))
set_option maxHeartbeats 4000000 in
set_option maxRecDepth 100000 in
/-- isPerson -/
theorem c_X6_isPerson (l : Launch) (dC : Nat → ClassId) (dI : Nat → Nat → Nat) (sz : Nat) (p0 : Int32) : Met l yX6_isPerson wp_X6_isPerson ({ frames := 0, cells := 0, slots := 0, locals := 0 }) (va_Pc [.int p0] (fun U => U.heap.size = sz ∧ va_P (dC, dI) vwCl [] U.heap ∧ va_K (dC, dI) vwCl [] U ∧ va_D (fun _ => True) [])) (va_Qi (fun (r : Int32) (_ : Unit) => r = 0 ∨ (r = 1 ∧ ∃ n, n < 12 ∧ p0 = nI n)) (fun (_ : Unit) (t : State) => va_P (dC, dI) vwCl [] t.heap ∧ va_K (dC, dI) vwCl [] t ∧ va_D (va_A [] sz) []) (va_A [] sz)) 0 0 (va_A [] sz) := by
  refine Met.ofW (cc := cX6_isPerson) (maxL := 1) (ret := (some .boolean)) (by decide) rfl ?_
  intro p e s m args below meth c s₁ B hml hv
  obtain ⟨rfl, hsz, hP, hK, hD0⟩ := hv
  have hx := B.exec
  have hb := B.bytes
  have hr := B.returns
  have hts := atoms_spec (ws := wp_X6_isPerson) B.pre
  have hown : s.vm.findClass RX6 = some m.cls := findClass_of_methodNamed B.named
  have hlocks := B.notSynchronized
  subst hsz
  have hD := hD0.self (sz := s.heap.size)
  generalize hAe : va_A [] s.heap.size = A at hD ⊢
  have hA : ∀ q : Nat, s.heap.size ≤ q → A q := fun q h => by rw [← hAe]; exact Or.inr h
  have hS : va_S A s.heap s.heap [] := va_S.rf
  have hP : va_P (dC, dI) vwCl [] s.heap := hP
  have hl := lv_entry ([.int p0]) (n := 1) (Nat.le_of_ble_eq_true rfl)
  rw [lg_entry_eq]
  generalize (lg_sl ([.int p0]) ++ List.replicate (1 - (lg_sl ([.int p0])).length) Slot.unset).toArray = ls at hl ⊢
  have hl : lv_has ls 1 [(0, .int p0)] := hl
  refine lv_iload_n hx hb dX6_isPerson_0 rfl (lv_at hl 0 rfl) ?_
  refine lv_if_lt (tgt := 14) hx hb dX6_isPerson_1 (by decide) (fun c_1 => ?_) (fun c_1 => ?_)
  · refine lv_iconst (v := 0) hx hb dX6_isPerson_14 (by decide) ?_
    have hP9 := hP.sub (ws' := []) [] rfl
    have hD9 := hD.sub (ws' := []) [] (by decide) rfl
    have hK9 := hK.sub (tys' := []) [] rfl
    exact W.zret (v := 0) (ty := .boolean) hx hb hr rfl (fun t ht hW => ⟨⟨0, (), rfl, Or.inl rfl, by rw [ht]; exact hP9, va_K.moved hW.alike hK9, hD9⟩, hS.F ht⟩) hS.2.2 dX6_isPerson_15
  · obtain ⟨n_2, hn_2, en_2⟩ := nI_of c_1
    subst en_2
    refine lv_iload_n hx hb dX6_isPerson_4 rfl (lv_at hl 0 rfl) ?_
    refine lv_bipush (v := 12) hx hb dX6_isPerson_5 (by decide) ?_
    refine lv_icmp_ge (tgt := 14) hx hb dX6_isPerson_7 (by decide) (fun c_3 => ?_) (fun c_3 => ?_)
    · have c_3 : 12 ≤ n_2 := (nI_leI (a := 12) (b := n_2) (by omega) (by omega)).mp c_3
      refine lv_iconst (v := 0) hx hb dX6_isPerson_14 (by decide) ?_
      have hP9 := hP.sub (ws' := []) [] rfl
      have hD9 := hD.sub (ws' := []) [] (by decide) rfl
      have hK9 := hK.sub (tys' := []) [] rfl
      exact W.zret (v := 0) (ty := .boolean) hx hb hr rfl (fun t ht hW => ⟨⟨0, (), rfl, Or.inl rfl, by rw [ht]; exact hP9, va_K.moved hW.alike hK9, hD9⟩, hS.F ht⟩) hS.2.2 dX6_isPerson_15
    · have c_3 : ¬ (12 ≤ n_2) := fun h => c_3 ((nI_leI (a := 12) (b := n_2) (by omega) (by omega)).mpr h)
      refine lv_iconst (v := 1) hx hb dX6_isPerson_10 (by decide) ?_
      refine lv_goto (tgt := 15) hx hb dX6_isPerson_11 (by decide) ?_
      have hP9 := hP.sub (ws' := []) [] rfl
      have hD9 := hD.sub (ws' := []) [] (by decide) rfl
      have hK9 := hK.sub (tys' := []) [] rfl
      exact W.zret (v := 1) (ty := .boolean) hx hb hr rfl (fun t ht hW => ⟨⟨1, (), rfl, Or.inr ⟨rfl, n_2, by omega, rfl⟩, by rw [ht]; exact hP9, va_K.moved hW.alike hK9, hD9⟩, hS.F ht⟩) hS.2.2 dX6_isPerson_15
def wp_X6_isThing : List Cond := .code yX6_isThing cX6_isThing 1 (some .boolean) :: (([] : List Cond))
set_option maxRecDepth 20000 in
theorem gi_X6_isThing : GoodIn lw_tbl wp_X6_isThing := (goodIn_r (.code yX6_isThing cX6_isThing 1 (some .boolean) :: ([] : List Cond)) [512] (by decide +kernel) (by decide +kernel))
set_option maxHeartbeats 4000000 in
set_option maxRecDepth 100000 in
/-- isThing -/
theorem c_X6_isThing (l : Launch) (dC : Nat → ClassId) (dI : Nat → Nat → Nat) (sz : Nat) (p0 : Int32) : Met l yX6_isThing wp_X6_isThing ({ frames := 0, cells := 0, slots := 0, locals := 0 }) (va_Pc [.int p0] (fun U => U.heap.size = sz ∧ va_P (dC, dI) vwCl [] U.heap ∧ va_K (dC, dI) vwCl [] U ∧ va_D (fun _ => True) [])) (va_Qi (fun (r : Int32) (_ : Unit) => r = 0 ∨ (r = 1 ∧ ∃ n, n < 40 ∧ p0 = nI n)) (fun (_ : Unit) (t : State) => va_P (dC, dI) vwCl [] t.heap ∧ va_K (dC, dI) vwCl [] t ∧ va_D (va_A [] sz) []) (va_A [] sz)) 0 0 (va_A [] sz) := by
  refine Met.ofW (cc := cX6_isThing) (maxL := 1) (ret := (some .boolean)) (by decide) rfl ?_
  intro p e s m args below meth c s₁ B hml hv
  obtain ⟨rfl, hsz, hP, hK, hD0⟩ := hv
  have hx := B.exec
  have hb := B.bytes
  have hr := B.returns
  have hts := atoms_spec (ws := wp_X6_isThing) B.pre
  have hown : s.vm.findClass RX6 = some m.cls := findClass_of_methodNamed B.named
  have hlocks := B.notSynchronized
  subst hsz
  have hD := hD0.self (sz := s.heap.size)
  generalize hAe : va_A [] s.heap.size = A at hD ⊢
  have hA : ∀ q : Nat, s.heap.size ≤ q → A q := fun q h => by rw [← hAe]; exact Or.inr h
  have hS : va_S A s.heap s.heap [] := va_S.rf
  have hP : va_P (dC, dI) vwCl [] s.heap := hP
  have hl := lv_entry ([.int p0]) (n := 1) (Nat.le_of_ble_eq_true rfl)
  rw [lg_entry_eq]
  generalize (lg_sl ([.int p0]) ++ List.replicate (1 - (lg_sl ([.int p0])).length) Slot.unset).toArray = ls at hl ⊢
  have hl : lv_has ls 1 [(0, .int p0)] := hl
  refine lv_iload_n hx hb dX6_isThing_0 rfl (lv_at hl 0 rfl) ?_
  refine lv_if_lt (tgt := 14) hx hb dX6_isThing_1 (by decide) (fun c_1 => ?_) (fun c_1 => ?_)
  · refine lv_iconst (v := 0) hx hb dX6_isThing_14 (by decide) ?_
    have hP9 := hP.sub (ws' := []) [] rfl
    have hD9 := hD.sub (ws' := []) [] (by decide) rfl
    have hK9 := hK.sub (tys' := []) [] rfl
    exact W.zret (v := 0) (ty := .boolean) hx hb hr rfl (fun t ht hW => ⟨⟨0, (), rfl, Or.inl rfl, by rw [ht]; exact hP9, va_K.moved hW.alike hK9, hD9⟩, hS.F ht⟩) hS.2.2 dX6_isThing_15
  · obtain ⟨n_2, hn_2, en_2⟩ := nI_of c_1
    subst en_2
    refine lv_iload_n hx hb dX6_isThing_4 rfl (lv_at hl 0 rfl) ?_
    refine lv_bipush (v := 40) hx hb dX6_isThing_5 (by decide) ?_
    refine lv_icmp_ge (tgt := 14) hx hb dX6_isThing_7 (by decide) (fun c_3 => ?_) (fun c_3 => ?_)
    · have c_3 : 40 ≤ n_2 := (nI_leI (a := 40) (b := n_2) (by omega) (by omega)).mp c_3
      refine lv_iconst (v := 0) hx hb dX6_isThing_14 (by decide) ?_
      have hP9 := hP.sub (ws' := []) [] rfl
      have hD9 := hD.sub (ws' := []) [] (by decide) rfl
      have hK9 := hK.sub (tys' := []) [] rfl
      exact W.zret (v := 0) (ty := .boolean) hx hb hr rfl (fun t ht hW => ⟨⟨0, (), rfl, Or.inl rfl, by rw [ht]; exact hP9, va_K.moved hW.alike hK9, hD9⟩, hS.F ht⟩) hS.2.2 dX6_isThing_15
    · have c_3 : ¬ (40 ≤ n_2) := fun h => c_3 ((nI_leI (a := 40) (b := n_2) (by omega) (by omega)).mpr h)
      refine lv_iconst (v := 1) hx hb dX6_isThing_10 (by decide) ?_
      refine lv_goto (tgt := 15) hx hb dX6_isThing_11 (by decide) ?_
      have hP9 := hP.sub (ws' := []) [] rfl
      have hD9 := hD.sub (ws' := []) [] (by decide) rfl
      have hK9 := hK.sub (tys' := []) [] rfl
      exact W.zret (v := 1) (ty := .boolean) hx hb hr rfl (fun t ht hW => ⟨⟨1, (), rfl, Or.inr ⟨rfl, n_2, by omega, rfl⟩, by rw [ht]; exact hP9, va_K.moved hW.alike hK9, hD9⟩, hS.F ht⟩) hS.2.2 dX6_isThing_15
def wp_AL_size : List Cond := .code yJx4a65c_size_8abf5 cJx4a65c_size_8abf5 1 (some .int) :: (([.fieldLink RJx4a65c 48 "java/util/ArrayList" "size" "I"] : List Cond) ++ wsJx4a65c0)
set_option maxRecDepth 20000 in
theorem gi_AL_size : GoodIn lw_tbl wp_AL_size := (goodIn_ca (goodIn_r (.code yJx4a65c_size_8abf5 cJx4a65c_size_8abf5 1 (some .int) :: ([.fieldLink RJx4a65c 48 "java/util/ArrayList" "size" "I"] : List Cond)) [258, 91] (by decide +kernel) (by decide +kernel)) wi_wsJx4a65c)
set_option maxHeartbeats 4000000 in
set_option maxRecDepth 100000 in
/-- ArrayList.size -/
theorem c_AL_size (l : Launch) (dC : Nat → ClassId) (dI : Nat → Nat → Nat) (sz : Nat) (h0 : Nat) (mc : Int32) (ev : Value) (nr : Nat) : Met l yJx4a65c_size_8abf5 wp_AL_size ({ frames := 0, cells := 0, slots := 0, locals := 0 }) (va_Pc [.ref h0] (fun U => U.heap.size = sz ∧ va_P (dC, dI) vwCl [(h0, .inr (0, [.int mc, ev, .int (nI nr)]))] U.heap ∧ va_K (dC, dI) vwCl [] U ∧ va_D (fun _ => True) [(h0, .inr (0, [.int mc, ev, .int (nI nr)]))])) (va_Qi (fun (r : Int32) (_ : Unit) => r = (nI nr)) (fun (_ : Unit) (t : State) => va_P (dC, dI) vwCl [(h0, .inr (0, [.int mc, ev, .int (nI nr)]))] t.heap ∧ va_K (dC, dI) vwCl [] t ∧ va_D (va_A [(h0, .inr (0, [.int mc, ev, .int (nI nr)]))] sz) [(h0, .inr (0, [.int mc, ev, .int (nI nr)]))]) (va_A [(h0, .inr (0, [.int mc, ev, .int (nI nr)]))] sz)) 0 0 (va_A [(h0, .inr (0, [.int mc, ev, .int (nI nr)]))] sz) := by
  refine Met.ofW (cc := cJx4a65c_size_8abf5) (maxL := 1) (ret := (some .int)) (by decide) rfl ?_
  intro p e s m args below meth c s₁ B hml hv
  obtain ⟨rfl, hsz, hP, hK, hD0⟩ := hv
  have hx := B.exec
  have hb := B.bytes
  have hr := B.returns
  have hts := atoms_spec (ws := wp_AL_size) B.pre
  have hown : s.vm.findClass RJx4a65c = some m.cls := findClass_of_methodNamed B.named
  have hlocks := B.notSynchronized
  subst hsz
  have hD := hD0.self (sz := s.heap.size)
  generalize hAe : va_A [(h0, .inr (0, [.int mc, ev, .int (nI nr)]))] s.heap.size = A at hD ⊢
  have hA : ∀ q : Nat, s.heap.size ≤ q → A q := fun q h => by rw [← hAe]; exact Or.inr h
  have hS : va_S A s.heap s.heap [] := va_S.rf
  have hP : va_P (dC, dI) vwCl [(h0, .inr (0, [.int mc, ev, .int (nI nr)]))] s.heap := hP
  have hl := lv_entry ([.ref h0]) (n := 1) (Nat.le_of_ble_eq_true rfl)
  rw [lg_entry_eq]
  generalize (lg_sl ([.ref h0]) ++ List.replicate (1 - (lg_sl ([.ref h0])).length) Slot.unset).toArray = ls at hl ⊢
  have hl : lv_has ls 1 [(0, .ref h0)] := hl
  have hinJx4a65c : ∀ w ∈ u_ws RJx4a65c TJx4a65c 3, w ∈ wp_AL_size := fun _ h => List.mem_cons_of_mem _ (List.mem_append_right _ h)
  refine lv_aload_n hx hb dJx4a65c_size_8abf5_0 rfl (lv_at hl 0 rfl) ?_
  refine va_get (D := (dC, dI)) (ci := 0) (v := .int (nI nr)) (C := RJx4a65c) (T := TJx4a65c) (N := 3) hx hb hts hinJx4a65c hown hK hP 0 rfl rfl 2 (by decide) (hts (.fieldLink RJx4a65c 48 "java/util/ArrayList" "size" "I") (by decide +kernel)) (fun _ h9 => h9) rfl dJx4a65c_size_8abf5_1 ?_
  have hP9 := hP.sub (ws' := [(h0, .inr (0, [.int mc, ev, .int (nI nr)]))]) [0] rfl
  have hD9 := hD.sub (ws' := [(h0, .inr (0, [.int mc, ev, .int (nI nr)]))]) [0] (by decide) rfl
  have hK9 := hK.sub (tys' := []) [] rfl
  exact W.iret (v := (nI nr)) hx hb hr (fun t ht hW => ⟨⟨(nI nr), (), rfl, rfl, by rw [ht]; exact hP9, va_K.moved hW.alike hK9, hD9⟩, hS.F ht⟩) hS.2.2 dJx4a65c_size_8abf5_4
def wp_X6_isRecord : List Cond := .code yX6_isRecord cX6_isRecord 2 (some .boolean) :: (([.fieldLink RX6 19 "AgreedTalks" "records" "Ljava/util/ArrayList;"] : List Cond) ++ wsX60 ++ (wsV RX6 91 RJx4a65c yJx4a65c_size_8abf5 wp_AL_size))
theorem gc_X6_isRecord_AL_size : GoodIn wp_X6_isRecord (wsV RX6 91 RJx4a65c yJx4a65c_size_8abf5 wp_AL_size) := goodIn_sub (fun _ h => List.mem_cons_of_mem _ (List.mem_append_right _ h)) (by decide +kernel)
set_option maxRecDepth 20000 in
theorem gi_X6_isRecord : GoodIn lw_tbl wp_X6_isRecord := (goodIn_ca (goodIn_ca (goodIn_r (.code yX6_isRecord cX6_isRecord 2 (some .boolean) :: ([.fieldLink RX6 19 "AgreedTalks" "records" "Ljava/util/ArrayList;"] : List Cond)) [493, 191] (by decide +kernel) (by decide +kernel)) wi_wsX6) (goodIn_app (goodIn_r _ [255, 256, 257, 51] (by decide +kernel) (by decide +kernel)) gi_AL_size))
set_option maxHeartbeats 4000000 in
set_option maxRecDepth 100000 in
/-- isRecord -/
theorem c_X6_isRecord (l : Launch) (dC : Nat → ClassId) (dI : Nat → Nat → Nat) (sz : Nat) (h0 : Nat) (a0 : Nat) (a1 : Nat) (a2 : Nat) (a3 : Nat) (a4 : Nat) (a5 : Nat) (a6 : Nat) (mk : Nat) (sh : Int32) (fp : Int32) (rf : Int32) (p0 : Int32) (mc : Int32) (ev : Value) (nr : Nat) (qn : nr < 2 ^ 31) : Met l yX6_isRecord wp_X6_isRecord ({ frames := 1, cells := 0, slots := 0, locals := 20 }) (va_Pc [.ref h0, .int p0] (fun U => U.heap.size = sz ∧ va_P (dC, dI) vwCl [(h0, .inr (7, [.ref a0, .ref a1, .ref a2, .ref a3, .ref a4, .ref a5, .ref a6, .int (nI mk), .int sh, .int fp, .int rf])), (a2, .inr (0, [.int mc, ev, .int (nI nr)]))] U.heap ∧ va_K (dC, dI) vwCl [] U ∧ va_D (fun _ => True) [(h0, .inr (7, [.ref a0, .ref a1, .ref a2, .ref a3, .ref a4, .ref a5, .ref a6, .int (nI mk), .int sh, .int fp, .int rf])), (a2, .inr (0, [.int mc, ev, .int (nI nr)]))])) (va_Qi (fun (r : Int32) (_ : Unit) => r = 0 ∨ (r = 1 ∧ ∃ n, n < nr ∧ p0 = nI n)) (fun (_ : Unit) (t : State) => va_P (dC, dI) vwCl [(h0, .inr (7, [.ref a0, .ref a1, .ref a2, .ref a3, .ref a4, .ref a5, .ref a6, .int (nI mk), .int sh, .int fp, .int rf])), (a2, .inr (0, [.int mc, ev, .int (nI nr)]))] t.heap ∧ va_K (dC, dI) vwCl [] t ∧ va_D (va_A [(h0, .inr (7, [.ref a0, .ref a1, .ref a2, .ref a3, .ref a4, .ref a5, .ref a6, .int (nI mk), .int sh, .int fp, .int rf])), (a2, .inr (0, [.int mc, ev, .int (nI nr)]))] sz) [(h0, .inr (7, [.ref a0, .ref a1, .ref a2, .ref a3, .ref a4, .ref a5, .ref a6, .int (nI mk), .int sh, .int fp, .int rf])), (a2, .inr (0, [.int mc, ev, .int (nI nr)]))]) (va_A [(h0, .inr (7, [.ref a0, .ref a1, .ref a2, .ref a3, .ref a4, .ref a5, .ref a6, .int (nI mk), .int sh, .int fp, .int rf])), (a2, .inr (0, [.int mc, ev, .int (nI nr)]))] sz)) 0 0 (va_A [(h0, .inr (7, [.ref a0, .ref a1, .ref a2, .ref a3, .ref a4, .ref a5, .ref a6, .int (nI mk), .int sh, .int fp, .int rf])), (a2, .inr (0, [.int mc, ev, .int (nI nr)]))] sz) := by
  refine Met.ofW (cc := cX6_isRecord) (maxL := 2) (ret := (some .boolean)) (by decide) rfl ?_
  intro p e s m args below meth c s₁ B hml hv
  obtain ⟨rfl, hsz, hP, hK, hD0⟩ := hv
  have hx := B.exec
  have hb := B.bytes
  have hr := B.returns
  have hts := atoms_spec (ws := wp_X6_isRecord) B.pre
  have hown : s.vm.findClass RX6 = some m.cls := findClass_of_methodNamed B.named
  have hlocks := B.notSynchronized
  subst hsz
  have hD := hD0.self (sz := s.heap.size)
  generalize hAe : va_A [(h0, .inr (7, [.ref a0, .ref a1, .ref a2, .ref a3, .ref a4, .ref a5, .ref a6, .int (nI mk), .int sh, .int fp, .int rf])), (a2, .inr (0, [.int mc, ev, .int (nI nr)]))] s.heap.size = A at hD ⊢
  have hA : ∀ q : Nat, s.heap.size ≤ q → A q := fun q h => by rw [← hAe]; exact Or.inr h
  have hS : va_S A s.heap s.heap [] := va_S.rf
  have hP : va_P (dC, dI) vwCl [(h0, .inr (7, [.ref a0, .ref a1, .ref a2, .ref a3, .ref a4, .ref a5, .ref a6, .int (nI mk), .int sh, .int fp, .int rf])), (a2, .inr (0, [.int mc, ev, .int (nI nr)]))] s.heap := hP
  have hl := lv_entry ([.ref h0, .int p0]) (n := 2) (Nat.le_of_ble_eq_true rfl)
  rw [lg_entry_eq]
  generalize (lg_sl ([.ref h0, .int p0]) ++ List.replicate (2 - (lg_sl ([.ref h0, .int p0])).length) Slot.unset).toArray = ls at hl ⊢
  have hl : lv_has ls 2 [(0, .ref h0), (1, .int p0)] := hl
  have hinX6 : ∀ w ∈ u_ws RX6 TX6 11, w ∈ wp_X6_isRecord := fun _ h => List.mem_cons_of_mem _ (List.mem_append_left _ (List.mem_append_right _ h))
  refine lv_iload_n hx hb dX6_isRecord_0 rfl (lv_at hl 1 rfl) ?_
  refine lv_if_lt (tgt := 19) hx hb dX6_isRecord_1 (by decide) (fun c_1 => ?_) (fun c_1 => ?_)
  · refine lv_iconst (v := 0) hx hb dX6_isRecord_19 (by decide) ?_
    have hP9 := hP.sub (ws' := [(h0, .inr (7, [.ref a0, .ref a1, .ref a2, .ref a3, .ref a4, .ref a5, .ref a6, .int (nI mk), .int sh, .int fp, .int rf])), (a2, .inr (0, [.int mc, ev, .int (nI nr)]))]) [0, 1] rfl
    have hD9 := hD.sub (ws' := [(h0, .inr (7, [.ref a0, .ref a1, .ref a2, .ref a3, .ref a4, .ref a5, .ref a6, .int (nI mk), .int sh, .int fp, .int rf])), (a2, .inr (0, [.int mc, ev, .int (nI nr)]))]) [0, 1] (by decide) rfl
    have hK9 := hK.sub (tys' := []) [] rfl
    exact W.zret (v := 0) (ty := .boolean) hx hb hr rfl (fun t ht hW => ⟨⟨0, (), rfl, Or.inl rfl, by rw [ht]; exact hP9, va_K.moved hW.alike hK9, hD9⟩, hS.F ht⟩) hS.2.2 dX6_isRecord_20
  · obtain ⟨n_2, hn_2, en_2⟩ := nI_of c_1
    subst en_2
    refine lv_iload_n hx hb dX6_isRecord_4 rfl (lv_at hl 1 rfl) ?_
    refine lv_aload_n hx hb dX6_isRecord_5 rfl (lv_at hl 0 rfl) ?_
    refine va_get (D := (dC, dI)) (ci := 7) (v := .ref a2) (C := RX6) (T := TX6) (N := 11) hx hb hts hinX6 hown hK hP 0 rfl rfl 2 (by decide) (hts (.fieldLink RX6 19 "AgreedTalks" "records" "Ljava/util/ArrayList;") (by decide +kernel)) (fun _ h9 => h9) rfl dX6_isRecord_6 ?_
    have hPc := hP.sub (ws' := [(a2, .inr (0, [.int mc, ev, .int (nI nr)]))]) [1] rfl
    have hDc := hD.sub (ws' := [(a2, .inr (0, [.int mc, ev, .int (nI nr)]))]) [1] (by decide) rfl
    have hKc := hK.sub (tys' := []) [] rfl
    have hFc := va_free (wc := [(a2, .inr (0, [.int mc, ev, .int (nI nr)]))]) hD hS hA [1] rfl
    refine va_calli (va_runV (As := []) (rest := [.int (nI n_2)]) ⟨hx, hb, hml, hown, hts⟩ (c_AL_size l dC dI _ a2 mc ev nr) (cwV 0 hts gc_X6_isRecord_AL_size rfl rfl rfl (by decide +kernel) ⟨Nat.le_of_ble_eq_true rfl, Nat.le_of_ble_eq_true rfl⟩) ⟨fun a U g mk q => by obtain ⟨q0, q1, qP, qK, qD⟩ := q; exact ⟨q0, q1, qP, va_K.moved (u := U) (U := U.calling g mk a) (Vm.Alike.refl U.vm) qK, qD⟩, va_recv hKc hPc (ci := 0) (q0 := 0) rfl rfl, fun U hU hW => ⟨rfl, by rw [hU], by rw [hU]; exact hPc, va_K.moved hW.alike hKc, hDc.weaken (fun _ _ _ _ => trivial)⟩⟩ rfl rfl hl.1 rfl (lv_room (Nat.le_of_ble_eq_true rfl)) dX6_isRecord_9 ⟨Nat.zero_le _, Nat.zero_le _⟩) hS (fun q _ h => hFc q h) hFc (fun r_3 u t H1 locs ht hvm hw hB hz1 hk1 hS => ?_)
    obtain ⟨hP1, hK1, hD1⟩ := hB
    rw [ht] at hP1
    obtain ⟨hP, hD⟩ := va_join (wr := [(h0, .inr (7, [.ref a0, .ref a1, .ref a2, .ref a3, .ref a4, .ref a5, .ref a6, .int (nI mk), .int sh, .int fp, .int rf]))]) (w1 := [(a2, .inr (0, [.int mc, ev, .int (nI nr)]))]) hP hD [1] [0] rfl rfl (by decide) (by decide) hk1 hFc hP1 hD1
    generalize H1 = H at hP hS ⊢
    have hP : va_P (dC, dI) vwCl [(h0, .inr (7, [.ref a0, .ref a1, .ref a2, .ref a3, .ref a4, .ref a5, .ref a6, .int (nI mk), .int sh, .int fp, .int rf])), (a2, .inr (0, [.int mc, ev, .int (nI nr)]))] H := hP
    have hD : va_D A [(h0, .inr (7, [.ref a0, .ref a1, .ref a2, .ref a3, .ref a4, .ref a5, .ref a6, .int (nI mk), .int sh, .int fp, .int rf])), (a2, .inr (0, [.int mc, ev, .int (nI nr)]))] := hD
    obtain rfl : r_3 = (nI nr) := hw
    refine lv_icmp_ge (tgt := 19) hx hb dX6_isRecord_12 (by decide) (fun c_4 => ?_) (fun c_4 => ?_)
    · have c_4 : nr ≤ n_2 := (nI_leI (a := nr) (b := n_2) (by omega) (by omega)).mp c_4
      refine lv_iconst (v := 0) hx hb dX6_isRecord_19 (by decide) ?_
      have hP9 := hP.sub (ws' := [(h0, .inr (7, [.ref a0, .ref a1, .ref a2, .ref a3, .ref a4, .ref a5, .ref a6, .int (nI mk), .int sh, .int fp, .int rf])), (a2, .inr (0, [.int mc, ev, .int (nI nr)]))]) [0, 1] rfl
      have hD9 := hD.sub (ws' := [(h0, .inr (7, [.ref a0, .ref a1, .ref a2, .ref a3, .ref a4, .ref a5, .ref a6, .int (nI mk), .int sh, .int fp, .int rf])), (a2, .inr (0, [.int mc, ev, .int (nI nr)]))]) [0, 1] (by decide) rfl
      have hK9 := hK.sub (tys' := []) [] rfl
      exact W.zret (v := 0) (ty := .boolean) hx hb hr rfl (fun t ht hW => ⟨⟨0, (), rfl, Or.inl rfl, by rw [ht]; exact hP9, va_K.moved hW.alike hK9, hD9⟩, hS.F ht⟩) hS.2.2 dX6_isRecord_20
    · have c_4 : ¬ (nr ≤ n_2) := fun h => c_4 ((nI_leI (a := nr) (b := n_2) (by omega) (by omega)).mpr h)
      refine lv_iconst (v := 1) hx hb dX6_isRecord_15 (by decide) ?_
      refine lv_goto (tgt := 20) hx hb dX6_isRecord_16 (by decide) ?_
      have hP9 := hP.sub (ws' := [(h0, .inr (7, [.ref a0, .ref a1, .ref a2, .ref a3, .ref a4, .ref a5, .ref a6, .int (nI mk), .int sh, .int fp, .int rf])), (a2, .inr (0, [.int mc, ev, .int (nI nr)]))]) [0, 1] rfl
      have hD9 := hD.sub (ws' := [(h0, .inr (7, [.ref a0, .ref a1, .ref a2, .ref a3, .ref a4, .ref a5, .ref a6, .int (nI mk), .int sh, .int fp, .int rf])), (a2, .inr (0, [.int mc, ev, .int (nI nr)]))]) [0, 1] (by decide) rfl
      have hK9 := hK.sub (tys' := []) [] rfl
      exact W.zret (v := 1) (ty := .boolean) hx hb hr rfl (fun t ht hW => ⟨⟨1, (), rfl, Or.inr ⟨rfl, n_2, by omega, rfl⟩, by rw [ht]; exact hP9, va_K.moved hW.alike hK9, hD9⟩, hS.F ht⟩) hS.2.2 dX6_isRecord_20
def wp_append : List Cond := .code yX5_append cX5_append 3 none :: (([.fieldLink RX5 15 "AgreedTalks$Tape" "length" "I", .fieldLink RX5 9 "AgreedTalks$Tape" "bytes" "[I"] : List Cond) ++ wsX50)
set_option maxRecDepth 20000 in
theorem gi_append : GoodIn lw_tbl wp_append := (goodIn_ca (goodIn_r (.code yX5_append cX5_append 3 none :: ([.fieldLink RX5 15 "AgreedTalks$Tape" "length" "I", .fieldLink RX5 9 "AgreedTalks$Tape" "bytes" "[I"] : List Cond)) [242, 111, 109] (by decide +kernel) (by decide +kernel)) wi_wsX5)
set_option maxHeartbeats 4000000 in
set_option maxRecDepth 100000 in
/-- append -/
theorem c_append (l : Launch) (dC : Nat → ClassId) (dI : Nat → Nat → Nat) (sz : Nat) (h0 : Nat) (ab : Nat) (tp : Nat) (cB : ClassId) (fb : Nat → Int32) (p0 : Int32) (qk : tp ≤ 296) : Met l yX5_append wp_append ({ frames := 0, cells := 0, slots := 0, locals := 0 }) (va_Pc [.ref h0, .int p0] (fun U => U.heap.size = sz ∧ va_P (dC, dI) vwCl [(h0, .inr (6, [.ref ab, .int (nI tp)])), (ab, .inl (cB, 300, .inl fb))] U.heap ∧ va_K (dC, dI) vwCl [(cB, .int)] U ∧ va_D (fun _ => True) [(h0, .inr (6, [.ref ab, .int (nI tp)])), (ab, .inl (cB, 300, .inl fb))])) (va_Qv (fun (_ : Unit) => True) (fun (_ : Unit) (t : State) => ∃ (gb : Nat → Int32), va_P (dC, dI) vwCl [(h0, .inr (6, [.ref ab, .int (nI (tp + 4))])), (ab, .inl (cB, 300, .inl gb))] t.heap ∧ va_K (dC, dI) vwCl [(cB, .int)] t ∧ va_D (va_A [(h0, .inr (6, [.ref ab, .int (nI tp)])), (ab, .inl (cB, 300, .inl fb))] sz) [(h0, .inr (6, [.ref ab, .int (nI (tp + 4))])), (ab, .inl (cB, 300, .inl gb))]) (va_A [(h0, .inr (6, [.ref ab, .int (nI tp)])), (ab, .inl (cB, 300, .inl fb))] sz)) 0 0 (va_A [(h0, .inr (6, [.ref ab, .int (nI tp)])), (ab, .inl (cB, 300, .inl fb))] sz) := by
  refine Met.ofW (cc := cX5_append) (maxL := 3) (ret := none) (by decide) rfl ?_
  intro p e s m args below meth c s₁ B hml hv
  obtain ⟨rfl, hsz, hP, hK, hD0⟩ := hv
  have hx := B.exec
  have hb := B.bytes
  have hr := B.returns
  have hts := atoms_spec (ws := wp_append) B.pre
  have hown : s.vm.findClass RX5 = some m.cls := findClass_of_methodNamed B.named
  have hlocks := B.notSynchronized
  subst hsz
  have hD := hD0.self (sz := s.heap.size)
  generalize hAe : va_A [(h0, .inr (6, [.ref ab, .int (nI tp)])), (ab, .inl (cB, 300, .inl fb))] s.heap.size = A at hD ⊢
  have hA : ∀ q : Nat, s.heap.size ≤ q → A q := fun q h => by rw [← hAe]; exact Or.inr h
  have hS : va_S A s.heap s.heap [] := va_S.rf
  have hP : va_P (dC, dI) vwCl [(h0, .inr (6, [.ref ab, .int (nI tp)])), (ab, .inl (cB, 300, .inl fb))] s.heap := hP
  have hl := lv_entry ([.ref h0, .int p0]) (n := 3) (Nat.le_of_ble_eq_true rfl)
  rw [lg_entry_eq]
  generalize (lg_sl ([.ref h0, .int p0]) ++ List.replicate (3 - (lg_sl ([.ref h0, .int p0])).length) Slot.unset).toArray = ls at hl ⊢
  have hl : lv_has ls 3 [(0, .ref h0), (1, .int p0)] := hl
  have hinX5 : ∀ w ∈ u_ws RX5 TX5 2, w ∈ wp_append := fun _ h => List.mem_cons_of_mem _ (List.mem_append_right _ h)
  refine lv_bipush (v := 24) hx hb dX5_append_0 (by decide) ?_
  refine lv_istore_n (lv' := [(2, .int 24), (0, .ref h0), (1, .int p0)]) hx hb dX5_append_2 rfl hl (by decide) rfl (fun ls hl => ?_)
  refine lv_iload_n hx hb dX5_append_3 rfl (lv_at hl 0 rfl) ?_
  refine lv_if_lt (tgt := 49) hx hb dX5_append_4 (by decide) (fun c_1 => ?_) (fun c_1 => ?_)
  · exact absurd c_1 (by decide)
  · refine lv_aload_n hx hb dX5_append_7 rfl (lv_at hl 1 rfl) ?_
    refine va_get (D := (dC, dI)) (ci := 6) (v := .int (nI tp)) (C := RX5) (T := TX5) (N := 2) hx hb hts hinX5 hown hK hP 0 rfl rfl 1 (by decide) (hts (.fieldLink RX5 15 "AgreedTalks$Tape" "length" "I") (by decide +kernel)) (fun _ h9 => h9) rfl dX5_append_8 ?_
    refine lv_sipush (v := 300) hx hb dX5_append_11 (by decide) ?_
    refine lv_icmp_ge (tgt := 49) hx hb dX5_append_14 (by decide) (fun c_2 => ?_) (fun c_2 => ?_)
    · exact absurd c_2 (show ¬ (300 : Int32) ≤ _ from nI_ge (b := 300) (by omega) (by decide))
    · have c_2 : ¬ (300 ≤ tp) := fun h => c_2 ((nI_leI (a := 300) (b := tp) (by omega) (by omega)).mpr h)
      refine lv_aload_n hx hb dX5_append_17 rfl (lv_at hl 1 rfl) ?_
      refine va_get (D := (dC, dI)) (ci := 6) (v := .ref ab) (C := RX5) (T := TX5) (N := 2) hx hb hts hinX5 hown hK hP 0 rfl rfl 0 (by decide) (hts (.fieldLink RX5 9 "AgreedTalks$Tape" "bytes" "[I") (by decide +kernel)) (fun _ h9 => h9) rfl dX5_append_18 ?_
      refine lv_aload_n hx hb dX5_append_21 rfl (lv_at hl 1 rfl) ?_
      refine va_get (D := (dC, dI)) (ci := 6) (v := .int (nI tp)) (C := RX5) (T := TX5) (N := 2) hx hb hts hinX5 hown hK hP 0 rfl rfl 1 (by decide) (hts (.fieldLink RX5 15 "AgreedTalks$Tape" "length" "I") (by decide +kernel)) (fun _ h9 => h9) rfl dX5_append_22 ?_
      refine lv_iload_n hx hb dX5_append_25 rfl (lv_at hl 2 rfl) ?_
      refine lv_iload_n hx hb dX5_append_26 rfl (lv_at hl 0 rfl) ?_
      refine lv_iushr hx hb dX5_append_27 rfl ?_
      refine lv_topi (fun x_3 ex_3 => ?_)
      refine lv_sipush (v := 255) hx hb dX5_append_28 (by decide) ?_
      refine lv_iand hx hb dX5_append_31 ?_
      refine lv_topi (fun x_4 ex_4 => ?_)
      refine va_iast hx hb hK hP hD hS 1 0 rfl rfl (vp_in_nI (by omega) (by omega)) dX5_append_32 (fun H locs hP hD hS => ?_)
      have hP : va_P (dC, dI) vwCl [(h0, .inr (6, [.ref ab, .int (nI tp)])), (ab, .inl (cB, 300, .inl (upd fb (Int32.toNatClampNeg (nI tp)) x_4)))] H := hP
      have hD : va_D A [(h0, .inr (6, [.ref ab, .int (nI tp)])), (ab, .inl (cB, 300, .inl (upd fb (Int32.toNatClampNeg (nI tp)) x_4)))] := hD
      generalize ef_5 : upd fb (Int32.toNatClampNeg (nI tp)) x_4 = f_5 at hP hD
      rw [show Int32.toNatClampNeg (nI tp) = tp from nI_clamp (by omega)] at ef_5
      refine lv_aload_n hx hb dX5_append_33 rfl (lv_at hl 1 rfl) ?_
      refine lv_dup hx hb dX5_append_34 rfl ?_
      refine va_get (D := (dC, dI)) (ci := 6) (v := .int (nI tp)) (C := RX5) (T := TX5) (N := 2) hx hb hts hinX5 hown hK hP 0 rfl rfl 1 (by decide) (hts (.fieldLink RX5 15 "AgreedTalks$Tape" "length" "I") (by decide +kernel)) (fun _ h9 => h9) rfl dX5_append_35 ?_
      refine lv_iconst (v := 1) hx hb dX5_append_38 (by decide) ?_
      refine lv_iadd hx hb dX5_append_39 ?_
      refine lv_topi (fun x_6 ex_6 => ?_)
      obtain rfl : x_6 = (nI (tp + 1)) := by rw [ex_6]; exact nI_add _ _
      refine va_put (D := (dC, dI)) (ci := 6) (v := .int (nI (tp + 1))) (ty := .int) (C := RX5) (T := TX5) (N := 2) hx hb hts hinX5 tyX5 tyX5_ok nmX5 hown hK hP hD hS 0 rfl rfl 1 (by decide) (hts (.fieldLink RX5 15 "AgreedTalks$Tape" "length" "I") (by decide +kernel)) (fun _ h9 => h9) rfl (by decide +kernel) rfl rfl (Nat.le_of_ble_eq_true rfl) dX5_append_40 (fun H locs hP hD hS => ?_)
      have hP : va_P (dC, dI) vwCl [(h0, .inr (6, [.ref ab, .int (nI (tp + 1))])), (ab, .inl (cB, 300, .inl f_5))] H := hP
      have hD : va_D A [(h0, .inr (6, [.ref ab, .int (nI (tp + 1))])), (ab, .inl (cB, 300, .inl f_5))] := hD
      refine lv_iinc (v := 16) (lv' := [(2, .int 16), (0, .ref h0), (1, .int p0)]) hx hb dX5_append_43 hl (k := 0) rfl (by decide) (by decide) rfl (fun ls hl => ?_)
      refine lv_goto (tgt := 3) hx hb dX5_append_46 (by decide) ?_
      refine lv_iload_n hx hb dX5_append_3 rfl (lv_at hl 0 rfl) ?_
      refine lv_if_lt (tgt := 49) hx hb dX5_append_4 (by decide) (fun c_7 => ?_) (fun c_7 => ?_)
      · exact absurd c_7 (by decide)
      · refine lv_aload_n hx hb dX5_append_7 rfl (lv_at hl 1 rfl) ?_
        refine va_get (D := (dC, dI)) (ci := 6) (v := .int (nI (tp + 1))) (C := RX5) (T := TX5) (N := 2) hx hb hts hinX5 hown hK hP 0 rfl rfl 1 (by decide) (hts (.fieldLink RX5 15 "AgreedTalks$Tape" "length" "I") (by decide +kernel)) (fun _ h9 => h9) rfl dX5_append_8 ?_
        refine lv_sipush (v := 300) hx hb dX5_append_11 (by decide) ?_
        refine lv_icmp_ge (tgt := 49) hx hb dX5_append_14 (by decide) (fun c_8 => ?_) (fun c_8 => ?_)
        · exact absurd c_8 (show ¬ (300 : Int32) ≤ _ from nI_ge (b := 300) (by omega) (by decide))
        · have c_8 : ¬ (300 ≤ tp + 1) := fun h => c_8 ((nI_leI (a := 300) (b := tp + 1) (by omega) (by omega)).mpr h)
          refine lv_aload_n hx hb dX5_append_17 rfl (lv_at hl 1 rfl) ?_
          refine va_get (D := (dC, dI)) (ci := 6) (v := .ref ab) (C := RX5) (T := TX5) (N := 2) hx hb hts hinX5 hown hK hP 0 rfl rfl 0 (by decide) (hts (.fieldLink RX5 9 "AgreedTalks$Tape" "bytes" "[I") (by decide +kernel)) (fun _ h9 => h9) rfl dX5_append_18 ?_
          refine lv_aload_n hx hb dX5_append_21 rfl (lv_at hl 1 rfl) ?_
          refine va_get (D := (dC, dI)) (ci := 6) (v := .int (nI (tp + 1))) (C := RX5) (T := TX5) (N := 2) hx hb hts hinX5 hown hK hP 0 rfl rfl 1 (by decide) (hts (.fieldLink RX5 15 "AgreedTalks$Tape" "length" "I") (by decide +kernel)) (fun _ h9 => h9) rfl dX5_append_22 ?_
          refine lv_iload_n hx hb dX5_append_25 rfl (lv_at hl 2 rfl) ?_
          refine lv_iload_n hx hb dX5_append_26 rfl (lv_at hl 0 rfl) ?_
          refine lv_iushr hx hb dX5_append_27 rfl ?_
          refine lv_topi (fun x_9 ex_9 => ?_)
          refine lv_sipush (v := 255) hx hb dX5_append_28 (by decide) ?_
          refine lv_iand hx hb dX5_append_31 ?_
          refine lv_topi (fun x_10 ex_10 => ?_)
          refine va_iast hx hb hK hP hD hS 1 0 rfl rfl (vp_in_nI (by omega) (by omega)) dX5_append_32 (fun H locs hP hD hS => ?_)
          have hP : va_P (dC, dI) vwCl [(h0, .inr (6, [.ref ab, .int (nI (tp + 1))])), (ab, .inl (cB, 300, .inl (upd f_5 (Int32.toNatClampNeg (nI (tp + 1))) x_10)))] H := hP
          have hD : va_D A [(h0, .inr (6, [.ref ab, .int (nI (tp + 1))])), (ab, .inl (cB, 300, .inl (upd f_5 (Int32.toNatClampNeg (nI (tp + 1))) x_10)))] := hD
          generalize ef_11 : upd f_5 (Int32.toNatClampNeg (nI (tp + 1))) x_10 = f_11 at hP hD
          rw [show Int32.toNatClampNeg (nI (tp + 1)) = tp + 1 from nI_clamp (by omega)] at ef_11
          refine lv_aload_n hx hb dX5_append_33 rfl (lv_at hl 1 rfl) ?_
          refine lv_dup hx hb dX5_append_34 rfl ?_
          refine va_get (D := (dC, dI)) (ci := 6) (v := .int (nI (tp + 1))) (C := RX5) (T := TX5) (N := 2) hx hb hts hinX5 hown hK hP 0 rfl rfl 1 (by decide) (hts (.fieldLink RX5 15 "AgreedTalks$Tape" "length" "I") (by decide +kernel)) (fun _ h9 => h9) rfl dX5_append_35 ?_
          refine lv_iconst (v := 1) hx hb dX5_append_38 (by decide) ?_
          refine lv_iadd hx hb dX5_append_39 ?_
          refine lv_topi (fun x_12 ex_12 => ?_)
          obtain rfl : x_12 = (nI (tp + 2)) := by rw [ex_12]; exact nI_add _ _
          refine va_put (D := (dC, dI)) (ci := 6) (v := .int (nI (tp + 2))) (ty := .int) (C := RX5) (T := TX5) (N := 2) hx hb hts hinX5 tyX5 tyX5_ok nmX5 hown hK hP hD hS 0 rfl rfl 1 (by decide) (hts (.fieldLink RX5 15 "AgreedTalks$Tape" "length" "I") (by decide +kernel)) (fun _ h9 => h9) rfl (by decide +kernel) rfl rfl (Nat.le_of_ble_eq_true rfl) dX5_append_40 (fun H locs hP hD hS => ?_)
          have hP : va_P (dC, dI) vwCl [(h0, .inr (6, [.ref ab, .int (nI (tp + 2))])), (ab, .inl (cB, 300, .inl f_11))] H := hP
          have hD : va_D A [(h0, .inr (6, [.ref ab, .int (nI (tp + 2))])), (ab, .inl (cB, 300, .inl f_11))] := hD
          refine lv_iinc (v := 8) (lv' := [(2, .int 8), (0, .ref h0), (1, .int p0)]) hx hb dX5_append_43 hl (k := 0) rfl (by decide) (by decide) rfl (fun ls hl => ?_)
          refine lv_goto (tgt := 3) hx hb dX5_append_46 (by decide) ?_
          refine lv_iload_n hx hb dX5_append_3 rfl (lv_at hl 0 rfl) ?_
          refine lv_if_lt (tgt := 49) hx hb dX5_append_4 (by decide) (fun c_13 => ?_) (fun c_13 => ?_)
          · exact absurd c_13 (by decide)
          · refine lv_aload_n hx hb dX5_append_7 rfl (lv_at hl 1 rfl) ?_
            refine va_get (D := (dC, dI)) (ci := 6) (v := .int (nI (tp + 2))) (C := RX5) (T := TX5) (N := 2) hx hb hts hinX5 hown hK hP 0 rfl rfl 1 (by decide) (hts (.fieldLink RX5 15 "AgreedTalks$Tape" "length" "I") (by decide +kernel)) (fun _ h9 => h9) rfl dX5_append_8 ?_
            refine lv_sipush (v := 300) hx hb dX5_append_11 (by decide) ?_
            refine lv_icmp_ge (tgt := 49) hx hb dX5_append_14 (by decide) (fun c_14 => ?_) (fun c_14 => ?_)
            · exact absurd c_14 (show ¬ (300 : Int32) ≤ _ from nI_ge (b := 300) (by omega) (by decide))
            · have c_14 : ¬ (300 ≤ tp + 2) := fun h => c_14 ((nI_leI (a := 300) (b := tp + 2) (by omega) (by omega)).mpr h)
              refine lv_aload_n hx hb dX5_append_17 rfl (lv_at hl 1 rfl) ?_
              refine va_get (D := (dC, dI)) (ci := 6) (v := .ref ab) (C := RX5) (T := TX5) (N := 2) hx hb hts hinX5 hown hK hP 0 rfl rfl 0 (by decide) (hts (.fieldLink RX5 9 "AgreedTalks$Tape" "bytes" "[I") (by decide +kernel)) (fun _ h9 => h9) rfl dX5_append_18 ?_
              refine lv_aload_n hx hb dX5_append_21 rfl (lv_at hl 1 rfl) ?_
              refine va_get (D := (dC, dI)) (ci := 6) (v := .int (nI (tp + 2))) (C := RX5) (T := TX5) (N := 2) hx hb hts hinX5 hown hK hP 0 rfl rfl 1 (by decide) (hts (.fieldLink RX5 15 "AgreedTalks$Tape" "length" "I") (by decide +kernel)) (fun _ h9 => h9) rfl dX5_append_22 ?_
              refine lv_iload_n hx hb dX5_append_25 rfl (lv_at hl 2 rfl) ?_
              refine lv_iload_n hx hb dX5_append_26 rfl (lv_at hl 0 rfl) ?_
              refine lv_iushr hx hb dX5_append_27 rfl ?_
              refine lv_topi (fun x_15 ex_15 => ?_)
              refine lv_sipush (v := 255) hx hb dX5_append_28 (by decide) ?_
              refine lv_iand hx hb dX5_append_31 ?_
              refine lv_topi (fun x_16 ex_16 => ?_)
              refine va_iast hx hb hK hP hD hS 1 0 rfl rfl (vp_in_nI (by omega) (by omega)) dX5_append_32 (fun H locs hP hD hS => ?_)
              have hP : va_P (dC, dI) vwCl [(h0, .inr (6, [.ref ab, .int (nI (tp + 2))])), (ab, .inl (cB, 300, .inl (upd f_11 (Int32.toNatClampNeg (nI (tp + 2))) x_16)))] H := hP
              have hD : va_D A [(h0, .inr (6, [.ref ab, .int (nI (tp + 2))])), (ab, .inl (cB, 300, .inl (upd f_11 (Int32.toNatClampNeg (nI (tp + 2))) x_16)))] := hD
              generalize ef_17 : upd f_11 (Int32.toNatClampNeg (nI (tp + 2))) x_16 = f_17 at hP hD
              rw [show Int32.toNatClampNeg (nI (tp + 2)) = tp + 2 from nI_clamp (by omega)] at ef_17
              refine lv_aload_n hx hb dX5_append_33 rfl (lv_at hl 1 rfl) ?_
              refine lv_dup hx hb dX5_append_34 rfl ?_
              refine va_get (D := (dC, dI)) (ci := 6) (v := .int (nI (tp + 2))) (C := RX5) (T := TX5) (N := 2) hx hb hts hinX5 hown hK hP 0 rfl rfl 1 (by decide) (hts (.fieldLink RX5 15 "AgreedTalks$Tape" "length" "I") (by decide +kernel)) (fun _ h9 => h9) rfl dX5_append_35 ?_
              refine lv_iconst (v := 1) hx hb dX5_append_38 (by decide) ?_
              refine lv_iadd hx hb dX5_append_39 ?_
              refine lv_topi (fun x_18 ex_18 => ?_)
              obtain rfl : x_18 = (nI (tp + 3)) := by rw [ex_18]; exact nI_add _ _
              refine va_put (D := (dC, dI)) (ci := 6) (v := .int (nI (tp + 3))) (ty := .int) (C := RX5) (T := TX5) (N := 2) hx hb hts hinX5 tyX5 tyX5_ok nmX5 hown hK hP hD hS 0 rfl rfl 1 (by decide) (hts (.fieldLink RX5 15 "AgreedTalks$Tape" "length" "I") (by decide +kernel)) (fun _ h9 => h9) rfl (by decide +kernel) rfl rfl (Nat.le_of_ble_eq_true rfl) dX5_append_40 (fun H locs hP hD hS => ?_)
              have hP : va_P (dC, dI) vwCl [(h0, .inr (6, [.ref ab, .int (nI (tp + 3))])), (ab, .inl (cB, 300, .inl f_17))] H := hP
              have hD : va_D A [(h0, .inr (6, [.ref ab, .int (nI (tp + 3))])), (ab, .inl (cB, 300, .inl f_17))] := hD
              refine lv_iinc (v := 0) (lv' := [(2, .int 0), (0, .ref h0), (1, .int p0)]) hx hb dX5_append_43 hl (k := 0) rfl (by decide) (by decide) rfl (fun ls hl => ?_)
              refine lv_goto (tgt := 3) hx hb dX5_append_46 (by decide) ?_
              refine lv_iload_n hx hb dX5_append_3 rfl (lv_at hl 0 rfl) ?_
              refine lv_if_lt (tgt := 49) hx hb dX5_append_4 (by decide) (fun c_19 => ?_) (fun c_19 => ?_)
              · exact absurd c_19 (by decide)
              · refine lv_aload_n hx hb dX5_append_7 rfl (lv_at hl 1 rfl) ?_
                refine va_get (D := (dC, dI)) (ci := 6) (v := .int (nI (tp + 3))) (C := RX5) (T := TX5) (N := 2) hx hb hts hinX5 hown hK hP 0 rfl rfl 1 (by decide) (hts (.fieldLink RX5 15 "AgreedTalks$Tape" "length" "I") (by decide +kernel)) (fun _ h9 => h9) rfl dX5_append_8 ?_
                refine lv_sipush (v := 300) hx hb dX5_append_11 (by decide) ?_
                refine lv_icmp_ge (tgt := 49) hx hb dX5_append_14 (by decide) (fun c_20 => ?_) (fun c_20 => ?_)
                · exact absurd c_20 (show ¬ (300 : Int32) ≤ _ from nI_ge (b := 300) (by omega) (by decide))
                · have c_20 : ¬ (300 ≤ tp + 3) := fun h => c_20 ((nI_leI (a := 300) (b := tp + 3) (by omega) (by omega)).mpr h)
                  refine lv_aload_n hx hb dX5_append_17 rfl (lv_at hl 1 rfl) ?_
                  refine va_get (D := (dC, dI)) (ci := 6) (v := .ref ab) (C := RX5) (T := TX5) (N := 2) hx hb hts hinX5 hown hK hP 0 rfl rfl 0 (by decide) (hts (.fieldLink RX5 9 "AgreedTalks$Tape" "bytes" "[I") (by decide +kernel)) (fun _ h9 => h9) rfl dX5_append_18 ?_
                  refine lv_aload_n hx hb dX5_append_21 rfl (lv_at hl 1 rfl) ?_
                  refine va_get (D := (dC, dI)) (ci := 6) (v := .int (nI (tp + 3))) (C := RX5) (T := TX5) (N := 2) hx hb hts hinX5 hown hK hP 0 rfl rfl 1 (by decide) (hts (.fieldLink RX5 15 "AgreedTalks$Tape" "length" "I") (by decide +kernel)) (fun _ h9 => h9) rfl dX5_append_22 ?_
                  refine lv_iload_n hx hb dX5_append_25 rfl (lv_at hl 2 rfl) ?_
                  refine lv_iload_n hx hb dX5_append_26 rfl (lv_at hl 0 rfl) ?_
                  refine lv_iushr hx hb dX5_append_27 rfl ?_
                  refine lv_topi (fun x_21 ex_21 => ?_)
                  refine lv_sipush (v := 255) hx hb dX5_append_28 (by decide) ?_
                  refine lv_iand hx hb dX5_append_31 ?_
                  refine lv_topi (fun x_22 ex_22 => ?_)
                  refine va_iast hx hb hK hP hD hS 1 0 rfl rfl (vp_in_nI (by omega) (by omega)) dX5_append_32 (fun H locs hP hD hS => ?_)
                  have hP : va_P (dC, dI) vwCl [(h0, .inr (6, [.ref ab, .int (nI (tp + 3))])), (ab, .inl (cB, 300, .inl (upd f_17 (Int32.toNatClampNeg (nI (tp + 3))) x_22)))] H := hP
                  have hD : va_D A [(h0, .inr (6, [.ref ab, .int (nI (tp + 3))])), (ab, .inl (cB, 300, .inl (upd f_17 (Int32.toNatClampNeg (nI (tp + 3))) x_22)))] := hD
                  generalize ef_23 : upd f_17 (Int32.toNatClampNeg (nI (tp + 3))) x_22 = f_23 at hP hD
                  rw [show Int32.toNatClampNeg (nI (tp + 3)) = tp + 3 from nI_clamp (by omega)] at ef_23
                  refine lv_aload_n hx hb dX5_append_33 rfl (lv_at hl 1 rfl) ?_
                  refine lv_dup hx hb dX5_append_34 rfl ?_
                  refine va_get (D := (dC, dI)) (ci := 6) (v := .int (nI (tp + 3))) (C := RX5) (T := TX5) (N := 2) hx hb hts hinX5 hown hK hP 0 rfl rfl 1 (by decide) (hts (.fieldLink RX5 15 "AgreedTalks$Tape" "length" "I") (by decide +kernel)) (fun _ h9 => h9) rfl dX5_append_35 ?_
                  refine lv_iconst (v := 1) hx hb dX5_append_38 (by decide) ?_
                  refine lv_iadd hx hb dX5_append_39 ?_
                  refine lv_topi (fun x_24 ex_24 => ?_)
                  obtain rfl : x_24 = (nI (tp + 4)) := by rw [ex_24]; exact nI_add _ _
                  refine va_put (D := (dC, dI)) (ci := 6) (v := .int (nI (tp + 4))) (ty := .int) (C := RX5) (T := TX5) (N := 2) hx hb hts hinX5 tyX5 tyX5_ok nmX5 hown hK hP hD hS 0 rfl rfl 1 (by decide) (hts (.fieldLink RX5 15 "AgreedTalks$Tape" "length" "I") (by decide +kernel)) (fun _ h9 => h9) rfl (by decide +kernel) rfl rfl (Nat.le_of_ble_eq_true rfl) dX5_append_40 (fun H locs hP hD hS => ?_)
                  have hP : va_P (dC, dI) vwCl [(h0, .inr (6, [.ref ab, .int (nI (tp + 4))])), (ab, .inl (cB, 300, .inl f_23))] H := hP
                  have hD : va_D A [(h0, .inr (6, [.ref ab, .int (nI (tp + 4))])), (ab, .inl (cB, 300, .inl f_23))] := hD
                  refine lv_iinc (v := (-8)) (lv' := [(2, .int (-8)), (0, .ref h0), (1, .int p0)]) hx hb dX5_append_43 hl (k := 0) rfl (by decide) (by decide) rfl (fun ls hl => ?_)
                  refine lv_goto (tgt := 3) hx hb dX5_append_46 (by decide) ?_
                  refine lv_iload_n hx hb dX5_append_3 rfl (lv_at hl 0 rfl) ?_
                  refine lv_if_lt (tgt := 49) hx hb dX5_append_4 (by decide) (fun c_25 => ?_) (fun c_25 => ?_)
                  · have hP9 := hP.sub (ws' := [(h0, .inr (6, [.ref ab, .int (nI (tp + 4))])), (ab, .inl (cB, 300, .inl f_23))]) [0, 1] rfl
                    have hD9 := hD.sub (ws' := [(h0, .inr (6, [.ref ab, .int (nI (tp + 4))])), (ab, .inl (cB, 300, .inl f_23))]) [0, 1] (by decide) rfl
                    have hK9 := hK.sub (tys' := [(cB, .int)]) [0] rfl
                    exact W.vret hx hb hr (fun t ht hW => ⟨⟨(), rfl, trivial, f_23, by rw [ht]; exact hP9, va_K.moved hW.alike hK9, hD9⟩, hS.F ht⟩) hS.2.2 dX5_append_49
                  · exact absurd c_25 (by decide)
def wp_X6_feed : List Cond := .code yX6_feed cX6_feed 6 (some .int) :: (([.fieldLink RX6 26 "AgreedTalks" "tape" "LAgreedTalks$Tape;", .fieldLink RX6 80 "AgreedTalks$Tape" "length" "I"] : List Cond) ++ wsX60 ++ wsX50 ++ (wsV RX6 83 RX5 yX5_append wp_append))
theorem gc_X6_feed_append : GoodIn wp_X6_feed (wsV RX6 83 RX5 yX5_append wp_append) := goodIn_sub (fun _ h => List.mem_cons_of_mem _ (List.mem_append_right _ h)) (by decide +kernel)
set_option maxRecDepth 20000 in
theorem gi_X6_feed : GoodIn lw_tbl wp_X6_feed := (goodIn_ca (goodIn_ca (goodIn_ca (goodIn_r (.code yX6_feed cX6_feed 6 (some .int) :: ([.fieldLink RX6 26 "AgreedTalks" "tape" "LAgreedTalks$Tape;", .fieldLink RX6 80 "AgreedTalks$Tape" "length" "I"] : List Cond)) [238, 192, 113] (by decide +kernel) (by decide +kernel)) wi_wsX6) wi_wsX5) (goodIn_app (goodIn_r _ [239, 240, 241, 52] (by decide +kernel) (by decide +kernel)) gi_append))
set_option maxHeartbeats 4000000 in
set_option maxRecDepth 100000 in
/-- feed -/
theorem c_X6_feed (l : Launch) (dC : Nat → ClassId) (dI : Nat → Nat → Nat) (sz : Nat) (h0 : Nat) (a0 : Nat) (a1 : Nat) (a2 : Nat) (a3 : Nat) (a4 : Nat) (a5 : Nat) (a6 : Nat) (mk : Nat) (sh : Int32) (fp : Int32) (rf : Int32) (ab : Nat) (tp : Nat) (cB : ClassId) (fb : Nat → Int32) (p0 : Int32) (p1 : Int32) (p2 : Int32) (p3 : Int32) (p4 : Int32) (qtp : tp ≤ 300) : Met l yX6_feed wp_X6_feed ({ frames := 1, cells := 0, slots := 0, locals := 30 }) (va_Pc [.ref h0, .int p0, .int p1, .int p2, .int p3, .int p4] (fun U => U.heap.size = sz ∧ va_P (dC, dI) vwCl [(h0, .inr (7, [.ref a0, .ref a1, .ref a2, .ref a3, .ref a4, .ref a5, .ref a6, .int (nI mk), .int sh, .int fp, .int rf])), (a3, .inr (6, [.ref ab, .int (nI tp)])), (ab, .inl (cB, 300, .inl fb))] U.heap ∧ va_K (dC, dI) vwCl [(cB, .int)] U ∧ va_D (fun _ => True) [(h0, .inr (7, [.ref a0, .ref a1, .ref a2, .ref a3, .ref a4, .ref a5, .ref a6, .int (nI mk), .int sh, .int fp, .int rf])), (a3, .inr (6, [.ref ab, .int (nI tp)])), (ab, .inl (cB, 300, .inl fb))])) (va_Qi (fun (r : Int32) (_ : Unit) => True) (fun (_ : Unit) (t : State) => ∃ (tq : Nat), ∃ (gb : Nat → Int32), (tq ≤ 300) ∧ va_P (dC, dI) vwCl [(h0, .inr (7, [.ref a0, .ref a1, .ref a2, .ref a3, .ref a4, .ref a5, .ref a6, .int (nI mk), .int sh, .int fp, .int rf])), (a3, .inr (6, [.ref ab, .int (nI tq)])), (ab, .inl (cB, 300, .inl gb))] t.heap ∧ va_K (dC, dI) vwCl [(cB, .int)] t ∧ va_D (va_A [(h0, .inr (7, [.ref a0, .ref a1, .ref a2, .ref a3, .ref a4, .ref a5, .ref a6, .int (nI mk), .int sh, .int fp, .int rf])), (a3, .inr (6, [.ref ab, .int (nI tp)])), (ab, .inl (cB, 300, .inl fb))] sz) [(h0, .inr (7, [.ref a0, .ref a1, .ref a2, .ref a3, .ref a4, .ref a5, .ref a6, .int (nI mk), .int sh, .int fp, .int rf])), (a3, .inr (6, [.ref ab, .int (nI tq)])), (ab, .inl (cB, 300, .inl gb))]) (va_A [(h0, .inr (7, [.ref a0, .ref a1, .ref a2, .ref a3, .ref a4, .ref a5, .ref a6, .int (nI mk), .int sh, .int fp, .int rf])), (a3, .inr (6, [.ref ab, .int (nI tp)])), (ab, .inl (cB, 300, .inl fb))] sz)) 0 0 (va_A [(h0, .inr (7, [.ref a0, .ref a1, .ref a2, .ref a3, .ref a4, .ref a5, .ref a6, .int (nI mk), .int sh, .int fp, .int rf])), (a3, .inr (6, [.ref ab, .int (nI tp)])), (ab, .inl (cB, 300, .inl fb))] sz) := by
  refine Met.ofW (cc := cX6_feed) (maxL := 6) (ret := (some .int)) (by decide) rfl ?_
  intro p e s m args below meth c s₁ B hml hv
  obtain ⟨rfl, hsz, hP, hK, hD0⟩ := hv
  have hx := B.exec
  have hb := B.bytes
  have hr := B.returns
  have hts := atoms_spec (ws := wp_X6_feed) B.pre
  have hown : s.vm.findClass RX6 = some m.cls := findClass_of_methodNamed B.named
  have hlocks := B.notSynchronized
  subst hsz
  have hD := hD0.self (sz := s.heap.size)
  generalize hAe : va_A [(h0, .inr (7, [.ref a0, .ref a1, .ref a2, .ref a3, .ref a4, .ref a5, .ref a6, .int (nI mk), .int sh, .int fp, .int rf])), (a3, .inr (6, [.ref ab, .int (nI tp)])), (ab, .inl (cB, 300, .inl fb))] s.heap.size = A at hD ⊢
  have hA : ∀ q : Nat, s.heap.size ≤ q → A q := fun q h => by rw [← hAe]; exact Or.inr h
  have hS : va_S A s.heap s.heap [] := va_S.rf
  have hP : va_P (dC, dI) vwCl [(h0, .inr (7, [.ref a0, .ref a1, .ref a2, .ref a3, .ref a4, .ref a5, .ref a6, .int (nI mk), .int sh, .int fp, .int rf])), (a3, .inr (6, [.ref ab, .int (nI tp)])), (ab, .inl (cB, 300, .inl fb))] s.heap := hP
  have hl := lv_entry ([.ref h0, .int p0, .int p1, .int p2, .int p3, .int p4]) (n := 6) (Nat.le_of_ble_eq_true rfl)
  rw [lg_entry_eq]
  generalize (lg_sl ([.ref h0, .int p0, .int p1, .int p2, .int p3, .int p4]) ++ List.replicate (6 - (lg_sl ([.ref h0, .int p0, .int p1, .int p2, .int p3, .int p4])).length) Slot.unset).toArray = ls at hl ⊢
  have hl : lv_has ls 6 [(0, .ref h0), (1, .int p0), (2, .int p1), (3, .int p2), (4, .int p3), (5, .int p4)] := hl
  have hinX6 : ∀ w ∈ u_ws RX6 TX6 11, w ∈ wp_X6_feed := fun _ h => List.mem_cons_of_mem _ (List.mem_append_left _ (List.mem_append_left _ (List.mem_append_right _ h)))
  have hinX5 : ∀ w ∈ u_ws RX5 TX5 2, w ∈ wp_X6_feed := fun _ h => List.mem_cons_of_mem _ (List.mem_append_left _ (List.mem_append_right _ h))
  refine lv_aload_n hx hb dX6_feed_0 rfl (lv_at hl 0 rfl) ?_
  refine va_get (D := (dC, dI)) (ci := 7) (v := .ref a3) (C := RX6) (T := TX6) (N := 11) hx hb hts hinX6 hown hK hP 0 rfl rfl 3 (by decide) (hts (.fieldLink RX6 26 "AgreedTalks" "tape" "LAgreedTalks$Tape;") (by decide +kernel)) (fun _ h9 => h9) rfl dX6_feed_1 ?_
  refine va_get (D := (dC, dI)) (ci := 6) (v := .int (nI tp)) (C := RX5) (T := TX5) (N := 2) hx hb hts hinX5 hown hK hP 1 rfl rfl 1 (by decide) (hts (.fieldLink RX6 80 "AgreedTalks$Tape" "length" "I") (by decide +kernel)) (fun _ h9 => h9) rfl dX6_feed_4 ?_
  refine lv_bipush (v := 20) hx hb dX6_feed_7 (by decide) ?_
  refine lv_iadd hx hb dX6_feed_9 ?_
  refine lv_topi (fun x_1 ex_1 => ?_)
  obtain rfl : x_1 = (nI (tp + 20)) := by rw [ex_1]; exact nI_add _ _
  refine lv_sipush (v := 300) hx hb dX6_feed_10 (by decide) ?_
  refine lv_icmp_le (tgt := 18) hx hb dX6_feed_13 (by decide) (fun c_2 => ?_) (fun c_2 => ?_)
  · have c_2 : tp + 20 ≤ 300 := (nI_leI (a := tp + 20) (b := 300) (by omega) (by omega)).mp c_2
    refine lv_aload_n hx hb dX6_feed_18 rfl (lv_at hl 0 rfl) ?_
    refine va_get (D := (dC, dI)) (ci := 7) (v := .ref a3) (C := RX6) (T := TX6) (N := 11) hx hb hts hinX6 hown hK hP 0 rfl rfl 3 (by decide) (hts (.fieldLink RX6 26 "AgreedTalks" "tape" "LAgreedTalks$Tape;") (by decide +kernel)) (fun _ h9 => h9) rfl dX6_feed_19 ?_
    refine lv_iload_n hx hb dX6_feed_22 rfl (lv_at hl 1 rfl) ?_
    have hPc := hP.sub (ws' := [(a3, .inr (6, [.ref ab, .int (nI tp)])), (ab, .inl (cB, 300, .inl fb))]) [1, 2] rfl
    have hDc := hD.sub (ws' := [(a3, .inr (6, [.ref ab, .int (nI tp)])), (ab, .inl (cB, 300, .inl fb))]) [1, 2] (by decide) rfl
    have hKc := hK.sub (tys' := [(cB, .int)]) [0] rfl
    have hFc := va_free (wc := [(a3, .inr (6, [.ref ab, .int (nI tp)])), (ab, .inl (cB, 300, .inl fb))]) hD hS hA [1, 2] rfl
    refine va_callv (va_runV (As := [.int p0]) (rest := []) ⟨hx, hb, hml, hown, hts⟩ (c_append l dC dI _ a3 ab tp cB fb p0 (by omega)) (cwV 1 hts gc_X6_feed_append rfl rfl rfl (by decide +kernel) ⟨Nat.le_of_ble_eq_true rfl, Nat.le_of_ble_eq_true rfl⟩) ⟨fun a U g mk q => by obtain ⟨q0, q1, qP, qK, qD⟩ := q; exact ⟨q0, q1, qP, va_K.moved (u := U) (U := U.calling g mk a) (Vm.Alike.refl U.vm) qK, qD⟩, va_recv hKc hPc (ci := 6) (q0 := 0) rfl rfl, fun U hU hW => ⟨rfl, by rw [hU], by rw [hU]; exact hPc, va_K.moved hW.alike hKc, hDc.weaken (fun _ _ _ _ => trivial)⟩⟩ rfl rfl hl.1 rfl (lv_room (Nat.le_of_ble_eq_true rfl)) dX6_feed_23 ⟨Nat.zero_le _, Nat.zero_le _⟩) hS (fun q _ h => hFc q h) hFc (fun u t H1 locs ht hvm hw hB hz1 hk1 hS => ?_)
    obtain ⟨gb_3, hP1, hK1, hD1⟩ := hB
    rw [ht] at hP1
    obtain ⟨hP, hD⟩ := va_join (wr := [(h0, .inr (7, [.ref a0, .ref a1, .ref a2, .ref a3, .ref a4, .ref a5, .ref a6, .int (nI mk), .int sh, .int fp, .int rf]))]) (w1 := [(a3, .inr (6, [.ref ab, .int (nI (tp + 4))])), (ab, .inl (cB, 300, .inl gb_3))]) hP hD [1, 2] [0] rfl rfl (by decide) (by decide) hk1 hFc hP1 hD1
    generalize H1 = H at hP hS ⊢
    have hP : va_P (dC, dI) vwCl [(h0, .inr (7, [.ref a0, .ref a1, .ref a2, .ref a3, .ref a4, .ref a5, .ref a6, .int (nI mk), .int sh, .int fp, .int rf])), (a3, .inr (6, [.ref ab, .int (nI (tp + 4))])), (ab, .inl (cB, 300, .inl gb_3))] H := hP
    have hD : va_D A [(h0, .inr (7, [.ref a0, .ref a1, .ref a2, .ref a3, .ref a4, .ref a5, .ref a6, .int (nI mk), .int sh, .int fp, .int rf])), (a3, .inr (6, [.ref ab, .int (nI (tp + 4))])), (ab, .inl (cB, 300, .inl gb_3))] := hD
    refine lv_aload_n hx hb dX6_feed_26 rfl (lv_at hl 0 rfl) ?_
    refine va_get (D := (dC, dI)) (ci := 7) (v := .ref a3) (C := RX6) (T := TX6) (N := 11) hx hb hts hinX6 hown hK hP 0 rfl rfl 3 (by decide) (hts (.fieldLink RX6 26 "AgreedTalks" "tape" "LAgreedTalks$Tape;") (by decide +kernel)) (fun _ h9 => h9) rfl dX6_feed_27 ?_
    refine lv_iload_n hx hb dX6_feed_30 rfl (lv_at hl 2 rfl) ?_
    have hPc := hP.sub (ws' := [(a3, .inr (6, [.ref ab, .int (nI (tp + 4))])), (ab, .inl (cB, 300, .inl gb_3))]) [1, 2] rfl
    have hDc := hD.sub (ws' := [(a3, .inr (6, [.ref ab, .int (nI (tp + 4))])), (ab, .inl (cB, 300, .inl gb_3))]) [1, 2] (by decide) rfl
    have hKc := hK.sub (tys' := [(cB, .int)]) [0] rfl
    have hFc := va_free (wc := [(a3, .inr (6, [.ref ab, .int (nI (tp + 4))])), (ab, .inl (cB, 300, .inl gb_3))]) hD hS hA [1, 2] rfl
    refine va_callv (va_runV (As := [.int p1]) (rest := []) ⟨hx, hb, hml, hown, hts⟩ (c_append l dC dI _ a3 ab (tp + 4) cB gb_3 p1 (by omega)) (cwV 1 hts gc_X6_feed_append rfl rfl rfl (by decide +kernel) ⟨Nat.le_of_ble_eq_true rfl, Nat.le_of_ble_eq_true rfl⟩) ⟨fun a U g mk q => by obtain ⟨q0, q1, qP, qK, qD⟩ := q; exact ⟨q0, q1, qP, va_K.moved (u := U) (U := U.calling g mk a) (Vm.Alike.refl U.vm) qK, qD⟩, va_recv hKc hPc (ci := 6) (q0 := 0) rfl rfl, fun U hU hW => ⟨rfl, by rw [hU], by rw [hU]; exact hPc, va_K.moved hW.alike hKc, hDc.weaken (fun _ _ _ _ => trivial)⟩⟩ rfl rfl hl.1 rfl (lv_room (Nat.le_of_ble_eq_true rfl)) dX6_feed_31 ⟨Nat.zero_le _, Nat.zero_le _⟩) hS (fun q _ h => hFc q h) hFc (fun u t H1 locs ht hvm hw hB hz1 hk1 hS => ?_)
    obtain ⟨gb_4, hP1, hK1, hD1⟩ := hB
    rw [ht] at hP1
    obtain ⟨hP, hD⟩ := va_join (wr := [(h0, .inr (7, [.ref a0, .ref a1, .ref a2, .ref a3, .ref a4, .ref a5, .ref a6, .int (nI mk), .int sh, .int fp, .int rf]))]) (w1 := [(a3, .inr (6, [.ref ab, .int (nI ((tp + 4) + 4))])), (ab, .inl (cB, 300, .inl gb_4))]) hP hD [1, 2] [0] rfl rfl (by decide) (by decide) hk1 hFc hP1 hD1
    generalize H1 = H at hP hS ⊢
    have hP : va_P (dC, dI) vwCl [(h0, .inr (7, [.ref a0, .ref a1, .ref a2, .ref a3, .ref a4, .ref a5, .ref a6, .int (nI mk), .int sh, .int fp, .int rf])), (a3, .inr (6, [.ref ab, .int (nI ((tp + 4) + 4))])), (ab, .inl (cB, 300, .inl gb_4))] H := hP
    have hD : va_D A [(h0, .inr (7, [.ref a0, .ref a1, .ref a2, .ref a3, .ref a4, .ref a5, .ref a6, .int (nI mk), .int sh, .int fp, .int rf])), (a3, .inr (6, [.ref ab, .int (nI ((tp + 4) + 4))])), (ab, .inl (cB, 300, .inl gb_4))] := hD
    refine lv_aload_n hx hb dX6_feed_34 rfl (lv_at hl 0 rfl) ?_
    refine va_get (D := (dC, dI)) (ci := 7) (v := .ref a3) (C := RX6) (T := TX6) (N := 11) hx hb hts hinX6 hown hK hP 0 rfl rfl 3 (by decide) (hts (.fieldLink RX6 26 "AgreedTalks" "tape" "LAgreedTalks$Tape;") (by decide +kernel)) (fun _ h9 => h9) rfl dX6_feed_35 ?_
    refine lv_iload_n hx hb dX6_feed_38 rfl (lv_at hl 3 rfl) ?_
    have hPc := hP.sub (ws' := [(a3, .inr (6, [.ref ab, .int (nI ((tp + 4) + 4))])), (ab, .inl (cB, 300, .inl gb_4))]) [1, 2] rfl
    have hDc := hD.sub (ws' := [(a3, .inr (6, [.ref ab, .int (nI ((tp + 4) + 4))])), (ab, .inl (cB, 300, .inl gb_4))]) [1, 2] (by decide) rfl
    have hKc := hK.sub (tys' := [(cB, .int)]) [0] rfl
    have hFc := va_free (wc := [(a3, .inr (6, [.ref ab, .int (nI ((tp + 4) + 4))])), (ab, .inl (cB, 300, .inl gb_4))]) hD hS hA [1, 2] rfl
    refine va_callv (va_runV (As := [.int p2]) (rest := []) ⟨hx, hb, hml, hown, hts⟩ (c_append l dC dI _ a3 ab ((tp + 4) + 4) cB gb_4 p2 (by omega)) (cwV 1 hts gc_X6_feed_append rfl rfl rfl (by decide +kernel) ⟨Nat.le_of_ble_eq_true rfl, Nat.le_of_ble_eq_true rfl⟩) ⟨fun a U g mk q => by obtain ⟨q0, q1, qP, qK, qD⟩ := q; exact ⟨q0, q1, qP, va_K.moved (u := U) (U := U.calling g mk a) (Vm.Alike.refl U.vm) qK, qD⟩, va_recv hKc hPc (ci := 6) (q0 := 0) rfl rfl, fun U hU hW => ⟨rfl, by rw [hU], by rw [hU]; exact hPc, va_K.moved hW.alike hKc, hDc.weaken (fun _ _ _ _ => trivial)⟩⟩ rfl rfl hl.1 rfl (lv_room (Nat.le_of_ble_eq_true rfl)) dX6_feed_39 ⟨Nat.zero_le _, Nat.zero_le _⟩) hS (fun q _ h => hFc q h) hFc (fun u t H1 locs ht hvm hw hB hz1 hk1 hS => ?_)
    obtain ⟨gb_5, hP1, hK1, hD1⟩ := hB
    rw [ht] at hP1
    obtain ⟨hP, hD⟩ := va_join (wr := [(h0, .inr (7, [.ref a0, .ref a1, .ref a2, .ref a3, .ref a4, .ref a5, .ref a6, .int (nI mk), .int sh, .int fp, .int rf]))]) (w1 := [(a3, .inr (6, [.ref ab, .int (nI (((tp + 4) + 4) + 4))])), (ab, .inl (cB, 300, .inl gb_5))]) hP hD [1, 2] [0] rfl rfl (by decide) (by decide) hk1 hFc hP1 hD1
    generalize H1 = H at hP hS ⊢
    have hP : va_P (dC, dI) vwCl [(h0, .inr (7, [.ref a0, .ref a1, .ref a2, .ref a3, .ref a4, .ref a5, .ref a6, .int (nI mk), .int sh, .int fp, .int rf])), (a3, .inr (6, [.ref ab, .int (nI (((tp + 4) + 4) + 4))])), (ab, .inl (cB, 300, .inl gb_5))] H := hP
    have hD : va_D A [(h0, .inr (7, [.ref a0, .ref a1, .ref a2, .ref a3, .ref a4, .ref a5, .ref a6, .int (nI mk), .int sh, .int fp, .int rf])), (a3, .inr (6, [.ref ab, .int (nI (((tp + 4) + 4) + 4))])), (ab, .inl (cB, 300, .inl gb_5))] := hD
    refine lv_aload_n hx hb dX6_feed_42 rfl (lv_at hl 0 rfl) ?_
    refine va_get (D := (dC, dI)) (ci := 7) (v := .ref a3) (C := RX6) (T := TX6) (N := 11) hx hb hts hinX6 hown hK hP 0 rfl rfl 3 (by decide) (hts (.fieldLink RX6 26 "AgreedTalks" "tape" "LAgreedTalks$Tape;") (by decide +kernel)) (fun _ h9 => h9) rfl dX6_feed_43 ?_
    refine lv_iload hx hb dX6_feed_46 (lv_at hl 4 rfl) ?_
    have hPc := hP.sub (ws' := [(a3, .inr (6, [.ref ab, .int (nI (((tp + 4) + 4) + 4))])), (ab, .inl (cB, 300, .inl gb_5))]) [1, 2] rfl
    have hDc := hD.sub (ws' := [(a3, .inr (6, [.ref ab, .int (nI (((tp + 4) + 4) + 4))])), (ab, .inl (cB, 300, .inl gb_5))]) [1, 2] (by decide) rfl
    have hKc := hK.sub (tys' := [(cB, .int)]) [0] rfl
    have hFc := va_free (wc := [(a3, .inr (6, [.ref ab, .int (nI (((tp + 4) + 4) + 4))])), (ab, .inl (cB, 300, .inl gb_5))]) hD hS hA [1, 2] rfl
    refine va_callv (va_runV (As := [.int p3]) (rest := []) ⟨hx, hb, hml, hown, hts⟩ (c_append l dC dI _ a3 ab (((tp + 4) + 4) + 4) cB gb_5 p3 (by omega)) (cwV 1 hts gc_X6_feed_append rfl rfl rfl (by decide +kernel) ⟨Nat.le_of_ble_eq_true rfl, Nat.le_of_ble_eq_true rfl⟩) ⟨fun a U g mk q => by obtain ⟨q0, q1, qP, qK, qD⟩ := q; exact ⟨q0, q1, qP, va_K.moved (u := U) (U := U.calling g mk a) (Vm.Alike.refl U.vm) qK, qD⟩, va_recv hKc hPc (ci := 6) (q0 := 0) rfl rfl, fun U hU hW => ⟨rfl, by rw [hU], by rw [hU]; exact hPc, va_K.moved hW.alike hKc, hDc.weaken (fun _ _ _ _ => trivial)⟩⟩ rfl rfl hl.1 rfl (lv_room (Nat.le_of_ble_eq_true rfl)) dX6_feed_48 ⟨Nat.zero_le _, Nat.zero_le _⟩) hS (fun q _ h => hFc q h) hFc (fun u t H1 locs ht hvm hw hB hz1 hk1 hS => ?_)
    obtain ⟨gb_6, hP1, hK1, hD1⟩ := hB
    rw [ht] at hP1
    obtain ⟨hP, hD⟩ := va_join (wr := [(h0, .inr (7, [.ref a0, .ref a1, .ref a2, .ref a3, .ref a4, .ref a5, .ref a6, .int (nI mk), .int sh, .int fp, .int rf]))]) (w1 := [(a3, .inr (6, [.ref ab, .int (nI ((((tp + 4) + 4) + 4) + 4))])), (ab, .inl (cB, 300, .inl gb_6))]) hP hD [1, 2] [0] rfl rfl (by decide) (by decide) hk1 hFc hP1 hD1
    generalize H1 = H at hP hS ⊢
    have hP : va_P (dC, dI) vwCl [(h0, .inr (7, [.ref a0, .ref a1, .ref a2, .ref a3, .ref a4, .ref a5, .ref a6, .int (nI mk), .int sh, .int fp, .int rf])), (a3, .inr (6, [.ref ab, .int (nI ((((tp + 4) + 4) + 4) + 4))])), (ab, .inl (cB, 300, .inl gb_6))] H := hP
    have hD : va_D A [(h0, .inr (7, [.ref a0, .ref a1, .ref a2, .ref a3, .ref a4, .ref a5, .ref a6, .int (nI mk), .int sh, .int fp, .int rf])), (a3, .inr (6, [.ref ab, .int (nI ((((tp + 4) + 4) + 4) + 4))])), (ab, .inl (cB, 300, .inl gb_6))] := hD
    refine lv_aload_n hx hb dX6_feed_51 rfl (lv_at hl 0 rfl) ?_
    refine va_get (D := (dC, dI)) (ci := 7) (v := .ref a3) (C := RX6) (T := TX6) (N := 11) hx hb hts hinX6 hown hK hP 0 rfl rfl 3 (by decide) (hts (.fieldLink RX6 26 "AgreedTalks" "tape" "LAgreedTalks$Tape;") (by decide +kernel)) (fun _ h9 => h9) rfl dX6_feed_52 ?_
    refine lv_iload hx hb dX6_feed_55 (lv_at hl 5 rfl) ?_
    have hPc := hP.sub (ws' := [(a3, .inr (6, [.ref ab, .int (nI ((((tp + 4) + 4) + 4) + 4))])), (ab, .inl (cB, 300, .inl gb_6))]) [1, 2] rfl
    have hDc := hD.sub (ws' := [(a3, .inr (6, [.ref ab, .int (nI ((((tp + 4) + 4) + 4) + 4))])), (ab, .inl (cB, 300, .inl gb_6))]) [1, 2] (by decide) rfl
    have hKc := hK.sub (tys' := [(cB, .int)]) [0] rfl
    have hFc := va_free (wc := [(a3, .inr (6, [.ref ab, .int (nI ((((tp + 4) + 4) + 4) + 4))])), (ab, .inl (cB, 300, .inl gb_6))]) hD hS hA [1, 2] rfl
    refine va_callv (va_runV (As := [.int p4]) (rest := []) ⟨hx, hb, hml, hown, hts⟩ (c_append l dC dI _ a3 ab ((((tp + 4) + 4) + 4) + 4) cB gb_6 p4 (by omega)) (cwV 1 hts gc_X6_feed_append rfl rfl rfl (by decide +kernel) ⟨Nat.le_of_ble_eq_true rfl, Nat.le_of_ble_eq_true rfl⟩) ⟨fun a U g mk q => by obtain ⟨q0, q1, qP, qK, qD⟩ := q; exact ⟨q0, q1, qP, va_K.moved (u := U) (U := U.calling g mk a) (Vm.Alike.refl U.vm) qK, qD⟩, va_recv hKc hPc (ci := 6) (q0 := 0) rfl rfl, fun U hU hW => ⟨rfl, by rw [hU], by rw [hU]; exact hPc, va_K.moved hW.alike hKc, hDc.weaken (fun _ _ _ _ => trivial)⟩⟩ rfl rfl hl.1 rfl (lv_room (Nat.le_of_ble_eq_true rfl)) dX6_feed_57 ⟨Nat.zero_le _, Nat.zero_le _⟩) hS (fun q _ h => hFc q h) hFc (fun u t H1 locs ht hvm hw hB hz1 hk1 hS => ?_)
    obtain ⟨gb_7, hP1, hK1, hD1⟩ := hB
    rw [ht] at hP1
    obtain ⟨hP, hD⟩ := va_join (wr := [(h0, .inr (7, [.ref a0, .ref a1, .ref a2, .ref a3, .ref a4, .ref a5, .ref a6, .int (nI mk), .int sh, .int fp, .int rf]))]) (w1 := [(a3, .inr (6, [.ref ab, .int (nI (((((tp + 4) + 4) + 4) + 4) + 4))])), (ab, .inl (cB, 300, .inl gb_7))]) hP hD [1, 2] [0] rfl rfl (by decide) (by decide) hk1 hFc hP1 hD1
    generalize H1 = H at hP hS ⊢
    have hP : va_P (dC, dI) vwCl [(h0, .inr (7, [.ref a0, .ref a1, .ref a2, .ref a3, .ref a4, .ref a5, .ref a6, .int (nI mk), .int sh, .int fp, .int rf])), (a3, .inr (6, [.ref ab, .int (nI (((((tp + 4) + 4) + 4) + 4) + 4))])), (ab, .inl (cB, 300, .inl gb_7))] H := hP
    have hD : va_D A [(h0, .inr (7, [.ref a0, .ref a1, .ref a2, .ref a3, .ref a4, .ref a5, .ref a6, .int (nI mk), .int sh, .int fp, .int rf])), (a3, .inr (6, [.ref ab, .int (nI (((((tp + 4) + 4) + 4) + 4) + 4))])), (ab, .inl (cB, 300, .inl gb_7))] := hD
    refine lv_aload_n hx hb dX6_feed_60 rfl (lv_at hl 0 rfl) ?_
    refine va_get (D := (dC, dI)) (ci := 7) (v := .ref a3) (C := RX6) (T := TX6) (N := 11) hx hb hts hinX6 hown hK hP 0 rfl rfl 3 (by decide) (hts (.fieldLink RX6 26 "AgreedTalks" "tape" "LAgreedTalks$Tape;") (by decide +kernel)) (fun _ h9 => h9) rfl dX6_feed_61 ?_
    refine va_get (D := (dC, dI)) (ci := 6) (v := .int (nI (((((tp + 4) + 4) + 4) + 4) + 4))) (C := RX5) (T := TX5) (N := 2) hx hb hts hinX5 hown hK hP 1 rfl rfl 1 (by decide) (hts (.fieldLink RX6 80 "AgreedTalks$Tape" "length" "I") (by decide +kernel)) (fun _ h9 => h9) rfl dX6_feed_64 ?_
    have hP9 := hP.sub (ws' := [(h0, .inr (7, [.ref a0, .ref a1, .ref a2, .ref a3, .ref a4, .ref a5, .ref a6, .int (nI mk), .int sh, .int fp, .int rf])), (a3, .inr (6, [.ref ab, .int (nI (((((tp + 4) + 4) + 4) + 4) + 4))])), (ab, .inl (cB, 300, .inl gb_7))]) [0, 1, 2] rfl
    have hD9 := hD.sub (ws' := [(h0, .inr (7, [.ref a0, .ref a1, .ref a2, .ref a3, .ref a4, .ref a5, .ref a6, .int (nI mk), .int sh, .int fp, .int rf])), (a3, .inr (6, [.ref ab, .int (nI (((((tp + 4) + 4) + 4) + 4) + 4))])), (ab, .inl (cB, 300, .inl gb_7))]) [0, 1, 2] (by decide) rfl
    have hK9 := hK.sub (tys' := [(cB, .int)]) [0] rfl
    exact W.iret (v := (nI (((((tp + 4) + 4) + 4) + 4) + 4))) hx hb hr (fun t ht hW => ⟨⟨(nI (((((tp + 4) + 4) + 4) + 4) + 4)), (), rfl, trivial, (((((tp + 4) + 4) + 4) + 4) + 4), gb_7, (by omega), by rw [ht]; exact hP9, va_K.moved hW.alike hK9, hD9⟩, hS.F ht⟩) hS.2.2 dX6_feed_67
  · have c_2 : ¬ (tp + 20 ≤ 300) := fun h => c_2 ((nI_leI (a := tp + 20) (b := 300) (by omega) (by omega)).mpr h)
    refine lv_iconst (v := (-1)) hx hb dX6_feed_16 (by decide) ?_
    have hP9 := hP.sub (ws' := [(h0, .inr (7, [.ref a0, .ref a1, .ref a2, .ref a3, .ref a4, .ref a5, .ref a6, .int (nI mk), .int sh, .int fp, .int rf])), (a3, .inr (6, [.ref ab, .int (nI tp)])), (ab, .inl (cB, 300, .inl fb))]) [0, 1, 2] rfl
    have hD9 := hD.sub (ws' := [(h0, .inr (7, [.ref a0, .ref a1, .ref a2, .ref a3, .ref a4, .ref a5, .ref a6, .int (nI mk), .int sh, .int fp, .int rf])), (a3, .inr (6, [.ref ab, .int (nI tp)])), (ab, .inl (cB, 300, .inl fb))]) [0, 1, 2] (by decide) rfl
    have hK9 := hK.sub (tys' := [(cB, .int)]) [0] rfl
    exact W.iret (v := (-1)) hx hb hr (fun t ht hW => ⟨⟨(-1), (), rfl, trivial, tp, fb, (by omega), by rw [ht]; exact hP9, va_K.moved hW.alike hK9, hD9⟩, hS.F ht⟩) hS.2.2 dX6_feed_17
def wp_X6_end : List Cond := .code yX6_end cX6_end 2 (some .int) :: (([.fieldLink RX6 26 "AgreedTalks" "tape" "LAgreedTalks$Tape;", .fieldLink RX6 80 "AgreedTalks$Tape" "length" "I"] : List Cond) ++ wsX60 ++ wsX50)
set_option maxRecDepth 20000 in
theorem gi_X6_end : GoodIn lw_tbl wp_X6_end := (goodIn_ca (goodIn_ca (goodIn_r (.code yX6_end cX6_end 2 (some .int) :: ([.fieldLink RX6 26 "AgreedTalks" "tape" "LAgreedTalks$Tape;", .fieldLink RX6 80 "AgreedTalks$Tape" "length" "I"] : List Cond)) [246, 192, 113] (by decide +kernel) (by decide +kernel)) wi_wsX6) wi_wsX5)
set_option maxHeartbeats 4000000 in
set_option maxRecDepth 100000 in
/-- end -/
theorem c_X6_end (l : Launch) (dC : Nat → ClassId) (dI : Nat → Nat → Nat) (sz : Nat) (h0 : Nat) (a0 : Nat) (a1 : Nat) (a2 : Nat) (a3 : Nat) (a4 : Nat) (a5 : Nat) (a6 : Nat) (mk : Nat) (sh : Int32) (fp : Int32) (rf : Int32) (ab : Nat) (tp : Nat) (p0 : Int32) (qtp : tp ≤ 300) : Met l yX6_end wp_X6_end ({ frames := 0, cells := 0, slots := 0, locals := 0 }) (va_Pc [.ref h0, .int p0] (fun U => U.heap.size = sz ∧ va_P (dC, dI) vwCl [(h0, .inr (7, [.ref a0, .ref a1, .ref a2, .ref a3, .ref a4, .ref a5, .ref a6, .int (nI mk), .int sh, .int fp, .int rf])), (a3, .inr (6, [.ref ab, .int (nI tp)]))] U.heap ∧ va_K (dC, dI) vwCl [] U ∧ va_D (fun _ => True) [(h0, .inr (7, [.ref a0, .ref a1, .ref a2, .ref a3, .ref a4, .ref a5, .ref a6, .int (nI mk), .int sh, .int fp, .int rf])), (a3, .inr (6, [.ref ab, .int (nI tp)]))])) (va_Qi (fun (r : Int32) (_ : Unit) => True) (fun (_ : Unit) (t : State) => ∃ (tq : Nat), (tq ≤ 300) ∧ va_P (dC, dI) vwCl [(h0, .inr (7, [.ref a0, .ref a1, .ref a2, .ref a3, .ref a4, .ref a5, .ref a6, .int (nI mk), .int sh, .int fp, .int rf])), (a3, .inr (6, [.ref ab, .int (nI tq)]))] t.heap ∧ va_K (dC, dI) vwCl [] t ∧ va_D (va_A [(h0, .inr (7, [.ref a0, .ref a1, .ref a2, .ref a3, .ref a4, .ref a5, .ref a6, .int (nI mk), .int sh, .int fp, .int rf])), (a3, .inr (6, [.ref ab, .int (nI tp)]))] sz) [(h0, .inr (7, [.ref a0, .ref a1, .ref a2, .ref a3, .ref a4, .ref a5, .ref a6, .int (nI mk), .int sh, .int fp, .int rf])), (a3, .inr (6, [.ref ab, .int (nI tq)]))]) (va_A [(h0, .inr (7, [.ref a0, .ref a1, .ref a2, .ref a3, .ref a4, .ref a5, .ref a6, .int (nI mk), .int sh, .int fp, .int rf])), (a3, .inr (6, [.ref ab, .int (nI tp)]))] sz)) 0 0 (va_A [(h0, .inr (7, [.ref a0, .ref a1, .ref a2, .ref a3, .ref a4, .ref a5, .ref a6, .int (nI mk), .int sh, .int fp, .int rf])), (a3, .inr (6, [.ref ab, .int (nI tp)]))] sz) := by
  refine Met.ofW (cc := cX6_end) (maxL := 2) (ret := (some .int)) (by decide) rfl ?_
  intro p e s m args below meth c s₁ B hml hv
  obtain ⟨rfl, hsz, hP, hK, hD0⟩ := hv
  have hx := B.exec
  have hb := B.bytes
  have hr := B.returns
  have hts := atoms_spec (ws := wp_X6_end) B.pre
  have hown : s.vm.findClass RX6 = some m.cls := findClass_of_methodNamed B.named
  have hlocks := B.notSynchronized
  subst hsz
  have hD := hD0.self (sz := s.heap.size)
  generalize hAe : va_A [(h0, .inr (7, [.ref a0, .ref a1, .ref a2, .ref a3, .ref a4, .ref a5, .ref a6, .int (nI mk), .int sh, .int fp, .int rf])), (a3, .inr (6, [.ref ab, .int (nI tp)]))] s.heap.size = A at hD ⊢
  have hA : ∀ q : Nat, s.heap.size ≤ q → A q := fun q h => by rw [← hAe]; exact Or.inr h
  have hS : va_S A s.heap s.heap [] := va_S.rf
  have hP : va_P (dC, dI) vwCl [(h0, .inr (7, [.ref a0, .ref a1, .ref a2, .ref a3, .ref a4, .ref a5, .ref a6, .int (nI mk), .int sh, .int fp, .int rf])), (a3, .inr (6, [.ref ab, .int (nI tp)]))] s.heap := hP
  have hl := lv_entry ([.ref h0, .int p0]) (n := 2) (Nat.le_of_ble_eq_true rfl)
  rw [lg_entry_eq]
  generalize (lg_sl ([.ref h0, .int p0]) ++ List.replicate (2 - (lg_sl ([.ref h0, .int p0])).length) Slot.unset).toArray = ls at hl ⊢
  have hl : lv_has ls 2 [(0, .ref h0), (1, .int p0)] := hl
  have hinX6 : ∀ w ∈ u_ws RX6 TX6 11, w ∈ wp_X6_end := fun _ h => List.mem_cons_of_mem _ (List.mem_append_left _ (List.mem_append_right _ h))
  have hinX5 : ∀ w ∈ u_ws RX5 TX5 2, w ∈ wp_X6_end := fun _ h => List.mem_cons_of_mem _ (List.mem_append_right _ h)
  refine lv_iload_n hx hb dX6_end_0 rfl (lv_at hl 1 rfl) ?_
  refine lv_if_lt (tgt := 15) hx hb dX6_end_1 (by decide) (fun c_1 => ?_) (fun c_1 => ?_)
  · refine lv_iconst (v := (-1)) hx hb dX6_end_15 (by decide) ?_
    have hP9 := hP.sub (ws' := [(h0, .inr (7, [.ref a0, .ref a1, .ref a2, .ref a3, .ref a4, .ref a5, .ref a6, .int (nI mk), .int sh, .int fp, .int rf])), (a3, .inr (6, [.ref ab, .int (nI tp)]))]) [0, 1] rfl
    have hD9 := hD.sub (ws' := [(h0, .inr (7, [.ref a0, .ref a1, .ref a2, .ref a3, .ref a4, .ref a5, .ref a6, .int (nI mk), .int sh, .int fp, .int rf])), (a3, .inr (6, [.ref ab, .int (nI tp)]))]) [0, 1] (by decide) rfl
    have hK9 := hK.sub (tys' := []) [] rfl
    exact W.iret (v := (-1)) hx hb hr (fun t ht hW => ⟨⟨(-1), (), rfl, trivial, tp, (by omega), by rw [ht]; exact hP9, va_K.moved hW.alike hK9, hD9⟩, hS.F ht⟩) hS.2.2 dX6_end_16
  · obtain ⟨n_2, hn_2, en_2⟩ := nI_of c_1
    subst en_2
    refine lv_iload_n hx hb dX6_end_4 rfl (lv_at hl 1 rfl) ?_
    refine lv_aload_n hx hb dX6_end_5 rfl (lv_at hl 0 rfl) ?_
    refine va_get (D := (dC, dI)) (ci := 7) (v := .ref a3) (C := RX6) (T := TX6) (N := 11) hx hb hts hinX6 hown hK hP 0 rfl rfl 3 (by decide) (hts (.fieldLink RX6 26 "AgreedTalks" "tape" "LAgreedTalks$Tape;") (by decide +kernel)) (fun _ h9 => h9) rfl dX6_end_6 ?_
    refine va_get (D := (dC, dI)) (ci := 6) (v := .int (nI tp)) (C := RX5) (T := TX5) (N := 2) hx hb hts hinX5 hown hK hP 1 rfl rfl 1 (by decide) (hts (.fieldLink RX6 80 "AgreedTalks$Tape" "length" "I") (by decide +kernel)) (fun _ h9 => h9) rfl dX6_end_9 ?_
    refine lv_icmp_le (tgt := 17) hx hb dX6_end_12 (by decide) (fun c_3 => ?_) (fun c_3 => ?_)
    · have c_3 : n_2 ≤ tp := (nI_leI (a := n_2) (b := tp) (by omega) (by omega)).mp c_3
      refine lv_aload_n hx hb dX6_end_17 rfl (lv_at hl 0 rfl) ?_
      refine va_get (D := (dC, dI)) (ci := 7) (v := .ref a3) (C := RX6) (T := TX6) (N := 11) hx hb hts hinX6 hown hK hP 0 rfl rfl 3 (by decide) (hts (.fieldLink RX6 26 "AgreedTalks" "tape" "LAgreedTalks$Tape;") (by decide +kernel)) (fun _ h9 => h9) rfl dX6_end_18 ?_
      refine lv_iload_n hx hb dX6_end_21 rfl (lv_at hl 1 rfl) ?_
      refine va_put (D := (dC, dI)) (ci := 6) (v := .int (nI n_2)) (ty := .int) (C := RX5) (T := TX5) (N := 2) hx hb hts hinX5 tyX5 tyX5_ok nmX5 hown hK hP hD hS 1 rfl rfl 1 (by decide) (hts (.fieldLink RX6 80 "AgreedTalks$Tape" "length" "I") (by decide +kernel)) (fun _ h9 => h9) rfl (by decide +kernel) rfl rfl (Nat.le_of_ble_eq_true rfl) dX6_end_22 (fun H locs hP hD hS => ?_)
      have hP : va_P (dC, dI) vwCl [(h0, .inr (7, [.ref a0, .ref a1, .ref a2, .ref a3, .ref a4, .ref a5, .ref a6, .int (nI mk), .int sh, .int fp, .int rf])), (a3, .inr (6, [.ref ab, .int (nI n_2)]))] H := hP
      have hD : va_D A [(h0, .inr (7, [.ref a0, .ref a1, .ref a2, .ref a3, .ref a4, .ref a5, .ref a6, .int (nI mk), .int sh, .int fp, .int rf])), (a3, .inr (6, [.ref ab, .int (nI n_2)]))] := hD
      refine lv_iload_n hx hb dX6_end_25 rfl (lv_at hl 1 rfl) ?_
      have hP9 := hP.sub (ws' := [(h0, .inr (7, [.ref a0, .ref a1, .ref a2, .ref a3, .ref a4, .ref a5, .ref a6, .int (nI mk), .int sh, .int fp, .int rf])), (a3, .inr (6, [.ref ab, .int (nI n_2)]))]) [0, 1] rfl
      have hD9 := hD.sub (ws' := [(h0, .inr (7, [.ref a0, .ref a1, .ref a2, .ref a3, .ref a4, .ref a5, .ref a6, .int (nI mk), .int sh, .int fp, .int rf])), (a3, .inr (6, [.ref ab, .int (nI n_2)]))]) [0, 1] (by decide) rfl
      have hK9 := hK.sub (tys' := []) [] rfl
      exact W.iret (v := (nI n_2)) hx hb hr (fun t ht hW => ⟨⟨(nI n_2), (), rfl, trivial, n_2, (by omega), by rw [ht]; exact hP9, va_K.moved hW.alike hK9, hD9⟩, hS.F ht⟩) hS.2.2 dX6_end_26
    · have c_3 : ¬ (n_2 ≤ tp) := fun h => c_3 ((nI_leI (a := n_2) (b := tp) (by omega) (by omega)).mpr h)
      refine lv_iconst (v := (-1)) hx hb dX6_end_15 (by decide) ?_
      have hP9 := hP.sub (ws' := [(h0, .inr (7, [.ref a0, .ref a1, .ref a2, .ref a3, .ref a4, .ref a5, .ref a6, .int (nI mk), .int sh, .int fp, .int rf])), (a3, .inr (6, [.ref ab, .int (nI tp)]))]) [0, 1] rfl
      have hD9 := hD.sub (ws' := [(h0, .inr (7, [.ref a0, .ref a1, .ref a2, .ref a3, .ref a4, .ref a5, .ref a6, .int (nI mk), .int sh, .int fp, .int rf])), (a3, .inr (6, [.ref ab, .int (nI tp)]))]) [0, 1] (by decide) rfl
      have hK9 := hK.sub (tys' := []) [] rfl
      exact W.iret (v := (-1)) hx hb hr (fun t ht hW => ⟨⟨(-1), (), rfl, trivial, tp, (by omega), by rw [ht]; exact hP9, va_K.moved hW.alike hK9, hD9⟩, hS.F ht⟩) hS.2.2 dX6_end_16
def wp_X6_fault : List Cond := .code yX6_fault cX6_fault 1 (some .int) :: (([.fieldLink RX6 60 "AgreedTalks" "faultPlace" "I"] : List Cond) ++ wsX60)
set_option maxRecDepth 20000 in
theorem gi_X6_fault : GoodIn lw_tbl wp_X6_fault := (goodIn_ca (goodIn_r (.code yX6_fault cX6_fault 1 (some .int) :: ([.fieldLink RX6 60 "AgreedTalks" "faultPlace" "I"] : List Cond)) [485, 198] (by decide +kernel) (by decide +kernel)) wi_wsX6)
set_option maxHeartbeats 4000000 in
set_option maxRecDepth 100000 in
/-- fault -/
theorem c_X6_fault (l : Launch) (dC : Nat → ClassId) (dI : Nat → Nat → Nat) (sz : Nat) (h0 : Nat) (a0 : Nat) (a1 : Nat) (a2 : Nat) (a3 : Nat) (a4 : Nat) (a5 : Nat) (a6 : Nat) (mk : Nat) (sh : Int32) (fp : Int32) (rf : Int32) : Met l yX6_fault wp_X6_fault ({ frames := 0, cells := 0, slots := 0, locals := 0 }) (va_Pc [.ref h0] (fun U => U.heap.size = sz ∧ va_P (dC, dI) vwCl [(h0, .inr (7, [.ref a0, .ref a1, .ref a2, .ref a3, .ref a4, .ref a5, .ref a6, .int (nI mk), .int sh, .int fp, .int rf]))] U.heap ∧ va_K (dC, dI) vwCl [] U ∧ va_D (fun _ => True) [(h0, .inr (7, [.ref a0, .ref a1, .ref a2, .ref a3, .ref a4, .ref a5, .ref a6, .int (nI mk), .int sh, .int fp, .int rf]))])) (va_Qi (fun (r : Int32) (_ : Unit) => True) (fun (_ : Unit) (t : State) => va_P (dC, dI) vwCl [(h0, .inr (7, [.ref a0, .ref a1, .ref a2, .ref a3, .ref a4, .ref a5, .ref a6, .int (nI mk), .int sh, .int fp, .int rf]))] t.heap ∧ va_K (dC, dI) vwCl [] t ∧ va_D (va_A [(h0, .inr (7, [.ref a0, .ref a1, .ref a2, .ref a3, .ref a4, .ref a5, .ref a6, .int (nI mk), .int sh, .int fp, .int rf]))] sz) [(h0, .inr (7, [.ref a0, .ref a1, .ref a2, .ref a3, .ref a4, .ref a5, .ref a6, .int (nI mk), .int sh, .int fp, .int rf]))]) (va_A [(h0, .inr (7, [.ref a0, .ref a1, .ref a2, .ref a3, .ref a4, .ref a5, .ref a6, .int (nI mk), .int sh, .int fp, .int rf]))] sz)) 0 0 (va_A [(h0, .inr (7, [.ref a0, .ref a1, .ref a2, .ref a3, .ref a4, .ref a5, .ref a6, .int (nI mk), .int sh, .int fp, .int rf]))] sz) := by
  refine Met.ofW (cc := cX6_fault) (maxL := 1) (ret := (some .int)) (by decide) rfl ?_
  intro p e s m args below meth c s₁ B hml hv
  obtain ⟨rfl, hsz, hP, hK, hD0⟩ := hv
  have hx := B.exec
  have hb := B.bytes
  have hr := B.returns
  have hts := atoms_spec (ws := wp_X6_fault) B.pre
  have hown : s.vm.findClass RX6 = some m.cls := findClass_of_methodNamed B.named
  have hlocks := B.notSynchronized
  subst hsz
  have hD := hD0.self (sz := s.heap.size)
  generalize hAe : va_A [(h0, .inr (7, [.ref a0, .ref a1, .ref a2, .ref a3, .ref a4, .ref a5, .ref a6, .int (nI mk), .int sh, .int fp, .int rf]))] s.heap.size = A at hD ⊢
  have hA : ∀ q : Nat, s.heap.size ≤ q → A q := fun q h => by rw [← hAe]; exact Or.inr h
  have hS : va_S A s.heap s.heap [] := va_S.rf
  have hP : va_P (dC, dI) vwCl [(h0, .inr (7, [.ref a0, .ref a1, .ref a2, .ref a3, .ref a4, .ref a5, .ref a6, .int (nI mk), .int sh, .int fp, .int rf]))] s.heap := hP
  have hl := lv_entry ([.ref h0]) (n := 1) (Nat.le_of_ble_eq_true rfl)
  rw [lg_entry_eq]
  generalize (lg_sl ([.ref h0]) ++ List.replicate (1 - (lg_sl ([.ref h0])).length) Slot.unset).toArray = ls at hl ⊢
  have hl : lv_has ls 1 [(0, .ref h0)] := hl
  have hinX6 : ∀ w ∈ u_ws RX6 TX6 11, w ∈ wp_X6_fault := fun _ h => List.mem_cons_of_mem _ (List.mem_append_right _ h)
  refine lv_aload_n hx hb dX6_fault_0 rfl (lv_at hl 0 rfl) ?_
  refine va_get (D := (dC, dI)) (ci := 7) (v := .int fp) (C := RX6) (T := TX6) (N := 11) hx hb hts hinX6 hown hK hP 0 rfl rfl 9 (by decide) (hts (.fieldLink RX6 60 "AgreedTalks" "faultPlace" "I") (by decide +kernel)) (fun _ h9 => h9) rfl dX6_fault_1 ?_
  have hP9 := hP.sub (ws' := [(h0, .inr (7, [.ref a0, .ref a1, .ref a2, .ref a3, .ref a4, .ref a5, .ref a6, .int (nI mk), .int sh, .int fp, .int rf]))]) [0] rfl
  have hD9 := hD.sub (ws' := [(h0, .inr (7, [.ref a0, .ref a1, .ref a2, .ref a3, .ref a4, .ref a5, .ref a6, .int (nI mk), .int sh, .int fp, .int rf]))]) [0] (by decide) rfl
  have hK9 := hK.sub (tys' := []) [] rfl
  exact W.iret (v := fp) hx hb hr (fun t ht hW => ⟨⟨fp, (), rfl, trivial, by rw [ht]; exact hP9, va_K.moved hW.alike hK9, hD9⟩, hS.F ht⟩) hS.2.2 dX6_fault_4
def wp_X6_status : List Cond := .code yX6_status cX6_status 1 (some .int) :: (([.fieldLink RX6 63 "AgreedTalks" "refusal" "I"] : List Cond) ++ wsX60)
set_option maxRecDepth 20000 in
theorem gi_X6_status : GoodIn lw_tbl wp_X6_status := (goodIn_ca (goodIn_r (.code yX6_status cX6_status 1 (some .int) :: ([.fieldLink RX6 63 "AgreedTalks" "refusal" "I"] : List Cond)) [666, 199] (by decide +kernel) (by decide +kernel)) wi_wsX6)
set_option maxHeartbeats 4000000 in
set_option maxRecDepth 100000 in
/-- status -/
theorem c_X6_status (l : Launch) (dC : Nat → ClassId) (dI : Nat → Nat → Nat) (sz : Nat) (h0 : Nat) (a0 : Nat) (a1 : Nat) (a2 : Nat) (a3 : Nat) (a4 : Nat) (a5 : Nat) (a6 : Nat) (mk : Nat) (sh : Int32) (fp : Int32) (rf : Int32) : Met l yX6_status wp_X6_status ({ frames := 0, cells := 0, slots := 0, locals := 0 }) (va_Pc [.ref h0] (fun U => U.heap.size = sz ∧ va_P (dC, dI) vwCl [(h0, .inr (7, [.ref a0, .ref a1, .ref a2, .ref a3, .ref a4, .ref a5, .ref a6, .int (nI mk), .int sh, .int fp, .int rf]))] U.heap ∧ va_K (dC, dI) vwCl [] U ∧ va_D (fun _ => True) [(h0, .inr (7, [.ref a0, .ref a1, .ref a2, .ref a3, .ref a4, .ref a5, .ref a6, .int (nI mk), .int sh, .int fp, .int rf]))])) (va_Qi (fun (r : Int32) (_ : Unit) => True) (fun (_ : Unit) (t : State) => va_P (dC, dI) vwCl [(h0, .inr (7, [.ref a0, .ref a1, .ref a2, .ref a3, .ref a4, .ref a5, .ref a6, .int (nI mk), .int sh, .int fp, .int rf]))] t.heap ∧ va_K (dC, dI) vwCl [] t ∧ va_D (va_A [(h0, .inr (7, [.ref a0, .ref a1, .ref a2, .ref a3, .ref a4, .ref a5, .ref a6, .int (nI mk), .int sh, .int fp, .int rf]))] sz) [(h0, .inr (7, [.ref a0, .ref a1, .ref a2, .ref a3, .ref a4, .ref a5, .ref a6, .int (nI mk), .int sh, .int fp, .int rf]))]) (va_A [(h0, .inr (7, [.ref a0, .ref a1, .ref a2, .ref a3, .ref a4, .ref a5, .ref a6, .int (nI mk), .int sh, .int fp, .int rf]))] sz)) 0 0 (va_A [(h0, .inr (7, [.ref a0, .ref a1, .ref a2, .ref a3, .ref a4, .ref a5, .ref a6, .int (nI mk), .int sh, .int fp, .int rf]))] sz) := by
  refine Met.ofW (cc := cX6_status) (maxL := 1) (ret := (some .int)) (by decide) rfl ?_
  intro p e s m args below meth c s₁ B hml hv
  obtain ⟨rfl, hsz, hP, hK, hD0⟩ := hv
  have hx := B.exec
  have hb := B.bytes
  have hr := B.returns
  have hts := atoms_spec (ws := wp_X6_status) B.pre
  have hown : s.vm.findClass RX6 = some m.cls := findClass_of_methodNamed B.named
  have hlocks := B.notSynchronized
  subst hsz
  have hD := hD0.self (sz := s.heap.size)
  generalize hAe : va_A [(h0, .inr (7, [.ref a0, .ref a1, .ref a2, .ref a3, .ref a4, .ref a5, .ref a6, .int (nI mk), .int sh, .int fp, .int rf]))] s.heap.size = A at hD ⊢
  have hA : ∀ q : Nat, s.heap.size ≤ q → A q := fun q h => by rw [← hAe]; exact Or.inr h
  have hS : va_S A s.heap s.heap [] := va_S.rf
  have hP : va_P (dC, dI) vwCl [(h0, .inr (7, [.ref a0, .ref a1, .ref a2, .ref a3, .ref a4, .ref a5, .ref a6, .int (nI mk), .int sh, .int fp, .int rf]))] s.heap := hP
  have hl := lv_entry ([.ref h0]) (n := 1) (Nat.le_of_ble_eq_true rfl)
  rw [lg_entry_eq]
  generalize (lg_sl ([.ref h0]) ++ List.replicate (1 - (lg_sl ([.ref h0])).length) Slot.unset).toArray = ls at hl ⊢
  have hl : lv_has ls 1 [(0, .ref h0)] := hl
  have hinX6 : ∀ w ∈ u_ws RX6 TX6 11, w ∈ wp_X6_status := fun _ h => List.mem_cons_of_mem _ (List.mem_append_right _ h)
  refine lv_aload_n hx hb dX6_status_0 rfl (lv_at hl 0 rfl) ?_
  refine va_get (D := (dC, dI)) (ci := 7) (v := .int rf) (C := RX6) (T := TX6) (N := 11) hx hb hts hinX6 hown hK hP 0 rfl rfl 10 (by decide) (hts (.fieldLink RX6 63 "AgreedTalks" "refusal" "I") (by decide +kernel)) (fun _ h9 => h9) rfl dX6_status_1 ?_
  have hP9 := hP.sub (ws' := [(h0, .inr (7, [.ref a0, .ref a1, .ref a2, .ref a3, .ref a4, .ref a5, .ref a6, .int (nI mk), .int sh, .int fp, .int rf]))]) [0] rfl
  have hD9 := hD.sub (ws' := [(h0, .inr (7, [.ref a0, .ref a1, .ref a2, .ref a3, .ref a4, .ref a5, .ref a6, .int (nI mk), .int sh, .int fp, .int rf]))]) [0] (by decide) rfl
  have hK9 := hK.sub (tys' := []) [] rfl
  exact W.iret (v := rf) hx hb hr (fun t ht hW => ⟨⟨rf, (), rfl, trivial, by rw [ht]; exact hP9, va_K.moved hW.alike hK9, hD9⟩, hS.F ht⟩) hS.2.2 dX6_status_4
def wp_X6_meeting : List Cond := .code yX6_meeting cX6_meeting 2 (some .int) :: (([.fieldLink RX6 53 "AgreedTalks" "meetings" "I", .fieldLink RX6 9 "AgreedTalks" "days" "[I", .fieldLink RX6 63 "AgreedTalks" "refusal" "I"] : List Cond) ++ wsX60 ++ (wsV RX6 76 RX6 yX6_refuse wp_X6_refuse) ++ (wsV RX6 72 RX6 yX6_lastDay wp_X6_lastDay))
theorem gc_X6_meeting_X6_refuse : GoodIn wp_X6_meeting (wsV RX6 76 RX6 yX6_refuse wp_X6_refuse) := goodIn_sub (fun _ h => List.mem_cons_of_mem _ (List.mem_append_left _ (List.mem_append_right _ h))) (by decide +kernel)
theorem gc_X6_meeting_X6_lastDay : GoodIn wp_X6_meeting (wsV RX6 72 RX6 yX6_lastDay wp_X6_lastDay) := goodIn_sub (fun _ h => List.mem_cons_of_mem _ (List.mem_append_right _ h)) (by decide +kernel)
set_option maxRecDepth 20000 in
theorem gi_X6_meeting : GoodIn lw_tbl wp_X6_meeting := (goodIn_ca (goodIn_ca (goodIn_ca (goodIn_r (.code yX6_meeting cX6_meeting 2 (some .int) :: ([.fieldLink RX6 53 "AgreedTalks" "meetings" "I", .fieldLink RX6 9 "AgreedTalks" "days" "[I", .fieldLink RX6 63 "AgreedTalks" "refusal" "I"] : List Cond)) [226, 196, 189, 199] (by decide +kernel) (by decide +kernel)) wi_wsX6) (goodIn_app (goodIn_r _ [231, 233, 1, 48] (by decide +kernel) (by decide +kernel)) gi_X6_refuse)) (goodIn_app (goodIn_r _ [227, 229, 0, 48] (by decide +kernel) (by decide +kernel)) gi_X6_lastDay))
set_option maxHeartbeats 4000000 in
set_option maxRecDepth 100000 in
/-- meeting -/
theorem c_X6_meeting (l : Launch) (dC : Nat → ClassId) (dI : Nat → Nat → Nat) (sz : Nat) (h0 : Nat) (a0 : Nat) (a1 : Nat) (a2 : Nat) (a3 : Nat) (a4 : Nat) (a5 : Nat) (a6 : Nat) (mk : Nat) (sh : Int32) (fp : Int32) (rf : Int32) (p0 : Int32) (cA : ClassId) (fa : Nat → Int32) (qmk : mk ≤ 30) : Met l yX6_meeting wp_X6_meeting ({ frames := 1, cells := 0, slots := 0, locals := 40 }) (va_Pc [.ref h0, .int p0] (fun U => U.heap.size = sz ∧ va_P (dC, dI) vwCl [(h0, .inr (7, [.ref a0, .ref a1, .ref a2, .ref a3, .ref a4, .ref a5, .ref a6, .int (nI mk), .int sh, .int fp, .int rf])), (a0, .inl (cA, 30, .inl fa))] U.heap ∧ va_K (dC, dI) vwCl [(cA, .int)] U ∧ va_D (fun _ => True) [(h0, .inr (7, [.ref a0, .ref a1, .ref a2, .ref a3, .ref a4, .ref a5, .ref a6, .int (nI mk), .int sh, .int fp, .int rf])), (a0, .inl (cA, 30, .inl fa))])) (va_Qi (fun (r : Int32) (_ : Unit) => mtR p0 mk fa r) (fun (_ : Unit) (t : State) => ∃ (r1 : Int32), ∃ (k2 : Nat), ∃ (ga : Nat → Int32), (mtS p0 mk fa k2 ga) ∧ (k2 ≤ 30) ∧ va_P (dC, dI) vwCl [(h0, .inr (7, [.ref a0, .ref a1, .ref a2, .ref a3, .ref a4, .ref a5, .ref a6, .int (nI k2), .int sh, .int fp, .int r1])), (a0, .inl (cA, 30, .inl ga))] t.heap ∧ va_K (dC, dI) vwCl [(cA, .int)] t ∧ va_D (va_A [(h0, .inr (7, [.ref a0, .ref a1, .ref a2, .ref a3, .ref a4, .ref a5, .ref a6, .int (nI mk), .int sh, .int fp, .int rf])), (a0, .inl (cA, 30, .inl fa))] sz) [(h0, .inr (7, [.ref a0, .ref a1, .ref a2, .ref a3, .ref a4, .ref a5, .ref a6, .int (nI k2), .int sh, .int fp, .int r1])), (a0, .inl (cA, 30, .inl ga))]) (va_A [(h0, .inr (7, [.ref a0, .ref a1, .ref a2, .ref a3, .ref a4, .ref a5, .ref a6, .int (nI mk), .int sh, .int fp, .int rf])), (a0, .inl (cA, 30, .inl fa))] sz)) 0 0 (va_A [(h0, .inr (7, [.ref a0, .ref a1, .ref a2, .ref a3, .ref a4, .ref a5, .ref a6, .int (nI mk), .int sh, .int fp, .int rf])), (a0, .inl (cA, 30, .inl fa))] sz) := by
  refine Met.ofW (cc := cX6_meeting) (maxL := 2) (ret := (some .int)) (by decide) rfl ?_
  intro p e s m args below meth c s₁ B hml hv
  obtain ⟨rfl, hsz, hP, hK, hD0⟩ := hv
  have hx := B.exec
  have hb := B.bytes
  have hr := B.returns
  have hts := atoms_spec (ws := wp_X6_meeting) B.pre
  have hown : s.vm.findClass RX6 = some m.cls := findClass_of_methodNamed B.named
  have hlocks := B.notSynchronized
  subst hsz
  have hD := hD0.self (sz := s.heap.size)
  generalize hAe : va_A [(h0, .inr (7, [.ref a0, .ref a1, .ref a2, .ref a3, .ref a4, .ref a5, .ref a6, .int (nI mk), .int sh, .int fp, .int rf])), (a0, .inl (cA, 30, .inl fa))] s.heap.size = A at hD ⊢
  have hA : ∀ q : Nat, s.heap.size ≤ q → A q := fun q h => by rw [← hAe]; exact Or.inr h
  have hS : va_S A s.heap s.heap [] := va_S.rf
  have hP : va_P (dC, dI) vwCl [(h0, .inr (7, [.ref a0, .ref a1, .ref a2, .ref a3, .ref a4, .ref a5, .ref a6, .int (nI mk), .int sh, .int fp, .int rf])), (a0, .inl (cA, 30, .inl fa))] s.heap := hP
  have hl := lv_entry ([.ref h0, .int p0]) (n := 2) (Nat.le_of_ble_eq_true rfl)
  rw [lg_entry_eq]
  generalize (lg_sl ([.ref h0, .int p0]) ++ List.replicate (2 - (lg_sl ([.ref h0, .int p0])).length) Slot.unset).toArray = ls at hl ⊢
  have hl : lv_has ls 2 [(0, .ref h0), (1, .int p0)] := hl
  have hinX6 : ∀ w ∈ u_ws RX6 TX6 11, w ∈ wp_X6_meeting := fun _ h => List.mem_cons_of_mem _ (List.mem_append_left _ (List.mem_append_left _ (List.mem_append_right _ h)))
  refine lv_iload_n hx hb dX6_meeting_0 rfl (lv_at hl 1 rfl) ?_
  refine lv_if_lt (tgt := 19) hx hb dX6_meeting_1 (by decide) (fun c_1 => ?_) (fun c_1 => ?_)
  · have hno : mtN p0 mk fa := Or.inl c_1
    refine lv_aload_n hx hb dX6_meeting_19 rfl (lv_at hl 0 rfl) ?_
    refine lv_iconst (v := (-1)) hx hb dX6_meeting_20 (by decide) ?_
    have hPc := hP.sub (ws' := [(h0, .inr (7, [.ref a0, .ref a1, .ref a2, .ref a3, .ref a4, .ref a5, .ref a6, .int (nI mk), .int sh, .int fp, .int rf]))]) [0] rfl
    have hDc := hD.sub (ws' := [(h0, .inr (7, [.ref a0, .ref a1, .ref a2, .ref a3, .ref a4, .ref a5, .ref a6, .int (nI mk), .int sh, .int fp, .int rf]))]) [0] (by decide) rfl
    have hKc := hK.sub (tys' := []) [] rfl
    have hFc := va_free (wc := [(h0, .inr (7, [.ref a0, .ref a1, .ref a2, .ref a3, .ref a4, .ref a5, .ref a6, .int (nI mk), .int sh, .int fp, .int rf]))]) hD hS hA [0] rfl
    refine va_calli (va_runV (As := [.int (-1)]) (rest := []) ⟨hx, hb, hml, hown, hts⟩ (c_X6_refuse l dC dI _ h0 a0 a1 a2 a3 a4 a5 a6 mk sh fp rf (-1)) (cwV 1 hts gc_X6_meeting_X6_refuse rfl rfl rfl (by decide +kernel) ⟨Nat.le_of_ble_eq_true rfl, Nat.le_of_ble_eq_true rfl⟩) ⟨fun a U g mk q => by obtain ⟨q0, q1, qP, qK, qD⟩ := q; exact ⟨q0, q1, qP, va_K.moved (u := U) (U := U.calling g mk a) (Vm.Alike.refl U.vm) qK, qD⟩, va_recv hKc hPc (ci := 7) (q0 := 0) rfl rfl, fun U hU hW => ⟨rfl, by rw [hU], by rw [hU]; exact hPc, va_K.moved hW.alike hKc, hDc.weaken (fun _ _ _ _ => trivial)⟩⟩ rfl rfl hl.1 rfl (lv_room (Nat.le_of_ble_eq_true rfl)) dX6_meeting_21 ⟨Nat.zero_le _, Nat.zero_le _⟩) hS (fun q _ h => hFc q h) hFc (fun r_2 u t H1 locs ht hvm hw hB hz1 hk1 hS => ?_)
    obtain ⟨hP1, hK1, hD1⟩ := hB
    rw [ht] at hP1
    obtain ⟨hP, hD⟩ := va_join (wr := [(a0, .inl (cA, 30, .inl fa))]) (w1 := [(h0, .inr (7, [.ref a0, .ref a1, .ref a2, .ref a3, .ref a4, .ref a5, .ref a6, .int (nI mk), .int sh, .int fp, .int (-1)]))]) hP hD [0] [1] rfl rfl (by decide) (by decide) hk1 hFc hP1 hD1
    generalize H1 = H at hP hS ⊢
    have hP : va_P (dC, dI) vwCl [(a0, .inl (cA, 30, .inl fa)), (h0, .inr (7, [.ref a0, .ref a1, .ref a2, .ref a3, .ref a4, .ref a5, .ref a6, .int (nI mk), .int sh, .int fp, .int (-1)]))] H := hP
    have hD : va_D A [(a0, .inl (cA, 30, .inl fa)), (h0, .inr (7, [.ref a0, .ref a1, .ref a2, .ref a3, .ref a4, .ref a5, .ref a6, .int (nI mk), .int sh, .int fp, .int (-1)]))] := hD
    obtain rfl : r_2 = (-1) := hw
    have hP9 := hP.sub (ws' := [(h0, .inr (7, [.ref a0, .ref a1, .ref a2, .ref a3, .ref a4, .ref a5, .ref a6, .int (nI mk), .int sh, .int fp, .int (-1)])), (a0, .inl (cA, 30, .inl fa))]) [1, 0] rfl
    have hD9 := hD.sub (ws' := [(h0, .inr (7, [.ref a0, .ref a1, .ref a2, .ref a3, .ref a4, .ref a5, .ref a6, .int (nI mk), .int sh, .int fp, .int (-1)])), (a0, .inl (cA, 30, .inl fa))]) [1, 0] (by decide) rfl
    have hK9 := hK.sub (tys' := [(cA, .int)]) [0] rfl
    exact W.iret (v := (-1)) hx hb hr (fun t ht hW => ⟨⟨(-1), (), rfl, Or.inl ⟨hno, rfl⟩, (-1), mk, fa, Or.inl ⟨Or.inl hno, rfl, rfl⟩, (by omega), by rw [ht]; exact hP9, va_K.moved hW.alike hK9, hD9⟩, hS.F ht⟩) hS.2.2 dX6_meeting_24
  · refine lv_iload_n hx hb dX6_meeting_4 rfl (lv_at hl 1 rfl) ?_
    refine lv_sipush (v := 1000) hx hb dX6_meeting_5 (by decide) ?_
    refine lv_icmp_ge (tgt := 19) hx hb dX6_meeting_8 (by decide) (fun c_3 => ?_) (fun c_3 => ?_)
    · have hno : mtN p0 mk fa := Or.inr (Or.inl c_3)
      refine lv_aload_n hx hb dX6_meeting_19 rfl (lv_at hl 0 rfl) ?_
      refine lv_iconst (v := (-1)) hx hb dX6_meeting_20 (by decide) ?_
      have hPc := hP.sub (ws' := [(h0, .inr (7, [.ref a0, .ref a1, .ref a2, .ref a3, .ref a4, .ref a5, .ref a6, .int (nI mk), .int sh, .int fp, .int rf]))]) [0] rfl
      have hDc := hD.sub (ws' := [(h0, .inr (7, [.ref a0, .ref a1, .ref a2, .ref a3, .ref a4, .ref a5, .ref a6, .int (nI mk), .int sh, .int fp, .int rf]))]) [0] (by decide) rfl
      have hKc := hK.sub (tys' := []) [] rfl
      have hFc := va_free (wc := [(h0, .inr (7, [.ref a0, .ref a1, .ref a2, .ref a3, .ref a4, .ref a5, .ref a6, .int (nI mk), .int sh, .int fp, .int rf]))]) hD hS hA [0] rfl
      refine va_calli (va_runV (As := [.int (-1)]) (rest := []) ⟨hx, hb, hml, hown, hts⟩ (c_X6_refuse l dC dI _ h0 a0 a1 a2 a3 a4 a5 a6 mk sh fp rf (-1)) (cwV 1 hts gc_X6_meeting_X6_refuse rfl rfl rfl (by decide +kernel) ⟨Nat.le_of_ble_eq_true rfl, Nat.le_of_ble_eq_true rfl⟩) ⟨fun a U g mk q => by obtain ⟨q0, q1, qP, qK, qD⟩ := q; exact ⟨q0, q1, qP, va_K.moved (u := U) (U := U.calling g mk a) (Vm.Alike.refl U.vm) qK, qD⟩, va_recv hKc hPc (ci := 7) (q0 := 0) rfl rfl, fun U hU hW => ⟨rfl, by rw [hU], by rw [hU]; exact hPc, va_K.moved hW.alike hKc, hDc.weaken (fun _ _ _ _ => trivial)⟩⟩ rfl rfl hl.1 rfl (lv_room (Nat.le_of_ble_eq_true rfl)) dX6_meeting_21 ⟨Nat.zero_le _, Nat.zero_le _⟩) hS (fun q _ h => hFc q h) hFc (fun r_4 u t H1 locs ht hvm hw hB hz1 hk1 hS => ?_)
      obtain ⟨hP1, hK1, hD1⟩ := hB
      rw [ht] at hP1
      obtain ⟨hP, hD⟩ := va_join (wr := [(a0, .inl (cA, 30, .inl fa))]) (w1 := [(h0, .inr (7, [.ref a0, .ref a1, .ref a2, .ref a3, .ref a4, .ref a5, .ref a6, .int (nI mk), .int sh, .int fp, .int (-1)]))]) hP hD [0] [1] rfl rfl (by decide) (by decide) hk1 hFc hP1 hD1
      generalize H1 = H at hP hS ⊢
      have hP : va_P (dC, dI) vwCl [(a0, .inl (cA, 30, .inl fa)), (h0, .inr (7, [.ref a0, .ref a1, .ref a2, .ref a3, .ref a4, .ref a5, .ref a6, .int (nI mk), .int sh, .int fp, .int (-1)]))] H := hP
      have hD : va_D A [(a0, .inl (cA, 30, .inl fa)), (h0, .inr (7, [.ref a0, .ref a1, .ref a2, .ref a3, .ref a4, .ref a5, .ref a6, .int (nI mk), .int sh, .int fp, .int (-1)]))] := hD
      obtain rfl : r_4 = (-1) := hw
      have hP9 := hP.sub (ws' := [(h0, .inr (7, [.ref a0, .ref a1, .ref a2, .ref a3, .ref a4, .ref a5, .ref a6, .int (nI mk), .int sh, .int fp, .int (-1)])), (a0, .inl (cA, 30, .inl fa))]) [1, 0] rfl
      have hD9 := hD.sub (ws' := [(h0, .inr (7, [.ref a0, .ref a1, .ref a2, .ref a3, .ref a4, .ref a5, .ref a6, .int (nI mk), .int sh, .int fp, .int (-1)])), (a0, .inl (cA, 30, .inl fa))]) [1, 0] (by decide) rfl
      have hK9 := hK.sub (tys' := [(cA, .int)]) [0] rfl
      exact W.iret (v := (-1)) hx hb hr (fun t ht hW => ⟨⟨(-1), (), rfl, Or.inl ⟨hno, rfl⟩, (-1), mk, fa, Or.inl ⟨Or.inl hno, rfl, rfl⟩, (by omega), by rw [ht]; exact hP9, va_K.moved hW.alike hK9, hD9⟩, hS.F ht⟩) hS.2.2 dX6_meeting_24
    · refine lv_iload_n hx hb dX6_meeting_11 rfl (lv_at hl 1 rfl) ?_
      refine lv_aload_n hx hb dX6_meeting_12 rfl (lv_at hl 0 rfl) ?_
      have hPc := hP.sub (ws' := [(h0, .inr (7, [.ref a0, .ref a1, .ref a2, .ref a3, .ref a4, .ref a5, .ref a6, .int (nI mk), .int sh, .int fp, .int rf])), (a0, .inl (cA, 30, .inl fa))]) [0, 1] rfl
      have hDc := hD.sub (ws' := [(h0, .inr (7, [.ref a0, .ref a1, .ref a2, .ref a3, .ref a4, .ref a5, .ref a6, .int (nI mk), .int sh, .int fp, .int rf])), (a0, .inl (cA, 30, .inl fa))]) [0, 1] (by decide) rfl
      have hKc := hK.sub (tys' := [(cA, .int)]) [0] rfl
      have hFc := va_free (wc := [(h0, .inr (7, [.ref a0, .ref a1, .ref a2, .ref a3, .ref a4, .ref a5, .ref a6, .int (nI mk), .int sh, .int fp, .int rf])), (a0, .inl (cA, 30, .inl fa))]) hD hS hA [0, 1] rfl
      refine va_calli (va_runV (As := []) (rest := [.int p0]) ⟨hx, hb, hml, hown, hts⟩ (c_X6_lastDay l dC dI _ h0 a0 a1 a2 a3 a4 a5 a6 mk sh fp rf cA fa (by omega)) (cwV 0 hts gc_X6_meeting_X6_lastDay rfl rfl rfl (by decide +kernel) ⟨Nat.le_of_ble_eq_true rfl, Nat.le_of_ble_eq_true rfl⟩) ⟨fun a U g mk q => by obtain ⟨q0, q1, qP, qK, qD⟩ := q; exact ⟨q0, q1, qP, va_K.moved (u := U) (U := U.calling g mk a) (Vm.Alike.refl U.vm) qK, qD⟩, va_recv hKc hPc (ci := 7) (q0 := 0) rfl rfl, fun U hU hW => ⟨rfl, by rw [hU], by rw [hU]; exact hPc, va_K.moved hW.alike hKc, hDc.weaken (fun _ _ _ _ => trivial)⟩⟩ rfl rfl hl.1 rfl (lv_room (Nat.le_of_ble_eq_true rfl)) dX6_meeting_13 ⟨Nat.zero_le _, Nat.zero_le _⟩) hS (fun q _ h => hFc q h) hFc (fun r_5 u t H1 locs ht hvm hw hB hz1 hk1 hS => ?_)
      obtain ⟨hP1, hK1, hD1⟩ := hB
      rw [ht] at hP1
      obtain ⟨hP, hD⟩ := va_join (wr := []) (w1 := [(h0, .inr (7, [.ref a0, .ref a1, .ref a2, .ref a3, .ref a4, .ref a5, .ref a6, .int (nI mk), .int sh, .int fp, .int rf])), (a0, .inl (cA, 30, .inl fa))]) hP hD [0, 1] [] rfl rfl (by decide) (by decide) hk1 hFc hP1 hD1
      generalize H1 = H at hP hS ⊢
      have hP : va_P (dC, dI) vwCl [(h0, .inr (7, [.ref a0, .ref a1, .ref a2, .ref a3, .ref a4, .ref a5, .ref a6, .int (nI mk), .int sh, .int fp, .int rf])), (a0, .inl (cA, 30, .inl fa))] H := hP
      have hD : va_D A [(h0, .inr (7, [.ref a0, .ref a1, .ref a2, .ref a3, .ref a4, .ref a5, .ref a6, .int (nI mk), .int sh, .int fp, .int rf])), (a0, .inl (cA, 30, .inl fa))] := hD
      obtain rfl : r_5 = (lastD fa mk) := hw
      refine lv_icmp_ge (tgt := 25) hx hb dX6_meeting_16 (by decide) (fun c_6 => ?_) (fun c_6 => ?_)
      · have hyes : ¬ mtN p0 mk fa := mt_ok c_1 c_3 c_6
        refine lv_aload_n hx hb dX6_meeting_25 rfl (lv_at hl 0 rfl) ?_
        refine va_get (D := (dC, dI)) (ci := 7) (v := .int (nI mk)) (C := RX6) (T := TX6) (N := 11) hx hb hts hinX6 hown hK hP 0 rfl rfl 7 (by decide) (hts (.fieldLink RX6 53 "AgreedTalks" "meetings" "I") (by decide +kernel)) (fun _ h9 => h9) rfl dX6_meeting_26 ?_
        refine lv_bipush (v := 30) hx hb dX6_meeting_29 (by decide) ?_
        refine lv_icmp_lt (tgt := 41) hx hb dX6_meeting_31 (by decide) (fun c_7 => ?_) (fun c_7 => ?_)
        · have c_7 : mk < 30 := (nI_ltI (a := mk) (b := 30) (by omega) (by omega)).mp c_7
          refine lv_aload_n hx hb dX6_meeting_41 rfl (lv_at hl 0 rfl) ?_
          refine va_get (D := (dC, dI)) (ci := 7) (v := .ref a0) (C := RX6) (T := TX6) (N := 11) hx hb hts hinX6 hown hK hP 0 rfl rfl 0 (by decide) (hts (.fieldLink RX6 9 "AgreedTalks" "days" "[I") (by decide +kernel)) (fun _ h9 => h9) rfl dX6_meeting_42 ?_
          refine lv_aload_n hx hb dX6_meeting_45 rfl (lv_at hl 0 rfl) ?_
          refine va_get (D := (dC, dI)) (ci := 7) (v := .int (nI mk)) (C := RX6) (T := TX6) (N := 11) hx hb hts hinX6 hown hK hP 0 rfl rfl 7 (by decide) (hts (.fieldLink RX6 53 "AgreedTalks" "meetings" "I") (by decide +kernel)) (fun _ h9 => h9) rfl dX6_meeting_46 ?_
          refine lv_iload_n hx hb dX6_meeting_49 rfl (lv_at hl 1 rfl) ?_
          refine va_iast hx hb hK hP hD hS 1 0 rfl rfl (vp_in_nI (by omega) (by omega)) dX6_meeting_50 (fun H locs hP hD hS => ?_)
          have hP : va_P (dC, dI) vwCl [(h0, .inr (7, [.ref a0, .ref a1, .ref a2, .ref a3, .ref a4, .ref a5, .ref a6, .int (nI mk), .int sh, .int fp, .int rf])), (a0, .inl (cA, 30, .inl (upd fa (Int32.toNatClampNeg (nI mk)) p0)))] H := hP
          have hD : va_D A [(h0, .inr (7, [.ref a0, .ref a1, .ref a2, .ref a3, .ref a4, .ref a5, .ref a6, .int (nI mk), .int sh, .int fp, .int rf])), (a0, .inl (cA, 30, .inl (upd fa (Int32.toNatClampNeg (nI mk)) p0)))] := hD
          generalize ef_8 : upd fa (Int32.toNatClampNeg (nI mk)) p0 = f_8 at hP hD
          rw [show Int32.toNatClampNeg (nI mk) = mk from nI_clamp (by omega)] at ef_8
          refine lv_aload_n hx hb dX6_meeting_51 rfl (lv_at hl 0 rfl) ?_
          refine lv_dup hx hb dX6_meeting_52 rfl ?_
          refine va_get (D := (dC, dI)) (ci := 7) (v := .int (nI mk)) (C := RX6) (T := TX6) (N := 11) hx hb hts hinX6 hown hK hP 0 rfl rfl 7 (by decide) (hts (.fieldLink RX6 53 "AgreedTalks" "meetings" "I") (by decide +kernel)) (fun _ h9 => h9) rfl dX6_meeting_53 ?_
          refine lv_iconst (v := 1) hx hb dX6_meeting_56 (by decide) ?_
          refine lv_iadd hx hb dX6_meeting_57 ?_
          refine lv_topi (fun x_9 ex_9 => ?_)
          obtain rfl : x_9 = (nI (mk + 1)) := by rw [ex_9]; exact nI_add _ _
          refine va_put (D := (dC, dI)) (ci := 7) (v := .int (nI (mk + 1))) (ty := .int) (C := RX6) (T := TX6) (N := 11) hx hb hts hinX6 tyX6 tyX6_ok nmX6 hown hK hP hD hS 0 rfl rfl 7 (by decide) (hts (.fieldLink RX6 53 "AgreedTalks" "meetings" "I") (by decide +kernel)) (fun _ h9 => h9) rfl (by decide +kernel) rfl rfl (Nat.le_of_ble_eq_true rfl) dX6_meeting_58 (fun H locs hP hD hS => ?_)
          have hP : va_P (dC, dI) vwCl [(h0, .inr (7, [.ref a0, .ref a1, .ref a2, .ref a3, .ref a4, .ref a5, .ref a6, .int (nI (mk + 1)), .int sh, .int fp, .int rf])), (a0, .inl (cA, 30, .inl f_8))] H := hP
          have hD : va_D A [(h0, .inr (7, [.ref a0, .ref a1, .ref a2, .ref a3, .ref a4, .ref a5, .ref a6, .int (nI (mk + 1)), .int sh, .int fp, .int rf])), (a0, .inl (cA, 30, .inl f_8))] := hD
          refine lv_aload_n hx hb dX6_meeting_61 rfl (lv_at hl 0 rfl) ?_
          refine lv_iconst (v := 0) hx hb dX6_meeting_62 (by decide) ?_
          refine va_put (D := (dC, dI)) (ci := 7) (v := .int 0) (ty := .int) (C := RX6) (T := TX6) (N := 11) hx hb hts hinX6 tyX6 tyX6_ok nmX6 hown hK hP hD hS 0 rfl rfl 10 (by decide) (hts (.fieldLink RX6 63 "AgreedTalks" "refusal" "I") (by decide +kernel)) (fun _ h9 => h9) rfl (by decide +kernel) rfl rfl (Nat.le_of_ble_eq_true rfl) dX6_meeting_63 (fun H locs hP hD hS => ?_)
          have hP : va_P (dC, dI) vwCl [(h0, .inr (7, [.ref a0, .ref a1, .ref a2, .ref a3, .ref a4, .ref a5, .ref a6, .int (nI (mk + 1)), .int sh, .int fp, .int 0])), (a0, .inl (cA, 30, .inl f_8))] H := hP
          have hD : va_D A [(h0, .inr (7, [.ref a0, .ref a1, .ref a2, .ref a3, .ref a4, .ref a5, .ref a6, .int (nI (mk + 1)), .int sh, .int fp, .int 0])), (a0, .inl (cA, 30, .inl f_8))] := hD
          refine lv_aload_n hx hb dX6_meeting_66 rfl (lv_at hl 0 rfl) ?_
          refine va_get (D := (dC, dI)) (ci := 7) (v := .int (nI (mk + 1))) (C := RX6) (T := TX6) (N := 11) hx hb hts hinX6 hown hK hP 0 rfl rfl 7 (by decide) (hts (.fieldLink RX6 53 "AgreedTalks" "meetings" "I") (by decide +kernel)) (fun _ h9 => h9) rfl dX6_meeting_67 ?_
          refine lv_iconst (v := 1) hx hb dX6_meeting_70 (by decide) ?_
          refine lv_isub hx hb dX6_meeting_71 ?_
          refine lv_topi (fun x_10 ex_10 => ?_)
          obtain rfl : x_10 = (nI mk) := by rw [ex_10]; exact nI_pred _
          have hP9 := hP.sub (ws' := [(h0, .inr (7, [.ref a0, .ref a1, .ref a2, .ref a3, .ref a4, .ref a5, .ref a6, .int (nI (mk + 1)), .int sh, .int fp, .int 0])), (a0, .inl (cA, 30, .inl f_8))]) [0, 1] rfl
          have hD9 := hD.sub (ws' := [(h0, .inr (7, [.ref a0, .ref a1, .ref a2, .ref a3, .ref a4, .ref a5, .ref a6, .int (nI (mk + 1)), .int sh, .int fp, .int 0])), (a0, .inl (cA, 30, .inl f_8))]) [0, 1] (by decide) rfl
          have hK9 := hK.sub (tys' := [(cA, .int)]) [0] rfl
          exact W.iret (v := (nI mk)) hx hb hr (fun t ht hW => ⟨⟨(nI mk), (), rfl, Or.inr (Or.inr ⟨hyes, by omega, rfl⟩), 0, (mk + 1), f_8, Or.inr ⟨hyes, by omega, rfl, ef_8.symm⟩, (by omega), by rw [ht]; exact hP9, va_K.moved hW.alike hK9, hD9⟩, hS.F ht⟩) hS.2.2 dX6_meeting_72
        · have c_7 : ¬ (mk < 30) := fun h => c_7 ((nI_ltI (a := mk) (b := 30) (by omega) (by omega)).mpr h)
          refine lv_aload_n hx hb dX6_meeting_34 rfl (lv_at hl 0 rfl) ?_
          refine lv_bipush (v := (-5)) hx hb dX6_meeting_35 (by decide) ?_
          have hPc := hP.sub (ws' := [(h0, .inr (7, [.ref a0, .ref a1, .ref a2, .ref a3, .ref a4, .ref a5, .ref a6, .int (nI mk), .int sh, .int fp, .int rf]))]) [0] rfl
          have hDc := hD.sub (ws' := [(h0, .inr (7, [.ref a0, .ref a1, .ref a2, .ref a3, .ref a4, .ref a5, .ref a6, .int (nI mk), .int sh, .int fp, .int rf]))]) [0] (by decide) rfl
          have hKc := hK.sub (tys' := []) [] rfl
          have hFc := va_free (wc := [(h0, .inr (7, [.ref a0, .ref a1, .ref a2, .ref a3, .ref a4, .ref a5, .ref a6, .int (nI mk), .int sh, .int fp, .int rf]))]) hD hS hA [0] rfl
          refine va_calli (va_runV (As := [.int (-5)]) (rest := []) ⟨hx, hb, hml, hown, hts⟩ (c_X6_refuse l dC dI _ h0 a0 a1 a2 a3 a4 a5 a6 mk sh fp rf (-5)) (cwV 1 hts gc_X6_meeting_X6_refuse rfl rfl rfl (by decide +kernel) ⟨Nat.le_of_ble_eq_true rfl, Nat.le_of_ble_eq_true rfl⟩) ⟨fun a U g mk q => by obtain ⟨q0, q1, qP, qK, qD⟩ := q; exact ⟨q0, q1, qP, va_K.moved (u := U) (U := U.calling g mk a) (Vm.Alike.refl U.vm) qK, qD⟩, va_recv hKc hPc (ci := 7) (q0 := 0) rfl rfl, fun U hU hW => ⟨rfl, by rw [hU], by rw [hU]; exact hPc, va_K.moved hW.alike hKc, hDc.weaken (fun _ _ _ _ => trivial)⟩⟩ rfl rfl hl.1 rfl (lv_room (Nat.le_of_ble_eq_true rfl)) dX6_meeting_37 ⟨Nat.zero_le _, Nat.zero_le _⟩) hS (fun q _ h => hFc q h) hFc (fun r_11 u t H1 locs ht hvm hw hB hz1 hk1 hS => ?_)
          obtain ⟨hP1, hK1, hD1⟩ := hB
          rw [ht] at hP1
          obtain ⟨hP, hD⟩ := va_join (wr := [(a0, .inl (cA, 30, .inl fa))]) (w1 := [(h0, .inr (7, [.ref a0, .ref a1, .ref a2, .ref a3, .ref a4, .ref a5, .ref a6, .int (nI mk), .int sh, .int fp, .int (-5)]))]) hP hD [0] [1] rfl rfl (by decide) (by decide) hk1 hFc hP1 hD1
          generalize H1 = H at hP hS ⊢
          have hP : va_P (dC, dI) vwCl [(a0, .inl (cA, 30, .inl fa)), (h0, .inr (7, [.ref a0, .ref a1, .ref a2, .ref a3, .ref a4, .ref a5, .ref a6, .int (nI mk), .int sh, .int fp, .int (-5)]))] H := hP
          have hD : va_D A [(a0, .inl (cA, 30, .inl fa)), (h0, .inr (7, [.ref a0, .ref a1, .ref a2, .ref a3, .ref a4, .ref a5, .ref a6, .int (nI mk), .int sh, .int fp, .int (-5)]))] := hD
          obtain rfl : r_11 = (-5) := hw
          have hP9 := hP.sub (ws' := [(h0, .inr (7, [.ref a0, .ref a1, .ref a2, .ref a3, .ref a4, .ref a5, .ref a6, .int (nI mk), .int sh, .int fp, .int (-5)])), (a0, .inl (cA, 30, .inl fa))]) [1, 0] rfl
          have hD9 := hD.sub (ws' := [(h0, .inr (7, [.ref a0, .ref a1, .ref a2, .ref a3, .ref a4, .ref a5, .ref a6, .int (nI mk), .int sh, .int fp, .int (-5)])), (a0, .inl (cA, 30, .inl fa))]) [1, 0] (by decide) rfl
          have hK9 := hK.sub (tys' := [(cA, .int)]) [0] rfl
          exact W.iret (v := (-5)) hx hb hr (fun t ht hW => ⟨⟨(-5), (), rfl, Or.inr (Or.inl ⟨hyes, by omega, rfl⟩), (-5), mk, fa, Or.inl ⟨Or.inr (by omega), rfl, rfl⟩, (by omega), by rw [ht]; exact hP9, va_K.moved hW.alike hK9, hD9⟩, hS.F ht⟩) hS.2.2 dX6_meeting_40
      · have hno : mtN p0 mk fa := mt3 c_1 c_6
        refine lv_aload_n hx hb dX6_meeting_19 rfl (lv_at hl 0 rfl) ?_
        refine lv_iconst (v := (-1)) hx hb dX6_meeting_20 (by decide) ?_
        have hPc := hP.sub (ws' := [(h0, .inr (7, [.ref a0, .ref a1, .ref a2, .ref a3, .ref a4, .ref a5, .ref a6, .int (nI mk), .int sh, .int fp, .int rf]))]) [0] rfl
        have hDc := hD.sub (ws' := [(h0, .inr (7, [.ref a0, .ref a1, .ref a2, .ref a3, .ref a4, .ref a5, .ref a6, .int (nI mk), .int sh, .int fp, .int rf]))]) [0] (by decide) rfl
        have hKc := hK.sub (tys' := []) [] rfl
        have hFc := va_free (wc := [(h0, .inr (7, [.ref a0, .ref a1, .ref a2, .ref a3, .ref a4, .ref a5, .ref a6, .int (nI mk), .int sh, .int fp, .int rf]))]) hD hS hA [0] rfl
        refine va_calli (va_runV (As := [.int (-1)]) (rest := []) ⟨hx, hb, hml, hown, hts⟩ (c_X6_refuse l dC dI _ h0 a0 a1 a2 a3 a4 a5 a6 mk sh fp rf (-1)) (cwV 1 hts gc_X6_meeting_X6_refuse rfl rfl rfl (by decide +kernel) ⟨Nat.le_of_ble_eq_true rfl, Nat.le_of_ble_eq_true rfl⟩) ⟨fun a U g mk q => by obtain ⟨q0, q1, qP, qK, qD⟩ := q; exact ⟨q0, q1, qP, va_K.moved (u := U) (U := U.calling g mk a) (Vm.Alike.refl U.vm) qK, qD⟩, va_recv hKc hPc (ci := 7) (q0 := 0) rfl rfl, fun U hU hW => ⟨rfl, by rw [hU], by rw [hU]; exact hPc, va_K.moved hW.alike hKc, hDc.weaken (fun _ _ _ _ => trivial)⟩⟩ rfl rfl hl.1 rfl (lv_room (Nat.le_of_ble_eq_true rfl)) dX6_meeting_21 ⟨Nat.zero_le _, Nat.zero_le _⟩) hS (fun q _ h => hFc q h) hFc (fun r_12 u t H1 locs ht hvm hw hB hz1 hk1 hS => ?_)
        obtain ⟨hP1, hK1, hD1⟩ := hB
        rw [ht] at hP1
        obtain ⟨hP, hD⟩ := va_join (wr := [(a0, .inl (cA, 30, .inl fa))]) (w1 := [(h0, .inr (7, [.ref a0, .ref a1, .ref a2, .ref a3, .ref a4, .ref a5, .ref a6, .int (nI mk), .int sh, .int fp, .int (-1)]))]) hP hD [0] [1] rfl rfl (by decide) (by decide) hk1 hFc hP1 hD1
        generalize H1 = H at hP hS ⊢
        have hP : va_P (dC, dI) vwCl [(a0, .inl (cA, 30, .inl fa)), (h0, .inr (7, [.ref a0, .ref a1, .ref a2, .ref a3, .ref a4, .ref a5, .ref a6, .int (nI mk), .int sh, .int fp, .int (-1)]))] H := hP
        have hD : va_D A [(a0, .inl (cA, 30, .inl fa)), (h0, .inr (7, [.ref a0, .ref a1, .ref a2, .ref a3, .ref a4, .ref a5, .ref a6, .int (nI mk), .int sh, .int fp, .int (-1)]))] := hD
        obtain rfl : r_12 = (-1) := hw
        have hP9 := hP.sub (ws' := [(h0, .inr (7, [.ref a0, .ref a1, .ref a2, .ref a3, .ref a4, .ref a5, .ref a6, .int (nI mk), .int sh, .int fp, .int (-1)])), (a0, .inl (cA, 30, .inl fa))]) [1, 0] rfl
        have hD9 := hD.sub (ws' := [(h0, .inr (7, [.ref a0, .ref a1, .ref a2, .ref a3, .ref a4, .ref a5, .ref a6, .int (nI mk), .int sh, .int fp, .int (-1)])), (a0, .inl (cA, 30, .inl fa))]) [1, 0] (by decide) rfl
        have hK9 := hK.sub (tys' := [(cA, .int)]) [0] rfl
        exact W.iret (v := (-1)) hx hb hr (fun t ht hW => ⟨⟨(-1), (), rfl, Or.inl ⟨hno, rfl⟩, (-1), mk, fa, Or.inl ⟨Or.inl hno, rfl, rfl⟩, (by omega), by rw [ht]; exact hP9, va_K.moved hW.alike hK9, hD9⟩, hS.F ht⟩) hS.2.2 dX6_meeting_24
