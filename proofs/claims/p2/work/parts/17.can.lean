theorem dX7_canStand_51 : decode cX7_canStand 51 = .ok (.iload 6, 2) := by decide +kernel
theorem dX7_canStand_53 : decode cX7_canStand 53 = .ok (.bipush 40, 2) := by decide +kernel
theorem dX7_canStand_55 : decode cX7_canStand 55 = .ok (.if_icmp .ge 48, 3) := by decide +kernel
theorem dX7_canStand_58 : decode cX7_canStand 58 = .ok (.iload 5, 2) := by decide +kernel
theorem dX7_canStand_60 : decode cX7_canStand 60 = .ok (.ifCond .eq 34, 3) := by decide +kernel
theorem dX7_canStand_94 : decode cX7_canStand 94 = .ok (.iconst 0, 1) := by decide +kernel
theorem dX7_canStand_95 : decode cX7_canStand 95 = .ok (.istore 5, 2) := by decide +kernel
theorem dX7_canStand_97 : decode cX7_canStand 97 = .ok (.iinc 6 1, 3) := by decide +kernel
theorem dX7_canStand_100 : decode cX7_canStand 100 = .ok (.goto (-49), 3) := by decide +kernel
theorem dX7_canStand_63 : decode cX7_canStand 63 = .ok (.aload_n 0, 1) := by decide +kernel
theorem dX7_canStand_64 : decode cX7_canStand 64 = .ok (.getfield 37, 3) := by decide +kernel
theorem dX7_canStand_67 : decode cX7_canStand 67 = .ok (.iload 4, 2) := by decide +kernel
theorem dX7_canStand_69 : decode cX7_canStand 69 = .ok (.laload, 1) := by decide +kernel
theorem dX7_canStand_70 : decode cX7_canStand 70 = .ok (.iload 6, 2) := by decide +kernel
theorem dX7_canStand_72 : decode cX7_canStand 72 = .ok (.lshr, 1) := by decide +kernel
theorem dX7_canStand_73 : decode cX7_canStand 73 = .ok (.lconst 1, 1) := by decide +kernel
theorem dX7_canStand_74 : decode cX7_canStand 74 = .ok (.land, 1) := by decide +kernel
theorem dX7_canStand_75 : decode cX7_canStand 75 = .ok (.lconst 0, 1) := by decide +kernel
theorem dX7_canStand_76 : decode cX7_canStand 76 = .ok (.lcmp, 1) := by decide +kernel
theorem dX7_canStand_77 : decode cX7_canStand 77 = .ok (.ifCond .eq 13, 3) := by decide +kernel
theorem dX7_canStand_90 : decode cX7_canStand 90 = .ok (.iconst 1, 1) := by decide +kernel
theorem dX7_canStand_91 : decode cX7_canStand 91 = .ok (.goto 4, 3) := by decide +kernel
theorem dX7_canStand_80 : decode cX7_canStand 80 = .ok (.aload_n 0, 1) := by decide +kernel
theorem dX7_canStand_81 : decode cX7_canStand 81 = .ok (.getfield 81, 3) := by decide +kernel
theorem dX7_canStand_84 : decode cX7_canStand 84 = .ok (.iload 6, 2) := by decide +kernel
theorem dX7_canStand_86 : decode cX7_canStand 86 = .ok (.baload, 1) := by decide +kernel
theorem dX7_canStand_87 : decode cX7_canStand 87 = .ok (.ifCond .eq 7, 3) := by decide +kernel
theorem dX7_canStand_4 : decode cX7_canStand 4 = .ok (.iload_n 3, 1) := by decide +kernel
theorem dX7_canStand_5 : decode cX7_canStand 5 = .ok (.bipush 12, 2) := by decide +kernel
theorem dX7_canStand_7 : decode cX7_canStand 7 = .ok (.if_icmp .ge 117, 3) := by decide +kernel
theorem dX7_canStand_10 : decode cX7_canStand 10 = .ok (.aload_n 0, 1) := by decide +kernel
theorem dX7_canStand_11 : decode cX7_canStand 11 = .ok (.getfield 72, 3) := by decide +kernel
theorem dX7_canStand_14 : decode cX7_canStand 14 = .ok (.bipush 40, 2) := by decide +kernel
theorem dX7_canStand_16 : decode cX7_canStand 16 = .ok (.iload_n 3, 1) := by decide +kernel
theorem dX7_canStand_17 : decode cX7_canStand 17 = .ok (.imul, 1) := by decide +kernel
theorem dX7_canStand_18 : decode cX7_canStand 18 = .ok (.iload_n 1, 1) := by decide +kernel
theorem dX7_canStand_19 : decode cX7_canStand 19 = .ok (.iadd, 1) := by decide +kernel
theorem dX7_canStand_20 : decode cX7_canStand 20 = .ok (.iaload, 1) := by decide +kernel
theorem dX7_canStand_21 : decode cX7_canStand 21 = .ok (.istore 4, 2) := by decide +kernel
theorem dX7_canStand_23 : decode cX7_canStand 23 = .ok (.iload 4, 2) := by decide +kernel
theorem dX7_canStand_25 : decode cX7_canStand 25 = .ok (.iconst (-1), 1) := by decide +kernel
theorem dX7_canStand_26 : decode cX7_canStand 26 = .ok (.if_icmp .ne 6, 3) := by decide +kernel
theorem dX7_canStand_29 : decode cX7_canStand 29 = .ok (.goto 89, 3) := by decide +kernel
theorem dX7_canStand_118 : decode cX7_canStand 118 = .ok (.iinc 3 1, 3) := by decide +kernel
theorem dX7_canStand_121 : decode cX7_canStand 121 = .ok (.goto (-117), 3) := by decide +kernel
theorem dX7_canStand_32 : decode cX7_canStand 32 = .ok (.aload_n 0, 1) := by decide +kernel
theorem dX7_canStand_33 : decode cX7_canStand 33 = .ok (.getfield 22, 3) := by decide +kernel
theorem dX7_canStand_36 : decode cX7_canStand 36 = .ok (.iload 4, 2) := by decide +kernel
theorem dX7_canStand_38 : decode cX7_canStand 38 = .ok (.iaload, 1) := by decide +kernel
theorem dX7_canStand_39 : decode cX7_canStand 39 = .ok (.iconst 5, 1) := by decide +kernel
theorem dX7_canStand_40 : decode cX7_canStand 40 = .ok (.if_icmp .ne 5, 3) := by decide +kernel
theorem dX7_canStand_45 : decode cX7_canStand 45 = .ok (.iconst 1, 1) := by decide +kernel
theorem dX7_canStand_46 : decode cX7_canStand 46 = .ok (.istore 5, 2) := by decide +kernel
theorem dX7_canStand_48 : decode cX7_canStand 48 = .ok (.iconst 0, 1) := by decide +kernel
theorem dX7_canStand_49 : decode cX7_canStand 49 = .ok (.istore 6, 2) := by decide +kernel
theorem dX7_canStand_103 : decode cX7_canStand 103 = .ok (.iload_n 2, 1) := by decide +kernel
theorem dX7_canStand_104 : decode cX7_canStand 104 = .ok (.ifCond .ne 8, 3) := by decide +kernel
theorem dX7_canStand_112 : decode cX7_canStand 112 = .ok (.iconst 1, 1) := by decide +kernel
theorem dX7_canStand_113 : decode cX7_canStand 113 = .ok (.goto 4, 3) := by decide +kernel
theorem dX7_canStand_117 : decode cX7_canStand 117 = .ok (.istore_n 2, 1) := by decide +kernel
theorem dX7_canStand_107 : decode cX7_canStand 107 = .ok (.iload 5, 2) := by decide +kernel
theorem dX7_canStand_109 : decode cX7_canStand 109 = .ok (.ifCond .eq 7, 3) := by decide +kernel
theorem dX7_canStand_116 : decode cX7_canStand 116 = .ok (.iconst 0, 1) := by decide +kernel
theorem dX7_canStand_0 : decode cX7_canStand 0 = .ok (.iconst 0, 1) := by decide +kernel
theorem dX7_canStand_1 : decode cX7_canStand 1 = .ok (.istore_n 2, 1) := by decide +kernel
theorem dX7_canStand_2 : decode cX7_canStand 2 = .ok (.iconst 0, 1) := by decide +kernel
theorem dX7_canStand_3 : decode cX7_canStand 3 = .ok (.istore_n 3, 1) := by decide +kernel
theorem dX7_canStand_43 : decode cX7_canStand 43 = .ok (.iconst 0, 1) := by decide +kernel
theorem dX7_canStand_44 : decode cX7_canStand 44 = .ok (.ireturn, 1) := by decide +kernel
theorem dX7_canStand_124 : decode cX7_canStand 124 = .ok (.iload_n 2, 1) := by decide +kernel
theorem dX7_canStand_125 : decode cX7_canStand 125 = .ok (.ireturn, 1) := by decide +kernel
def wp_X7_canStand : List Cond := .code yX7_canStand cX7_canStand 7 (some .boolean) :: (([.fieldLink RX7 72 "AgreedTalksModel" "words" "[I", .fieldLink RX7 22 "AgreedTalksModel" "kinds" "[I", .fieldLink RX7 37 "AgreedTalksModel" "grounds" "[J", .fieldLink RX7 81 "AgreedTalksModel" "stands" "[Z"] : List Cond) ++ wsX70)
set_option maxRecDepth 20000 in
theorem gi_X7_canStand : GoodIn lw_tbl wp_X7_canStand := (goodIn_ca (goodIn_r (.code yX7_canStand cX7_canStand 7 (some .boolean) :: ([.fieldLink RX7 72 "AgreedTalksModel" "words" "[I", .fieldLink RX7 22 "AgreedTalksModel" "kinds" "[I", .fieldLink RX7 37 "AgreedTalksModel" "grounds" "[J", .fieldLink RX7 81 "AgreedTalksModel" "stands" "[Z"] : List Cond)) [950, 710, 681, 686, 713] (by decide +kernel) (by decide +kernel)) wi_wsX7)
set_option maxHeartbeats 4000000 in
set_option maxRecDepth 100000 in
theorem sg_X7_canStand_51 {p : Program} {l : Launch} {e : Env} {s : State} {m : MethodId} {args : Array Value} {below : List Frame} {meth : Method} {c : Code} {Q : State → Prop} {A : Nat → Prop} {dC : Nat → ClassId} {dI : Nat → Nat → Nat} (h0 : Nat) (b3 : Nat) (b4 : Nat) (b6 : Nat) (b7 : Nat) (b8 : Nat) (b9 : Nat) (b10 : Nat) (b11 : Nat) (b12 : Nat) (b13 : Nat) (b15 : Nat) (b16 : Nat) (b17 : Nat) (b18 : Nat) (b19 : Nat) (b20 : Nat) (b21 : Nat) (b34 : Nat) (b35 : Nat) (b37 : Nat) (b38 : Nat) (b39 : Nat) (b40 : Nat) (b41 : Nat) (i0 : Int32) (i1 : Int32) (mk : Nat) (rk : Nat) (nl : Nat) (tp : Nat) (i23 : Int32) (i24 : Int32) (i25 : Int32) (w26 : Int64) (i27 : Int32) (i28 : Int32) (i29 : Int32) (i30 : Int32) (i31 : Int32) (i32 : Int32) (i33 : Int32) (tm : Nat) (cl : Nat) (cW : ClassId) (fw : Nat → Int32) (cK : ClassId) (fk : Nat → Int32) (cG : ClassId) (fg : Nat → Int64) (cZ : ClassId) (fz : Nat → Int32) (p9 : Nat) (ca : Int32) (w9 : Nat) (qc : cl < 40) (hW : okC fw 480 800) (hx : p.tables.exec = Jvm.exec) (hb : c.code = cX7_canStand) (hml : c.maxLocals = 7) (hown : s.vm.findClass RX7 = some m.cls) (hts : ∀ w ∈ wp_X7_canStand, w.before args s = true) (hK : va_K (dC, dI) vwCl [(cW, .int), (cK, .int), (cG, .long), (cZ, .boolean)] s) (hA : ∀ q : Nat, s.heap.size ≤ q → A q) (kk_103 : ∀ (al : Int32) (H : Heap) (locs : List Loc) (ls : Array Slot), (p9 < 12) → (ca = 0 ∨ ca = 1) → okPD (dC, dI) vwCl A [(h0, .inr (8, [.int i0, .int i1, .int (nI mk), .ref b3, .ref b4, .int (nI rk), .ref b6, .ref b7, .ref b8, .ref b9, .ref b10, .ref b11, .ref b12, .ref b13, .int (nI nl), .ref b15, .ref b16, .ref b17, .ref b18, .ref b19, .ref b20, .ref b21, .int (nI tp), .int i23, .int i24, .int i25, .long w26, .int i27, .int i28, .int i29, .int i30, .int i31, .int i32, .int i33, .ref b34, .ref b35, .int (nI tm), .ref b37, .ref b38, .ref b39, .ref b40, .ref b41])), (b37, .inl (cW, 480, .inl fw)), (b8, .inl (cK, 800, .inl fk)), (b13, .inl (cG, 800, .inr (.inl fg))), (b40, .inl (cZ, 40, .inl fz))] H → va_S A s.heap H locs → lv_has ls 7 [(0, .ref h0), (1, .int (nI cl)), (2, .int ca), (3, .int (nI p9)), (5, .int al)] → W p l e ({ frames := 0, cells := 0, slots := 0, locals := 0 } : Room) s m args below meth c H locs 0 0 Q (F0 m 103 ls [])) : ∀ (n : Nat) (c9 : Nat) (al : Int32) (H : Heap) (locs : List Loc) (ls : Array Slot), 40 - c9 < n → (p9 < 12) → (ca = 0 ∨ ca = 1) → (w9 < 800) → (c9 ≤ 40) → okPD (dC, dI) vwCl A [(h0, .inr (8, [.int i0, .int i1, .int (nI mk), .ref b3, .ref b4, .int (nI rk), .ref b6, .ref b7, .ref b8, .ref b9, .ref b10, .ref b11, .ref b12, .ref b13, .int (nI nl), .ref b15, .ref b16, .ref b17, .ref b18, .ref b19, .ref b20, .ref b21, .int (nI tp), .int i23, .int i24, .int i25, .long w26, .int i27, .int i28, .int i29, .int i30, .int i31, .int i32, .int i33, .ref b34, .ref b35, .int (nI tm), .ref b37, .ref b38, .ref b39, .ref b40, .ref b41])), (b37, .inl (cW, 480, .inl fw)), (b8, .inl (cK, 800, .inl fk)), (b13, .inl (cG, 800, .inr (.inl fg))), (b40, .inl (cZ, 40, .inl fz))] H → va_S A s.heap H locs → lv_has ls 7 [(0, .ref h0), (1, .int (nI cl)), (2, .int ca), (3, .int (nI p9)), (4, .int (nI w9)), (5, .int al), (6, .int (nI c9))] → W p l e ({ frames := 0, cells := 0, slots := 0, locals := 0 } : Room) s m args below meth c H locs 0 0 Q (F0 m 51 ls []) := by
  have hinX7 : ∀ w ∈ u_ws RX7 TX7 42, w ∈ wp_X7_canStand := fun _ h => List.mem_cons_of_mem _ (List.mem_append_right _ h)
  intro n
  induction n with
  | zero =>
    intro c9 al H locs ls hn
    exact absurd hn (Nat.not_lt_zero _)
  | succ n ih =>
    intro c9 al H locs ls hn hp hca hw9 hc hPD hS hl
    obtain ⟨hP, hD⟩ := hPD
    refine lv_iload hx hb dX7_canStand_51 (lv_at hl 6 rfl) ?_
    refine lv_bipush (v := 40) hx hb dX7_canStand_53 (by decide) ?_
    refine lv_icmp_ge (tgt := 103) hx hb dX7_canStand_55 (by decide) (fun c_10 => ?_) (fun c_10 => ?_)
    · have c_10 : 40 ≤ c9 := (nI_leI (a := 40) (b := c9) (by omega) (by omega)).mp c_10
      exact kk_103 al _ _ _ (by omega) hca ⟨hP, hD⟩ hS (lv_sub hl [0, 1, 2, 3, 5] rfl)
    · have c_10 : ¬ (40 ≤ c9) := fun h => c_10 ((nI_leI (a := 40) (b := c9) (by omega) (by omega)).mpr h)
      refine lv_iload hx hb dX7_canStand_58 (lv_at hl 5 rfl) ?_
      refine lv_if_eq (tgt := 94) hx hb dX7_canStand_60 (by decide) (fun c_11 => ?_) (fun c_11 => ?_)
      · refine lv_iconst (v := 0) hx hb dX7_canStand_94 (by decide) ?_
        refine lv_istore (lv' := [(5, .int 0), (0, .ref h0), (1, .int (nI cl)), (2, .int ca), (3, .int (nI p9)), (4, .int (nI w9)), (6, .int (nI c9))]) hx hb dX7_canStand_95 hl (by decide) rfl (fun ls hl => ?_)
        refine lv_iinc (v := (nI (c9 + 1))) (lv' := [(6, .int (nI (c9 + 1))), (5, .int 0), (0, .ref h0), (1, .int (nI cl)), (2, .int ca), (3, .int (nI p9)), (4, .int (nI w9))]) hx hb dX7_canStand_97 hl (k := 6) rfl (nI_1 _) (by decide) rfl (fun ls hl => ?_)
        refine lv_goto (tgt := 51) hx hb dX7_canStand_100 (by decide) ?_
        exact ih (c9 + 1) 0 _ _ _ (by omega) (by omega) hca (by omega) (by omega) ⟨hP, hD⟩ hS (lv_sub hl [2, 3, 4, 5, 6, 1, 0] rfl)
      · refine lv_aload_n hx hb dX7_canStand_63 rfl (lv_at hl 0 rfl) ?_
        refine va_get (D := (dC, dI)) (ci := 8) (v := .ref b13) (C := RX7) (T := TX7) (N := 42) hx hb hts hinX7 hown hK hP 0 rfl rfl 13 (by decide) (hts (.fieldLink RX7 37 "AgreedTalksModel" "grounds" "[J") (by decide +kernel)) (fun _ h9 => h9) rfl dX7_canStand_64 ?_
        refine lv_iload hx hb dX7_canStand_67 (lv_at hl 4 rfl) ?_
        refine va_lald hx hb hK hP 3 2 rfl rfl (vp_in_nI (by omega) (by omega)) dX7_canStand_69 ?_
        refine lv_topl (fun x_12 ex_12 => ?_)
        refine lv_iload hx hb dX7_canStand_70 (lv_at hl 6 rfl) ?_
        refine lv_lshr hx hb dX7_canStand_72 rfl ?_
        refine lv_topl (fun x_13 ex_13 => ?_)
        refine lv_lconst (v := 1) hx hb dX7_canStand_73 (by decide) ?_
        refine lv_land hx hb dX7_canStand_74 ?_
        refine lv_topl (fun x_14 ex_14 => ?_)
        refine lv_lconst (v := 0) hx hb dX7_canStand_75 (by decide) ?_
        refine W.lcmp hx hb dX7_canStand_76 ?_
        refine lv_if_eq (tgt := 90) hx hb dX7_canStand_77 (by decide) (fun c_15 => ?_) (fun c_15 => ?_)
        · have c_15 : x_14 = 0 := (lg_cmp_eq _ _).mp c_15
          refine lv_iconst (v := 1) hx hb dX7_canStand_90 (by decide) ?_
          refine lv_goto (tgt := 95) hx hb dX7_canStand_91 (by decide) ?_
          refine lv_istore (lv' := [(5, .int 1), (0, .ref h0), (1, .int (nI cl)), (2, .int ca), (3, .int (nI p9)), (4, .int (nI w9)), (6, .int (nI c9))]) hx hb dX7_canStand_95 hl (by decide) rfl (fun ls hl => ?_)
          refine lv_iinc (v := (nI (c9 + 1))) (lv' := [(6, .int (nI (c9 + 1))), (5, .int 1), (0, .ref h0), (1, .int (nI cl)), (2, .int ca), (3, .int (nI p9)), (4, .int (nI w9))]) hx hb dX7_canStand_97 hl (k := 6) rfl (nI_1 _) (by decide) rfl (fun ls hl => ?_)
          refine lv_goto (tgt := 51) hx hb dX7_canStand_100 (by decide) ?_
          exact ih (c9 + 1) 1 _ _ _ (by omega) (by omega) hca (by omega) (by omega) ⟨hP, hD⟩ hS (lv_sub hl [2, 3, 4, 5, 6, 1, 0] rfl)
        · have c_15 : ¬ (x_14 = 0) := fun h => c_15 ((lg_cmp_eq _ _).mpr h)
          refine lv_aload_n hx hb dX7_canStand_80 rfl (lv_at hl 0 rfl) ?_
          refine va_get (D := (dC, dI)) (ci := 8) (v := .ref b40) (C := RX7) (T := TX7) (N := 42) hx hb hts hinX7 hown hK hP 0 rfl rfl 40 (by decide) (hts (.fieldLink RX7 81 "AgreedTalksModel" "stands" "[Z") (by decide +kernel)) (fun _ h9 => h9) rfl dX7_canStand_81 ?_
          refine lv_iload hx hb dX7_canStand_84 (lv_at hl 6 rfl) ?_
          refine va_zald hx hb hK hP 4 3 rfl rfl (vp_in_nI (by omega) (by omega)) dX7_canStand_86 ?_
          refine lv_topi (fun x_16 ex_16 => ?_)
          rw [show (Int32.toNatClampNeg (nI c9)) = c9 from nI_clamp (by omega)] at ex_16
          refine lv_if_eq (tgt := 94) hx hb dX7_canStand_87 (by decide) (fun c_17 => ?_) (fun c_17 => ?_)
          · refine lv_iconst (v := 0) hx hb dX7_canStand_94 (by decide) ?_
            refine lv_istore (lv' := [(5, .int 0), (0, .ref h0), (1, .int (nI cl)), (2, .int ca), (3, .int (nI p9)), (4, .int (nI w9)), (6, .int (nI c9))]) hx hb dX7_canStand_95 hl (by decide) rfl (fun ls hl => ?_)
            refine lv_iinc (v := (nI (c9 + 1))) (lv' := [(6, .int (nI (c9 + 1))), (5, .int 0), (0, .ref h0), (1, .int (nI cl)), (2, .int ca), (3, .int (nI p9)), (4, .int (nI w9))]) hx hb dX7_canStand_97 hl (k := 6) rfl (nI_1 _) (by decide) rfl (fun ls hl => ?_)
            refine lv_goto (tgt := 51) hx hb dX7_canStand_100 (by decide) ?_
            exact ih (c9 + 1) 0 _ _ _ (by omega) (by omega) hca (by omega) (by omega) ⟨hP, hD⟩ hS (lv_sub hl [2, 3, 4, 5, 6, 1, 0] rfl)
          · refine lv_iconst (v := 1) hx hb dX7_canStand_90 (by decide) ?_
            refine lv_goto (tgt := 95) hx hb dX7_canStand_91 (by decide) ?_
            refine lv_istore (lv' := [(5, .int 1), (0, .ref h0), (1, .int (nI cl)), (2, .int ca), (3, .int (nI p9)), (4, .int (nI w9)), (6, .int (nI c9))]) hx hb dX7_canStand_95 hl (by decide) rfl (fun ls hl => ?_)
            refine lv_iinc (v := (nI (c9 + 1))) (lv' := [(6, .int (nI (c9 + 1))), (5, .int 1), (0, .ref h0), (1, .int (nI cl)), (2, .int ca), (3, .int (nI p9)), (4, .int (nI w9))]) hx hb dX7_canStand_97 hl (k := 6) rfl (nI_1 _) (by decide) rfl (fun ls hl => ?_)
            refine lv_goto (tgt := 51) hx hb dX7_canStand_100 (by decide) ?_
            exact ih (c9 + 1) 1 _ _ _ (by omega) (by omega) hca (by omega) (by omega) ⟨hP, hD⟩ hS (lv_sub hl [2, 3, 4, 5, 6, 1, 0] rfl)
set_option maxHeartbeats 4000000 in
set_option maxRecDepth 100000 in
theorem sg_X7_canStand_4 {p : Program} {l : Launch} {e : Env} {s : State} {m : MethodId} {args : Array Value} {below : List Frame} {meth : Method} {c : Code} {Q : State → Prop} {A : Nat → Prop} {dC : Nat → ClassId} {dI : Nat → Nat → Nat} (h0 : Nat) (b3 : Nat) (b4 : Nat) (b6 : Nat) (b7 : Nat) (b8 : Nat) (b9 : Nat) (b10 : Nat) (b11 : Nat) (b12 : Nat) (b13 : Nat) (b15 : Nat) (b16 : Nat) (b17 : Nat) (b18 : Nat) (b19 : Nat) (b20 : Nat) (b21 : Nat) (b34 : Nat) (b35 : Nat) (b37 : Nat) (b38 : Nat) (b39 : Nat) (b40 : Nat) (b41 : Nat) (i0 : Int32) (i1 : Int32) (mk : Nat) (rk : Nat) (nl : Nat) (tp : Nat) (i23 : Int32) (i24 : Int32) (i25 : Int32) (w26 : Int64) (i27 : Int32) (i28 : Int32) (i29 : Int32) (i30 : Int32) (i31 : Int32) (i32 : Int32) (i33 : Int32) (tm : Nat) (cl : Nat) (cW : ClassId) (fw : Nat → Int32) (cK : ClassId) (fk : Nat → Int32) (cG : ClassId) (fg : Nat → Int64) (cZ : ClassId) (fz : Nat → Int32) (qc : cl < 40) (hW : okC fw 480 800) (hx : p.tables.exec = Jvm.exec) (hb : c.code = cX7_canStand) (hml : c.maxLocals = 7) (hown : s.vm.findClass RX7 = some m.cls) (hts : ∀ w ∈ wp_X7_canStand, w.before args s = true) (hK : va_K (dC, dI) vwCl [(cW, .int), (cK, .int), (cG, .long), (cZ, .boolean)] s) (hA : ∀ q : Nat, s.heap.size ≤ q → A q) (kk_43 : ∀ (H : Heap) (locs : List Loc) (ls : Array Slot), okPD (dC, dI) vwCl A [(h0, .inr (8, [.int i0, .int i1, .int (nI mk), .ref b3, .ref b4, .int (nI rk), .ref b6, .ref b7, .ref b8, .ref b9, .ref b10, .ref b11, .ref b12, .ref b13, .int (nI nl), .ref b15, .ref b16, .ref b17, .ref b18, .ref b19, .ref b20, .ref b21, .int (nI tp), .int i23, .int i24, .int i25, .long w26, .int i27, .int i28, .int i29, .int i30, .int i31, .int i32, .int i33, .ref b34, .ref b35, .int (nI tm), .ref b37, .ref b38, .ref b39, .ref b40, .ref b41])), (b37, .inl (cW, 480, .inl fw)), (b8, .inl (cK, 800, .inl fk)), (b13, .inl (cG, 800, .inr (.inl fg))), (b40, .inl (cZ, 40, .inl fz))] H → va_S A s.heap H locs → lv_has ls 7 [(0, .ref h0)] → W p l e ({ frames := 0, cells := 0, slots := 0, locals := 0 } : Room) s m args below meth c H locs 0 0 Q (F0 m 43 ls [])) (kk_124 : ∀ (ca : Int32) (H : Heap) (locs : List Loc) (ls : Array Slot), (ca = 0 ∨ ca = 1) → okPD (dC, dI) vwCl A [(h0, .inr (8, [.int i0, .int i1, .int (nI mk), .ref b3, .ref b4, .int (nI rk), .ref b6, .ref b7, .ref b8, .ref b9, .ref b10, .ref b11, .ref b12, .ref b13, .int (nI nl), .ref b15, .ref b16, .ref b17, .ref b18, .ref b19, .ref b20, .ref b21, .int (nI tp), .int i23, .int i24, .int i25, .long w26, .int i27, .int i28, .int i29, .int i30, .int i31, .int i32, .int i33, .ref b34, .ref b35, .int (nI tm), .ref b37, .ref b38, .ref b39, .ref b40, .ref b41])), (b37, .inl (cW, 480, .inl fw)), (b8, .inl (cK, 800, .inl fk)), (b13, .inl (cG, 800, .inr (.inl fg))), (b40, .inl (cZ, 40, .inl fz))] H → va_S A s.heap H locs → lv_has ls 7 [(0, .ref h0), (2, .int ca)] → W p l e ({ frames := 0, cells := 0, slots := 0, locals := 0 } : Room) s m args below meth c H locs 0 0 Q (F0 m 124 ls [])) : ∀ (n : Nat) (p9 : Nat) (ca : Int32) (H : Heap) (locs : List Loc) (ls : Array Slot), 12 - p9 < n → (p9 ≤ 12) → (ca = 0 ∨ ca = 1) → okPD (dC, dI) vwCl A [(h0, .inr (8, [.int i0, .int i1, .int (nI mk), .ref b3, .ref b4, .int (nI rk), .ref b6, .ref b7, .ref b8, .ref b9, .ref b10, .ref b11, .ref b12, .ref b13, .int (nI nl), .ref b15, .ref b16, .ref b17, .ref b18, .ref b19, .ref b20, .ref b21, .int (nI tp), .int i23, .int i24, .int i25, .long w26, .int i27, .int i28, .int i29, .int i30, .int i31, .int i32, .int i33, .ref b34, .ref b35, .int (nI tm), .ref b37, .ref b38, .ref b39, .ref b40, .ref b41])), (b37, .inl (cW, 480, .inl fw)), (b8, .inl (cK, 800, .inl fk)), (b13, .inl (cG, 800, .inr (.inl fg))), (b40, .inl (cZ, 40, .inl fz))] H → va_S A s.heap H locs → lv_has ls 7 [(0, .ref h0), (1, .int (nI cl)), (2, .int ca), (3, .int (nI p9))] → W p l e ({ frames := 0, cells := 0, slots := 0, locals := 0 } : Room) s m args below meth c H locs 0 0 Q (F0 m 4 ls []) := by
  have hinX7 : ∀ w ∈ u_ws RX7 TX7 42, w ∈ wp_X7_canStand := fun _ h => List.mem_cons_of_mem _ (List.mem_append_right _ h)
  intro n
  induction n with
  | zero =>
    intro p9 ca H locs ls hn
    exact absurd hn (Nat.not_lt_zero _)
  | succ n ih =>
    intro p9 ca H locs ls hn hp hca hPD hS hl
    obtain ⟨hP, hD⟩ := hPD
    refine lv_iload_n hx hb dX7_canStand_4 rfl (lv_at hl 3 rfl) ?_
    refine lv_bipush (v := 12) hx hb dX7_canStand_5 (by decide) ?_
    refine lv_icmp_ge (tgt := 124) hx hb dX7_canStand_7 (by decide) (fun c_1 => ?_) (fun c_1 => ?_)
    · have c_1 : 12 ≤ p9 := (nI_leI (a := 12) (b := p9) (by omega) (by omega)).mp c_1
      exact kk_124 ca _ _ _ hca ⟨hP, hD⟩ hS (lv_sub hl [0, 2] rfl)
    · have c_1 : ¬ (12 ≤ p9) := fun h => c_1 ((nI_leI (a := 12) (b := p9) (by omega) (by omega)).mpr h)
      refine lv_aload_n hx hb dX7_canStand_10 rfl (lv_at hl 0 rfl) ?_
      refine va_get (D := (dC, dI)) (ci := 8) (v := .ref b37) (C := RX7) (T := TX7) (N := 42) hx hb hts hinX7 hown hK hP 0 rfl rfl 37 (by decide) (hts (.fieldLink RX7 72 "AgreedTalksModel" "words" "[I") (by decide +kernel)) (fun _ h9 => h9) rfl dX7_canStand_11 ?_
      refine lv_bipush (v := 40) hx hb dX7_canStand_14 (by decide) ?_
      refine lv_iload_n hx hb dX7_canStand_16 rfl (lv_at hl 3 rfl) ?_
      refine lv_imul hx hb dX7_canStand_17 ?_
      refine lv_topi (fun x_2 ex_2 => ?_)
      obtain rfl : x_2 = (nI (40 * p9)) := by rw [ex_2]; exact pk_mul _ _
      refine lv_iload_n hx hb dX7_canStand_18 rfl (lv_at hl 1 rfl) ?_
      refine lv_iadd hx hb dX7_canStand_19 ?_
      refine lv_topi (fun x_3 ex_3 => ?_)
      obtain rfl : x_3 = (nI (40 * p9 + cl)) := by rw [ex_3]; exact nI_add _ _
      refine va_iald hx hb hK hP 1 0 rfl rfl (vp_in_nI (by omega) (by omega)) dX7_canStand_20 ?_
      refine lv_topi (fun x_4 ex_4 => ?_)
      rw [show (Int32.toNatClampNeg (nI (40 * p9 + cl))) = 40 * p9 + cl from nI_clamp (by omega)] at ex_4
      rcases hW (40 * p9 + cl) (by omega) with hvn_5 | ⟨n_5, hn_5, hvn_5⟩
      · rw [hvn_5] at ex_4
        subst ex_4
        refine lv_istore (lv' := [(4, .int (-1)), (0, .ref h0), (1, .int (nI cl)), (2, .int ca), (3, .int (nI p9))]) hx hb dX7_canStand_21 hl (by decide) rfl (fun ls hl => ?_)
        refine lv_iload hx hb dX7_canStand_23 (lv_at hl 0 rfl) ?_
        refine lv_iconst (v := (-1)) hx hb dX7_canStand_25 (by decide) ?_
        refine lv_icmp_ne (tgt := 32) hx hb dX7_canStand_26 (by decide) (fun c_6 => ?_) (fun c_6 => ?_)
        · exact absurd c_6 (by decide)
        · refine lv_goto (tgt := 118) hx hb dX7_canStand_29 (by decide) ?_
          refine lv_iinc (v := (nI (p9 + 1))) (lv' := [(3, .int (nI (p9 + 1))), (4, .int (-1)), (0, .ref h0), (1, .int (nI cl)), (2, .int ca)]) hx hb dX7_canStand_118 hl (k := 4) rfl (nI_1 _) (by decide) rfl (fun ls hl => ?_)
          refine lv_goto (tgt := 4) hx hb dX7_canStand_121 (by decide) ?_
          exact ih (p9 + 1) ca _ _ _ (by omega) (by omega) hca ⟨hP, hD⟩ hS (lv_sub hl [2, 3, 4, 0] rfl)
      · rw [hvn_5] at ex_4
        subst ex_4
        refine lv_istore (lv' := [(4, .int (nI n_5)), (0, .ref h0), (1, .int (nI cl)), (2, .int ca), (3, .int (nI p9))]) hx hb dX7_canStand_21 hl (by decide) rfl (fun ls hl => ?_)
        refine lv_iload hx hb dX7_canStand_23 (lv_at hl 0 rfl) ?_
        refine lv_iconst (v := (-1)) hx hb dX7_canStand_25 (by decide) ?_
        refine lv_icmp_ne (tgt := 32) hx hb dX7_canStand_26 (by decide) (fun c_7 => ?_) (fun c_7 => ?_)
        · refine lv_aload_n hx hb dX7_canStand_32 rfl (lv_at hl 1 rfl) ?_
          refine va_get (D := (dC, dI)) (ci := 8) (v := .ref b8) (C := RX7) (T := TX7) (N := 42) hx hb hts hinX7 hown hK hP 0 rfl rfl 8 (by decide) (hts (.fieldLink RX7 22 "AgreedTalksModel" "kinds" "[I") (by decide +kernel)) (fun _ h9 => h9) rfl dX7_canStand_33 ?_
          refine lv_iload hx hb dX7_canStand_36 (lv_at hl 0 rfl) ?_
          refine va_iald hx hb hK hP 2 1 rfl rfl (vp_in_nI (by omega) (by omega)) dX7_canStand_38 ?_
          refine lv_topi (fun x_8 ex_8 => ?_)
          rw [show (Int32.toNatClampNeg (nI n_5)) = n_5 from nI_clamp (by omega)] at ex_8
          refine lv_iconst (v := 5) hx hb dX7_canStand_39 (by decide) ?_
          refine lv_icmp_ne (tgt := 45) hx hb dX7_canStand_40 (by decide) (fun c_9 => ?_) (fun c_9 => ?_)
          · refine lv_iconst (v := 1) hx hb dX7_canStand_45 (by decide) ?_
            refine lv_istore (lv' := [(5, .int 1), (4, .int (nI n_5)), (0, .ref h0), (1, .int (nI cl)), (2, .int ca), (3, .int (nI p9))]) hx hb dX7_canStand_46 hl (by decide) rfl (fun ls hl => ?_)
            refine lv_iconst (v := 0) hx hb dX7_canStand_48 (by decide) ?_
            refine lv_istore (lv' := [(6, .int 0), (5, .int 1), (4, .int (nI n_5)), (0, .ref h0), (1, .int (nI cl)), (2, .int ca), (3, .int (nI p9))]) hx hb dX7_canStand_49 hl (by decide) rfl (fun ls hl => ?_)
            refine sg_X7_canStand_51 h0 b3 b4 b6 b7 b8 b9 b10 b11 b12 b13 b15 b16 b17 b18 b19 b20 b21 b34 b35 b37 b38 b39 b40 b41 i0 i1 mk rk nl tp i23 i24 i25 w26 i27 i28 i29 i30 i31 i32 i33 tm cl cW fw cK fk cG fg cZ fz p9 ca n_5 qc hW hx hb hml hown hts hK hA (fun al_18 H locs ls hp hca hPD hS hl => ?_) ((40 - 0) + 1) 0 1 _ _ _ (Nat.lt_succ_self _) (by omega) hca (by omega) (by omega) ⟨hP, hD⟩ hS (lv_sub hl [3, 4, 5, 6, 2, 1, 0] rfl)
            obtain ⟨hP, hD⟩ := hPD
            refine lv_iload_n hx hb dX7_canStand_103 rfl (lv_at hl 2 rfl) ?_
            refine lv_if_ne (tgt := 112) hx hb dX7_canStand_104 (by decide) (fun c_19 => ?_) (fun c_19 => ?_)
            · refine lv_iconst (v := 1) hx hb dX7_canStand_112 (by decide) ?_
              refine lv_goto (tgt := 117) hx hb dX7_canStand_113 (by decide) ?_
              refine lv_istore_n (lv' := [(2, .int 1), (0, .ref h0), (1, .int (nI cl)), (3, .int (nI p9)), (5, .int al_18)]) hx hb dX7_canStand_117 rfl hl (by decide) rfl (fun ls hl => ?_)
              refine lv_iinc (v := (nI (p9 + 1))) (lv' := [(3, .int (nI (p9 + 1))), (2, .int 1), (0, .ref h0), (1, .int (nI cl)), (5, .int al_18)]) hx hb dX7_canStand_118 hl (k := 3) rfl (nI_1 _) (by decide) rfl (fun ls hl => ?_)
              refine lv_goto (tgt := 4) hx hb dX7_canStand_121 (by decide) ?_
              exact ih (p9 + 1) 1 _ _ _ (by omega) (by omega) (Or.inr rfl) ⟨hP, hD⟩ hS (lv_sub hl [2, 3, 1, 0] rfl)
            · refine lv_iload hx hb dX7_canStand_107 (lv_at hl 4 rfl) ?_
              refine lv_if_eq (tgt := 116) hx hb dX7_canStand_109 (by decide) (fun c_20 => ?_) (fun c_20 => ?_)
              · refine lv_iconst (v := 0) hx hb dX7_canStand_116 (by decide) ?_
                refine lv_istore_n (lv' := [(2, .int 0), (0, .ref h0), (1, .int (nI cl)), (3, .int (nI p9)), (5, .int al_18)]) hx hb dX7_canStand_117 rfl hl (by decide) rfl (fun ls hl => ?_)
                refine lv_iinc (v := (nI (p9 + 1))) (lv' := [(3, .int (nI (p9 + 1))), (2, .int 0), (0, .ref h0), (1, .int (nI cl)), (5, .int al_18)]) hx hb dX7_canStand_118 hl (k := 3) rfl (nI_1 _) (by decide) rfl (fun ls hl => ?_)
                refine lv_goto (tgt := 4) hx hb dX7_canStand_121 (by decide) ?_
                exact ih (p9 + 1) 0 _ _ _ (by omega) (by omega) (Or.inl rfl) ⟨hP, hD⟩ hS (lv_sub hl [2, 3, 1, 0] rfl)
              · refine lv_iconst (v := 1) hx hb dX7_canStand_112 (by decide) ?_
                refine lv_goto (tgt := 117) hx hb dX7_canStand_113 (by decide) ?_
                refine lv_istore_n (lv' := [(2, .int 1), (0, .ref h0), (1, .int (nI cl)), (3, .int (nI p9)), (5, .int al_18)]) hx hb dX7_canStand_117 rfl hl (by decide) rfl (fun ls hl => ?_)
                refine lv_iinc (v := (nI (p9 + 1))) (lv' := [(3, .int (nI (p9 + 1))), (2, .int 1), (0, .ref h0), (1, .int (nI cl)), (5, .int al_18)]) hx hb dX7_canStand_118 hl (k := 3) rfl (nI_1 _) (by decide) rfl (fun ls hl => ?_)
                refine lv_goto (tgt := 4) hx hb dX7_canStand_121 (by decide) ?_
                exact ih (p9 + 1) 1 _ _ _ (by omega) (by omega) (Or.inr rfl) ⟨hP, hD⟩ hS (lv_sub hl [2, 3, 1, 0] rfl)
          · exact kk_43  _ _ _  ⟨hP, hD⟩ hS (lv_sub hl [1] rfl)
        · exact absurd c_7 (nI_m1 (by omega))
set_option maxHeartbeats 4000000 in
set_option maxRecDepth 100000 in
/-- canStand -/
theorem c_X7_canStand (l : Launch) (dC : Nat → ClassId) (dI : Nat → Nat → Nat) (sz : Nat) (h0 : Nat) (b3 : Nat) (b4 : Nat) (b6 : Nat) (b7 : Nat) (b8 : Nat) (b9 : Nat) (b10 : Nat) (b11 : Nat) (b12 : Nat) (b13 : Nat) (b15 : Nat) (b16 : Nat) (b17 : Nat) (b18 : Nat) (b19 : Nat) (b20 : Nat) (b21 : Nat) (b34 : Nat) (b35 : Nat) (b37 : Nat) (b38 : Nat) (b39 : Nat) (b40 : Nat) (b41 : Nat) (i0 : Int32) (i1 : Int32) (mk : Nat) (rk : Nat) (nl : Nat) (tp : Nat) (i23 : Int32) (i24 : Int32) (i25 : Int32) (w26 : Int64) (i27 : Int32) (i28 : Int32) (i29 : Int32) (i30 : Int32) (i31 : Int32) (i32 : Int32) (i33 : Int32) (tm : Nat) (cl : Nat) (cW : ClassId) (fw : Nat → Int32) (cK : ClassId) (fk : Nat → Int32) (cG : ClassId) (fg : Nat → Int64) (cZ : ClassId) (fz : Nat → Int32) (qc : cl < 40) (hW : okC fw 480 800) : Met l yX7_canStand wp_X7_canStand ({ frames := 0, cells := 0, slots := 0, locals := 0 }) (va_Pc [.ref h0, .int (nI cl)] (fun U => U.heap.size = sz ∧ va_P (dC, dI) vwCl [(h0, .inr (8, [.int i0, .int i1, .int (nI mk), .ref b3, .ref b4, .int (nI rk), .ref b6, .ref b7, .ref b8, .ref b9, .ref b10, .ref b11, .ref b12, .ref b13, .int (nI nl), .ref b15, .ref b16, .ref b17, .ref b18, .ref b19, .ref b20, .ref b21, .int (nI tp), .int i23, .int i24, .int i25, .long w26, .int i27, .int i28, .int i29, .int i30, .int i31, .int i32, .int i33, .ref b34, .ref b35, .int (nI tm), .ref b37, .ref b38, .ref b39, .ref b40, .ref b41])), (b37, .inl (cW, 480, .inl fw)), (b8, .inl (cK, 800, .inl fk)), (b13, .inl (cG, 800, .inr (.inl fg))), (b40, .inl (cZ, 40, .inl fz))] U.heap ∧ va_K (dC, dI) vwCl [(cW, .int), (cK, .int), (cG, .long), (cZ, .boolean)] U ∧ va_D (fun _ => True) [(h0, .inr (8, [.int i0, .int i1, .int (nI mk), .ref b3, .ref b4, .int (nI rk), .ref b6, .ref b7, .ref b8, .ref b9, .ref b10, .ref b11, .ref b12, .ref b13, .int (nI nl), .ref b15, .ref b16, .ref b17, .ref b18, .ref b19, .ref b20, .ref b21, .int (nI tp), .int i23, .int i24, .int i25, .long w26, .int i27, .int i28, .int i29, .int i30, .int i31, .int i32, .int i33, .ref b34, .ref b35, .int (nI tm), .ref b37, .ref b38, .ref b39, .ref b40, .ref b41])), (b37, .inl (cW, 480, .inl fw)), (b8, .inl (cK, 800, .inl fk)), (b13, .inl (cG, 800, .inr (.inl fg))), (b40, .inl (cZ, 40, .inl fz))])) (va_Qi (fun (r : Int32) (_ : Unit) => r = 0 ∨ r = 1) (fun (_ : Unit) (t : State) => va_P (dC, dI) vwCl [(h0, .inr (8, [.int i0, .int i1, .int (nI mk), .ref b3, .ref b4, .int (nI rk), .ref b6, .ref b7, .ref b8, .ref b9, .ref b10, .ref b11, .ref b12, .ref b13, .int (nI nl), .ref b15, .ref b16, .ref b17, .ref b18, .ref b19, .ref b20, .ref b21, .int (nI tp), .int i23, .int i24, .int i25, .long w26, .int i27, .int i28, .int i29, .int i30, .int i31, .int i32, .int i33, .ref b34, .ref b35, .int (nI tm), .ref b37, .ref b38, .ref b39, .ref b40, .ref b41])), (b37, .inl (cW, 480, .inl fw)), (b8, .inl (cK, 800, .inl fk)), (b13, .inl (cG, 800, .inr (.inl fg))), (b40, .inl (cZ, 40, .inl fz))] t.heap ∧ va_K (dC, dI) vwCl [(cW, .int), (cK, .int), (cG, .long), (cZ, .boolean)] t ∧ va_D (va_A [(h0, .inr (8, [.int i0, .int i1, .int (nI mk), .ref b3, .ref b4, .int (nI rk), .ref b6, .ref b7, .ref b8, .ref b9, .ref b10, .ref b11, .ref b12, .ref b13, .int (nI nl), .ref b15, .ref b16, .ref b17, .ref b18, .ref b19, .ref b20, .ref b21, .int (nI tp), .int i23, .int i24, .int i25, .long w26, .int i27, .int i28, .int i29, .int i30, .int i31, .int i32, .int i33, .ref b34, .ref b35, .int (nI tm), .ref b37, .ref b38, .ref b39, .ref b40, .ref b41])), (b37, .inl (cW, 480, .inl fw)), (b8, .inl (cK, 800, .inl fk)), (b13, .inl (cG, 800, .inr (.inl fg))), (b40, .inl (cZ, 40, .inl fz))] sz) [(h0, .inr (8, [.int i0, .int i1, .int (nI mk), .ref b3, .ref b4, .int (nI rk), .ref b6, .ref b7, .ref b8, .ref b9, .ref b10, .ref b11, .ref b12, .ref b13, .int (nI nl), .ref b15, .ref b16, .ref b17, .ref b18, .ref b19, .ref b20, .ref b21, .int (nI tp), .int i23, .int i24, .int i25, .long w26, .int i27, .int i28, .int i29, .int i30, .int i31, .int i32, .int i33, .ref b34, .ref b35, .int (nI tm), .ref b37, .ref b38, .ref b39, .ref b40, .ref b41])), (b37, .inl (cW, 480, .inl fw)), (b8, .inl (cK, 800, .inl fk)), (b13, .inl (cG, 800, .inr (.inl fg))), (b40, .inl (cZ, 40, .inl fz))]) (va_A [(h0, .inr (8, [.int i0, .int i1, .int (nI mk), .ref b3, .ref b4, .int (nI rk), .ref b6, .ref b7, .ref b8, .ref b9, .ref b10, .ref b11, .ref b12, .ref b13, .int (nI nl), .ref b15, .ref b16, .ref b17, .ref b18, .ref b19, .ref b20, .ref b21, .int (nI tp), .int i23, .int i24, .int i25, .long w26, .int i27, .int i28, .int i29, .int i30, .int i31, .int i32, .int i33, .ref b34, .ref b35, .int (nI tm), .ref b37, .ref b38, .ref b39, .ref b40, .ref b41])), (b37, .inl (cW, 480, .inl fw)), (b8, .inl (cK, 800, .inl fk)), (b13, .inl (cG, 800, .inr (.inl fg))), (b40, .inl (cZ, 40, .inl fz))] sz)) 0 0 (va_A [(h0, .inr (8, [.int i0, .int i1, .int (nI mk), .ref b3, .ref b4, .int (nI rk), .ref b6, .ref b7, .ref b8, .ref b9, .ref b10, .ref b11, .ref b12, .ref b13, .int (nI nl), .ref b15, .ref b16, .ref b17, .ref b18, .ref b19, .ref b20, .ref b21, .int (nI tp), .int i23, .int i24, .int i25, .long w26, .int i27, .int i28, .int i29, .int i30, .int i31, .int i32, .int i33, .ref b34, .ref b35, .int (nI tm), .ref b37, .ref b38, .ref b39, .ref b40, .ref b41])), (b37, .inl (cW, 480, .inl fw)), (b8, .inl (cK, 800, .inl fk)), (b13, .inl (cG, 800, .inr (.inl fg))), (b40, .inl (cZ, 40, .inl fz))] sz) := by
  refine Met.ofW (cc := cX7_canStand) (maxL := 7) (ret := (some .boolean)) (by decide) rfl ?_
  intro p e s m args below meth c s₁ B hml hv
  obtain ⟨rfl, hsz, hP, hK, hD0⟩ := hv
  have hx := B.exec
  have hb := B.bytes
  have hr := B.returns
  have hts := atoms_spec (ws := wp_X7_canStand) B.pre
  have hown : s.vm.findClass RX7 = some m.cls := findClass_of_methodNamed B.named
  have hlocks := B.notSynchronized
  subst hsz
  have hD := hD0.self (sz := s.heap.size)
  generalize hAe : va_A [(h0, .inr (8, [.int i0, .int i1, .int (nI mk), .ref b3, .ref b4, .int (nI rk), .ref b6, .ref b7, .ref b8, .ref b9, .ref b10, .ref b11, .ref b12, .ref b13, .int (nI nl), .ref b15, .ref b16, .ref b17, .ref b18, .ref b19, .ref b20, .ref b21, .int (nI tp), .int i23, .int i24, .int i25, .long w26, .int i27, .int i28, .int i29, .int i30, .int i31, .int i32, .int i33, .ref b34, .ref b35, .int (nI tm), .ref b37, .ref b38, .ref b39, .ref b40, .ref b41])), (b37, .inl (cW, 480, .inl fw)), (b8, .inl (cK, 800, .inl fk)), (b13, .inl (cG, 800, .inr (.inl fg))), (b40, .inl (cZ, 40, .inl fz))] s.heap.size = A at hD ⊢
  have hA : ∀ q : Nat, s.heap.size ≤ q → A q := fun q h => by rw [← hAe]; exact Or.inr h
  have hS : va_S A s.heap s.heap [] := va_S.rf
  have hP : va_P (dC, dI) vwCl [(h0, .inr (8, [.int i0, .int i1, .int (nI mk), .ref b3, .ref b4, .int (nI rk), .ref b6, .ref b7, .ref b8, .ref b9, .ref b10, .ref b11, .ref b12, .ref b13, .int (nI nl), .ref b15, .ref b16, .ref b17, .ref b18, .ref b19, .ref b20, .ref b21, .int (nI tp), .int i23, .int i24, .int i25, .long w26, .int i27, .int i28, .int i29, .int i30, .int i31, .int i32, .int i33, .ref b34, .ref b35, .int (nI tm), .ref b37, .ref b38, .ref b39, .ref b40, .ref b41])), (b37, .inl (cW, 480, .inl fw)), (b8, .inl (cK, 800, .inl fk)), (b13, .inl (cG, 800, .inr (.inl fg))), (b40, .inl (cZ, 40, .inl fz))] s.heap := hP
  have hl := lv_entry ([.ref h0, .int (nI cl)]) (n := 7) (Nat.le_of_ble_eq_true rfl)
  rw [lg_entry_eq]
  generalize (lg_sl ([.ref h0, .int (nI cl)]) ++ List.replicate (7 - (lg_sl ([.ref h0, .int (nI cl)])).length) Slot.unset).toArray = ls at hl ⊢
  have hl : lv_has ls 7 [(0, .ref h0), (1, .int (nI cl))] := hl
  have hinX7 : ∀ w ∈ u_ws RX7 TX7 42, w ∈ wp_X7_canStand := fun _ h => List.mem_cons_of_mem _ (List.mem_append_right _ h)
  refine lv_iconst (v := 0) hx hb dX7_canStand_0 (by decide) ?_
  refine lv_istore_n (lv' := [(2, .int 0), (0, .ref h0), (1, .int (nI cl))]) hx hb dX7_canStand_1 rfl hl (by decide) rfl (fun ls hl => ?_)
  refine lv_iconst (v := 0) hx hb dX7_canStand_2 (by decide) ?_
  refine lv_istore_n (lv' := [(3, .int 0), (2, .int 0), (0, .ref h0), (1, .int (nI cl))]) hx hb dX7_canStand_3 rfl hl (by decide) rfl (fun ls hl => ?_)
  refine sg_X7_canStand_4 h0 b3 b4 b6 b7 b8 b9 b10 b11 b12 b13 b15 b16 b17 b18 b19 b20 b21 b34 b35 b37 b38 b39 b40 b41 i0 i1 mk rk nl tp i23 i24 i25 w26 i27 i28 i29 i30 i31 i32 i33 tm cl cW fw cK fk cG fg cZ fz qc hW hx hb hml hown hts hK hA (fun H locs ls  hPD hS hl => ?_) (fun ca_21 H locs ls hca hPD hS hl => ?_) ((12 - 0) + 1) 0 0 _ _ _ (Nat.lt_succ_self _) (by omega) (Or.inl rfl) ⟨hP, hD⟩ hS (lv_sub hl [2, 3, 1, 0] rfl)
  · obtain ⟨hP, hD⟩ := hPD
    refine lv_iconst (v := 0) hx hb dX7_canStand_43 (by decide) ?_
    have hP9 := hP.sub (ws' := [(h0, .inr (8, [.int i0, .int i1, .int (nI mk), .ref b3, .ref b4, .int (nI rk), .ref b6, .ref b7, .ref b8, .ref b9, .ref b10, .ref b11, .ref b12, .ref b13, .int (nI nl), .ref b15, .ref b16, .ref b17, .ref b18, .ref b19, .ref b20, .ref b21, .int (nI tp), .int i23, .int i24, .int i25, .long w26, .int i27, .int i28, .int i29, .int i30, .int i31, .int i32, .int i33, .ref b34, .ref b35, .int (nI tm), .ref b37, .ref b38, .ref b39, .ref b40, .ref b41])), (b37, .inl (cW, 480, .inl fw)), (b8, .inl (cK, 800, .inl fk)), (b13, .inl (cG, 800, .inr (.inl fg))), (b40, .inl (cZ, 40, .inl fz))]) [0, 1, 2, 3, 4] rfl
    have hD9 := hD.sub (ws' := [(h0, .inr (8, [.int i0, .int i1, .int (nI mk), .ref b3, .ref b4, .int (nI rk), .ref b6, .ref b7, .ref b8, .ref b9, .ref b10, .ref b11, .ref b12, .ref b13, .int (nI nl), .ref b15, .ref b16, .ref b17, .ref b18, .ref b19, .ref b20, .ref b21, .int (nI tp), .int i23, .int i24, .int i25, .long w26, .int i27, .int i28, .int i29, .int i30, .int i31, .int i32, .int i33, .ref b34, .ref b35, .int (nI tm), .ref b37, .ref b38, .ref b39, .ref b40, .ref b41])), (b37, .inl (cW, 480, .inl fw)), (b8, .inl (cK, 800, .inl fk)), (b13, .inl (cG, 800, .inr (.inl fg))), (b40, .inl (cZ, 40, .inl fz))]) [0, 1, 2, 3, 4] (by decide) rfl
    have hK9 := hK.sub (tys' := [(cW, .int), (cK, .int), (cG, .long), (cZ, .boolean)]) [0, 1, 2, 3] rfl
    exact W.zret (v := 0) (ty := .boolean) hx hb hr rfl (fun t ht hW => ⟨⟨0, (), rfl, Or.inl rfl, by rw [ht]; exact hP9, va_K.moved hW.alike hK9, hD9⟩, hS.F ht⟩) hS.2.2 dX7_canStand_44
  · obtain ⟨hP, hD⟩ := hPD
    refine lv_iload_n hx hb dX7_canStand_124 rfl (lv_at hl 1 rfl) ?_
    have hP9 := hP.sub (ws' := [(h0, .inr (8, [.int i0, .int i1, .int (nI mk), .ref b3, .ref b4, .int (nI rk), .ref b6, .ref b7, .ref b8, .ref b9, .ref b10, .ref b11, .ref b12, .ref b13, .int (nI nl), .ref b15, .ref b16, .ref b17, .ref b18, .ref b19, .ref b20, .ref b21, .int (nI tp), .int i23, .int i24, .int i25, .long w26, .int i27, .int i28, .int i29, .int i30, .int i31, .int i32, .int i33, .ref b34, .ref b35, .int (nI tm), .ref b37, .ref b38, .ref b39, .ref b40, .ref b41])), (b37, .inl (cW, 480, .inl fw)), (b8, .inl (cK, 800, .inl fk)), (b13, .inl (cG, 800, .inr (.inl fg))), (b40, .inl (cZ, 40, .inl fz))]) [0, 1, 2, 3, 4] rfl
    have hD9 := hD.sub (ws' := [(h0, .inr (8, [.int i0, .int i1, .int (nI mk), .ref b3, .ref b4, .int (nI rk), .ref b6, .ref b7, .ref b8, .ref b9, .ref b10, .ref b11, .ref b12, .ref b13, .int (nI nl), .ref b15, .ref b16, .ref b17, .ref b18, .ref b19, .ref b20, .ref b21, .int (nI tp), .int i23, .int i24, .int i25, .long w26, .int i27, .int i28, .int i29, .int i30, .int i31, .int i32, .int i33, .ref b34, .ref b35, .int (nI tm), .ref b37, .ref b38, .ref b39, .ref b40, .ref b41])), (b37, .inl (cW, 480, .inl fw)), (b8, .inl (cK, 800, .inl fk)), (b13, .inl (cG, 800, .inr (.inl fg))), (b40, .inl (cZ, 40, .inl fz))]) [0, 1, 2, 3, 4] (by decide) rfl
    have hK9 := hK.sub (tys' := [(cW, .int), (cK, .int), (cG, .long), (cZ, .boolean)]) [0, 1, 2, 3] rfl
    exact W.zret (v := ca_21) (ty := .boolean) hx hb hr (by rcases hca with rfl | rfl <;> rfl) (fun t ht hW => ⟨⟨ca_21, (), rfl, hca, by rw [ht]; exact hP9, va_K.moved hW.alike hK9, hD9⟩, hS.F ht⟩) hS.2.2 dX7_canStand_125
