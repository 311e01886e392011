theorem dX4_takeGrounds_4 : decode cX4_takeGrounds 4 = .ok (.iload_n 3, 1) := by decide +kernel
theorem dX4_takeGrounds_5 : decode cX4_takeGrounds 5 = .ok (.bipush 6, 2) := by decide +kernel
theorem dX4_takeGrounds_7 : decode cX4_takeGrounds 7 = .ok (.if_icmp .ge 50, 3) := by decide +kernel
theorem dX4_takeGrounds_10 : decode cX4_takeGrounds 10 = .ok (.iload_n 3, 1) := by decide +kernel
theorem dX4_takeGrounds_11 : decode cX4_takeGrounds 11 = .ok (.ifCond .le 14, 3) := by decide +kernel
theorem dX4_takeGrounds_25 : decode cX4_takeGrounds 25 = .ok (.aload_n 0, 1) := by decide +kernel
theorem dX4_takeGrounds_26 : decode cX4_takeGrounds 26 = .ok (.bipush 40, 2) := by decide +kernel
theorem dX4_takeGrounds_28 : decode cX4_takeGrounds 28 = .ok (.invokevirtual 82, 3) := by decide +kernel
theorem dX4_takeGrounds_31 : decode cX4_takeGrounds 31 = .ok (.istore 4, 2) := by decide +kernel
theorem dX4_takeGrounds_33 : decode cX4_takeGrounds 33 = .ok (.iload 4, 2) := by decide +kernel
theorem dX4_takeGrounds_35 : decode cX4_takeGrounds 35 = .ok (.iconst (-1), 1) := by decide +kernel
theorem dX4_takeGrounds_36 : decode cX4_takeGrounds 36 = .ok (.if_icmp .ne 7, 3) := by decide +kernel
theorem dX4_takeGrounds_43 : decode cX4_takeGrounds 43 = .ok (.lload_n 1, 1) := by decide +kernel
theorem dX4_takeGrounds_44 : decode cX4_takeGrounds 44 = .ok (.iload 4, 2) := by decide +kernel
theorem dX4_takeGrounds_46 : decode cX4_takeGrounds 46 = .ok (.invokestatic 101, 3) := by decide +kernel
theorem dX4_takeGrounds_49 : decode cX4_takeGrounds 49 = .ok (.lor, 1) := by decide +kernel
theorem dX4_takeGrounds_50 : decode cX4_takeGrounds 50 = .ok (.lstore_n 1, 1) := by decide +kernel
theorem dX4_takeGrounds_51 : decode cX4_takeGrounds 51 = .ok (.iinc 3 1, 3) := by decide +kernel
theorem dX4_takeGrounds_54 : decode cX4_takeGrounds 54 = .ok (.goto (-50), 3) := by decide +kernel
theorem dX4_takeGrounds_14 : decode cX4_takeGrounds 14 = .ok (.aload_n 0, 1) := by decide +kernel
theorem dX4_takeGrounds_15 : decode cX4_takeGrounds 15 = .ok (.ldc 99, 2) := by decide +kernel
theorem dX4_takeGrounds_17 : decode cX4_takeGrounds 17 = .ok (.invokevirtual 42, 3) := by decide +kernel
theorem dX4_takeGrounds_20 : decode cX4_takeGrounds 20 = .ok (.ifCond .ne 5, 3) := by decide +kernel
theorem dX4_takeGrounds_0 : decode cX4_takeGrounds 0 = .ok (.lconst 0, 1) := by decide +kernel
theorem dX4_takeGrounds_1 : decode cX4_takeGrounds 1 = .ok (.lstore_n 1, 1) := by decide +kernel
theorem dX4_takeGrounds_2 : decode cX4_takeGrounds 2 = .ok (.iconst 0, 1) := by decide +kernel
theorem dX4_takeGrounds_3 : decode cX4_takeGrounds 3 = .ok (.istore_n 3, 1) := by decide +kernel
theorem dX4_takeGrounds_23 : decode cX4_takeGrounds 23 = .ok (.lload_n 1, 1) := by decide +kernel
theorem dX4_takeGrounds_24 : decode cX4_takeGrounds 24 = .ok (.lreturn, 1) := by decide +kernel
theorem dX4_takeGrounds_39 : decode cX4_takeGrounds 39 = .ok (.ldc2_w 97, 3) := by decide +kernel
theorem dX4_takeGrounds_42 : decode cX4_takeGrounds 42 = .ok (.lreturn, 1) := by decide +kernel
theorem dX4_takeGrounds_57 : decode cX4_takeGrounds 57 = .ok (.lload_n 1, 1) := by decide +kernel
theorem dX4_takeGrounds_58 : decode cX4_takeGrounds 58 = .ok (.lreturn, 1) := by decide +kernel
theorem dX4_readThing_0 : decode cX4_readThing 0 = .ok (.aload_n 0, 1) := by decide +kernel
theorem dX4_readThing_1 : decode cX4_readThing 1 = .ok (.bipush 40, 2) := by decide +kernel
theorem dX4_readThing_3 : decode cX4_readThing 3 = .ok (.invokevirtual 82, 3) := by decide +kernel
theorem dX4_readThing_6 : decode cX4_readThing 6 = .ok (.istore_n 3, 1) := by decide +kernel
theorem dX4_readThing_7 : decode cX4_readThing 7 = .ok (.iload_n 3, 1) := by decide +kernel
theorem dX4_readThing_8 : decode cX4_readThing 8 = .ok (.iconst (-1), 1) := by decide +kernel
theorem dX4_readThing_9 : decode cX4_readThing 9 = .ok (.if_icmp .ne 7, 3) := by decide +kernel
theorem dX4_readThing_16 : decode cX4_readThing 16 = .ok (.new 48, 3) := by decide +kernel
theorem dX4_readThing_19 : decode cX4_readThing 19 = .ok (.dup, 1) := by decide +kernel
theorem dX4_readThing_20 : decode cX4_readThing 20 = .ok (.iload_n 1, 1) := by decide +kernel
theorem dX4_readThing_21 : decode cX4_readThing 21 = .ok (.iload_n 2, 1) := by decide +kernel
theorem dX4_readThing_22 : decode cX4_readThing 22 = .ok (.iconst (-1), 1) := by decide +kernel
theorem dX4_readThing_23 : decode cX4_readThing 23 = .ok (.iload_n 3, 1) := by decide +kernel
theorem dX4_readThing_24 : decode cX4_readThing 24 = .ok (.iconst (-1), 1) := by decide +kernel
theorem dX4_readThing_25 : decode cX4_readThing 25 = .ok (.lconst 0, 1) := by decide +kernel
theorem dX4_readThing_26 : decode cX4_readThing 26 = .ok (.invokespecial 86, 3) := by decide +kernel
theorem dX4_readThing_29 : decode cX4_readThing 29 = .ok (.areturn, 1) := by decide +kernel
theorem dX4_readThing_12 : decode cX4_readThing 12 = .ok (.aconst_null, 1) := by decide +kernel
theorem dX4_readThing_13 : decode cX4_readThing 13 = .ok (.goto 16, 3) := by decide +kernel
theorem dX4_readDated_0 : decode cX4_readDated 0 = .ok (.aload_n 0, 1) := by decide +kernel
theorem dX4_readDated_1 : decode cX4_readDated 1 = .ok (.bipush 40, 2) := by decide +kernel
theorem dX4_readDated_3 : decode cX4_readDated 3 = .ok (.invokevirtual 82, 3) := by decide +kernel
theorem dX4_readDated_6 : decode cX4_readDated 6 = .ok (.istore 4, 2) := by decide +kernel
theorem dX4_readDated_8 : decode cX4_readDated 8 = .ok (.iload 4, 2) := by decide +kernel
theorem dX4_readDated_10 : decode cX4_readDated 10 = .ok (.iconst (-1), 1) := by decide +kernel
theorem dX4_readDated_11 : decode cX4_readDated 11 = .ok (.if_icmp .ne 5, 3) := by decide +kernel
theorem dX4_readDated_16 : decode cX4_readDated 16 = .ok (.iconst (-1), 1) := by decide +kernel
theorem dX4_readDated_17 : decode cX4_readDated 17 = .ok (.istore 5, 2) := by decide +kernel
theorem dX4_readDated_19 : decode cX4_readDated 19 = .ok (.aload_n 0, 1) := by decide +kernel
theorem dX4_readDated_20 : decode cX4_readDated 20 = .ok (.ldc 89, 2) := by decide +kernel
theorem dX4_readDated_22 : decode cX4_readDated 22 = .ok (.invokevirtual 42, 3) := by decide +kernel
theorem dX4_readDated_25 : decode cX4_readDated 25 = .ok (.ifCond .eq 20, 3) := by decide +kernel
theorem dX4_readDated_45 : decode cX4_readDated 45 = .ok (.new 48, 3) := by decide +kernel
theorem dX4_readDated_48 : decode cX4_readDated 48 = .ok (.dup, 1) := by decide +kernel
theorem dX4_readDated_49 : decode cX4_readDated 49 = .ok (.iload_n 1, 1) := by decide +kernel
theorem dX4_readDated_50 : decode cX4_readDated 50 = .ok (.iload_n 2, 1) := by decide +kernel
theorem dX4_readDated_51 : decode cX4_readDated 51 = .ok (.iload_n 3, 1) := by decide +kernel
theorem dX4_readDated_52 : decode cX4_readDated 52 = .ok (.iload 4, 2) := by decide +kernel
theorem dX4_readDated_54 : decode cX4_readDated 54 = .ok (.iload 5, 2) := by decide +kernel
theorem dX4_readDated_56 : decode cX4_readDated 56 = .ok (.lconst 0, 1) := by decide +kernel
theorem dX4_readDated_57 : decode cX4_readDated 57 = .ok (.invokespecial 86, 3) := by decide +kernel
theorem dX4_readDated_60 : decode cX4_readDated 60 = .ok (.areturn, 1) := by decide +kernel
theorem dX4_readDated_28 : decode cX4_readDated 28 = .ok (.aload_n 0, 1) := by decide +kernel
theorem dX4_readDated_29 : decode cX4_readDated 29 = .ok (.sipush 1000, 3) := by decide +kernel
theorem dX4_readDated_32 : decode cX4_readDated 32 = .ok (.invokevirtual 82, 3) := by decide +kernel
theorem dX4_readDated_35 : decode cX4_readDated 35 = .ok (.istore 5, 2) := by decide +kernel
theorem dX4_readDated_37 : decode cX4_readDated 37 = .ok (.iload 5, 2) := by decide +kernel
theorem dX4_readDated_39 : decode cX4_readDated 39 = .ok (.iconst (-1), 1) := by decide +kernel
theorem dX4_readDated_40 : decode cX4_readDated 40 = .ok (.if_icmp .ne 5, 3) := by decide +kernel
theorem dX4_readDated_43 : decode cX4_readDated 43 = .ok (.aconst_null, 1) := by decide +kernel
theorem dX4_readDated_44 : decode cX4_readDated 44 = .ok (.areturn, 1) := by decide +kernel
theorem dX4_readDated_14 : decode cX4_readDated 14 = .ok (.aconst_null, 1) := by decide +kernel
theorem dX4_readDated_15 : decode cX4_readDated 15 = .ok (.areturn, 1) := by decide +kernel
theorem dX4_readSaying_0 : decode cX4_readSaying 0 = .ok (.aload_n 0, 1) := by decide +kernel
theorem dX4_readSaying_1 : decode cX4_readSaying 1 = .ok (.bipush 40, 2) := by decide +kernel
theorem dX4_readSaying_3 : decode cX4_readSaying 3 = .ok (.invokevirtual 82, 3) := by decide +kernel
theorem dX4_readSaying_6 : decode cX4_readSaying 6 = .ok (.istore_n 2, 1) := by decide +kernel
theorem dX4_readSaying_7 : decode cX4_readSaying 7 = .ok (.iload_n 2, 1) := by decide +kernel
theorem dX4_readSaying_8 : decode cX4_readSaying 8 = .ok (.iconst (-1), 1) := by decide +kernel
theorem dX4_readSaying_9 : decode cX4_readSaying 9 = .ok (.if_icmp .ne 5, 3) := by decide +kernel
theorem dX4_readSaying_14 : decode cX4_readSaying 14 = .ok (.aload_n 0, 1) := by decide +kernel
theorem dX4_readSaying_15 : decode cX4_readSaying 15 = .ok (.ldc 91, 2) := by decide +kernel
theorem dX4_readSaying_17 : decode cX4_readSaying 17 = .ok (.invokevirtual 42, 3) := by decide +kernel
theorem dX4_readSaying_20 : decode cX4_readSaying 20 = .ok (.ifCond .eq 10, 3) := by decide +kernel
theorem dX4_readSaying_30 : decode cX4_readSaying 30 = .ok (.lconst 0, 1) := by decide +kernel
theorem dX4_readSaying_31 : decode cX4_readSaying 31 = .ok (.lstore_n 3, 1) := by decide +kernel
theorem dX4_readSaying_32 : decode cX4_readSaying 32 = .ok (.lload_n 3, 1) := by decide +kernel
theorem dX4_readSaying_33 : decode cX4_readSaying 33 = .ok (.ldc2_w 97, 3) := by decide +kernel
theorem dX4_readSaying_36 : decode cX4_readSaying 36 = .ok (.lcmp, 1) := by decide +kernel
theorem dX4_readSaying_37 : decode cX4_readSaying 37 = .ok (.ifCond .ne 5, 3) := by decide +kernel
theorem dX4_readSaying_42 : decode cX4_readSaying 42 = .ok (.new 48, 3) := by decide +kernel
theorem dX4_readSaying_45 : decode cX4_readSaying 45 = .ok (.dup, 1) := by decide +kernel
theorem dX4_readSaying_46 : decode cX4_readSaying 46 = .ok (.iconst 4, 1) := by decide +kernel
theorem dX4_readSaying_47 : decode cX4_readSaying 47 = .ok (.iload_n 1, 1) := by decide +kernel
theorem dX4_readSaying_48 : decode cX4_readSaying 48 = .ok (.iconst (-1), 1) := by decide +kernel
theorem dX4_readSaying_49 : decode cX4_readSaying 49 = .ok (.iload_n 2, 1) := by decide +kernel
theorem dX4_readSaying_50 : decode cX4_readSaying 50 = .ok (.iconst (-1), 1) := by decide +kernel
theorem dX4_readSaying_51 : decode cX4_readSaying 51 = .ok (.lload_n 3, 1) := by decide +kernel
theorem dX4_readSaying_52 : decode cX4_readSaying 52 = .ok (.invokespecial 86, 3) := by decide +kernel
theorem dX4_readSaying_55 : decode cX4_readSaying 55 = .ok (.areturn, 1) := by decide +kernel
theorem dX4_readSaying_23 : decode cX4_readSaying 23 = .ok (.aload_n 0, 1) := by decide +kernel
theorem dX4_readSaying_24 : decode cX4_readSaying 24 = .ok (.invokevirtual 93, 3) := by decide +kernel
theorem dX4_readSaying_27 : decode cX4_readSaying 27 = .ok (.goto 4, 3) := by decide +kernel
theorem dX4_readSaying_40 : decode cX4_readSaying 40 = .ok (.aconst_null, 1) := by decide +kernel
theorem dX4_readSaying_41 : decode cX4_readSaying 41 = .ok (.areturn, 1) := by decide +kernel
theorem dX4_readSaying_12 : decode cX4_readSaying 12 = .ok (.aconst_null, 1) := by decide +kernel
theorem dX4_readSaying_13 : decode cX4_readSaying 13 = .ok (.areturn, 1) := by decide +kernel
def wp_R_takeGrounds : List Cond := .code yX4_takeGrounds cX4_takeGrounds 5 (some .long) :: (([.initialized RX6, .static yX6_bit, .constantLong RX4 97 (-1)] : List Cond) ++ (wsV RX4 82 RX4 yX4_takeNumber wp_R_takeNumber) ++ wp_X6_bit ++ (wsV RX4 42 RX4 yX4_takeWord wp_R_takeWord))
theorem gc_R_takeGrounds_R_takeNumber : GoodIn wp_R_takeGrounds (wsV RX4 82 RX4 yX4_takeNumber wp_R_takeNumber) := goodIn_sub (fun _ h => List.mem_cons_of_mem _ (List.mem_append_left _ (List.mem_append_left _ (List.mem_append_right _ h)))) (by decide +kernel)
theorem gc_R_takeGrounds_X6_bit : GoodIn wp_R_takeGrounds wp_X6_bit := goodIn_sub (fun _ h => List.mem_cons_of_mem _ (List.mem_append_left _ (List.mem_append_right _ h))) (by decide +kernel)
theorem gc_R_takeGrounds_R_takeWord : GoodIn wp_R_takeGrounds (wsV RX4 42 RX4 yX4_takeWord wp_R_takeWord) := goodIn_sub (fun _ h => List.mem_cons_of_mem _ (List.mem_append_right _ h)) (by decide +kernel)
set_option maxRecDepth 20000 in
theorem gi_R_takeGrounds : GoodIn lw_tbl wp_R_takeGrounds := (goodIn_ca (goodIn_ca (goodIn_ca (goodIn_r (.code yX4_takeGrounds cX4_takeGrounds 5 (some .long) :: ([.initialized RX6, .static yX6_bit, .constantLong RX4 97 (-1)] : List Cond)) [400, 48, 404, 402] (by decide +kernel) (by decide +kernel)) (goodIn_app (goodIn_r _ [331, 333, 7, 53] (by decide +kernel) (by decide +kernel)) gi_R_takeNumber)) gi_X6_bit) (goodIn_app (goodIn_r _ [275, 277, 5, 53] (by decide +kernel) (by decide +kernel)) gi_R_takeWord))
set_option maxHeartbeats 4000000 in
set_option maxRecDepth 100000 in
theorem sg_R_takeGrounds_4 {p : Program} {l : Launch} {e : Env} {s : State} {m : MethodId} {args : Array Value} {below : List Frame} {meth : Method} {c : Code} {Q : State → Prop} {A : Nat → Prop} {dC : Nat → ClassId} {dI : Nat → Nat → Nat} (h0 : Nat) (ta : Nat) (s0 : Nat) (e0 : Nat) (ab : Nat) (tp : Nat) (cB : ClassId) (fb : Nat → Int32) (zo : Option Nat) (qtp : tp ≤ 300) (qs : s0 ≤ e0) (qe : e0 ≤ tp) (hT : okT fb s0 e0) (hx : p.tables.exec = Jvm.exec) (hb : c.code = cX4_takeGrounds) (hml : c.maxLocals = 5) (hown : s.vm.findClass RX4 = some m.cls) (hts : ∀ w ∈ wp_R_takeGrounds, w.before args s = true) (hK : va_K (dC, dI) vwCl [(cB, .int)] s) (hA : ∀ q : Nat, s.heap.size ≤ q → A q) (hE : okEnv zo A s s.heap) (nw4b : va_Nw (.methodLinkNest RX4 101 yX6_bit "AgreedTalks") s) (kk_23 : ∀ (s9 : Nat) (e9 : Nat) (gr : Int64) (H : Heap) (locs : List Loc) (ls : Array Slot), (s9 ≤ e9) → (e9 ≤ tp) → (okT fb s9 e9) → okPD (dC, dI) vwCl A [(h0, .inr (5, [.ref ta, .int (nI s9), .int (nI e9)])), (ta, .inr (6, [.ref ab, .int (nI tp)])), (ab, .inl (cB, 300, .inl fb))] H → va_S A s.heap H locs → lv_has ls 5 [(0, .ref h0), (1, .long gr)] → W p l e ({ frames := 5, cells := 0, slots := 0, locals := 150 } : Room) s m args below meth c H locs 0 0 Q (F0 m 23 ls [])) (kk_39 : ∀ (s9 : Nat) (e9 : Nat) (H : Heap) (locs : List Loc) (ls : Array Slot), (s9 ≤ e9) → (e9 ≤ tp) → (okT fb s9 e9) → okPD (dC, dI) vwCl A [(h0, .inr (5, [.ref ta, .int (nI s9), .int (nI e9)])), (ta, .inr (6, [.ref ab, .int (nI tp)])), (ab, .inl (cB, 300, .inl fb))] H → va_S A s.heap H locs → lv_has ls 5 [(0, .ref h0)] → W p l e ({ frames := 5, cells := 0, slots := 0, locals := 150 } : Room) s m args below meth c H locs 0 0 Q (F0 m 39 ls [])) (kk_57 : ∀ (s9 : Nat) (e9 : Nat) (gr : Int64) (H : Heap) (locs : List Loc) (ls : Array Slot), (s9 ≤ e9) → (e9 ≤ tp) → (okT fb s9 e9) → okPD (dC, dI) vwCl A [(h0, .inr (5, [.ref ta, .int (nI s9), .int (nI e9)])), (ta, .inr (6, [.ref ab, .int (nI tp)])), (ab, .inl (cB, 300, .inl fb))] H → va_S A s.heap H locs → lv_has ls 5 [(0, .ref h0), (1, .long gr)] → W p l e ({ frames := 5, cells := 0, slots := 0, locals := 150 } : Room) s m args below meth c H locs 0 0 Q (F0 m 57 ls [])) : ∀ (n : Nat) (s9 : Nat) (e9 : Nat) (gr : Int64) (i9 : Nat) (H : Heap) (locs : List Loc) (ls : Array Slot), 6 - i9 < n → (s9 ≤ e9) → (e9 ≤ tp) → (okT fb s9 e9) → (i9 ≤ 6) → okPD (dC, dI) vwCl A [(h0, .inr (5, [.ref ta, .int (nI s9), .int (nI e9)])), (ta, .inr (6, [.ref ab, .int (nI tp)])), (ab, .inl (cB, 300, .inl fb))] H → va_S A s.heap H locs → lv_has ls 5 [(0, .ref h0), (1, .long gr), (3, .int (nI i9))] → W p l e ({ frames := 5, cells := 0, slots := 0, locals := 150 } : Room) s m args below meth c H locs 0 0 Q (F0 m 4 ls []) := by
  intro n
  induction n with
  | zero =>
    intro s9 e9 gr i9 H locs ls hn
    exact absurd hn (Nat.not_lt_zero _)
  | succ n ih =>
    intro s9 e9 gr i9 H locs ls hn hs9 he9 hT9 hi hPD hS hl
    obtain ⟨hP, hD⟩ := hPD
    refine lv_iload_n hx hb dX4_takeGrounds_4 rfl (lv_at hl 2 rfl) ?_
    refine lv_bipush (v := 6) hx hb dX4_takeGrounds_5 (by decide) ?_
    refine lv_icmp_ge (tgt := 57) hx hb dX4_takeGrounds_7 (by decide) (fun c_1 => ?_) (fun c_1 => ?_)
    · have c_1 : 6 ≤ i9 := (nI_leI (a := 6) (b := i9) (by omega) (by omega)).mp c_1
      exact kk_57 s9 e9 gr _ _ _ (by omega) (by omega) (by assumption) ⟨hP, hD⟩ hS (lv_sub hl [0, 1] rfl)
    · have c_1 : ¬ (6 ≤ i9) := fun h => c_1 ((nI_leI (a := 6) (b := i9) (by omega) (by omega)).mpr h)
      refine lv_iload_n hx hb dX4_takeGrounds_10 rfl (lv_at hl 2 rfl) ?_
      refine lv_if_le (tgt := 25) hx hb dX4_takeGrounds_11 (by decide) (fun c_2 => ?_) (fun c_2 => ?_)
      · have c_2 : i9 ≤ 0 := (nI_leI (a := i9) (b := 0) (by omega) (by omega)).mp c_2
        refine lv_aload_n hx hb dX4_takeGrounds_25 rfl (lv_at hl 0 rfl) ?_
        refine lv_bipush (v := 40) hx hb dX4_takeGrounds_26 (by decide) ?_
        have hPc := hP.sub (ws' := [(h0, .inr (5, [.ref ta, .int (nI s9), .int (nI e9)])), (ta, .inr (6, [.ref ab, .int (nI tp)])), (ab, .inl (cB, 300, .inl fb))]) [0, 1, 2] rfl
        have hDc := hD.sub (ws' := [(h0, .inr (5, [.ref ta, .int (nI s9), .int (nI e9)])), (ta, .inr (6, [.ref ab, .int (nI tp)])), (ab, .inl (cB, 300, .inl fb))]) [0, 1, 2] (by decide) rfl
        have hKc := hK.sub (tys' := [(cB, .int)]) [0] rfl
        have hFc := va_free (wc := [(h0, .inr (5, [.ref ta, .int (nI s9), .int (nI e9)])), (ta, .inr (6, [.ref ab, .int (nI tp)])), (ab, .inl (cB, 300, .inl fb))]) hD hS hA [0, 1, 2] rfl
        refine va_calli (va_runV (As := [.int 40]) (rest := []) ⟨hx, hb, hml, hown, hts⟩ (c_R_takeNumber l dC dI _ h0 ta s9 e9 ab tp cB fb 40 (by omega) (by omega) (by omega) (by assumption) (by omega)) (cwV 1 hts gc_R_takeGrounds_R_takeNumber rfl rfl rfl (by decide +kernel) ⟨Nat.le_of_ble_eq_true rfl, Nat.le_of_ble_eq_true rfl⟩) ⟨fun a U g mk q => by obtain ⟨q0, q1, qP, qK, qD⟩ := q; exact ⟨q0, q1, qP, va_K.moved (u := U) (U := U.calling g mk a) (Vm.Alike.refl U.vm) qK, qD⟩, va_recv hKc hPc (ci := 5) (q0 := 0) rfl rfl, fun U hU hW => ⟨rfl, by rw [hU], by rw [hU]; exact hPc, va_K.moved hW.alike hKc, hDc.weaken (fun _ _ _ _ => trivial)⟩⟩ rfl rfl hl.1 rfl (lv_room (Nat.le_of_ble_eq_true rfl)) dX4_takeGrounds_28 ⟨Nat.zero_le _, Nat.zero_le _⟩) hS (fun q _ h => hFc q h) hFc (fun r_3 u t H1 locs ht hvm hw hB hz1 hk1 hS => ?_)
        obtain ⟨s1_4, e1_5, hf_6, hf_7, hf_8, hP1, hK1, hD1⟩ := hB
        rw [ht] at hP1
        obtain ⟨hP, hD⟩ := va_join (wr := []) (w1 := [(h0, .inr (5, [.ref ta, .int (nI s1_4), .int (nI e1_5)])), (ta, .inr (6, [.ref ab, .int (nI tp)])), (ab, .inl (cB, 300, .inl fb))]) hP hD [0, 1, 2] [] rfl rfl (by decide) (by decide) hk1 hFc hP1 hD1
        generalize H1 = H at hP hS ⊢
        have hP : va_P (dC, dI) vwCl [(h0, .inr (5, [.ref ta, .int (nI s1_4), .int (nI e1_5)])), (ta, .inr (6, [.ref ab, .int (nI tp)])), (ab, .inl (cB, 300, .inl fb))] H := hP
        have hD : va_D A [(h0, .inr (5, [.ref ta, .int (nI s1_4), .int (nI e1_5)])), (ta, .inr (6, [.ref ab, .int (nI tp)])), (ab, .inl (cB, 300, .inl fb))] := hD
        have hr_3 := hw
        try dsimp only at hr_3
        refine lv_istore (lv' := [(4, .int r_3), (0, .ref h0), (1, .long gr), (3, .int (nI i9))]) hx hb dX4_takeGrounds_31 hl (by decide) rfl (fun ls hl => ?_)
        refine lv_iload hx hb dX4_takeGrounds_33 (lv_at hl 0 rfl) ?_
        refine lv_iconst (v := (-1)) hx hb dX4_takeGrounds_35 (by decide) ?_
        refine lv_icmp_ne (tgt := 43) hx hb dX4_takeGrounds_36 (by decide) (fun c_9 => ?_) (fun c_9 => ?_)
        · refine lv_lload_n hx hb dX4_takeGrounds_43 rfl (lv_at hl 2 rfl) ?_
          refine lv_iload hx hb dX4_takeGrounds_44 (lv_at hl 0 rfl) ?_
          have hPc := hP.sub (ws' := []) [] rfl
          have hDc := hD.sub (ws' := []) [] (by decide) rfl
          have hKc := hK.sub (tys' := []) [] rfl
          have hFc := va_free (wc := []) hD hS hA [] rfl
          refine va_calll (va_runSN (As := [.int r_3]) (rest := [.long gr]) ⟨hx, hb, hml, hown, hts⟩ (c_X6_bit l dC dI _ r_3) ⟨va_cnB 1 hts gc_R_takeGrounds_X6_bit rfl rfl rfl nw4b (hts (.initialized RX6) (by decide +kernel)) (by decide +kernel) ⟨Nat.le_of_ble_eq_true rfl, Nat.le_of_ble_eq_true rfl⟩, (hts (.static yX6_bit) (by decide +kernel)), trivial⟩ ⟨fun a U g mk q => by obtain ⟨q0, q1, qP, qK, qD⟩ := q; exact ⟨q0, q1, qP, va_K.moved (u := U) (U := U.calling g mk a) (Vm.Alike.refl U.vm) qK, qD⟩, fun U hU hW => ⟨rfl, by rw [hU], by rw [hU]; exact hPc, va_K.moved hW.alike hKc, hDc.weaken (fun _ _ _ _ => trivial)⟩⟩ rfl rfl hl.1 rfl (lv_room (Nat.le_of_ble_eq_true rfl)) dX4_takeGrounds_46 ⟨Nat.zero_le _, Nat.zero_le _⟩) hS (fun q _ h => hFc q h) hFc (fun r_10 u t H1 locs ht hvm hw hB hz1 hk1 hS => ?_)
          obtain ⟨hP1, hK1, hD1⟩ := hB
          rw [ht] at hP1
          obtain ⟨hP, hD⟩ := va_join (wr := [(h0, .inr (5, [.ref ta, .int (nI s1_4), .int (nI e1_5)])), (ta, .inr (6, [.ref ab, .int (nI tp)])), (ab, .inl (cB, 300, .inl fb))]) (w1 := []) hP hD [] [0, 1, 2] rfl rfl (by decide) (by decide) hk1 hFc hP1 hD1
          generalize H1 = H at hP hS ⊢
          have hP : va_P (dC, dI) vwCl [(h0, .inr (5, [.ref ta, .int (nI s1_4), .int (nI e1_5)])), (ta, .inr (6, [.ref ab, .int (nI tp)])), (ab, .inl (cB, 300, .inl fb))] H := hP
          have hD : va_D A [(h0, .inr (5, [.ref ta, .int (nI s1_4), .int (nI e1_5)])), (ta, .inr (6, [.ref ab, .int (nI tp)])), (ab, .inl (cB, 300, .inl fb))] := hD
          have hr_10 := hw
          try dsimp only at hr_10
          refine lv_lor hx hb dX4_takeGrounds_49 ?_
          refine lv_topl (fun x_11 ex_11 => ?_)
          refine lv_lstore_n (lv' := [(1, .long x_11), (4, .int r_3), (0, .ref h0), (3, .int (nI i9))]) hx hb dX4_takeGrounds_50 rfl hl (by decide) rfl (fun ls hl => ?_)
          refine lv_iinc (v := (nI (i9 + 1))) (lv' := [(3, .int (nI (i9 + 1))), (1, .long x_11), (4, .int r_3), (0, .ref h0)]) hx hb dX4_takeGrounds_51 hl (k := 3) rfl (nI_1 _) (by decide) rfl (fun ls hl => ?_)
          refine lv_goto (tgt := 4) hx hb dX4_takeGrounds_54 (by decide) ?_
          exact ih s1_4 e1_5 x_11 (i9 + 1) _ _ _ (by omega) (by omega) (by omega) (by assumption) (by omega) ⟨hP, hD⟩ hS (lv_sub hl [3, 1, 0] rfl)
        · exact kk_39 s1_4 e1_5 _ _ _ (by omega) (by omega) (by assumption) ⟨hP, hD⟩ hS (lv_sub hl [1] rfl)
      · have c_2 : ¬ (i9 ≤ 0) := fun h => c_2 ((nI_leI (a := i9) (b := 0) (by omega) (by omega)).mpr h)
        refine lv_aload_n hx hb dX4_takeGrounds_14 rfl (lv_at hl 0 rfl) ?_
        obtain ⟨sa_12, sv_13, sn_14, sf_15, hR_16, hs_17⟩ := hE.2.2 (99, "and") (by decide)
        refine va_ldcS hx hb hown hR_16 dX4_takeGrounds_15 ?_
        have hPc := hP.sub (ws' := [(h0, .inr (5, [.ref ta, .int (nI s9), .int (nI e9)])), (ta, .inr (6, [.ref ab, .int (nI tp)])), (ab, .inl (cB, 300, .inl fb))]) [0, 1, 2] rfl
        have hDc := hD.sub (ws' := [(h0, .inr (5, [.ref ta, .int (nI s9), .int (nI e9)])), (ta, .inr (6, [.ref ab, .int (nI tp)])), (ab, .inl (cB, 300, .inl fb))]) [0, 1, 2] (by decide) rfl
        have hKc := hK.sub (tys' := [(cB, .int)]) [0] rfl
        have hFc := va_free (wc := [(h0, .inr (5, [.ref ta, .int (nI s9), .int (nI e9)])), (ta, .inr (6, [.ref ab, .int (nI tp)])), (ab, .inl (cB, 300, .inl fb))]) hD hS hA [0, 1, 2] rfl
        refine va_calli (va_runV (As := [.ref sa_12]) (rest := []) ⟨hx, hb, hml, hown, hts⟩ (c_R_takeWord l dC dI _ h0 ta s9 e9 ab tp cB fb sa_12 sv_13 sn_14 sf_15 zo (by omega) (by omega) (by omega) (by assumption)) (cwV 1 hts gc_R_takeGrounds_R_takeWord rfl rfl rfl (by decide +kernel) ⟨Nat.le_of_ble_eq_true rfl, Nat.le_of_ble_eq_true rfl⟩) ⟨fun a U g mk q => by obtain ⟨q0, q1, qP, qK, qD, q_hE, q_hs⟩ := q; exact ⟨q0, q1, qP, va_K.moved (u := U) (U := U.calling g mk a) (Vm.Alike.refl U.vm) qK, qD, okEnv.same rfl q_hE, okStr.moved (Vm.Alike.refl U.vm) q_hs⟩, va_recv hKc hPc (ci := 5) (q0 := 0) rfl rfl, fun U hU hW => ⟨rfl, by rw [hU], by rw [hU]; exact hPc, va_K.moved hW.alike hKc, hDc.weaken (fun _ _ _ _ => trivial), by rw [hU]; exact okEnv.pass hE hW hS hFc, by rw [hU]; exact okStr.pass hs_17 hW hS hFc⟩⟩ rfl rfl hl.1 rfl (lv_room (Nat.le_of_ble_eq_true rfl)) dX4_takeGrounds_17 ⟨Nat.zero_le _, Nat.zero_le _⟩) hS (fun q _ h => hFc q h) hFc (fun r_18 u t H1 locs ht hvm hw hB hz1 hk1 hS => ?_)
        obtain ⟨s1_19, e1_20, hf_21, hf_22, hf_23, hP1, hK1, hD1⟩ := hB
        rw [ht] at hP1
        obtain ⟨hP, hD⟩ := va_join (wr := []) (w1 := [(h0, .inr (5, [.ref ta, .int (nI s1_19), .int (nI e1_20)])), (ta, .inr (6, [.ref ab, .int (nI tp)])), (ab, .inl (cB, 300, .inl fb))]) hP hD [0, 1, 2] [] rfl rfl (by decide) (by decide) hk1 hFc hP1 hD1
        generalize H1 = H at hP hS ⊢
        have hP : va_P (dC, dI) vwCl [(h0, .inr (5, [.ref ta, .int (nI s1_19), .int (nI e1_20)])), (ta, .inr (6, [.ref ab, .int (nI tp)])), (ab, .inl (cB, 300, .inl fb))] H := hP
        have hD : va_D A [(h0, .inr (5, [.ref ta, .int (nI s1_19), .int (nI e1_20)])), (ta, .inr (6, [.ref ab, .int (nI tp)])), (ab, .inl (cB, 300, .inl fb))] := hD
        have hr_18 := hw
        try dsimp only at hr_18
        refine lv_if_ne (tgt := 25) hx hb dX4_takeGrounds_20 (by decide) (fun c_24 => ?_) (fun c_24 => ?_)
        · refine lv_aload_n hx hb dX4_takeGrounds_25 rfl (lv_at hl 0 rfl) ?_
          refine lv_bipush (v := 40) hx hb dX4_takeGrounds_26 (by decide) ?_
          have hPc := hP.sub (ws' := [(h0, .inr (5, [.ref ta, .int (nI s1_19), .int (nI e1_20)])), (ta, .inr (6, [.ref ab, .int (nI tp)])), (ab, .inl (cB, 300, .inl fb))]) [0, 1, 2] rfl
          have hDc := hD.sub (ws' := [(h0, .inr (5, [.ref ta, .int (nI s1_19), .int (nI e1_20)])), (ta, .inr (6, [.ref ab, .int (nI tp)])), (ab, .inl (cB, 300, .inl fb))]) [0, 1, 2] (by decide) rfl
          have hKc := hK.sub (tys' := [(cB, .int)]) [0] rfl
          have hFc := va_free (wc := [(h0, .inr (5, [.ref ta, .int (nI s1_19), .int (nI e1_20)])), (ta, .inr (6, [.ref ab, .int (nI tp)])), (ab, .inl (cB, 300, .inl fb))]) hD hS hA [0, 1, 2] rfl
          refine va_calli (va_runV (As := [.int 40]) (rest := []) ⟨hx, hb, hml, hown, hts⟩ (c_R_takeNumber l dC dI _ h0 ta s1_19 e1_20 ab tp cB fb 40 (by omega) (by omega) (by omega) (by assumption) (by omega)) (cwV 1 hts gc_R_takeGrounds_R_takeNumber rfl rfl rfl (by decide +kernel) ⟨Nat.le_of_ble_eq_true rfl, Nat.le_of_ble_eq_true rfl⟩) ⟨fun a U g mk q => by obtain ⟨q0, q1, qP, qK, qD⟩ := q; exact ⟨q0, q1, qP, va_K.moved (u := U) (U := U.calling g mk a) (Vm.Alike.refl U.vm) qK, qD⟩, va_recv hKc hPc (ci := 5) (q0 := 0) rfl rfl, fun U hU hW => ⟨rfl, by rw [hU], by rw [hU]; exact hPc, va_K.moved hW.alike hKc, hDc.weaken (fun _ _ _ _ => trivial)⟩⟩ rfl rfl hl.1 rfl (lv_room (Nat.le_of_ble_eq_true rfl)) dX4_takeGrounds_28 ⟨Nat.zero_le _, Nat.zero_le _⟩) hS (fun q _ h => hFc q h) hFc (fun r_25 u t H1 locs ht hvm hw hB hz1 hk1 hS => ?_)
          obtain ⟨s1_26, e1_27, hf_28, hf_29, hf_30, hP1, hK1, hD1⟩ := hB
          rw [ht] at hP1
          obtain ⟨hP, hD⟩ := va_join (wr := []) (w1 := [(h0, .inr (5, [.ref ta, .int (nI s1_26), .int (nI e1_27)])), (ta, .inr (6, [.ref ab, .int (nI tp)])), (ab, .inl (cB, 300, .inl fb))]) hP hD [0, 1, 2] [] rfl rfl (by decide) (by decide) hk1 hFc hP1 hD1
          generalize H1 = H at hP hS ⊢
          have hP : va_P (dC, dI) vwCl [(h0, .inr (5, [.ref ta, .int (nI s1_26), .int (nI e1_27)])), (ta, .inr (6, [.ref ab, .int (nI tp)])), (ab, .inl (cB, 300, .inl fb))] H := hP
          have hD : va_D A [(h0, .inr (5, [.ref ta, .int (nI s1_26), .int (nI e1_27)])), (ta, .inr (6, [.ref ab, .int (nI tp)])), (ab, .inl (cB, 300, .inl fb))] := hD
          have hr_25 := hw
          try dsimp only at hr_25
          refine lv_istore (lv' := [(4, .int r_25), (0, .ref h0), (1, .long gr), (3, .int (nI i9))]) hx hb dX4_takeGrounds_31 hl (by decide) rfl (fun ls hl => ?_)
          refine lv_iload hx hb dX4_takeGrounds_33 (lv_at hl 0 rfl) ?_
          refine lv_iconst (v := (-1)) hx hb dX4_takeGrounds_35 (by decide) ?_
          refine lv_icmp_ne (tgt := 43) hx hb dX4_takeGrounds_36 (by decide) (fun c_31 => ?_) (fun c_31 => ?_)
          · refine lv_lload_n hx hb dX4_takeGrounds_43 rfl (lv_at hl 2 rfl) ?_
            refine lv_iload hx hb dX4_takeGrounds_44 (lv_at hl 0 rfl) ?_
            have hPc := hP.sub (ws' := []) [] rfl
            have hDc := hD.sub (ws' := []) [] (by decide) rfl
            have hKc := hK.sub (tys' := []) [] rfl
            have hFc := va_free (wc := []) hD hS hA [] rfl
            refine va_calll (va_runSN (As := [.int r_25]) (rest := [.long gr]) ⟨hx, hb, hml, hown, hts⟩ (c_X6_bit l dC dI _ r_25) ⟨va_cnB 1 hts gc_R_takeGrounds_X6_bit rfl rfl rfl nw4b (hts (.initialized RX6) (by decide +kernel)) (by decide +kernel) ⟨Nat.le_of_ble_eq_true rfl, Nat.le_of_ble_eq_true rfl⟩, (hts (.static yX6_bit) (by decide +kernel)), trivial⟩ ⟨fun a U g mk q => by obtain ⟨q0, q1, qP, qK, qD⟩ := q; exact ⟨q0, q1, qP, va_K.moved (u := U) (U := U.calling g mk a) (Vm.Alike.refl U.vm) qK, qD⟩, fun U hU hW => ⟨rfl, by rw [hU], by rw [hU]; exact hPc, va_K.moved hW.alike hKc, hDc.weaken (fun _ _ _ _ => trivial)⟩⟩ rfl rfl hl.1 rfl (lv_room (Nat.le_of_ble_eq_true rfl)) dX4_takeGrounds_46 ⟨Nat.zero_le _, Nat.zero_le _⟩) hS (fun q _ h => hFc q h) hFc (fun r_32 u t H1 locs ht hvm hw hB hz1 hk1 hS => ?_)
            obtain ⟨hP1, hK1, hD1⟩ := hB
            rw [ht] at hP1
            obtain ⟨hP, hD⟩ := va_join (wr := [(h0, .inr (5, [.ref ta, .int (nI s1_26), .int (nI e1_27)])), (ta, .inr (6, [.ref ab, .int (nI tp)])), (ab, .inl (cB, 300, .inl fb))]) (w1 := []) hP hD [] [0, 1, 2] rfl rfl (by decide) (by decide) hk1 hFc hP1 hD1
            generalize H1 = H at hP hS ⊢
            have hP : va_P (dC, dI) vwCl [(h0, .inr (5, [.ref ta, .int (nI s1_26), .int (nI e1_27)])), (ta, .inr (6, [.ref ab, .int (nI tp)])), (ab, .inl (cB, 300, .inl fb))] H := hP
            have hD : va_D A [(h0, .inr (5, [.ref ta, .int (nI s1_26), .int (nI e1_27)])), (ta, .inr (6, [.ref ab, .int (nI tp)])), (ab, .inl (cB, 300, .inl fb))] := hD
            have hr_32 := hw
            try dsimp only at hr_32
            refine lv_lor hx hb dX4_takeGrounds_49 ?_
            refine lv_topl (fun x_33 ex_33 => ?_)
            refine lv_lstore_n (lv' := [(1, .long x_33), (4, .int r_25), (0, .ref h0), (3, .int (nI i9))]) hx hb dX4_takeGrounds_50 rfl hl (by decide) rfl (fun ls hl => ?_)
            refine lv_iinc (v := (nI (i9 + 1))) (lv' := [(3, .int (nI (i9 + 1))), (1, .long x_33), (4, .int r_25), (0, .ref h0)]) hx hb dX4_takeGrounds_51 hl (k := 3) rfl (nI_1 _) (by decide) rfl (fun ls hl => ?_)
            refine lv_goto (tgt := 4) hx hb dX4_takeGrounds_54 (by decide) ?_
            exact ih s1_26 e1_27 x_33 (i9 + 1) _ _ _ (by omega) (by omega) (by omega) (by assumption) (by omega) ⟨hP, hD⟩ hS (lv_sub hl [3, 1, 0] rfl)
          · exact kk_39 s1_26 e1_27 _ _ _ (by omega) (by omega) (by assumption) ⟨hP, hD⟩ hS (lv_sub hl [1] rfl)
        · exact kk_23 s1_19 e1_20 gr _ _ _ (by omega) (by omega) (by assumption) ⟨hP, hD⟩ hS (lv_sub hl [0, 1] rfl)
set_option maxHeartbeats 4000000 in
set_option maxRecDepth 100000 in
/-- takeGrounds -/
theorem c_R_takeGrounds (l : Launch) (dC : Nat → ClassId) (dI : Nat → Nat → Nat) (sz : Nat) (h0 : Nat) (ta : Nat) (s0 : Nat) (e0 : Nat) (ab : Nat) (tp : Nat) (cB : ClassId) (fb : Nat → Int32) (zo : Option Nat) (qtp : tp ≤ 300) (qs : s0 ≤ e0) (qe : e0 ≤ tp) (hT : okT fb s0 e0) : Met l yX4_takeGrounds wp_R_takeGrounds ({ frames := 5, cells := 0, slots := 0, locals := 150 }) (va_Pc [.ref h0] (fun U => U.heap.size = sz ∧ va_P (dC, dI) vwCl [(h0, .inr (5, [.ref ta, .int (nI s0), .int (nI e0)])), (ta, .inr (6, [.ref ab, .int (nI tp)])), (ab, .inl (cB, 300, .inl fb))] U.heap ∧ va_K (dC, dI) vwCl [(cB, .int)] U ∧ va_D (fun _ => True) [(h0, .inr (5, [.ref ta, .int (nI s0), .int (nI e0)])), (ta, .inr (6, [.ref ab, .int (nI tp)])), (ab, .inl (cB, 300, .inl fb))] ∧ okEnv zo (va_A [(h0, .inr (5, [.ref ta, .int (nI s0), .int (nI e0)])), (ta, .inr (6, [.ref ab, .int (nI tp)])), (ab, .inl (cB, 300, .inl fb))] sz) U U.heap ∧ va_Nw (.methodLinkNest RX4 101 yX6_bit "AgreedTalks") U)) (va_Ql (fun (r : Int64) (_ : Unit) => True) (fun (_ : Unit) (t : State) => ∃ (s1 : Nat), ∃ (e1 : Nat), (s1 ≤ e1) ∧ (e1 ≤ tp) ∧ (okT fb s1 e1) ∧ va_P (dC, dI) vwCl [(h0, .inr (5, [.ref ta, .int (nI s1), .int (nI e1)])), (ta, .inr (6, [.ref ab, .int (nI tp)])), (ab, .inl (cB, 300, .inl fb))] t.heap ∧ va_K (dC, dI) vwCl [(cB, .int)] t ∧ va_D (va_A [(h0, .inr (5, [.ref ta, .int (nI s0), .int (nI e0)])), (ta, .inr (6, [.ref ab, .int (nI tp)])), (ab, .inl (cB, 300, .inl fb))] sz) [(h0, .inr (5, [.ref ta, .int (nI s1), .int (nI e1)])), (ta, .inr (6, [.ref ab, .int (nI tp)])), (ab, .inl (cB, 300, .inl fb))]) (va_A [(h0, .inr (5, [.ref ta, .int (nI s0), .int (nI e0)])), (ta, .inr (6, [.ref ab, .int (nI tp)])), (ab, .inl (cB, 300, .inl fb))] sz)) 0 0 (va_A [(h0, .inr (5, [.ref ta, .int (nI s0), .int (nI e0)])), (ta, .inr (6, [.ref ab, .int (nI tp)])), (ab, .inl (cB, 300, .inl fb))] sz) := by
  refine Met.ofW (cc := cX4_takeGrounds) (maxL := 5) (ret := (some .long)) (by decide) rfl ?_
  intro p e s m args below meth c s₁ B hml hv
  obtain ⟨rfl, hsz, hP, hK, hD0, hE, nw4b⟩ := hv
  have hx := B.exec
  have hb := B.bytes
  have hr := B.returns
  have hts := atoms_spec (ws := wp_R_takeGrounds) B.pre
  have hown : s.vm.findClass RX4 = some m.cls := findClass_of_methodNamed B.named
  have hlocks := B.notSynchronized
  subst hsz
  have hD := hD0.self (sz := s.heap.size)
  generalize hAe : va_A [(h0, .inr (5, [.ref ta, .int (nI s0), .int (nI e0)])), (ta, .inr (6, [.ref ab, .int (nI tp)])), (ab, .inl (cB, 300, .inl fb))] s.heap.size = A at hD hE ⊢
  have hA : ∀ q : Nat, s.heap.size ≤ q → A q := fun q h => by rw [← hAe]; exact Or.inr h
  have hS : va_S A s.heap s.heap [] := va_S.rf
  have hP : va_P (dC, dI) vwCl [(h0, .inr (5, [.ref ta, .int (nI s0), .int (nI e0)])), (ta, .inr (6, [.ref ab, .int (nI tp)])), (ab, .inl (cB, 300, .inl fb))] s.heap := hP
  have hl := lv_entry ([.ref h0]) (n := 5) (Nat.le_of_ble_eq_true rfl)
  rw [lg_entry_eq]
  generalize (lg_sl ([.ref h0]) ++ List.replicate (5 - (lg_sl ([.ref h0])).length) Slot.unset).toArray = ls at hl ⊢
  have hl : lv_has ls 5 [(0, .ref h0)] := hl
  refine lv_lconst (v := 0) hx hb dX4_takeGrounds_0 (by decide) ?_
  refine lv_lstore_n (lv' := [(1, .long 0), (0, .ref h0)]) hx hb dX4_takeGrounds_1 rfl hl (by decide) rfl (fun ls hl => ?_)
  refine lv_iconst (v := 0) hx hb dX4_takeGrounds_2 (by decide) ?_
  refine lv_istore_n (lv' := [(3, .int 0), (1, .long 0), (0, .ref h0)]) hx hb dX4_takeGrounds_3 rfl hl (by decide) rfl (fun ls hl => ?_)
  refine sg_R_takeGrounds_4 h0 ta s0 e0 ab tp cB fb zo qtp qs qe hT hx hb hml hown hts hK hA hE nw4b (fun s9_34 e9_35 gr_36 H locs ls hs9 he9 hT9 hPD hS hl => ?_) (fun s9_37 e9_38 H locs ls hs9 he9 hT9 hPD hS hl => ?_) (fun s9_39 e9_40 gr_41 H locs ls hs9 he9 hT9 hPD hS hl => ?_) ((6 - 0) + 1) s0 e0 0 0 _ _ _ (Nat.lt_succ_self _) (by omega) (by omega) (by assumption) (by omega) ⟨hP, hD⟩ hS (lv_sub hl [2, 1, 0] rfl)
  · obtain ⟨hP, hD⟩ := hPD
    refine lv_lload_n hx hb dX4_takeGrounds_23 rfl (lv_at hl 1 rfl) ?_
    have hP9 := hP.sub (ws' := [(h0, .inr (5, [.ref ta, .int (nI s9_34), .int (nI e9_35)])), (ta, .inr (6, [.ref ab, .int (nI tp)])), (ab, .inl (cB, 300, .inl fb))]) [0, 1, 2] rfl
    have hD9 := hD.sub (ws' := [(h0, .inr (5, [.ref ta, .int (nI s9_34), .int (nI e9_35)])), (ta, .inr (6, [.ref ab, .int (nI tp)])), (ab, .inl (cB, 300, .inl fb))]) [0, 1, 2] (by decide) rfl
    have hK9 := hK.sub (tys' := [(cB, .int)]) [0] rfl
    exact W.lret (v := gr_36) hx hb hr (fun t ht hW => ⟨⟨gr_36, (), rfl, trivial, s9_34, e9_35, (by omega), (by omega), (by assumption), by rw [ht]; exact hP9, va_K.moved hW.alike hK9, hD9⟩, hS.F ht⟩) hS.2.2 dX4_takeGrounds_24
  · obtain ⟨hP, hD⟩ := hPD
    refine lv_ldc2 (v := (-1)) hx hb hown (hts (.constantLong RX4 97 (-1)) (by decide +kernel)) dX4_takeGrounds_39 ?_
    have hP9 := hP.sub (ws' := [(h0, .inr (5, [.ref ta, .int (nI s9_37), .int (nI e9_38)])), (ta, .inr (6, [.ref ab, .int (nI tp)])), (ab, .inl (cB, 300, .inl fb))]) [0, 1, 2] rfl
    have hD9 := hD.sub (ws' := [(h0, .inr (5, [.ref ta, .int (nI s9_37), .int (nI e9_38)])), (ta, .inr (6, [.ref ab, .int (nI tp)])), (ab, .inl (cB, 300, .inl fb))]) [0, 1, 2] (by decide) rfl
    have hK9 := hK.sub (tys' := [(cB, .int)]) [0] rfl
    exact W.lret (v := (-1)) hx hb hr (fun t ht hW => ⟨⟨(-1), (), rfl, trivial, s9_37, e9_38, (by omega), (by omega), (by assumption), by rw [ht]; exact hP9, va_K.moved hW.alike hK9, hD9⟩, hS.F ht⟩) hS.2.2 dX4_takeGrounds_42
  · obtain ⟨hP, hD⟩ := hPD
    refine lv_lload_n hx hb dX4_takeGrounds_57 rfl (lv_at hl 1 rfl) ?_
    have hP9 := hP.sub (ws' := [(h0, .inr (5, [.ref ta, .int (nI s9_39), .int (nI e9_40)])), (ta, .inr (6, [.ref ab, .int (nI tp)])), (ab, .inl (cB, 300, .inl fb))]) [0, 1, 2] rfl
    have hD9 := hD.sub (ws' := [(h0, .inr (5, [.ref ta, .int (nI s9_39), .int (nI e9_40)])), (ta, .inr (6, [.ref ab, .int (nI tp)])), (ab, .inl (cB, 300, .inl fb))]) [0, 1, 2] (by decide) rfl
    have hK9 := hK.sub (tys' := [(cB, .int)]) [0] rfl
    exact W.lret (v := gr_41) hx hb hr (fun t ht hW => ⟨⟨gr_41, (), rfl, trivial, s9_39, e9_40, (by omega), (by omega), (by assumption), by rw [ht]; exact hP9, va_K.moved hW.alike hK9, hD9⟩, hS.F ht⟩) hS.2.2 dX4_takeGrounds_58
def wp_R_readThing : List Cond := .code yX4_readThing cX4_readThing 4 (some (.object "AgreedTalks$Line")) :: (([.classLink RX4 48 RX2, .instantiable RX2 6, .initialized RX2, .methodLink RX4 86 yX2_init, .instanceMethod yX2_init] : List Cond) ++ wsX20 ++ (wsV RX4 82 RX4 yX4_takeNumber wp_R_takeNumber) ++ wp_Line_init)
theorem gc_R_readThing_R_takeNumber : GoodIn wp_R_readThing (wsV RX4 82 RX4 yX4_takeNumber wp_R_takeNumber) := goodIn_sub (fun _ h => List.mem_cons_of_mem _ (List.mem_append_left _ (List.mem_append_right _ h))) (by decide +kernel)
theorem gc_R_readThing_Line_init : GoodIn wp_R_readThing wp_Line_init := goodIn_sub (fun _ h => List.mem_cons_of_mem _ (List.mem_append_right _ h)) (by decide +kernel)
set_option maxRecDepth 20000 in
theorem gi_R_readThing : GoodIn lw_tbl wp_R_readThing := (goodIn_ca (goodIn_ca (goodIn_ca (goodIn_r (.code yX4_readThing cX4_readThing 4 (some (.object "AgreedTalks$Line")) :: ([.classLink RX4 48 RX2, .instantiable RX2 6, .initialized RX2, .methodLink RX4 86 yX2_init, .instanceMethod yX2_init] : List Cond)) [330, 338, 339, 63, 340, 341] (by decide +kernel) (by decide +kernel)) wi_wsX2) (goodIn_app (goodIn_r _ [331, 333, 7, 53] (by decide +kernel) (by decide +kernel)) gi_R_takeNumber)) gi_Line_init)
set_option maxHeartbeats 4000000 in
set_option maxRecDepth 100000 in
/-- readThing -/
theorem c_R_readThing (l : Launch) (dC : Nat → ClassId) (dI : Nat → Nat → Nat) (sz : Nat) (h0 : Nat) (ta : Nat) (s0 : Nat) (e0 : Nat) (ab : Nat) (tp : Nat) (cB : ClassId) (fb : Nat → Int32) (p0 : Int32) (p1 : Int32) (zo : Option Nat) (qtp : tp ≤ 300) (qs : s0 ≤ e0) (qe : e0 ≤ tp) (hT : okT fb s0 e0) (hln : okLn p0 p1 (-1)) : Met l yX4_readThing wp_R_readThing ({ frames := 3, cells := 1, slots := 6, locals := 90 }) (va_Pc [.ref h0, .int p0, .int p1] (fun U => U.heap.size = sz ∧ va_P (dC, dI) vwCl [(h0, .inr (5, [.ref ta, .int (nI s0), .int (nI e0)])), (ta, .inr (6, [.ref ab, .int (nI tp)])), (ab, .inl (cB, 300, .inl fb))] U.heap ∧ va_K (dC, dI) vwCl [(cB, .int)] U ∧ va_D (fun _ => True) [(h0, .inr (5, [.ref ta, .int (nI s0), .int (nI e0)])), (ta, .inr (6, [.ref ab, .int (nI tp)])), (ab, .inl (cB, 300, .inl fb))] ∧ okEnv zo (va_A [(h0, .inr (5, [.ref ta, .int (nI s0), .int (nI e0)])), (ta, .inr (6, [.ref ab, .int (nI tp)])), (ab, .inl (cB, 300, .inl fb))] sz) U U.heap)) (va_Qq (fun (r : Option Nat) (u : va_W) => lnP sz r u) (fun (u : va_W) (t : State) => ∃ (s1 : Nat), ∃ (e1 : Nat), (s1 ≤ e1) ∧ (e1 ≤ tp) ∧ (okT fb s1 e1) ∧ va_P (dC, dI) vwCl ([(h0, .inr (5, [.ref ta, .int (nI s1), .int (nI e1)])), (ta, .inr (6, [.ref ab, .int (nI tp)])), (ab, .inl (cB, 300, .inl fb))] ++ u) t.heap ∧ va_K (dC, dI) vwCl [(cB, .int)] t ∧ va_D (va_A [(h0, .inr (5, [.ref ta, .int (nI s0), .int (nI e0)])), (ta, .inr (6, [.ref ab, .int (nI tp)])), (ab, .inl (cB, 300, .inl fb))] sz) ([(h0, .inr (5, [.ref ta, .int (nI s1), .int (nI e1)])), (ta, .inr (6, [.ref ab, .int (nI tp)])), (ab, .inl (cB, 300, .inl fb))] ++ u)) (va_A [(h0, .inr (5, [.ref ta, .int (nI s0), .int (nI e0)])), (ta, .inr (6, [.ref ab, .int (nI tp)])), (ab, .inl (cB, 300, .inl fb))] sz)) 1 6 (va_A [(h0, .inr (5, [.ref ta, .int (nI s0), .int (nI e0)])), (ta, .inr (6, [.ref ab, .int (nI tp)])), (ab, .inl (cB, 300, .inl fb))] sz) := by
  refine Met.ofW (cc := cX4_readThing) (maxL := 4) (ret := (some (.object "AgreedTalks$Line"))) (by decide) rfl ?_
  intro p e s m args below meth c s₁ B hml hv
  obtain ⟨rfl, hsz, hP, hK, hD0, hE⟩ := hv
  have hx := B.exec
  have hb := B.bytes
  have hr := B.returns
  have hts := atoms_spec (ws := wp_R_readThing) B.pre
  have hown : s.vm.findClass RX4 = some m.cls := findClass_of_methodNamed B.named
  have hlocks := B.notSynchronized
  subst hsz
  have hD := hD0.self (sz := s.heap.size)
  generalize hAe : va_A [(h0, .inr (5, [.ref ta, .int (nI s0), .int (nI e0)])), (ta, .inr (6, [.ref ab, .int (nI tp)])), (ab, .inl (cB, 300, .inl fb))] s.heap.size = A at hD hE ⊢
  have hA : ∀ q : Nat, s.heap.size ≤ q → A q := fun q h => by rw [← hAe]; exact Or.inr h
  have hS : va_S A s.heap s.heap [] := va_S.rf
  have hP : va_P (dC, dI) vwCl [(h0, .inr (5, [.ref ta, .int (nI s0), .int (nI e0)])), (ta, .inr (6, [.ref ab, .int (nI tp)])), (ab, .inl (cB, 300, .inl fb))] s.heap := hP
  have hl := lv_entry ([.ref h0, .int p0, .int p1]) (n := 4) (Nat.le_of_ble_eq_true rfl)
  rw [lg_entry_eq]
  generalize (lg_sl ([.ref h0, .int p0, .int p1]) ++ List.replicate (4 - (lg_sl ([.ref h0, .int p0, .int p1])).length) Slot.unset).toArray = ls at hl ⊢
  have hl : lv_has ls 4 [(0, .ref h0), (1, .int p0), (2, .int p1)] := hl
  have hinX2 : ∀ w ∈ u_ws RX2 TX2 6, w ∈ wp_R_readThing := fun _ h => List.mem_cons_of_mem _ (List.mem_append_left _ (List.mem_append_left _ (List.mem_append_right _ h)))
  refine lv_aload_n hx hb dX4_readThing_0 rfl (lv_at hl 0 rfl) ?_
  refine lv_bipush (v := 40) hx hb dX4_readThing_1 (by decide) ?_
  have hPc := hP.sub (ws' := [(h0, .inr (5, [.ref ta, .int (nI s0), .int (nI e0)])), (ta, .inr (6, [.ref ab, .int (nI tp)])), (ab, .inl (cB, 300, .inl fb))]) [0, 1, 2] rfl
  have hDc := hD.sub (ws' := [(h0, .inr (5, [.ref ta, .int (nI s0), .int (nI e0)])), (ta, .inr (6, [.ref ab, .int (nI tp)])), (ab, .inl (cB, 300, .inl fb))]) [0, 1, 2] (by decide) rfl
  have hKc := hK.sub (tys' := [(cB, .int)]) [0] rfl
  have hFc := va_free (wc := [(h0, .inr (5, [.ref ta, .int (nI s0), .int (nI e0)])), (ta, .inr (6, [.ref ab, .int (nI tp)])), (ab, .inl (cB, 300, .inl fb))]) hD hS hA [0, 1, 2] rfl
  refine va_calli (va_runV (As := [.int 40]) (rest := []) ⟨hx, hb, hml, hown, hts⟩ (c_R_takeNumber l dC dI _ h0 ta s0 e0 ab tp cB fb 40 (by omega) (by omega) (by omega) (by assumption) (by omega)) (cwV 1 hts gc_R_readThing_R_takeNumber rfl rfl rfl (by decide +kernel) ⟨Nat.le_of_ble_eq_true rfl, Nat.le_of_ble_eq_true rfl⟩) ⟨fun a U g mk q => by obtain ⟨q0, q1, qP, qK, qD⟩ := q; exact ⟨q0, q1, qP, va_K.moved (u := U) (U := U.calling g mk a) (Vm.Alike.refl U.vm) qK, qD⟩, va_recv hKc hPc (ci := 5) (q0 := 0) rfl rfl, fun U hU hW => ⟨rfl, by rw [hU], by rw [hU]; exact hPc, va_K.moved hW.alike hKc, hDc.weaken (fun _ _ _ _ => trivial)⟩⟩ rfl rfl hl.1 rfl (lv_room (Nat.le_of_ble_eq_true rfl)) dX4_readThing_3 ⟨Nat.zero_le _, Nat.zero_le _⟩) hS (fun q _ h => hFc q h) hFc (fun r_1 u t H1 locs ht hvm hw hB hz1 hk1 hS => ?_)
  obtain ⟨s1_2, e1_3, hf_4, hf_5, hf_6, hP1, hK1, hD1⟩ := hB
  rw [ht] at hP1
  obtain ⟨hP, hD⟩ := va_join (wr := []) (w1 := [(h0, .inr (5, [.ref ta, .int (nI s1_2), .int (nI e1_3)])), (ta, .inr (6, [.ref ab, .int (nI tp)])), (ab, .inl (cB, 300, .inl fb))]) hP hD [0, 1, 2] [] rfl rfl (by decide) (by decide) hk1 hFc hP1 hD1
  generalize H1 = H at hP hS ⊢
  have hP : va_P (dC, dI) vwCl [(h0, .inr (5, [.ref ta, .int (nI s1_2), .int (nI e1_3)])), (ta, .inr (6, [.ref ab, .int (nI tp)])), (ab, .inl (cB, 300, .inl fb))] H := hP
  have hD : va_D A [(h0, .inr (5, [.ref ta, .int (nI s1_2), .int (nI e1_3)])), (ta, .inr (6, [.ref ab, .int (nI tp)])), (ab, .inl (cB, 300, .inl fb))] := hD
  have hr_1 := hw
  try dsimp only at hr_1
  refine lv_istore_n (lv' := [(3, .int r_1), (0, .ref h0), (1, .int p0), (2, .int p1)]) hx hb dX4_readThing_6 rfl hl (by decide) rfl (fun ls hl => ?_)
  refine lv_iload_n hx hb dX4_readThing_7 rfl (lv_at hl 0 rfl) ?_
  refine lv_iconst (v := (-1)) hx hb dX4_readThing_8 (by decide) ?_
  refine lv_icmp_ne (tgt := 16) hx hb dX4_readThing_9 (by decide) (fun c_7 => ?_) (fun c_7 => ?_)
  · obtain ⟨n_8, hn_8, en_8⟩ : ∃ n, n < 40 ∧ r_1 = nI n := by
      rcases hr_1 with h | h
      · exact absurd h c_7
      · exact h
    subst en_8
    refine va_new (ci := 3) (fs := [.int 0, .int 0, .int 0, .int 0, .int 0, .long 0]) (C := RX2) (T := TX2) (N := 6) hx hb hts hinX2 tyX2 tyX2_ok hown (hts (.classLink RX4 48 RX2) (by decide +kernel)) (hts (.instantiable RX2 6) (by decide +kernel)) (hts (.initialized RX2) (by decide +kernel)) hK hP hD hS hA rfl (fun j hj => by rcases (show j = 0 ∨ j = 1 ∨ j = 2 ∨ j = 3 ∨ j = 4 ∨ j = 5 by omega) with rfl | rfl | rfl | rfl | rfl | rfl <;> rfl) (by decide) (by decide) dX4_readThing_16 (fun q_9 H hP hD hS => ?_)
    have hP : va_P (dC, dI) vwCl [(h0, .inr (5, [.ref ta, .int (nI s1_2), .int (nI e1_3)])), (ta, .inr (6, [.ref ab, .int (nI tp)])), (ab, .inl (cB, 300, .inl fb)), (q_9, .inr (3, [.int 0, .int 0, .int 0, .int 0, .int 0, .long 0]))] H := hP
    have hD : va_D A [(h0, .inr (5, [.ref ta, .int (nI s1_2), .int (nI e1_3)])), (ta, .inr (6, [.ref ab, .int (nI tp)])), (ab, .inl (cB, 300, .inl fb)), (q_9, .inr (3, [.int 0, .int 0, .int 0, .int 0, .int 0, .long 0]))] := hD
    refine W.widen (k := 1) (n := 6) (by omega) (by omega) ?_
    refine lv_dup hx hb dX4_readThing_19 rfl ?_
    refine lv_iload_n hx hb dX4_readThing_20 rfl (lv_at hl 2 rfl) ?_
    refine lv_iload_n hx hb dX4_readThing_21 rfl (lv_at hl 3 rfl) ?_
    refine lv_iconst (v := (-1)) hx hb dX4_readThing_22 (by decide) ?_
    refine lv_iload_n hx hb dX4_readThing_23 rfl (lv_at hl 0 rfl) ?_
    refine lv_iconst (v := (-1)) hx hb dX4_readThing_24 (by decide) ?_
    refine lv_lconst (v := 0) hx hb dX4_readThing_25 (by decide) ?_
    have hPc := hP.sub (ws' := [(q_9, .inr (3, [.int 0, .int 0, .int 0, .int 0, .int 0, .long 0]))]) [3] rfl
    have hDc := hD.sub (ws' := [(q_9, .inr (3, [.int 0, .int 0, .int 0, .int 0, .int 0, .long 0]))]) [3] (by decide) rfl
    have hKc := hK.sub (tys' := []) [] rfl
    have hFc := va_free (wc := [(q_9, .inr (3, [.int 0, .int 0, .int 0, .int 0, .int 0, .long 0]))]) hD hS hA [3] rfl
    refine va_callv (va_runI (As := [.int p0, .int p1, .int (-1), .int (nI n_8), .int (-1), .long 0]) (rest := [.ref q_9]) ⟨hx, hb, hml, hown, hts⟩ (c_Line_init l dC dI _ q_9 p0 p1 (-1) (nI n_8) (-1) 0) (cwI 6 hts gc_R_readThing_Line_init rfl rfl rfl (hts (.initialized RX2) (by decide +kernel)) (hts (.methodLink RX4 86 yX2_init) (by decide +kernel)) (hts (.instanceMethod yX2_init) (by decide +kernel)) rfl (by decide +kernel) ⟨Nat.le_of_ble_eq_true rfl, Nat.le_of_ble_eq_true rfl⟩) ⟨fun a U g mk q => by obtain ⟨q0, q1, qP, qK, qD⟩ := q; exact ⟨q0, q1, qP, va_K.moved (u := U) (U := U.calling g mk a) (Vm.Alike.refl U.vm) qK, qD⟩, fun U hU hW => ⟨rfl, by rw [hU], by rw [hU]; exact hPc, va_K.moved hW.alike hKc, hDc.weaken (fun _ _ _ _ => trivial)⟩⟩ rfl rfl hl.1 rfl (lv_room (Nat.le_of_ble_eq_true rfl)) dX4_readThing_26 ⟨by decide, by decide⟩) hS (fun q _ h => hFc q h) hFc (fun u t H1 locs ht hvm hw hB hz1 hk1 hS => ?_)
    obtain ⟨hP1, hK1, hD1⟩ := hB
    rw [ht] at hP1
    obtain ⟨hP, hD⟩ := va_join (wr := [(h0, .inr (5, [.ref ta, .int (nI s1_2), .int (nI e1_3)])), (ta, .inr (6, [.ref ab, .int (nI tp)])), (ab, .inl (cB, 300, .inl fb))]) (w1 := [(q_9, .inr (3, [.int p0, .int p1, .int (-1), .int (nI n_8), .int (-1), .long 0]))]) hP hD [3] [0, 1, 2] rfl rfl (by decide) (by decide) hk1 hFc hP1 hD1
    generalize H1 = H at hP hS ⊢
    have hP : va_P (dC, dI) vwCl [(h0, .inr (5, [.ref ta, .int (nI s1_2), .int (nI e1_3)])), (ta, .inr (6, [.ref ab, .int (nI tp)])), (ab, .inl (cB, 300, .inl fb)), (q_9, .inr (3, [.int p0, .int p1, .int (-1), .int (nI n_8), .int (-1), .long 0]))] H := hP
    have hD : va_D A [(h0, .inr (5, [.ref ta, .int (nI s1_2), .int (nI e1_3)])), (ta, .inr (6, [.ref ab, .int (nI tp)])), (ab, .inl (cB, 300, .inl fb)), (q_9, .inr (3, [.int p0, .int p1, .int (-1), .int (nI n_8), .int (-1), .long 0]))] := hD
    have hP9 := hP.sub (ws' := [(h0, .inr (5, [.ref ta, .int (nI s1_2), .int (nI e1_3)])), (ta, .inr (6, [.ref ab, .int (nI tp)])), (ab, .inl (cB, 300, .inl fb)), (q_9, .inr (3, [.int p0, .int p1, .int (-1), .int (nI n_8), .int (-1), .long 0]))]) [0, 1, 2, 3] rfl
    have hD9 := hD.sub (ws' := [(h0, .inr (5, [.ref ta, .int (nI s1_2), .int (nI e1_3)])), (ta, .inr (6, [.ref ab, .int (nI tp)])), (ab, .inl (cB, 300, .inl fb)), (q_9, .inr (3, [.int p0, .int p1, .int (-1), .int (nI n_8), .int (-1), .long 0]))]) [0, 1, 2, 3] (by decide) rfl
    have hK9 := hK.sub (tys' := [(cB, .int)]) [0] rfl
    refine W.widen (k := 1) (n := 6) (by omega) (by omega) ?_
    exact W.aret (v := .ref q_9) hx hb hr (by first | exact Or.inl ⟨_, rfl⟩ | exact Or.inr ⟨_, rfl⟩) (Or.inr ⟨_, rfl⟩) (fun t ht hW => ⟨⟨some q_9, [(q_9, .inr (3, [.int p0, .int p1, .int (-1), .int (nI n_8), .int (-1), .long 0]))], rfl, Or.inr ⟨q_9, n_8, p0, p1, (-1), (-1), 0, rfl, rfl, (by omega), hln, okNew hAe hD 3 rfl [0, 1, 2] rfl (by decide)⟩, s1_2, e1_3, (by omega), (by omega), (by assumption), by rw [ht]; exact hP9, va_K.moved hW.alike hK9, hD9⟩, hS.F ht⟩) hS.2.2 dX4_readThing_29
  · refine lv_null hx hb dX4_readThing_12 ?_
    refine lv_goto (tgt := 29) hx hb dX4_readThing_13 (by decide) ?_
    have hP9 := hP.sub (ws' := [(h0, .inr (5, [.ref ta, .int (nI s1_2), .int (nI e1_3)])), (ta, .inr (6, [.ref ab, .int (nI tp)])), (ab, .inl (cB, 300, .inl fb))]) [0, 1, 2] rfl
    have hD9 := hD.sub (ws' := [(h0, .inr (5, [.ref ta, .int (nI s1_2), .int (nI e1_3)])), (ta, .inr (6, [.ref ab, .int (nI tp)])), (ab, .inl (cB, 300, .inl fb))]) [0, 1, 2] (by decide) rfl
    have hK9 := hK.sub (tys' := [(cB, .int)]) [0] rfl
    refine W.widen (k := 1) (n := 6) (by omega) (by omega) ?_
    exact W.aret (v := .null) hx hb hr (by first | exact Or.inl ⟨_, rfl⟩ | exact Or.inr ⟨_, rfl⟩) (Or.inl rfl) (fun t ht hW => ⟨⟨none, [], rfl, Or.inl ⟨rfl, rfl⟩, s1_2, e1_3, (by omega), (by omega), (by assumption), by rw [ht]; exact hP9, va_K.moved hW.alike hK9, hD9⟩, hS.F ht⟩) hS.2.2 dX4_readThing_29
def wp_R_readDated : List Cond := .code yX4_readDated cX4_readDated 6 (some (.object "AgreedTalks$Line")) :: (([.classLink RX4 48 RX2, .instantiable RX2 6, .initialized RX2, .methodLink RX4 86 yX2_init, .instanceMethod yX2_init] : List Cond) ++ wsX20 ++ (wsV RX4 82 RX4 yX4_takeNumber wp_R_takeNumber) ++ (wsV RX4 42 RX4 yX4_takeWord wp_R_takeWord) ++ wp_Line_init)
theorem gc_R_readDated_R_takeNumber : GoodIn wp_R_readDated (wsV RX4 82 RX4 yX4_takeNumber wp_R_takeNumber) := goodIn_sub (fun _ h => List.mem_cons_of_mem _ (List.mem_append_left _ (List.mem_append_left _ (List.mem_append_right _ h)))) (by decide +kernel)
theorem gc_R_readDated_R_takeWord : GoodIn wp_R_readDated (wsV RX4 42 RX4 yX4_takeWord wp_R_takeWord) := goodIn_sub (fun _ h => List.mem_cons_of_mem _ (List.mem_append_left _ (List.mem_append_right _ h))) (by decide +kernel)
theorem gc_R_readDated_Line_init : GoodIn wp_R_readDated wp_Line_init := goodIn_sub (fun _ h => List.mem_cons_of_mem _ (List.mem_append_right _ h)) (by decide +kernel)
set_option maxRecDepth 20000 in
theorem gi_R_readDated : GoodIn lw_tbl wp_R_readDated := (goodIn_ca (goodIn_ca (goodIn_ca (goodIn_ca (goodIn_r (.code yX4_readDated cX4_readDated 6 (some (.object "AgreedTalks$Line")) :: ([.classLink RX4 48 RX2, .instantiable RX2 6, .initialized RX2, .methodLink RX4 86 yX2_init, .instanceMethod yX2_init] : List Cond)) [386, 338, 339, 63, 340, 341] (by decide +kernel) (by decide +kernel)) wi_wsX2) (goodIn_app (goodIn_r _ [331, 333, 7, 53] (by decide +kernel) (by decide +kernel)) gi_R_takeNumber)) (goodIn_app (goodIn_r _ [275, 277, 5, 53] (by decide +kernel) (by decide +kernel)) gi_R_takeWord)) gi_Line_init)
set_option maxHeartbeats 4000000 in
set_option maxRecDepth 100000 in
/-- readDated -/
theorem c_R_readDated (l : Launch) (dC : Nat → ClassId) (dI : Nat → Nat → Nat) (sz : Nat) (h0 : Nat) (ta : Nat) (s0 : Nat) (e0 : Nat) (ab : Nat) (tp : Nat) (cB : ClassId) (fb : Nat → Int32) (p0 : Int32) (p1 : Int32) (p2 : Int32) (zo : Option Nat) (qtp : tp ≤ 300) (qs : s0 ≤ e0) (qe : e0 ≤ tp) (hT : okT fb s0 e0) (hln : okLn p0 p1 p2) : Met l yX4_readDated wp_R_readDated ({ frames := 5, cells := 1, slots := 6, locals := 150 }) (va_Pc [.ref h0, .int p0, .int p1, .int p2] (fun U => U.heap.size = sz ∧ va_P (dC, dI) vwCl [(h0, .inr (5, [.ref ta, .int (nI s0), .int (nI e0)])), (ta, .inr (6, [.ref ab, .int (nI tp)])), (ab, .inl (cB, 300, .inl fb))] U.heap ∧ va_K (dC, dI) vwCl [(cB, .int)] U ∧ va_D (fun _ => True) [(h0, .inr (5, [.ref ta, .int (nI s0), .int (nI e0)])), (ta, .inr (6, [.ref ab, .int (nI tp)])), (ab, .inl (cB, 300, .inl fb))] ∧ okEnv zo (va_A [(h0, .inr (5, [.ref ta, .int (nI s0), .int (nI e0)])), (ta, .inr (6, [.ref ab, .int (nI tp)])), (ab, .inl (cB, 300, .inl fb))] sz) U U.heap)) (va_Qq (fun (r : Option Nat) (u : va_W) => lnP sz r u) (fun (u : va_W) (t : State) => ∃ (s1 : Nat), ∃ (e1 : Nat), (s1 ≤ e1) ∧ (e1 ≤ tp) ∧ (okT fb s1 e1) ∧ va_P (dC, dI) vwCl ([(h0, .inr (5, [.ref ta, .int (nI s1), .int (nI e1)])), (ta, .inr (6, [.ref ab, .int (nI tp)])), (ab, .inl (cB, 300, .inl fb))] ++ u) t.heap ∧ va_K (dC, dI) vwCl [(cB, .int)] t ∧ va_D (va_A [(h0, .inr (5, [.ref ta, .int (nI s0), .int (nI e0)])), (ta, .inr (6, [.ref ab, .int (nI tp)])), (ab, .inl (cB, 300, .inl fb))] sz) ([(h0, .inr (5, [.ref ta, .int (nI s1), .int (nI e1)])), (ta, .inr (6, [.ref ab, .int (nI tp)])), (ab, .inl (cB, 300, .inl fb))] ++ u)) (va_A [(h0, .inr (5, [.ref ta, .int (nI s0), .int (nI e0)])), (ta, .inr (6, [.ref ab, .int (nI tp)])), (ab, .inl (cB, 300, .inl fb))] sz)) 1 6 (va_A [(h0, .inr (5, [.ref ta, .int (nI s0), .int (nI e0)])), (ta, .inr (6, [.ref ab, .int (nI tp)])), (ab, .inl (cB, 300, .inl fb))] sz) := by
  refine Met.ofW (cc := cX4_readDated) (maxL := 6) (ret := (some (.object "AgreedTalks$Line"))) (by decide) rfl ?_
  intro p e s m args below meth c s₁ B hml hv
  obtain ⟨rfl, hsz, hP, hK, hD0, hE⟩ := hv
  have hx := B.exec
  have hb := B.bytes
  have hr := B.returns
  have hts := atoms_spec (ws := wp_R_readDated) B.pre
  have hown : s.vm.findClass RX4 = some m.cls := findClass_of_methodNamed B.named
  have hlocks := B.notSynchronized
  subst hsz
  have hD := hD0.self (sz := s.heap.size)
  generalize hAe : va_A [(h0, .inr (5, [.ref ta, .int (nI s0), .int (nI e0)])), (ta, .inr (6, [.ref ab, .int (nI tp)])), (ab, .inl (cB, 300, .inl fb))] s.heap.size = A at hD hE ⊢
  have hA : ∀ q : Nat, s.heap.size ≤ q → A q := fun q h => by rw [← hAe]; exact Or.inr h
  have hS : va_S A s.heap s.heap [] := va_S.rf
  have hP : va_P (dC, dI) vwCl [(h0, .inr (5, [.ref ta, .int (nI s0), .int (nI e0)])), (ta, .inr (6, [.ref ab, .int (nI tp)])), (ab, .inl (cB, 300, .inl fb))] s.heap := hP
  have hl := lv_entry ([.ref h0, .int p0, .int p1, .int p2]) (n := 6) (Nat.le_of_ble_eq_true rfl)
  rw [lg_entry_eq]
  generalize (lg_sl ([.ref h0, .int p0, .int p1, .int p2]) ++ List.replicate (6 - (lg_sl ([.ref h0, .int p0, .int p1, .int p2])).length) Slot.unset).toArray = ls at hl ⊢
  have hl : lv_has ls 6 [(0, .ref h0), (1, .int p0), (2, .int p1), (3, .int p2)] := hl
  have hinX2 : ∀ w ∈ u_ws RX2 TX2 6, w ∈ wp_R_readDated := fun _ h => List.mem_cons_of_mem _ (List.mem_append_left _ (List.mem_append_left _ (List.mem_append_left _ (List.mem_append_right _ h))))
  refine lv_aload_n hx hb dX4_readDated_0 rfl (lv_at hl 0 rfl) ?_
  refine lv_bipush (v := 40) hx hb dX4_readDated_1 (by decide) ?_
  have hPc := hP.sub (ws' := [(h0, .inr (5, [.ref ta, .int (nI s0), .int (nI e0)])), (ta, .inr (6, [.ref ab, .int (nI tp)])), (ab, .inl (cB, 300, .inl fb))]) [0, 1, 2] rfl
  have hDc := hD.sub (ws' := [(h0, .inr (5, [.ref ta, .int (nI s0), .int (nI e0)])), (ta, .inr (6, [.ref ab, .int (nI tp)])), (ab, .inl (cB, 300, .inl fb))]) [0, 1, 2] (by decide) rfl
  have hKc := hK.sub (tys' := [(cB, .int)]) [0] rfl
  have hFc := va_free (wc := [(h0, .inr (5, [.ref ta, .int (nI s0), .int (nI e0)])), (ta, .inr (6, [.ref ab, .int (nI tp)])), (ab, .inl (cB, 300, .inl fb))]) hD hS hA [0, 1, 2] rfl
  refine va_calli (va_runV (As := [.int 40]) (rest := []) ⟨hx, hb, hml, hown, hts⟩ (c_R_takeNumber l dC dI _ h0 ta s0 e0 ab tp cB fb 40 (by omega) (by omega) (by omega) (by assumption) (by omega)) (cwV 1 hts gc_R_readDated_R_takeNumber rfl rfl rfl (by decide +kernel) ⟨Nat.le_of_ble_eq_true rfl, Nat.le_of_ble_eq_true rfl⟩) ⟨fun a U g mk q => by obtain ⟨q0, q1, qP, qK, qD⟩ := q; exact ⟨q0, q1, qP, va_K.moved (u := U) (U := U.calling g mk a) (Vm.Alike.refl U.vm) qK, qD⟩, va_recv hKc hPc (ci := 5) (q0 := 0) rfl rfl, fun U hU hW => ⟨rfl, by rw [hU], by rw [hU]; exact hPc, va_K.moved hW.alike hKc, hDc.weaken (fun _ _ _ _ => trivial)⟩⟩ rfl rfl hl.1 rfl (lv_room (Nat.le_of_ble_eq_true rfl)) dX4_readDated_3 ⟨Nat.zero_le _, Nat.zero_le _⟩) hS (fun q _ h => hFc q h) hFc (fun r_1 u t H1 locs ht hvm hw hB hz1 hk1 hS => ?_)
  obtain ⟨s1_2, e1_3, hf_4, hf_5, hf_6, hP1, hK1, hD1⟩ := hB
  rw [ht] at hP1
  obtain ⟨hP, hD⟩ := va_join (wr := []) (w1 := [(h0, .inr (5, [.ref ta, .int (nI s1_2), .int (nI e1_3)])), (ta, .inr (6, [.ref ab, .int (nI tp)])), (ab, .inl (cB, 300, .inl fb))]) hP hD [0, 1, 2] [] rfl rfl (by decide) (by decide) hk1 hFc hP1 hD1
  generalize H1 = H at hP hS ⊢
  have hP : va_P (dC, dI) vwCl [(h0, .inr (5, [.ref ta, .int (nI s1_2), .int (nI e1_3)])), (ta, .inr (6, [.ref ab, .int (nI tp)])), (ab, .inl (cB, 300, .inl fb))] H := hP
  have hD : va_D A [(h0, .inr (5, [.ref ta, .int (nI s1_2), .int (nI e1_3)])), (ta, .inr (6, [.ref ab, .int (nI tp)])), (ab, .inl (cB, 300, .inl fb))] := hD
  have hr_1 := hw
  try dsimp only at hr_1
  refine lv_istore (lv' := [(4, .int r_1), (0, .ref h0), (1, .int p0), (2, .int p1), (3, .int p2)]) hx hb dX4_readDated_6 hl (by decide) rfl (fun ls hl => ?_)
  refine lv_iload hx hb dX4_readDated_8 (lv_at hl 0 rfl) ?_
  refine lv_iconst (v := (-1)) hx hb dX4_readDated_10 (by decide) ?_
  refine lv_icmp_ne (tgt := 16) hx hb dX4_readDated_11 (by decide) (fun c_7 => ?_) (fun c_7 => ?_)
  · obtain ⟨n_8, hn_8, en_8⟩ : ∃ n, n < 40 ∧ r_1 = nI n := by
      rcases hr_1 with h | h
      · exact absurd h c_7
      · exact h
    subst en_8
    refine lv_iconst (v := (-1)) hx hb dX4_readDated_16 (by decide) ?_
    refine lv_istore (lv' := [(5, .int (-1)), (4, .int (nI n_8)), (0, .ref h0), (1, .int p0), (2, .int p1), (3, .int p2)]) hx hb dX4_readDated_17 hl (by decide) rfl (fun ls hl => ?_)
    refine lv_aload_n hx hb dX4_readDated_19 rfl (lv_at hl 2 rfl) ?_
    obtain ⟨sa_9, sv_10, sn_11, sf_12, hR_13, hs_14⟩ := hE.2.2 (89, "by") (by decide)
    refine va_ldcS hx hb hown hR_13 dX4_readDated_20 ?_
    have hPc := hP.sub (ws' := [(h0, .inr (5, [.ref ta, .int (nI s1_2), .int (nI e1_3)])), (ta, .inr (6, [.ref ab, .int (nI tp)])), (ab, .inl (cB, 300, .inl fb))]) [0, 1, 2] rfl
    have hDc := hD.sub (ws' := [(h0, .inr (5, [.ref ta, .int (nI s1_2), .int (nI e1_3)])), (ta, .inr (6, [.ref ab, .int (nI tp)])), (ab, .inl (cB, 300, .inl fb))]) [0, 1, 2] (by decide) rfl
    have hKc := hK.sub (tys' := [(cB, .int)]) [0] rfl
    have hFc := va_free (wc := [(h0, .inr (5, [.ref ta, .int (nI s1_2), .int (nI e1_3)])), (ta, .inr (6, [.ref ab, .int (nI tp)])), (ab, .inl (cB, 300, .inl fb))]) hD hS hA [0, 1, 2] rfl
    refine va_calli (va_runV (As := [.ref sa_9]) (rest := []) ⟨hx, hb, hml, hown, hts⟩ (c_R_takeWord l dC dI _ h0 ta s1_2 e1_3 ab tp cB fb sa_9 sv_10 sn_11 sf_12 zo (by omega) (by omega) (by omega) (by assumption)) (cwV 1 hts gc_R_readDated_R_takeWord rfl rfl rfl (by decide +kernel) ⟨Nat.le_of_ble_eq_true rfl, Nat.le_of_ble_eq_true rfl⟩) ⟨fun a U g mk q => by obtain ⟨q0, q1, qP, qK, qD, q_hE, q_hs⟩ := q; exact ⟨q0, q1, qP, va_K.moved (u := U) (U := U.calling g mk a) (Vm.Alike.refl U.vm) qK, qD, okEnv.same rfl q_hE, okStr.moved (Vm.Alike.refl U.vm) q_hs⟩, va_recv hKc hPc (ci := 5) (q0 := 0) rfl rfl, fun U hU hW => ⟨rfl, by rw [hU], by rw [hU]; exact hPc, va_K.moved hW.alike hKc, hDc.weaken (fun _ _ _ _ => trivial), by rw [hU]; exact okEnv.pass hE hW hS hFc, by rw [hU]; exact okStr.pass hs_14 hW hS hFc⟩⟩ rfl rfl hl.1 rfl (lv_room (Nat.le_of_ble_eq_true rfl)) dX4_readDated_22 ⟨Nat.zero_le _, Nat.zero_le _⟩) hS (fun q _ h => hFc q h) hFc (fun r_15 u t H1 locs ht hvm hw hB hz1 hk1 hS => ?_)
    obtain ⟨s1_16, e1_17, hf_18, hf_19, hf_20, hP1, hK1, hD1⟩ := hB
    rw [ht] at hP1
    obtain ⟨hP, hD⟩ := va_join (wr := []) (w1 := [(h0, .inr (5, [.ref ta, .int (nI s1_16), .int (nI e1_17)])), (ta, .inr (6, [.ref ab, .int (nI tp)])), (ab, .inl (cB, 300, .inl fb))]) hP hD [0, 1, 2] [] rfl rfl (by decide) (by decide) hk1 hFc hP1 hD1
    generalize H1 = H at hP hS ⊢
    have hP : va_P (dC, dI) vwCl [(h0, .inr (5, [.ref ta, .int (nI s1_16), .int (nI e1_17)])), (ta, .inr (6, [.ref ab, .int (nI tp)])), (ab, .inl (cB, 300, .inl fb))] H := hP
    have hD : va_D A [(h0, .inr (5, [.ref ta, .int (nI s1_16), .int (nI e1_17)])), (ta, .inr (6, [.ref ab, .int (nI tp)])), (ab, .inl (cB, 300, .inl fb))] := hD
    have hr_15 := hw
    try dsimp only at hr_15
    refine lv_if_eq (tgt := 45) hx hb dX4_readDated_25 (by decide) (fun c_21 => ?_) (fun c_21 => ?_)
    · refine va_new (ci := 3) (fs := [.int 0, .int 0, .int 0, .int 0, .int 0, .long 0]) (C := RX2) (T := TX2) (N := 6) hx hb hts hinX2 tyX2 tyX2_ok hown (hts (.classLink RX4 48 RX2) (by decide +kernel)) (hts (.instantiable RX2 6) (by decide +kernel)) (hts (.initialized RX2) (by decide +kernel)) hK hP hD hS hA rfl (fun j hj => by rcases (show j = 0 ∨ j = 1 ∨ j = 2 ∨ j = 3 ∨ j = 4 ∨ j = 5 by omega) with rfl | rfl | rfl | rfl | rfl | rfl <;> rfl) (by decide) (by decide) dX4_readDated_45 (fun q_22 H hP hD hS => ?_)
      have hP : va_P (dC, dI) vwCl [(h0, .inr (5, [.ref ta, .int (nI s1_16), .int (nI e1_17)])), (ta, .inr (6, [.ref ab, .int (nI tp)])), (ab, .inl (cB, 300, .inl fb)), (q_22, .inr (3, [.int 0, .int 0, .int 0, .int 0, .int 0, .long 0]))] H := hP
      have hD : va_D A [(h0, .inr (5, [.ref ta, .int (nI s1_16), .int (nI e1_17)])), (ta, .inr (6, [.ref ab, .int (nI tp)])), (ab, .inl (cB, 300, .inl fb)), (q_22, .inr (3, [.int 0, .int 0, .int 0, .int 0, .int 0, .long 0]))] := hD
      refine W.widen (k := 1) (n := 6) (by omega) (by omega) ?_
      refine lv_dup hx hb dX4_readDated_48 rfl ?_
      refine lv_iload_n hx hb dX4_readDated_49 rfl (lv_at hl 3 rfl) ?_
      refine lv_iload_n hx hb dX4_readDated_50 rfl (lv_at hl 4 rfl) ?_
      refine lv_iload_n hx hb dX4_readDated_51 rfl (lv_at hl 5 rfl) ?_
      refine lv_iload hx hb dX4_readDated_52 (lv_at hl 1 rfl) ?_
      refine lv_iload hx hb dX4_readDated_54 (lv_at hl 0 rfl) ?_
      refine lv_lconst (v := 0) hx hb dX4_readDated_56 (by decide) ?_
      have hPc := hP.sub (ws' := [(q_22, .inr (3, [.int 0, .int 0, .int 0, .int 0, .int 0, .long 0]))]) [3] rfl
      have hDc := hD.sub (ws' := [(q_22, .inr (3, [.int 0, .int 0, .int 0, .int 0, .int 0, .long 0]))]) [3] (by decide) rfl
      have hKc := hK.sub (tys' := []) [] rfl
      have hFc := va_free (wc := [(q_22, .inr (3, [.int 0, .int 0, .int 0, .int 0, .int 0, .long 0]))]) hD hS hA [3] rfl
      refine va_callv (va_runI (As := [.int p0, .int p1, .int p2, .int (nI n_8), .int (-1), .long 0]) (rest := [.ref q_22]) ⟨hx, hb, hml, hown, hts⟩ (c_Line_init l dC dI _ q_22 p0 p1 p2 (nI n_8) (-1) 0) (cwI 6 hts gc_R_readDated_Line_init rfl rfl rfl (hts (.initialized RX2) (by decide +kernel)) (hts (.methodLink RX4 86 yX2_init) (by decide +kernel)) (hts (.instanceMethod yX2_init) (by decide +kernel)) rfl (by decide +kernel) ⟨Nat.le_of_ble_eq_true rfl, Nat.le_of_ble_eq_true rfl⟩) ⟨fun a U g mk q => by obtain ⟨q0, q1, qP, qK, qD⟩ := q; exact ⟨q0, q1, qP, va_K.moved (u := U) (U := U.calling g mk a) (Vm.Alike.refl U.vm) qK, qD⟩, fun U hU hW => ⟨rfl, by rw [hU], by rw [hU]; exact hPc, va_K.moved hW.alike hKc, hDc.weaken (fun _ _ _ _ => trivial)⟩⟩ rfl rfl hl.1 rfl (lv_room (Nat.le_of_ble_eq_true rfl)) dX4_readDated_57 ⟨by decide, by decide⟩) hS (fun q _ h => hFc q h) hFc (fun u t H1 locs ht hvm hw hB hz1 hk1 hS => ?_)
      obtain ⟨hP1, hK1, hD1⟩ := hB
      rw [ht] at hP1
      obtain ⟨hP, hD⟩ := va_join (wr := [(h0, .inr (5, [.ref ta, .int (nI s1_16), .int (nI e1_17)])), (ta, .inr (6, [.ref ab, .int (nI tp)])), (ab, .inl (cB, 300, .inl fb))]) (w1 := [(q_22, .inr (3, [.int p0, .int p1, .int p2, .int (nI n_8), .int (-1), .long 0]))]) hP hD [3] [0, 1, 2] rfl rfl (by decide) (by decide) hk1 hFc hP1 hD1
      generalize H1 = H at hP hS ⊢
      have hP : va_P (dC, dI) vwCl [(h0, .inr (5, [.ref ta, .int (nI s1_16), .int (nI e1_17)])), (ta, .inr (6, [.ref ab, .int (nI tp)])), (ab, .inl (cB, 300, .inl fb)), (q_22, .inr (3, [.int p0, .int p1, .int p2, .int (nI n_8), .int (-1), .long 0]))] H := hP
      have hD : va_D A [(h0, .inr (5, [.ref ta, .int (nI s1_16), .int (nI e1_17)])), (ta, .inr (6, [.ref ab, .int (nI tp)])), (ab, .inl (cB, 300, .inl fb)), (q_22, .inr (3, [.int p0, .int p1, .int p2, .int (nI n_8), .int (-1), .long 0]))] := hD
      have hP9 := hP.sub (ws' := [(h0, .inr (5, [.ref ta, .int (nI s1_16), .int (nI e1_17)])), (ta, .inr (6, [.ref ab, .int (nI tp)])), (ab, .inl (cB, 300, .inl fb)), (q_22, .inr (3, [.int p0, .int p1, .int p2, .int (nI n_8), .int (-1), .long 0]))]) [0, 1, 2, 3] rfl
      have hD9 := hD.sub (ws' := [(h0, .inr (5, [.ref ta, .int (nI s1_16), .int (nI e1_17)])), (ta, .inr (6, [.ref ab, .int (nI tp)])), (ab, .inl (cB, 300, .inl fb)), (q_22, .inr (3, [.int p0, .int p1, .int p2, .int (nI n_8), .int (-1), .long 0]))]) [0, 1, 2, 3] (by decide) rfl
      have hK9 := hK.sub (tys' := [(cB, .int)]) [0] rfl
      refine W.widen (k := 1) (n := 6) (by omega) (by omega) ?_
      exact W.aret (v := .ref q_22) hx hb hr (by first | exact Or.inl ⟨_, rfl⟩ | exact Or.inr ⟨_, rfl⟩) (Or.inr ⟨_, rfl⟩) (fun t ht hW => ⟨⟨some q_22, [(q_22, .inr (3, [.int p0, .int p1, .int p2, .int (nI n_8), .int (-1), .long 0]))], rfl, Or.inr ⟨q_22, n_8, p0, p1, p2, (-1), 0, rfl, rfl, (by omega), hln, okNew hAe hD 3 rfl [0, 1, 2] rfl (by decide)⟩, s1_16, e1_17, (by omega), (by omega), (by assumption), by rw [ht]; exact hP9, va_K.moved hW.alike hK9, hD9⟩, hS.F ht⟩) hS.2.2 dX4_readDated_60
    · refine lv_aload_n hx hb dX4_readDated_28 rfl (lv_at hl 2 rfl) ?_
      refine lv_sipush (v := 1000) hx hb dX4_readDated_29 (by decide) ?_
      have hPc := hP.sub (ws' := [(h0, .inr (5, [.ref ta, .int (nI s1_16), .int (nI e1_17)])), (ta, .inr (6, [.ref ab, .int (nI tp)])), (ab, .inl (cB, 300, .inl fb))]) [0, 1, 2] rfl
      have hDc := hD.sub (ws' := [(h0, .inr (5, [.ref ta, .int (nI s1_16), .int (nI e1_17)])), (ta, .inr (6, [.ref ab, .int (nI tp)])), (ab, .inl (cB, 300, .inl fb))]) [0, 1, 2] (by decide) rfl
      have hKc := hK.sub (tys' := [(cB, .int)]) [0] rfl
      have hFc := va_free (wc := [(h0, .inr (5, [.ref ta, .int (nI s1_16), .int (nI e1_17)])), (ta, .inr (6, [.ref ab, .int (nI tp)])), (ab, .inl (cB, 300, .inl fb))]) hD hS hA [0, 1, 2] rfl
      refine va_calli (va_runV (As := [.int 1000]) (rest := []) ⟨hx, hb, hml, hown, hts⟩ (c_R_takeNumber l dC dI _ h0 ta s1_16 e1_17 ab tp cB fb 1000 (by omega) (by omega) (by omega) (by assumption) (by omega)) (cwV 1 hts gc_R_readDated_R_takeNumber rfl rfl rfl (by decide +kernel) ⟨Nat.le_of_ble_eq_true rfl, Nat.le_of_ble_eq_true rfl⟩) ⟨fun a U g mk q => by obtain ⟨q0, q1, qP, qK, qD⟩ := q; exact ⟨q0, q1, qP, va_K.moved (u := U) (U := U.calling g mk a) (Vm.Alike.refl U.vm) qK, qD⟩, va_recv hKc hPc (ci := 5) (q0 := 0) rfl rfl, fun U hU hW => ⟨rfl, by rw [hU], by rw [hU]; exact hPc, va_K.moved hW.alike hKc, hDc.weaken (fun _ _ _ _ => trivial)⟩⟩ rfl rfl hl.1 rfl (lv_room (Nat.le_of_ble_eq_true rfl)) dX4_readDated_32 ⟨Nat.zero_le _, Nat.zero_le _⟩) hS (fun q _ h => hFc q h) hFc (fun r_23 u t H1 locs ht hvm hw hB hz1 hk1 hS => ?_)
      obtain ⟨s1_24, e1_25, hf_26, hf_27, hf_28, hP1, hK1, hD1⟩ := hB
      rw [ht] at hP1
      obtain ⟨hP, hD⟩ := va_join (wr := []) (w1 := [(h0, .inr (5, [.ref ta, .int (nI s1_24), .int (nI e1_25)])), (ta, .inr (6, [.ref ab, .int (nI tp)])), (ab, .inl (cB, 300, .inl fb))]) hP hD [0, 1, 2] [] rfl rfl (by decide) (by decide) hk1 hFc hP1 hD1
      generalize H1 = H at hP hS ⊢
      have hP : va_P (dC, dI) vwCl [(h0, .inr (5, [.ref ta, .int (nI s1_24), .int (nI e1_25)])), (ta, .inr (6, [.ref ab, .int (nI tp)])), (ab, .inl (cB, 300, .inl fb))] H := hP
      have hD : va_D A [(h0, .inr (5, [.ref ta, .int (nI s1_24), .int (nI e1_25)])), (ta, .inr (6, [.ref ab, .int (nI tp)])), (ab, .inl (cB, 300, .inl fb))] := hD
      have hr_23 := hw
      try dsimp only at hr_23
      refine lv_istore (lv' := [(5, .int r_23), (4, .int (nI n_8)), (0, .ref h0), (1, .int p0), (2, .int p1), (3, .int p2)]) hx hb dX4_readDated_35 hl (by decide) rfl (fun ls hl => ?_)
      refine lv_iload hx hb dX4_readDated_37 (lv_at hl 0 rfl) ?_
      refine lv_iconst (v := (-1)) hx hb dX4_readDated_39 (by decide) ?_
      refine lv_icmp_ne (tgt := 45) hx hb dX4_readDated_40 (by decide) (fun c_29 => ?_) (fun c_29 => ?_)
      · obtain ⟨n_30, hn_30, en_30⟩ : ∃ n, n < 1000 ∧ r_23 = nI n := by
          rcases hr_23 with h | h
          · exact absurd h c_29
          · exact h
        subst en_30
        refine va_new (ci := 3) (fs := [.int 0, .int 0, .int 0, .int 0, .int 0, .long 0]) (C := RX2) (T := TX2) (N := 6) hx hb hts hinX2 tyX2 tyX2_ok hown (hts (.classLink RX4 48 RX2) (by decide +kernel)) (hts (.instantiable RX2 6) (by decide +kernel)) (hts (.initialized RX2) (by decide +kernel)) hK hP hD hS hA rfl (fun j hj => by rcases (show j = 0 ∨ j = 1 ∨ j = 2 ∨ j = 3 ∨ j = 4 ∨ j = 5 by omega) with rfl | rfl | rfl | rfl | rfl | rfl <;> rfl) (by decide) (by decide) dX4_readDated_45 (fun q_31 H hP hD hS => ?_)
        have hP : va_P (dC, dI) vwCl [(h0, .inr (5, [.ref ta, .int (nI s1_24), .int (nI e1_25)])), (ta, .inr (6, [.ref ab, .int (nI tp)])), (ab, .inl (cB, 300, .inl fb)), (q_31, .inr (3, [.int 0, .int 0, .int 0, .int 0, .int 0, .long 0]))] H := hP
        have hD : va_D A [(h0, .inr (5, [.ref ta, .int (nI s1_24), .int (nI e1_25)])), (ta, .inr (6, [.ref ab, .int (nI tp)])), (ab, .inl (cB, 300, .inl fb)), (q_31, .inr (3, [.int 0, .int 0, .int 0, .int 0, .int 0, .long 0]))] := hD
        refine W.widen (k := 1) (n := 6) (by omega) (by omega) ?_
        refine lv_dup hx hb dX4_readDated_48 rfl ?_
        refine lv_iload_n hx hb dX4_readDated_49 rfl (lv_at hl 3 rfl) ?_
        refine lv_iload_n hx hb dX4_readDated_50 rfl (lv_at hl 4 rfl) ?_
        refine lv_iload_n hx hb dX4_readDated_51 rfl (lv_at hl 5 rfl) ?_
        refine lv_iload hx hb dX4_readDated_52 (lv_at hl 1 rfl) ?_
        refine lv_iload hx hb dX4_readDated_54 (lv_at hl 0 rfl) ?_
        refine lv_lconst (v := 0) hx hb dX4_readDated_56 (by decide) ?_
        have hPc := hP.sub (ws' := [(q_31, .inr (3, [.int 0, .int 0, .int 0, .int 0, .int 0, .long 0]))]) [3] rfl
        have hDc := hD.sub (ws' := [(q_31, .inr (3, [.int 0, .int 0, .int 0, .int 0, .int 0, .long 0]))]) [3] (by decide) rfl
        have hKc := hK.sub (tys' := []) [] rfl
        have hFc := va_free (wc := [(q_31, .inr (3, [.int 0, .int 0, .int 0, .int 0, .int 0, .long 0]))]) hD hS hA [3] rfl
        refine va_callv (va_runI (As := [.int p0, .int p1, .int p2, .int (nI n_8), .int (nI n_30), .long 0]) (rest := [.ref q_31]) ⟨hx, hb, hml, hown, hts⟩ (c_Line_init l dC dI _ q_31 p0 p1 p2 (nI n_8) (nI n_30) 0) (cwI 6 hts gc_R_readDated_Line_init rfl rfl rfl (hts (.initialized RX2) (by decide +kernel)) (hts (.methodLink RX4 86 yX2_init) (by decide +kernel)) (hts (.instanceMethod yX2_init) (by decide +kernel)) rfl (by decide +kernel) ⟨Nat.le_of_ble_eq_true rfl, Nat.le_of_ble_eq_true rfl⟩) ⟨fun a U g mk q => by obtain ⟨q0, q1, qP, qK, qD⟩ := q; exact ⟨q0, q1, qP, va_K.moved (u := U) (U := U.calling g mk a) (Vm.Alike.refl U.vm) qK, qD⟩, fun U hU hW => ⟨rfl, by rw [hU], by rw [hU]; exact hPc, va_K.moved hW.alike hKc, hDc.weaken (fun _ _ _ _ => trivial)⟩⟩ rfl rfl hl.1 rfl (lv_room (Nat.le_of_ble_eq_true rfl)) dX4_readDated_57 ⟨by decide, by decide⟩) hS (fun q _ h => hFc q h) hFc (fun u t H1 locs ht hvm hw hB hz1 hk1 hS => ?_)
        obtain ⟨hP1, hK1, hD1⟩ := hB
        rw [ht] at hP1
        obtain ⟨hP, hD⟩ := va_join (wr := [(h0, .inr (5, [.ref ta, .int (nI s1_24), .int (nI e1_25)])), (ta, .inr (6, [.ref ab, .int (nI tp)])), (ab, .inl (cB, 300, .inl fb))]) (w1 := [(q_31, .inr (3, [.int p0, .int p1, .int p2, .int (nI n_8), .int (nI n_30), .long 0]))]) hP hD [3] [0, 1, 2] rfl rfl (by decide) (by decide) hk1 hFc hP1 hD1
        generalize H1 = H at hP hS ⊢
        have hP : va_P (dC, dI) vwCl [(h0, .inr (5, [.ref ta, .int (nI s1_24), .int (nI e1_25)])), (ta, .inr (6, [.ref ab, .int (nI tp)])), (ab, .inl (cB, 300, .inl fb)), (q_31, .inr (3, [.int p0, .int p1, .int p2, .int (nI n_8), .int (nI n_30), .long 0]))] H := hP
        have hD : va_D A [(h0, .inr (5, [.ref ta, .int (nI s1_24), .int (nI e1_25)])), (ta, .inr (6, [.ref ab, .int (nI tp)])), (ab, .inl (cB, 300, .inl fb)), (q_31, .inr (3, [.int p0, .int p1, .int p2, .int (nI n_8), .int (nI n_30), .long 0]))] := hD
        have hP9 := hP.sub (ws' := [(h0, .inr (5, [.ref ta, .int (nI s1_24), .int (nI e1_25)])), (ta, .inr (6, [.ref ab, .int (nI tp)])), (ab, .inl (cB, 300, .inl fb)), (q_31, .inr (3, [.int p0, .int p1, .int p2, .int (nI n_8), .int (nI n_30), .long 0]))]) [0, 1, 2, 3] rfl
        have hD9 := hD.sub (ws' := [(h0, .inr (5, [.ref ta, .int (nI s1_24), .int (nI e1_25)])), (ta, .inr (6, [.ref ab, .int (nI tp)])), (ab, .inl (cB, 300, .inl fb)), (q_31, .inr (3, [.int p0, .int p1, .int p2, .int (nI n_8), .int (nI n_30), .long 0]))]) [0, 1, 2, 3] (by decide) rfl
        have hK9 := hK.sub (tys' := [(cB, .int)]) [0] rfl
        refine W.widen (k := 1) (n := 6) (by omega) (by omega) ?_
        exact W.aret (v := .ref q_31) hx hb hr (by first | exact Or.inl ⟨_, rfl⟩ | exact Or.inr ⟨_, rfl⟩) (Or.inr ⟨_, rfl⟩) (fun t ht hW => ⟨⟨some q_31, [(q_31, .inr (3, [.int p0, .int p1, .int p2, .int (nI n_8), .int (nI n_30), .long 0]))], rfl, Or.inr ⟨q_31, n_8, p0, p1, p2, (nI n_30), 0, rfl, rfl, (by omega), hln, okNew hAe hD 3 rfl [0, 1, 2] rfl (by decide)⟩, s1_24, e1_25, (by omega), (by omega), (by assumption), by rw [ht]; exact hP9, va_K.moved hW.alike hK9, hD9⟩, hS.F ht⟩) hS.2.2 dX4_readDated_60
      · refine lv_null hx hb dX4_readDated_43 ?_
        have hP9 := hP.sub (ws' := [(h0, .inr (5, [.ref ta, .int (nI s1_24), .int (nI e1_25)])), (ta, .inr (6, [.ref ab, .int (nI tp)])), (ab, .inl (cB, 300, .inl fb))]) [0, 1, 2] rfl
        have hD9 := hD.sub (ws' := [(h0, .inr (5, [.ref ta, .int (nI s1_24), .int (nI e1_25)])), (ta, .inr (6, [.ref ab, .int (nI tp)])), (ab, .inl (cB, 300, .inl fb))]) [0, 1, 2] (by decide) rfl
        have hK9 := hK.sub (tys' := [(cB, .int)]) [0] rfl
        refine W.widen (k := 1) (n := 6) (by omega) (by omega) ?_
        exact W.aret (v := .null) hx hb hr (by first | exact Or.inl ⟨_, rfl⟩ | exact Or.inr ⟨_, rfl⟩) (Or.inl rfl) (fun t ht hW => ⟨⟨none, [], rfl, Or.inl ⟨rfl, rfl⟩, s1_24, e1_25, (by omega), (by omega), (by assumption), by rw [ht]; exact hP9, va_K.moved hW.alike hK9, hD9⟩, hS.F ht⟩) hS.2.2 dX4_readDated_44
  · refine lv_null hx hb dX4_readDated_14 ?_
    have hP9 := hP.sub (ws' := [(h0, .inr (5, [.ref ta, .int (nI s1_2), .int (nI e1_3)])), (ta, .inr (6, [.ref ab, .int (nI tp)])), (ab, .inl (cB, 300, .inl fb))]) [0, 1, 2] rfl
    have hD9 := hD.sub (ws' := [(h0, .inr (5, [.ref ta, .int (nI s1_2), .int (nI e1_3)])), (ta, .inr (6, [.ref ab, .int (nI tp)])), (ab, .inl (cB, 300, .inl fb))]) [0, 1, 2] (by decide) rfl
    have hK9 := hK.sub (tys' := [(cB, .int)]) [0] rfl
    refine W.widen (k := 1) (n := 6) (by omega) (by omega) ?_
    exact W.aret (v := .null) hx hb hr (by first | exact Or.inl ⟨_, rfl⟩ | exact Or.inr ⟨_, rfl⟩) (Or.inl rfl) (fun t ht hW => ⟨⟨none, [], rfl, Or.inl ⟨rfl, rfl⟩, s1_2, e1_3, (by omega), (by omega), (by assumption), by rw [ht]; exact hP9, va_K.moved hW.alike hK9, hD9⟩, hS.F ht⟩) hS.2.2 dX4_readDated_15
def wp_R_readSaying : List Cond := .code yX4_readSaying cX4_readSaying 5 (some (.object "AgreedTalks$Line")) :: (([.constantLong RX4 97 (-1), .classLink RX4 48 RX2, .instantiable RX2 6, .initialized RX2, .methodLink RX4 86 yX2_init, .instanceMethod yX2_init] : List Cond) ++ wsX20 ++ (wsV RX4 82 RX4 yX4_takeNumber wp_R_takeNumber) ++ (wsV RX4 42 RX4 yX4_takeWord wp_R_takeWord) ++ wp_Line_init ++ (wsV RX4 93 RX4 yX4_takeGrounds wp_R_takeGrounds))
theorem gc_R_readSaying_R_takeNumber : GoodIn wp_R_readSaying (wsV RX4 82 RX4 yX4_takeNumber wp_R_takeNumber) := goodIn_sub (fun _ h => List.mem_cons_of_mem _ (List.mem_append_left _ (List.mem_append_left _ (List.mem_append_left _ (List.mem_append_right _ h))))) (by decide +kernel)
theorem gc_R_readSaying_R_takeWord : GoodIn wp_R_readSaying (wsV RX4 42 RX4 yX4_takeWord wp_R_takeWord) := goodIn_sub (fun _ h => List.mem_cons_of_mem _ (List.mem_append_left _ (List.mem_append_left _ (List.mem_append_right _ h)))) (by decide +kernel)
theorem gc_R_readSaying_Line_init : GoodIn wp_R_readSaying wp_Line_init := goodIn_sub (fun _ h => List.mem_cons_of_mem _ (List.mem_append_left _ (List.mem_append_right _ h))) (by decide +kernel)
theorem gc_R_readSaying_R_takeGrounds : GoodIn wp_R_readSaying (wsV RX4 93 RX4 yX4_takeGrounds wp_R_takeGrounds) := goodIn_sub (fun _ h => List.mem_cons_of_mem _ (List.mem_append_right _ h)) (by decide +kernel)
set_option maxRecDepth 20000 in
theorem gi_R_readSaying : GoodIn lw_tbl wp_R_readSaying := (goodIn_ca (goodIn_ca (goodIn_ca (goodIn_ca (goodIn_ca (goodIn_r (.code yX4_readSaying cX4_readSaying 5 (some (.object "AgreedTalks$Line")) :: ([.constantLong RX4 97 (-1), .classLink RX4 48 RX2, .instantiable RX2 6, .initialized RX2, .methodLink RX4 86 yX2_init, .instanceMethod yX2_init] : List Cond)) [395, 402, 338, 339, 63, 340, 341] (by decide +kernel) (by decide +kernel)) wi_wsX2) (goodIn_app (goodIn_r _ [331, 333, 7, 53] (by decide +kernel) (by decide +kernel)) gi_R_takeNumber)) (goodIn_app (goodIn_r _ [275, 277, 5, 53] (by decide +kernel) (by decide +kernel)) gi_R_takeWord)) gi_Line_init) (goodIn_app (goodIn_r _ [397, 399, 11, 53] (by decide +kernel) (by decide +kernel)) gi_R_takeGrounds))
set_option maxHeartbeats 4000000 in
set_option maxRecDepth 100000 in
/-- readSaying -/
theorem c_R_readSaying (l : Launch) (dC : Nat → ClassId) (dI : Nat → Nat → Nat) (sz : Nat) (h0 : Nat) (ta : Nat) (s0 : Nat) (e0 : Nat) (ab : Nat) (tp : Nat) (cB : ClassId) (fb : Nat → Int32) (p0 : Int32) (zo : Option Nat) (qtp : tp ≤ 300) (qs : s0 ≤ e0) (qe : e0 ≤ tp) (hT : okT fb s0 e0) (hpe : ∃ x, x < 12 ∧ p0 = nI x) : Met l yX4_readSaying wp_R_readSaying ({ frames := 6, cells := 1, slots := 6, locals := 180 }) (va_Pc [.ref h0, .int p0] (fun U => U.heap.size = sz ∧ va_P (dC, dI) vwCl [(h0, .inr (5, [.ref ta, .int (nI s0), .int (nI e0)])), (ta, .inr (6, [.ref ab, .int (nI tp)])), (ab, .inl (cB, 300, .inl fb))] U.heap ∧ va_K (dC, dI) vwCl [(cB, .int)] U ∧ va_D (fun _ => True) [(h0, .inr (5, [.ref ta, .int (nI s0), .int (nI e0)])), (ta, .inr (6, [.ref ab, .int (nI tp)])), (ab, .inl (cB, 300, .inl fb))] ∧ okEnv zo (va_A [(h0, .inr (5, [.ref ta, .int (nI s0), .int (nI e0)])), (ta, .inr (6, [.ref ab, .int (nI tp)])), (ab, .inl (cB, 300, .inl fb))] sz) U U.heap ∧ va_Nw (.methodLinkNest RX4 101 yX6_bit "AgreedTalks") U)) (va_Qq (fun (r : Option Nat) (u : va_W) => lnP sz r u) (fun (u : va_W) (t : State) => ∃ (s1 : Nat), ∃ (e1 : Nat), (s1 ≤ e1) ∧ (e1 ≤ tp) ∧ (okT fb s1 e1) ∧ va_P (dC, dI) vwCl ([(h0, .inr (5, [.ref ta, .int (nI s1), .int (nI e1)])), (ta, .inr (6, [.ref ab, .int (nI tp)])), (ab, .inl (cB, 300, .inl fb))] ++ u) t.heap ∧ va_K (dC, dI) vwCl [(cB, .int)] t ∧ va_D (va_A [(h0, .inr (5, [.ref ta, .int (nI s0), .int (nI e0)])), (ta, .inr (6, [.ref ab, .int (nI tp)])), (ab, .inl (cB, 300, .inl fb))] sz) ([(h0, .inr (5, [.ref ta, .int (nI s1), .int (nI e1)])), (ta, .inr (6, [.ref ab, .int (nI tp)])), (ab, .inl (cB, 300, .inl fb))] ++ u)) (va_A [(h0, .inr (5, [.ref ta, .int (nI s0), .int (nI e0)])), (ta, .inr (6, [.ref ab, .int (nI tp)])), (ab, .inl (cB, 300, .inl fb))] sz)) 1 6 (va_A [(h0, .inr (5, [.ref ta, .int (nI s0), .int (nI e0)])), (ta, .inr (6, [.ref ab, .int (nI tp)])), (ab, .inl (cB, 300, .inl fb))] sz) := by
  refine Met.ofW (cc := cX4_readSaying) (maxL := 5) (ret := (some (.object "AgreedTalks$Line"))) (by decide) rfl ?_
  intro p e s m args below meth c s₁ B hml hv
  obtain ⟨rfl, hsz, hP, hK, hD0, hE, nw4b⟩ := hv
  have hx := B.exec
  have hb := B.bytes
  have hr := B.returns
  have hts := atoms_spec (ws := wp_R_readSaying) B.pre
  have hown : s.vm.findClass RX4 = some m.cls := findClass_of_methodNamed B.named
  have hlocks := B.notSynchronized
  subst hsz
  have hD := hD0.self (sz := s.heap.size)
  generalize hAe : va_A [(h0, .inr (5, [.ref ta, .int (nI s0), .int (nI e0)])), (ta, .inr (6, [.ref ab, .int (nI tp)])), (ab, .inl (cB, 300, .inl fb))] s.heap.size = A at hD hE ⊢
  have hA : ∀ q : Nat, s.heap.size ≤ q → A q := fun q h => by rw [← hAe]; exact Or.inr h
  have hS : va_S A s.heap s.heap [] := va_S.rf
  have hP : va_P (dC, dI) vwCl [(h0, .inr (5, [.ref ta, .int (nI s0), .int (nI e0)])), (ta, .inr (6, [.ref ab, .int (nI tp)])), (ab, .inl (cB, 300, .inl fb))] s.heap := hP
  have hl := lv_entry ([.ref h0, .int p0]) (n := 5) (Nat.le_of_ble_eq_true rfl)
  rw [lg_entry_eq]
  generalize (lg_sl ([.ref h0, .int p0]) ++ List.replicate (5 - (lg_sl ([.ref h0, .int p0])).length) Slot.unset).toArray = ls at hl ⊢
  have hl : lv_has ls 5 [(0, .ref h0), (1, .int p0)] := hl
  have hinX2 : ∀ w ∈ u_ws RX2 TX2 6, w ∈ wp_R_readSaying := fun _ h => List.mem_cons_of_mem _ (List.mem_append_left _ (List.mem_append_left _ (List.mem_append_left _ (List.mem_append_left _ (List.mem_append_right _ h)))))
  refine lv_aload_n hx hb dX4_readSaying_0 rfl (lv_at hl 0 rfl) ?_
  refine lv_bipush (v := 40) hx hb dX4_readSaying_1 (by decide) ?_
  have hPc := hP.sub (ws' := [(h0, .inr (5, [.ref ta, .int (nI s0), .int (nI e0)])), (ta, .inr (6, [.ref ab, .int (nI tp)])), (ab, .inl (cB, 300, .inl fb))]) [0, 1, 2] rfl
  have hDc := hD.sub (ws' := [(h0, .inr (5, [.ref ta, .int (nI s0), .int (nI e0)])), (ta, .inr (6, [.ref ab, .int (nI tp)])), (ab, .inl (cB, 300, .inl fb))]) [0, 1, 2] (by decide) rfl
  have hKc := hK.sub (tys' := [(cB, .int)]) [0] rfl
  have hFc := va_free (wc := [(h0, .inr (5, [.ref ta, .int (nI s0), .int (nI e0)])), (ta, .inr (6, [.ref ab, .int (nI tp)])), (ab, .inl (cB, 300, .inl fb))]) hD hS hA [0, 1, 2] rfl
  refine va_calli (va_runV (As := [.int 40]) (rest := []) ⟨hx, hb, hml, hown, hts⟩ (c_R_takeNumber l dC dI _ h0 ta s0 e0 ab tp cB fb 40 (by omega) (by omega) (by omega) (by assumption) (by omega)) (cwV 1 hts gc_R_readSaying_R_takeNumber rfl rfl rfl (by decide +kernel) ⟨Nat.le_of_ble_eq_true rfl, Nat.le_of_ble_eq_true rfl⟩) ⟨fun a U g mk q => by obtain ⟨q0, q1, qP, qK, qD⟩ := q; exact ⟨q0, q1, qP, va_K.moved (u := U) (U := U.calling g mk a) (Vm.Alike.refl U.vm) qK, qD⟩, va_recv hKc hPc (ci := 5) (q0 := 0) rfl rfl, fun U hU hW => ⟨rfl, by rw [hU], by rw [hU]; exact hPc, va_K.moved hW.alike hKc, hDc.weaken (fun _ _ _ _ => trivial)⟩⟩ rfl rfl hl.1 rfl (lv_room (Nat.le_of_ble_eq_true rfl)) dX4_readSaying_3 ⟨Nat.zero_le _, Nat.zero_le _⟩) hS (fun q _ h => hFc q h) hFc (fun r_1 u t H1 locs ht hvm hw hB hz1 hk1 hS => ?_)
  obtain ⟨s1_2, e1_3, hf_4, hf_5, hf_6, hP1, hK1, hD1⟩ := hB
  rw [ht] at hP1
  obtain ⟨hP, hD⟩ := va_join (wr := []) (w1 := [(h0, .inr (5, [.ref ta, .int (nI s1_2), .int (nI e1_3)])), (ta, .inr (6, [.ref ab, .int (nI tp)])), (ab, .inl (cB, 300, .inl fb))]) hP hD [0, 1, 2] [] rfl rfl (by decide) (by decide) hk1 hFc hP1 hD1
  generalize H1 = H at hP hS ⊢
  have hP : va_P (dC, dI) vwCl [(h0, .inr (5, [.ref ta, .int (nI s1_2), .int (nI e1_3)])), (ta, .inr (6, [.ref ab, .int (nI tp)])), (ab, .inl (cB, 300, .inl fb))] H := hP
  have hD : va_D A [(h0, .inr (5, [.ref ta, .int (nI s1_2), .int (nI e1_3)])), (ta, .inr (6, [.ref ab, .int (nI tp)])), (ab, .inl (cB, 300, .inl fb))] := hD
  have hr_1 := hw
  try dsimp only at hr_1
  refine lv_istore_n (lv' := [(2, .int r_1), (0, .ref h0), (1, .int p0)]) hx hb dX4_readSaying_6 rfl hl (by decide) rfl (fun ls hl => ?_)
  refine lv_iload_n hx hb dX4_readSaying_7 rfl (lv_at hl 0 rfl) ?_
  refine lv_iconst (v := (-1)) hx hb dX4_readSaying_8 (by decide) ?_
  refine lv_icmp_ne (tgt := 14) hx hb dX4_readSaying_9 (by decide) (fun c_7 => ?_) (fun c_7 => ?_)
  · obtain ⟨n_8, hn_8, en_8⟩ : ∃ n, n < 40 ∧ r_1 = nI n := by
      rcases hr_1 with h | h
      · exact absurd h c_7
      · exact h
    subst en_8
    refine lv_aload_n hx hb dX4_readSaying_14 rfl (lv_at hl 1 rfl) ?_
    obtain ⟨sa_9, sv_10, sn_11, sf_12, hR_13, hs_14⟩ := hE.2.2 (91, "as") (by decide)
    refine va_ldcS hx hb hown hR_13 dX4_readSaying_15 ?_
    have hPc := hP.sub (ws' := [(h0, .inr (5, [.ref ta, .int (nI s1_2), .int (nI e1_3)])), (ta, .inr (6, [.ref ab, .int (nI tp)])), (ab, .inl (cB, 300, .inl fb))]) [0, 1, 2] rfl
    have hDc := hD.sub (ws' := [(h0, .inr (5, [.ref ta, .int (nI s1_2), .int (nI e1_3)])), (ta, .inr (6, [.ref ab, .int (nI tp)])), (ab, .inl (cB, 300, .inl fb))]) [0, 1, 2] (by decide) rfl
    have hKc := hK.sub (tys' := [(cB, .int)]) [0] rfl
    have hFc := va_free (wc := [(h0, .inr (5, [.ref ta, .int (nI s1_2), .int (nI e1_3)])), (ta, .inr (6, [.ref ab, .int (nI tp)])), (ab, .inl (cB, 300, .inl fb))]) hD hS hA [0, 1, 2] rfl
    refine va_calli (va_runV (As := [.ref sa_9]) (rest := []) ⟨hx, hb, hml, hown, hts⟩ (c_R_takeWord l dC dI _ h0 ta s1_2 e1_3 ab tp cB fb sa_9 sv_10 sn_11 sf_12 zo (by omega) (by omega) (by omega) (by assumption)) (cwV 1 hts gc_R_readSaying_R_takeWord rfl rfl rfl (by decide +kernel) ⟨Nat.le_of_ble_eq_true rfl, Nat.le_of_ble_eq_true rfl⟩) ⟨fun a U g mk q => by obtain ⟨q0, q1, qP, qK, qD, q_hE, q_hs⟩ := q; exact ⟨q0, q1, qP, va_K.moved (u := U) (U := U.calling g mk a) (Vm.Alike.refl U.vm) qK, qD, okEnv.same rfl q_hE, okStr.moved (Vm.Alike.refl U.vm) q_hs⟩, va_recv hKc hPc (ci := 5) (q0 := 0) rfl rfl, fun U hU hW => ⟨rfl, by rw [hU], by rw [hU]; exact hPc, va_K.moved hW.alike hKc, hDc.weaken (fun _ _ _ _ => trivial), by rw [hU]; exact okEnv.pass hE hW hS hFc, by rw [hU]; exact okStr.pass hs_14 hW hS hFc⟩⟩ rfl rfl hl.1 rfl (lv_room (Nat.le_of_ble_eq_true rfl)) dX4_readSaying_17 ⟨Nat.zero_le _, Nat.zero_le _⟩) hS (fun q _ h => hFc q h) hFc (fun r_15 u t H1 locs ht hvm hw hB hz1 hk1 hS => ?_)
    obtain ⟨s1_16, e1_17, hf_18, hf_19, hf_20, hP1, hK1, hD1⟩ := hB
    rw [ht] at hP1
    obtain ⟨hP, hD⟩ := va_join (wr := []) (w1 := [(h0, .inr (5, [.ref ta, .int (nI s1_16), .int (nI e1_17)])), (ta, .inr (6, [.ref ab, .int (nI tp)])), (ab, .inl (cB, 300, .inl fb))]) hP hD [0, 1, 2] [] rfl rfl (by decide) (by decide) hk1 hFc hP1 hD1
    generalize H1 = H at hP hS ⊢
    have hP : va_P (dC, dI) vwCl [(h0, .inr (5, [.ref ta, .int (nI s1_16), .int (nI e1_17)])), (ta, .inr (6, [.ref ab, .int (nI tp)])), (ab, .inl (cB, 300, .inl fb))] H := hP
    have hD : va_D A [(h0, .inr (5, [.ref ta, .int (nI s1_16), .int (nI e1_17)])), (ta, .inr (6, [.ref ab, .int (nI tp)])), (ab, .inl (cB, 300, .inl fb))] := hD
    have hr_15 := hw
    try dsimp only at hr_15
    refine lv_if_eq (tgt := 30) hx hb dX4_readSaying_20 (by decide) (fun c_21 => ?_) (fun c_21 => ?_)
    · refine lv_lconst (v := 0) hx hb dX4_readSaying_30 (by decide) ?_
      refine lv_lstore_n (lv' := [(3, .long 0), (2, .int (nI n_8)), (0, .ref h0), (1, .int p0)]) hx hb dX4_readSaying_31 rfl hl (by decide) rfl (fun ls hl => ?_)
      refine lv_lload_n hx hb dX4_readSaying_32 rfl (lv_at hl 0 rfl) ?_
      refine lv_ldc2 (v := (-1)) hx hb hown (hts (.constantLong RX4 97 (-1)) (by decide +kernel)) dX4_readSaying_33 ?_
      refine W.lcmp hx hb dX4_readSaying_36 ?_
      refine lv_if_ne (tgt := 42) hx hb dX4_readSaying_37 (by decide) (fun c_22 => ?_) (fun c_22 => ?_)
      · refine va_new (ci := 3) (fs := [.int 0, .int 0, .int 0, .int 0, .int 0, .long 0]) (C := RX2) (T := TX2) (N := 6) hx hb hts hinX2 tyX2 tyX2_ok hown (hts (.classLink RX4 48 RX2) (by decide +kernel)) (hts (.instantiable RX2 6) (by decide +kernel)) (hts (.initialized RX2) (by decide +kernel)) hK hP hD hS hA rfl (fun j hj => by rcases (show j = 0 ∨ j = 1 ∨ j = 2 ∨ j = 3 ∨ j = 4 ∨ j = 5 by omega) with rfl | rfl | rfl | rfl | rfl | rfl <;> rfl) (by decide) (by decide) dX4_readSaying_42 (fun q_23 H hP hD hS => ?_)
        have hP : va_P (dC, dI) vwCl [(h0, .inr (5, [.ref ta, .int (nI s1_16), .int (nI e1_17)])), (ta, .inr (6, [.ref ab, .int (nI tp)])), (ab, .inl (cB, 300, .inl fb)), (q_23, .inr (3, [.int 0, .int 0, .int 0, .int 0, .int 0, .long 0]))] H := hP
        have hD : va_D A [(h0, .inr (5, [.ref ta, .int (nI s1_16), .int (nI e1_17)])), (ta, .inr (6, [.ref ab, .int (nI tp)])), (ab, .inl (cB, 300, .inl fb)), (q_23, .inr (3, [.int 0, .int 0, .int 0, .int 0, .int 0, .long 0]))] := hD
        refine W.widen (k := 1) (n := 6) (by omega) (by omega) ?_
        refine lv_dup hx hb dX4_readSaying_45 rfl ?_
        refine lv_iconst (v := 4) hx hb dX4_readSaying_46 (by decide) ?_
        refine lv_iload_n hx hb dX4_readSaying_47 rfl (lv_at hl 3 rfl) ?_
        refine lv_iconst (v := (-1)) hx hb dX4_readSaying_48 (by decide) ?_
        refine lv_iload_n hx hb dX4_readSaying_49 rfl (lv_at hl 1 rfl) ?_
        refine lv_iconst (v := (-1)) hx hb dX4_readSaying_50 (by decide) ?_
        refine lv_lload_n hx hb dX4_readSaying_51 rfl (lv_at hl 0 rfl) ?_
        have hPc := hP.sub (ws' := [(q_23, .inr (3, [.int 0, .int 0, .int 0, .int 0, .int 0, .long 0]))]) [3] rfl
        have hDc := hD.sub (ws' := [(q_23, .inr (3, [.int 0, .int 0, .int 0, .int 0, .int 0, .long 0]))]) [3] (by decide) rfl
        have hKc := hK.sub (tys' := []) [] rfl
        have hFc := va_free (wc := [(q_23, .inr (3, [.int 0, .int 0, .int 0, .int 0, .int 0, .long 0]))]) hD hS hA [3] rfl
        refine va_callv (va_runI (As := [.int 4, .int p0, .int (-1), .int (nI n_8), .int (-1), .long 0]) (rest := [.ref q_23]) ⟨hx, hb, hml, hown, hts⟩ (c_Line_init l dC dI _ q_23 4 p0 (-1) (nI n_8) (-1) 0) (cwI 6 hts gc_R_readSaying_Line_init rfl rfl rfl (hts (.initialized RX2) (by decide +kernel)) (hts (.methodLink RX4 86 yX2_init) (by decide +kernel)) (hts (.instanceMethod yX2_init) (by decide +kernel)) rfl (by decide +kernel) ⟨Nat.le_of_ble_eq_true rfl, Nat.le_of_ble_eq_true rfl⟩) ⟨fun a U g mk q => by obtain ⟨q0, q1, qP, qK, qD⟩ := q; exact ⟨q0, q1, qP, va_K.moved (u := U) (U := U.calling g mk a) (Vm.Alike.refl U.vm) qK, qD⟩, fun U hU hW => ⟨rfl, by rw [hU], by rw [hU]; exact hPc, va_K.moved hW.alike hKc, hDc.weaken (fun _ _ _ _ => trivial)⟩⟩ rfl rfl hl.1 rfl (lv_room (Nat.le_of_ble_eq_true rfl)) dX4_readSaying_52 ⟨by decide, by decide⟩) hS (fun q _ h => hFc q h) hFc (fun u t H1 locs ht hvm hw hB hz1 hk1 hS => ?_)
        obtain ⟨hP1, hK1, hD1⟩ := hB
        rw [ht] at hP1
        obtain ⟨hP, hD⟩ := va_join (wr := [(h0, .inr (5, [.ref ta, .int (nI s1_16), .int (nI e1_17)])), (ta, .inr (6, [.ref ab, .int (nI tp)])), (ab, .inl (cB, 300, .inl fb))]) (w1 := [(q_23, .inr (3, [.int 4, .int p0, .int (-1), .int (nI n_8), .int (-1), .long 0]))]) hP hD [3] [0, 1, 2] rfl rfl (by decide) (by decide) hk1 hFc hP1 hD1
        generalize H1 = H at hP hS ⊢
        have hP : va_P (dC, dI) vwCl [(h0, .inr (5, [.ref ta, .int (nI s1_16), .int (nI e1_17)])), (ta, .inr (6, [.ref ab, .int (nI tp)])), (ab, .inl (cB, 300, .inl fb)), (q_23, .inr (3, [.int 4, .int p0, .int (-1), .int (nI n_8), .int (-1), .long 0]))] H := hP
        have hD : va_D A [(h0, .inr (5, [.ref ta, .int (nI s1_16), .int (nI e1_17)])), (ta, .inr (6, [.ref ab, .int (nI tp)])), (ab, .inl (cB, 300, .inl fb)), (q_23, .inr (3, [.int 4, .int p0, .int (-1), .int (nI n_8), .int (-1), .long 0]))] := hD
        have hP9 := hP.sub (ws' := [(h0, .inr (5, [.ref ta, .int (nI s1_16), .int (nI e1_17)])), (ta, .inr (6, [.ref ab, .int (nI tp)])), (ab, .inl (cB, 300, .inl fb)), (q_23, .inr (3, [.int 4, .int p0, .int (-1), .int (nI n_8), .int (-1), .long 0]))]) [0, 1, 2, 3] rfl
        have hD9 := hD.sub (ws' := [(h0, .inr (5, [.ref ta, .int (nI s1_16), .int (nI e1_17)])), (ta, .inr (6, [.ref ab, .int (nI tp)])), (ab, .inl (cB, 300, .inl fb)), (q_23, .inr (3, [.int 4, .int p0, .int (-1), .int (nI n_8), .int (-1), .long 0]))]) [0, 1, 2, 3] (by decide) rfl
        have hK9 := hK.sub (tys' := [(cB, .int)]) [0] rfl
        refine W.widen (k := 1) (n := 6) (by omega) (by omega) ?_
        exact W.aret (v := .ref q_23) hx hb hr (by first | exact Or.inl ⟨_, rfl⟩ | exact Or.inr ⟨_, rfl⟩) (Or.inr ⟨_, rfl⟩) (fun t ht hW => ⟨⟨some q_23, [(q_23, .inr (3, [.int 4, .int p0, .int (-1), .int (nI n_8), .int (-1), .long 0]))], rfl, Or.inr ⟨q_23, n_8, 4, p0, (-1), (-1), 0, rfl, rfl, (by omega), (okLn_a (by decide) hpe), okNew hAe hD 3 rfl [0, 1, 2] rfl (by decide)⟩, s1_16, e1_17, (by omega), (by omega), (by assumption), by rw [ht]; exact hP9, va_K.moved hW.alike hK9, hD9⟩, hS.F ht⟩) hS.2.2 dX4_readSaying_55
      · exact absurd c_22 (by decide)
    · refine lv_aload_n hx hb dX4_readSaying_23 rfl (lv_at hl 1 rfl) ?_
      have hPc := hP.sub (ws' := [(h0, .inr (5, [.ref ta, .int (nI s1_16), .int (nI e1_17)])), (ta, .inr (6, [.ref ab, .int (nI tp)])), (ab, .inl (cB, 300, .inl fb))]) [0, 1, 2] rfl
      have hDc := hD.sub (ws' := [(h0, .inr (5, [.ref ta, .int (nI s1_16), .int (nI e1_17)])), (ta, .inr (6, [.ref ab, .int (nI tp)])), (ab, .inl (cB, 300, .inl fb))]) [0, 1, 2] (by decide) rfl
      have hKc := hK.sub (tys' := [(cB, .int)]) [0] rfl
      have hFc := va_free (wc := [(h0, .inr (5, [.ref ta, .int (nI s1_16), .int (nI e1_17)])), (ta, .inr (6, [.ref ab, .int (nI tp)])), (ab, .inl (cB, 300, .inl fb))]) hD hS hA [0, 1, 2] rfl
      refine va_calll (va_runV (As := []) (rest := []) ⟨hx, hb, hml, hown, hts⟩ (c_R_takeGrounds l dC dI _ h0 ta s1_16 e1_17 ab tp cB fb zo (by omega) (by omega) (by omega) (by assumption)) (cwV 0 hts gc_R_readSaying_R_takeGrounds rfl rfl rfl (by decide +kernel) ⟨Nat.le_of_ble_eq_true rfl, Nat.le_of_ble_eq_true rfl⟩) ⟨fun a U g mk q => by obtain ⟨q0, q1, qP, qK, qD, q_hE, q_nw4b⟩ := q; exact ⟨q0, q1, qP, va_K.moved (u := U) (U := U.calling g mk a) (Vm.Alike.refl U.vm) qK, qD, okEnv.same rfl q_hE, va_Nw.same rfl rfl q_nw4b⟩, va_recv hKc hPc (ci := 5) (q0 := 0) rfl rfl, fun U hU hW => ⟨rfl, by rw [hU], by rw [hU]; exact hPc, va_K.moved hW.alike hKc, hDc.weaken (fun _ _ _ _ => trivial), by rw [hU]; exact okEnv.pass hE hW hS hFc, va_Nw.warmM hW nw4b⟩⟩ rfl rfl hl.1 rfl (lv_room (Nat.le_of_ble_eq_true rfl)) dX4_readSaying_24 ⟨Nat.zero_le _, Nat.zero_le _⟩) hS (fun q _ h => hFc q h) hFc (fun r_24 u t H1 locs ht hvm hw hB hz1 hk1 hS => ?_)
      obtain ⟨s1_25, e1_26, hf_27, hf_28, hf_29, hP1, hK1, hD1⟩ := hB
      rw [ht] at hP1
      obtain ⟨hP, hD⟩ := va_join (wr := []) (w1 := [(h0, .inr (5, [.ref ta, .int (nI s1_25), .int (nI e1_26)])), (ta, .inr (6, [.ref ab, .int (nI tp)])), (ab, .inl (cB, 300, .inl fb))]) hP hD [0, 1, 2] [] rfl rfl (by decide) (by decide) hk1 hFc hP1 hD1
      generalize H1 = H at hP hS ⊢
      have hP : va_P (dC, dI) vwCl [(h0, .inr (5, [.ref ta, .int (nI s1_25), .int (nI e1_26)])), (ta, .inr (6, [.ref ab, .int (nI tp)])), (ab, .inl (cB, 300, .inl fb))] H := hP
      have hD : va_D A [(h0, .inr (5, [.ref ta, .int (nI s1_25), .int (nI e1_26)])), (ta, .inr (6, [.ref ab, .int (nI tp)])), (ab, .inl (cB, 300, .inl fb))] := hD
      have hr_24 := hw
      try dsimp only at hr_24
      refine lv_goto (tgt := 31) hx hb dX4_readSaying_27 (by decide) ?_
      refine lv_lstore_n (lv' := [(3, .long r_24), (2, .int (nI n_8)), (0, .ref h0), (1, .int p0)]) hx hb dX4_readSaying_31 rfl hl (by decide) rfl (fun ls hl => ?_)
      refine lv_lload_n hx hb dX4_readSaying_32 rfl (lv_at hl 0 rfl) ?_
      refine lv_ldc2 (v := (-1)) hx hb hown (hts (.constantLong RX4 97 (-1)) (by decide +kernel)) dX4_readSaying_33 ?_
      refine W.lcmp hx hb dX4_readSaying_36 ?_
      refine lv_if_ne (tgt := 42) hx hb dX4_readSaying_37 (by decide) (fun c_30 => ?_) (fun c_30 => ?_)
      · have c_30 : ¬ (r_24 = (-1)) := fun h => c_30 ((lg_cmp_eq _ _).mpr h)
        refine va_new (ci := 3) (fs := [.int 0, .int 0, .int 0, .int 0, .int 0, .long 0]) (C := RX2) (T := TX2) (N := 6) hx hb hts hinX2 tyX2 tyX2_ok hown (hts (.classLink RX4 48 RX2) (by decide +kernel)) (hts (.instantiable RX2 6) (by decide +kernel)) (hts (.initialized RX2) (by decide +kernel)) hK hP hD hS hA rfl (fun j hj => by rcases (show j = 0 ∨ j = 1 ∨ j = 2 ∨ j = 3 ∨ j = 4 ∨ j = 5 by omega) with rfl | rfl | rfl | rfl | rfl | rfl <;> rfl) (by decide) (by decide) dX4_readSaying_42 (fun q_31 H hP hD hS => ?_)
        have hP : va_P (dC, dI) vwCl [(h0, .inr (5, [.ref ta, .int (nI s1_25), .int (nI e1_26)])), (ta, .inr (6, [.ref ab, .int (nI tp)])), (ab, .inl (cB, 300, .inl fb)), (q_31, .inr (3, [.int 0, .int 0, .int 0, .int 0, .int 0, .long 0]))] H := hP
        have hD : va_D A [(h0, .inr (5, [.ref ta, .int (nI s1_25), .int (nI e1_26)])), (ta, .inr (6, [.ref ab, .int (nI tp)])), (ab, .inl (cB, 300, .inl fb)), (q_31, .inr (3, [.int 0, .int 0, .int 0, .int 0, .int 0, .long 0]))] := hD
        refine W.widen (k := 1) (n := 6) (by omega) (by omega) ?_
        refine lv_dup hx hb dX4_readSaying_45 rfl ?_
        refine lv_iconst (v := 4) hx hb dX4_readSaying_46 (by decide) ?_
        refine lv_iload_n hx hb dX4_readSaying_47 rfl (lv_at hl 3 rfl) ?_
        refine lv_iconst (v := (-1)) hx hb dX4_readSaying_48 (by decide) ?_
        refine lv_iload_n hx hb dX4_readSaying_49 rfl (lv_at hl 1 rfl) ?_
        refine lv_iconst (v := (-1)) hx hb dX4_readSaying_50 (by decide) ?_
        refine lv_lload_n hx hb dX4_readSaying_51 rfl (lv_at hl 0 rfl) ?_
        have hPc := hP.sub (ws' := [(q_31, .inr (3, [.int 0, .int 0, .int 0, .int 0, .int 0, .long 0]))]) [3] rfl
        have hDc := hD.sub (ws' := [(q_31, .inr (3, [.int 0, .int 0, .int 0, .int 0, .int 0, .long 0]))]) [3] (by decide) rfl
        have hKc := hK.sub (tys' := []) [] rfl
        have hFc := va_free (wc := [(q_31, .inr (3, [.int 0, .int 0, .int 0, .int 0, .int 0, .long 0]))]) hD hS hA [3] rfl
        refine va_callv (va_runI (As := [.int 4, .int p0, .int (-1), .int (nI n_8), .int (-1), .long r_24]) (rest := [.ref q_31]) ⟨hx, hb, hml, hown, hts⟩ (c_Line_init l dC dI _ q_31 4 p0 (-1) (nI n_8) (-1) r_24) (cwI 6 hts gc_R_readSaying_Line_init rfl rfl rfl (hts (.initialized RX2) (by decide +kernel)) (hts (.methodLink RX4 86 yX2_init) (by decide +kernel)) (hts (.instanceMethod yX2_init) (by decide +kernel)) rfl (by decide +kernel) ⟨Nat.le_of_ble_eq_true rfl, Nat.le_of_ble_eq_true rfl⟩) ⟨fun a U g mk q => by obtain ⟨q0, q1, qP, qK, qD⟩ := q; exact ⟨q0, q1, qP, va_K.moved (u := U) (U := U.calling g mk a) (Vm.Alike.refl U.vm) qK, qD⟩, fun U hU hW => ⟨rfl, by rw [hU], by rw [hU]; exact hPc, va_K.moved hW.alike hKc, hDc.weaken (fun _ _ _ _ => trivial)⟩⟩ rfl rfl hl.1 rfl (lv_room (Nat.le_of_ble_eq_true rfl)) dX4_readSaying_52 ⟨by decide, by decide⟩) hS (fun q _ h => hFc q h) hFc (fun u t H1 locs ht hvm hw hB hz1 hk1 hS => ?_)
        obtain ⟨hP1, hK1, hD1⟩ := hB
        rw [ht] at hP1
        obtain ⟨hP, hD⟩ := va_join (wr := [(h0, .inr (5, [.ref ta, .int (nI s1_25), .int (nI e1_26)])), (ta, .inr (6, [.ref ab, .int (nI tp)])), (ab, .inl (cB, 300, .inl fb))]) (w1 := [(q_31, .inr (3, [.int 4, .int p0, .int (-1), .int (nI n_8), .int (-1), .long r_24]))]) hP hD [3] [0, 1, 2] rfl rfl (by decide) (by decide) hk1 hFc hP1 hD1
        generalize H1 = H at hP hS ⊢
        have hP : va_P (dC, dI) vwCl [(h0, .inr (5, [.ref ta, .int (nI s1_25), .int (nI e1_26)])), (ta, .inr (6, [.ref ab, .int (nI tp)])), (ab, .inl (cB, 300, .inl fb)), (q_31, .inr (3, [.int 4, .int p0, .int (-1), .int (nI n_8), .int (-1), .long r_24]))] H := hP
        have hD : va_D A [(h0, .inr (5, [.ref ta, .int (nI s1_25), .int (nI e1_26)])), (ta, .inr (6, [.ref ab, .int (nI tp)])), (ab, .inl (cB, 300, .inl fb)), (q_31, .inr (3, [.int 4, .int p0, .int (-1), .int (nI n_8), .int (-1), .long r_24]))] := hD
        have hP9 := hP.sub (ws' := [(h0, .inr (5, [.ref ta, .int (nI s1_25), .int (nI e1_26)])), (ta, .inr (6, [.ref ab, .int (nI tp)])), (ab, .inl (cB, 300, .inl fb)), (q_31, .inr (3, [.int 4, .int p0, .int (-1), .int (nI n_8), .int (-1), .long r_24]))]) [0, 1, 2, 3] rfl
        have hD9 := hD.sub (ws' := [(h0, .inr (5, [.ref ta, .int (nI s1_25), .int (nI e1_26)])), (ta, .inr (6, [.ref ab, .int (nI tp)])), (ab, .inl (cB, 300, .inl fb)), (q_31, .inr (3, [.int 4, .int p0, .int (-1), .int (nI n_8), .int (-1), .long r_24]))]) [0, 1, 2, 3] (by decide) rfl
        have hK9 := hK.sub (tys' := [(cB, .int)]) [0] rfl
        refine W.widen (k := 1) (n := 6) (by omega) (by omega) ?_
        exact W.aret (v := .ref q_31) hx hb hr (by first | exact Or.inl ⟨_, rfl⟩ | exact Or.inr ⟨_, rfl⟩) (Or.inr ⟨_, rfl⟩) (fun t ht hW => ⟨⟨some q_31, [(q_31, .inr (3, [.int 4, .int p0, .int (-1), .int (nI n_8), .int (-1), .long r_24]))], rfl, Or.inr ⟨q_31, n_8, 4, p0, (-1), (-1), r_24, rfl, rfl, (by omega), (okLn_a (by decide) hpe), okNew hAe hD 3 rfl [0, 1, 2] rfl (by decide)⟩, s1_25, e1_26, (by omega), (by omega), (by assumption), by rw [ht]; exact hP9, va_K.moved hW.alike hK9, hD9⟩, hS.F ht⟩) hS.2.2 dX4_readSaying_55
      · have c_30 : r_24 = (-1) := (lg_cmp_eq _ _).mp c_30
        refine lv_null hx hb dX4_readSaying_40 ?_
        have hP9 := hP.sub (ws' := [(h0, .inr (5, [.ref ta, .int (nI s1_25), .int (nI e1_26)])), (ta, .inr (6, [.ref ab, .int (nI tp)])), (ab, .inl (cB, 300, .inl fb))]) [0, 1, 2] rfl
        have hD9 := hD.sub (ws' := [(h0, .inr (5, [.ref ta, .int (nI s1_25), .int (nI e1_26)])), (ta, .inr (6, [.ref ab, .int (nI tp)])), (ab, .inl (cB, 300, .inl fb))]) [0, 1, 2] (by decide) rfl
        have hK9 := hK.sub (tys' := [(cB, .int)]) [0] rfl
        refine W.widen (k := 1) (n := 6) (by omega) (by omega) ?_
        exact W.aret (v := .null) hx hb hr (by first | exact Or.inl ⟨_, rfl⟩ | exact Or.inr ⟨_, rfl⟩) (Or.inl rfl) (fun t ht hW => ⟨⟨none, [], rfl, Or.inl ⟨rfl, rfl⟩, s1_25, e1_26, (by omega), (by omega), (by assumption), by rw [ht]; exact hP9, va_K.moved hW.alike hK9, hD9⟩, hS.F ht⟩) hS.2.2 dX4_readSaying_41
  · refine lv_null hx hb dX4_readSaying_12 ?_
    have hP9 := hP.sub (ws' := [(h0, .inr (5, [.ref ta, .int (nI s1_2), .int (nI e1_3)])), (ta, .inr (6, [.ref ab, .int (nI tp)])), (ab, .inl (cB, 300, .inl fb))]) [0, 1, 2] rfl
    have hD9 := hD.sub (ws' := [(h0, .inr (5, [.ref ta, .int (nI s1_2), .int (nI e1_3)])), (ta, .inr (6, [.ref ab, .int (nI tp)])), (ab, .inl (cB, 300, .inl fb))]) [0, 1, 2] (by decide) rfl
    have hK9 := hK.sub (tys' := [(cB, .int)]) [0] rfl
    refine W.widen (k := 1) (n := 6) (by omega) (by omega) ?_
    exact W.aret (v := .null) hx hb hr (by first | exact Or.inl ⟨_, rfl⟩ | exact Or.inr ⟨_, rfl⟩) (Or.inl rfl) (fun t ht hW => ⟨⟨none, [], rfl, Or.inl ⟨rfl, rfl⟩, s1_2, e1_3, (by omega), (by omega), (by assumption), by rw [ht]; exact hP9, va_K.moved hW.alike hK9, hD9⟩, hS.F ht⟩) hS.2.2 dX4_readSaying_13
