theorem dX3_firstLike_2 : decode cX3_firstLike 2 = .ok (.iload_n 3, 1) := by decide +kernel
theorem dX3_firstLike_3 : decode cX3_firstLike 3 = .ok (.aload_n 0, 1) := by decide +kernel
theorem dX3_firstLike_4 : decode cX3_firstLike 4 = .ok (.getfield 15, 3) := by decide +kernel
theorem dX3_firstLike_7 : decode cX3_firstLike 7 = .ok (.invokevirtual 19, 3) := by decide +kernel
theorem dX3_firstLike_10 : decode cX3_firstLike 10 = .ok (.if_icmp .ge 37, 3) := by decide +kernel
theorem dX3_firstLike_13 : decode cX3_firstLike 13 = .ok (.iload_n 2, 1) := by decide +kernel
theorem dX3_firstLike_14 : decode cX3_firstLike 14 = .ok (.iconst 1, 1) := by decide +kernel
theorem dX3_firstLike_15 : decode cX3_firstLike 15 = .ok (.iload_n 3, 1) := by decide +kernel
theorem dX3_firstLike_16 : decode cX3_firstLike 16 = .ok (.ishl, 1) := by decide +kernel
theorem dX3_firstLike_17 : decode cX3_firstLike 17 = .ok (.iand, 1) := by decide +kernel
theorem dX3_firstLike_18 : decode cX3_firstLike 18 = .ok (.ifCond .ne 23, 3) := by decide +kernel
theorem dX3_firstLike_41 : decode cX3_firstLike 41 = .ok (.iinc 3 1, 3) := by decide +kernel
theorem dX3_firstLike_44 : decode cX3_firstLike 44 = .ok (.goto (-42), 3) := by decide +kernel
theorem dX3_firstLike_21 : decode cX3_firstLike 21 = .ok (.aload_n 0, 1) := by decide +kernel
theorem dX3_firstLike_22 : decode cX3_firstLike 22 = .ok (.getfield 15, 3) := by decide +kernel
theorem dX3_firstLike_25 : decode cX3_firstLike 25 = .ok (.iload_n 3, 1) := by decide +kernel
theorem dX3_firstLike_26 : decode cX3_firstLike 26 = .ok (.invokevirtual 25, 3) := by decide +kernel
theorem dX3_firstLike_29 : decode cX3_firstLike 29 = .ok (.checkcast 29, 3) := by decide +kernel
theorem dX3_firstLike_32 : decode cX3_firstLike 32 = .ok (.aload_n 1, 1) := by decide +kernel
theorem dX3_firstLike_33 : decode cX3_firstLike 33 = .ok (.invokevirtual 35, 3) := by decide +kernel
theorem dX3_firstLike_36 : decode cX3_firstLike 36 = .ok (.ifCond .eq 5, 3) := by decide +kernel
theorem dX3_firstLike_0 : decode cX3_firstLike 0 = .ok (.iconst 0, 1) := by decide +kernel
theorem dX3_firstLike_1 : decode cX3_firstLike 1 = .ok (.istore_n 3, 1) := by decide +kernel
theorem dX3_firstLike_39 : decode cX3_firstLike 39 = .ok (.iload_n 3, 1) := by decide +kernel
theorem dX3_firstLike_40 : decode cX3_firstLike 40 = .ok (.ireturn, 1) := by decide +kernel
theorem dX3_firstLike_47 : decode cX3_firstLike 47 = .ok (.iconst (-1), 1) := by decide +kernel
theorem dX3_firstLike_48 : decode cX3_firstLike 48 = .ok (.ireturn, 1) := by decide +kernel
theorem dX3_unlike_7 : decode cX3_unlike 7 = .ok (.iload 4, 2) := by decide +kernel
theorem dX3_unlike_9 : decode cX3_unlike 9 = .ok (.aload_n 0, 1) := by decide +kernel
theorem dX3_unlike_10 : decode cX3_unlike 10 = .ok (.getfield 15, 3) := by decide +kernel
theorem dX3_unlike_13 : decode cX3_unlike 13 = .ok (.invokevirtual 19, 3) := by decide +kernel
theorem dX3_unlike_16 : decode cX3_unlike 16 = .ok (.if_icmp .ge 44, 3) := by decide +kernel
theorem dX3_unlike_19 : decode cX3_unlike 19 = .ok (.aload_n 1, 1) := by decide +kernel
theorem dX3_unlike_20 : decode cX3_unlike 20 = .ok (.aload_n 0, 1) := by decide +kernel
theorem dX3_unlike_21 : decode cX3_unlike 21 = .ok (.getfield 15, 3) := by decide +kernel
theorem dX3_unlike_24 : decode cX3_unlike 24 = .ok (.iload 4, 2) := by decide +kernel
theorem dX3_unlike_26 : decode cX3_unlike 26 = .ok (.invokevirtual 25, 3) := by decide +kernel
theorem dX3_unlike_29 : decode cX3_unlike 29 = .ok (.checkcast 29, 3) := by decide +kernel
theorem dX3_unlike_32 : decode cX3_unlike 32 = .ok (.iload_n 3, 1) := by decide +kernel
theorem dX3_unlike_33 : decode cX3_unlike 33 = .ok (.invokevirtual 31, 3) := by decide +kernel
theorem dX3_unlike_36 : decode cX3_unlike 36 = .ok (.istore 5, 2) := by decide +kernel
theorem dX3_unlike_38 : decode cX3_unlike 38 = .ok (.iload 5, 2) := by decide +kernel
theorem dX3_unlike_40 : decode cX3_unlike 40 = .ok (.iconst (-1), 1) := by decide +kernel
theorem dX3_unlike_41 : decode cX3_unlike 41 = .ok (.if_icmp .eq 13, 3) := by decide +kernel
theorem dX3_unlike_54 : decode cX3_unlike 54 = .ok (.iinc 4 1, 3) := by decide +kernel
theorem dX3_unlike_57 : decode cX3_unlike 57 = .ok (.goto (-50), 3) := by decide +kernel
theorem dX3_unlike_44 : decode cX3_unlike 44 = .ok (.iinc 2 1, 3) := by decide +kernel
theorem dX3_unlike_47 : decode cX3_unlike 47 = .ok (.iload_n 3, 1) := by decide +kernel
theorem dX3_unlike_48 : decode cX3_unlike 48 = .ok (.iconst 1, 1) := by decide +kernel
theorem dX3_unlike_49 : decode cX3_unlike 49 = .ok (.iload 5, 2) := by decide +kernel
theorem dX3_unlike_51 : decode cX3_unlike 51 = .ok (.ishl, 1) := by decide +kernel
theorem dX3_unlike_52 : decode cX3_unlike 52 = .ok (.ior, 1) := by decide +kernel
theorem dX3_unlike_53 : decode cX3_unlike 53 = .ok (.istore_n 3, 1) := by decide +kernel
theorem dX3_unlike_0 : decode cX3_unlike 0 = .ok (.iconst 0, 1) := by decide +kernel
theorem dX3_unlike_1 : decode cX3_unlike 1 = .ok (.istore_n 2, 1) := by decide +kernel
theorem dX3_unlike_2 : decode cX3_unlike 2 = .ok (.iconst 0, 1) := by decide +kernel
theorem dX3_unlike_3 : decode cX3_unlike 3 = .ok (.istore_n 3, 1) := by decide +kernel
theorem dX3_unlike_4 : decode cX3_unlike 4 = .ok (.iconst 0, 1) := by decide +kernel
theorem dX3_unlike_5 : decode cX3_unlike 5 = .ok (.istore 4, 2) := by decide +kernel
theorem dX3_unlike_60 : decode cX3_unlike 60 = .ok (.aload_n 0, 1) := by decide +kernel
theorem dX3_unlike_61 : decode cX3_unlike 61 = .ok (.getfield 15, 3) := by decide +kernel
theorem dX3_unlike_64 : decode cX3_unlike 64 = .ok (.invokevirtual 19, 3) := by decide +kernel
theorem dX3_unlike_67 : decode cX3_unlike 67 = .ok (.aload_n 1, 1) := by decide +kernel
theorem dX3_unlike_68 : decode cX3_unlike 68 = .ok (.getfield 15, 3) := by decide +kernel
theorem dX3_unlike_71 : decode cX3_unlike 71 = .ok (.invokevirtual 19, 3) := by decide +kernel
theorem dX3_unlike_74 : decode cX3_unlike 74 = .ok (.iadd, 1) := by decide +kernel
theorem dX3_unlike_75 : decode cX3_unlike 75 = .ok (.iconst 2, 1) := by decide +kernel
theorem dX3_unlike_76 : decode cX3_unlike 76 = .ok (.iload_n 2, 1) := by decide +kernel
theorem dX3_unlike_77 : decode cX3_unlike 77 = .ok (.imul, 1) := by decide +kernel
theorem dX3_unlike_78 : decode cX3_unlike 78 = .ok (.isub, 1) := by decide +kernel
theorem dX3_unlike_79 : decode cX3_unlike 79 = .ok (.ireturn, 1) := by decide +kernel
theorem dX6_quarrels_0 : decode cX6_quarrels 0 = .ok (.aload_n 0, 1) := by decide +kernel
theorem dX6_quarrels_1 : decode cX6_quarrels 1 = .ok (.iload_n 1, 1) := by decide +kernel
theorem dX6_quarrels_2 : decode cX6_quarrels 2 = .ok (.invokevirtual 105, 3) := by decide +kernel
theorem dX6_quarrels_5 : decode cX6_quarrels 5 = .ok (.ifCond .ne 5, 3) := by decide +kernel
theorem dX6_quarrels_10 : decode cX6_quarrels 10 = .ok (.aload_n 0, 1) := by decide +kernel
theorem dX6_quarrels_11 : decode cX6_quarrels 11 = .ok (.getfield 19, 3) := by decide +kernel
theorem dX6_quarrels_14 : decode cX6_quarrels 14 = .ok (.iload_n 1, 1) := by decide +kernel
theorem dX6_quarrels_15 : decode cX6_quarrels 15 = .ok (.invokevirtual 108, 3) := by decide +kernel
theorem dX6_quarrels_18 : decode cX6_quarrels 18 = .ok (.checkcast 112, 3) := by decide +kernel
theorem dX6_quarrels_21 : decode cX6_quarrels 21 = .ok (.astore_n 2, 1) := by decide +kernel
theorem dX6_quarrels_22 : decode cX6_quarrels 22 = .ok (.aload_n 0, 1) := by decide +kernel
theorem dX6_quarrels_23 : decode cX6_quarrels 23 = .ok (.getfield 13, 3) := by decide +kernel
theorem dX6_quarrels_26 : decode cX6_quarrels 26 = .ok (.aload_n 2, 1) := by decide +kernel
theorem dX6_quarrels_27 : decode cX6_quarrels 27 = .ok (.getfield 117, 3) := by decide +kernel
theorem dX6_quarrels_30 : decode cX6_quarrels 30 = .ok (.iaload, 1) := by decide +kernel
theorem dX6_quarrels_31 : decode cX6_quarrels 31 = .ok (.istore_n 3, 1) := by decide +kernel
theorem dX6_quarrels_32 : decode cX6_quarrels 32 = .ok (.iload_n 3, 1) := by decide +kernel
theorem dX6_quarrels_33 : decode cX6_quarrels 33 = .ok (.iload_n 1, 1) := by decide +kernel
theorem dX6_quarrels_34 : decode cX6_quarrels 34 = .ok (.if_icmp .eq 11, 3) := by decide +kernel
theorem dX6_quarrels_45 : decode cX6_quarrels 45 = .ok (.iconst 0, 1) := by decide +kernel
theorem dX6_quarrels_46 : decode cX6_quarrels 46 = .ok (.ireturn, 1) := by decide +kernel
theorem dX6_quarrels_37 : decode cX6_quarrels 37 = .ok (.aload_n 0, 1) := by decide +kernel
theorem dX6_quarrels_38 : decode cX6_quarrels 38 = .ok (.iload_n 3, 1) := by decide +kernel
theorem dX6_quarrels_39 : decode cX6_quarrels 39 = .ok (.invokevirtual 105, 3) := by decide +kernel
theorem dX6_quarrels_42 : decode cX6_quarrels 42 = .ok (.ifCond .ne 5, 3) := by decide +kernel
theorem dX6_quarrels_47 : decode cX6_quarrels 47 = .ok (.aload_n 2, 1) := by decide +kernel
theorem dX6_quarrels_48 : decode cX6_quarrels 48 = .ok (.aload_n 0, 1) := by decide +kernel
theorem dX6_quarrels_49 : decode cX6_quarrels 49 = .ok (.getfield 19, 3) := by decide +kernel
theorem dX6_quarrels_52 : decode cX6_quarrels 52 = .ok (.iload_n 3, 1) := by decide +kernel
theorem dX6_quarrels_53 : decode cX6_quarrels 53 = .ok (.invokevirtual 108, 3) := by decide +kernel
theorem dX6_quarrels_56 : decode cX6_quarrels 56 = .ok (.checkcast 112, 3) := by decide +kernel
theorem dX6_quarrels_59 : decode cX6_quarrels 59 = .ok (.invokevirtual 167, 3) := by decide +kernel
theorem dX6_quarrels_62 : decode cX6_quarrels 62 = .ok (.ireturn, 1) := by decide +kernel
theorem dX6_quarrels_8 : decode cX6_quarrels 8 = .ok (.iconst (-1), 1) := by decide +kernel
theorem dX6_quarrels_9 : decode cX6_quarrels 9 = .ok (.ireturn, 1) := by decide +kernel
def wp_M_firstLike : List Cond := .code yX3_firstLike cX3_firstLike 4 (some .int) :: (([.fieldLink RX3 15 "AgreedTalks$Minutes" "lines" "Ljava/util/ArrayList;", .classLink RX3 29 RX2] : List Cond) ++ wsX30 ++ (wsV RX3 19 RJx4a65c yJx4a65c_size_8abf5 wp_AL_sizeF) ++ (wsV RX3 25 RJx4a65c yJx4a65c_get_915e3 wp_AL_get) ++ (wsV RX3 35 RX2 yX2_isLike wp_Line_isLike))
theorem gc_M_firstLike_AL_sizeF : GoodIn wp_M_firstLike (wsV RX3 19 RJx4a65c yJx4a65c_size_8abf5 wp_AL_sizeF) := goodIn_sub (fun _ h => List.mem_cons_of_mem _ (List.mem_append_left _ (List.mem_append_left _ (List.mem_append_right _ h)))) (by decide +kernel)
theorem gc_M_firstLike_AL_get : GoodIn wp_M_firstLike (wsV RX3 25 RJx4a65c yJx4a65c_get_915e3 wp_AL_get) := goodIn_sub (fun _ h => List.mem_cons_of_mem _ (List.mem_append_left _ (List.mem_append_right _ h))) (by decide +kernel)
theorem gc_M_firstLike_Line_isLike : GoodIn wp_M_firstLike (wsV RX3 35 RX2 yX2_isLike wp_Line_isLike) := goodIn_sub (fun _ h => List.mem_cons_of_mem _ (List.mem_append_right _ h)) (by decide +kernel)
set_option maxRecDepth 20000 in
theorem gi_M_firstLike : GoodIn lw_tbl wp_M_firstLike := (goodIn_ca (goodIn_ca (goodIn_ca (goodIn_ca (goodIn_r (.code yX3_firstLike cX3_firstLike 4 (some .int) :: ([.fieldLink RX3 15 "AgreedTalks$Minutes" "lines" "Ljava/util/ArrayList;", .classLink RX3 29 RX2] : List Cond)) [640, 474, 636] (by decide +kernel) (by decide +kernel)) wi_wsX3) (goodIn_app (goodIn_r _ [634, 256, 257, 51] (by decide +kernel) (by decide +kernel)) gi_AL_sizeF)) (goodIn_app (goodIn_r _ [635, 495, 496, 51] (by decide +kernel) (by decide +kernel)) gi_AL_get)) (goodIn_app (goodIn_r _ [641, 642, 643, 63] (by decide +kernel) (by decide +kernel)) gi_Line_isLike))
set_option maxHeartbeats 4000000 in
set_option maxRecDepth 100000 in
theorem sg_M_firstLike_2 {p : Program} {l : Launch} {e : Env} {s : State} {m : MethodId} {args : Array Value} {below : List Frame} {meth : Method} {c : Code} {Q : State → Prop} {A : Nat → Prop} {dC : Nat → ClassId} {dI : Nat → Nat → Nat} (h0 : Nat) (lp1 : Nat) (al1 : Nat) (nl1 : Nat) (cl1 : Nat) (mc1 : Int32) (mv1 : Int32) (gl1 : Nat → Option Nat) (cO : ClassId) (h1 : Nat) (z0 : Int32) (z1 : Int32) (z2 : Int32) (z3 : Int32) (z4 : Int32) (z5 : Int64) (p2 : Int32) (qn1 : nl1 ≤ 20) (qc1 : nl1 ≤ cl1) (qd1 : cl1 < 2 ^ 31) (hx : p.tables.exec = Jvm.exec) (hb : c.code = cX3_firstLike) (hml : c.maxLocals = 4) (hown : s.vm.findClass RX3 = some m.cls) (hts : ∀ w ∈ wp_M_firstLike, w.before args s = true) (hK : va_K (dC, dI) vwCl [(cO, .object "java/lang/Object")] s) (hA : ∀ q : Nat, s.heap.size ≤ q → A q) (fzm1 : okF (dC, dI) vwCl (h0, .inr (4, [.int mv1, .ref lp1])) A s.heap) (fzA1 : okF (dC, dI) vwCl (lp1, .inr (0, [.int mc1, .ref al1, .int (nI nl1)])) A s.heap) (fzR1 : okF (dC, dI) vwCl (al1, .inl (cO, cl1, .inr (.inr (.inr (.inr gl1))))) A s.heap) (hLs1 : okLs (dC, dI) vwCl gl1 nl1 A s.heap) (fzl : okF (dC, dI) vwCl (h1, .inr (3, [.int z0, .int z1, .int z2, .int z3, .int z4, .long z5])) A s.heap) (kk_39 : ∀ (i9 : Nat) (H : Heap) (locs : List Loc) (ls : Array Slot), okPD (dC, dI) vwCl A [] H → va_S A s.heap H locs → lv_has ls 4 [(0, .ref h0), (3, .int (nI i9))] → W p l e ({ frames := 3, cells := 0, slots := 0, locals := 100 } : Room) s m args below meth c H locs 0 0 Q (F0 m 39 ls [])) (kk_47 : ∀ (H : Heap) (locs : List Loc) (ls : Array Slot), okPD (dC, dI) vwCl A [] H → va_S A s.heap H locs → lv_has ls 4 [(0, .ref h0)] → W p l e ({ frames := 3, cells := 0, slots := 0, locals := 100 } : Room) s m args below meth c H locs 0 0 Q (F0 m 47 ls [])) : ∀ (n : Nat) (i9 : Nat) (H : Heap) (locs : List Loc) (ls : Array Slot), nl1 - i9 < n → (i9 ≤ nl1) → okPD (dC, dI) vwCl A [] H → va_S A s.heap H locs → lv_has ls 4 [(0, .ref h0), (1, .ref h1), (2, .int p2), (3, .int (nI i9))] → W p l e ({ frames := 3, cells := 0, slots := 0, locals := 100 } : Room) s m args below meth c H locs 0 0 Q (F0 m 2 ls []) := by
  have hinX3 : ∀ w ∈ u_ws RX3 TX3 2, w ∈ wp_M_firstLike := fun _ h => List.mem_cons_of_mem _ (List.mem_append_left _ (List.mem_append_left _ (List.mem_append_left _ (List.mem_append_right _ h))))
  intro n
  induction n with
  | zero =>
    intro i9 H locs ls hn
    exact absurd hn (Nat.not_lt_zero _)
  | succ n ih =>
    intro i9 H locs ls hn hi hPD hS hl
    obtain ⟨hP, hD⟩ := hPD
    refine lv_iload_n hx hb dX3_firstLike_2 rfl (lv_at hl 3 rfl) ?_
    refine lv_aload_n hx hb dX3_firstLike_3 rfl (lv_at hl 0 rfl) ?_
    have hPz := okF.kept fzm1 hS
    refine va_get (D := (dC, dI)) (ci := 4) (v := .ref lp1) (C := RX3) (T := TX3) (N := 2) hx hb hts hinX3 hown hK hPz 0 rfl rfl 1 (by decide) (hts (.fieldLink RX3 15 "AgreedTalks$Minutes" "lines" "Ljava/util/ArrayList;") (by decide +kernel)) (fun _ h9 => h9) rfl dX3_firstLike_4 ?_
    have hPc := hP.sub (ws' := []) [] rfl
    have hDc := hD.sub (ws' := []) [] (by decide) rfl
    have hKc := hK.sub (tys' := []) [] rfl
    have hFc := va_free (wc := []) hD hS hA [] rfl
    refine va_calli (va_runV (As := []) (rest := [.int (nI i9)]) ⟨hx, hb, hml, hown, hts⟩ (c_AL_sizeF l dC dI _ lp1 al1 nl1 mc1) (cwV 0 hts gc_M_firstLike_AL_sizeF rfl rfl rfl (by decide +kernel) ⟨Nat.le_of_ble_eq_true rfl, Nat.le_of_ble_eq_true rfl⟩) ⟨fun a U g mk q => by obtain ⟨q0, q1, qP, qK, qD, q_fzA⟩ := q; exact ⟨q0, q1, qP, va_K.moved (u := U) (U := U.calling g mk a) (Vm.Alike.refl U.vm) qK, qD, q_fzA⟩, va_recv hKc (okF.kept fzA1 hS) (ci := 0) (q0 := 0) rfl rfl, fun U hU hW => ⟨rfl, by rw [hU], by rw [hU]; exact hPc, va_K.moved hW.alike hKc, hDc.weaken (fun _ _ _ _ => trivial), by rw [hU]; exact okF.pass fzA1 hS hFc⟩⟩ rfl rfl hl.1 rfl (lv_room (Nat.le_of_ble_eq_true rfl)) dX3_firstLike_7 ⟨Nat.zero_le _, Nat.zero_le _⟩) hS (fun q _ h => hFc q h) hFc (fun r_1 u t H1 locs ht hvm hw hB hz1 hk1 hS => ?_)
    obtain ⟨hP1, hK1, hD1⟩ := hB
    rw [ht] at hP1
    obtain ⟨hP, hD⟩ := va_join (wr := []) (w1 := []) hP hD [] [] rfl rfl (by decide) (by decide) hk1 hFc hP1 hD1
    generalize H1 = H at hP hS ⊢
    have hP : va_P (dC, dI) vwCl [] H := hP
    have hD : va_D A [] := hD
    obtain rfl : r_1 = (nI nl1) := hw
    refine lv_icmp_ge (tgt := 47) hx hb dX3_firstLike_10 (by decide) (fun c_2 => ?_) (fun c_2 => ?_)
    · have c_2 : nl1 ≤ i9 := (nI_leI (a := nl1) (b := i9) (by omega) (by omega)).mp c_2
      exact kk_47  _ _ _  ⟨hP, hD⟩ hS (lv_sub hl [0] rfl)
    · have c_2 : ¬ (nl1 ≤ i9) := fun h => c_2 ((nI_leI (a := nl1) (b := i9) (by omega) (by omega)).mpr h)
      refine lv_iload_n hx hb dX3_firstLike_13 rfl (lv_at hl 2 rfl) ?_
      refine lv_iconst (v := 1) hx hb dX3_firstLike_14 (by decide) ?_
      refine lv_iload_n hx hb dX3_firstLike_15 rfl (lv_at hl 3 rfl) ?_
      refine lv_ishl hx hb dX3_firstLike_16 ?_
      refine lv_topi (fun x_3 ex_3 => ?_)
      refine lv_iand hx hb dX3_firstLike_17 ?_
      refine lv_topi (fun x_4 ex_4 => ?_)
      refine lv_if_ne (tgt := 41) hx hb dX3_firstLike_18 (by decide) (fun c_5 => ?_) (fun c_5 => ?_)
      · refine lv_iinc (v := (nI (i9 + 1))) (lv' := [(3, .int (nI (i9 + 1))), (0, .ref h0), (1, .ref h1), (2, .int p2)]) hx hb dX3_firstLike_41 hl (k := 3) rfl (nI_1 _) (by decide) rfl (fun ls hl => ?_)
        refine lv_goto (tgt := 2) hx hb dX3_firstLike_44 (by decide) ?_
        exact ih (i9 + 1) _ _ _ (by omega) (by omega) ⟨hP, hD⟩ hS (lv_sub hl [1, 2, 3, 0] rfl)
      · refine lv_aload_n hx hb dX3_firstLike_21 rfl (lv_at hl 0 rfl) ?_
        have hPz := okF.kept fzm1 hS
        refine va_get (D := (dC, dI)) (ci := 4) (v := .ref lp1) (C := RX3) (T := TX3) (N := 2) hx hb hts hinX3 hown hK hPz 0 rfl rfl 1 (by decide) (hts (.fieldLink RX3 15 "AgreedTalks$Minutes" "lines" "Ljava/util/ArrayList;") (by decide +kernel)) (fun _ h9 => h9) rfl dX3_firstLike_22 ?_
        refine lv_iload_n hx hb dX3_firstLike_25 rfl (lv_at hl 3 rfl) ?_
        obtain ⟨qv, tt, kd, pe, ot, dy, gr, hg, fzq, htt, hln⟩ := hLs1 i9 (by omega)
        have hPc := hP.sub (ws' := []) [] rfl
        have hDc := hD.sub (ws' := []) [] (by decide) rfl
        have hKc := hK.sub (tys' := [(cO, .object "java/lang/Object")]) [0] rfl
        have hFc := va_free (wc := []) hD hS hA [] rfl
        refine va_callr (va_runV (As := [.int (nI i9)]) (rest := []) ⟨hx, hb, hml, hown, hts⟩ (c_AL_get l dC dI _ lp1 al1 nl1 cl1 i9 mc1 cO gl1 qv (by omega) (by omega) (by omega) hg) (cwV 1 hts gc_M_firstLike_AL_get rfl rfl rfl (by decide +kernel) ⟨Nat.le_of_ble_eq_true rfl, Nat.le_of_ble_eq_true rfl⟩) ⟨fun a U g mk q => by obtain ⟨q0, q1, qP, qK, qD, q_fzA, q_fzR⟩ := q; exact ⟨q0, q1, qP, va_K.moved (u := U) (U := U.calling g mk a) (Vm.Alike.refl U.vm) qK, qD, q_fzA, q_fzR⟩, va_recv hKc (okF.kept fzA1 hS) (ci := 0) (q0 := 0) rfl rfl, fun U hU hW => ⟨rfl, by rw [hU], by rw [hU]; exact hPc, va_K.moved hW.alike hKc, hDc.weaken (fun _ _ _ _ => trivial), by rw [hU]; exact okF.pass fzA1 hS hFc, by rw [hU]; exact okF.pass fzR1 hS hFc⟩⟩ rfl rfl hl.1 rfl (lv_room (Nat.le_of_ble_eq_true rfl)) dX3_firstLike_26 ⟨Nat.zero_le _, Nat.zero_le _⟩) hS (fun q _ h => hFc q h) hFc (fun u r_6 t H1 locs ht hvm hw hB hz1 hk1 hS => ?_)
        obtain ⟨er_6, hP1, hK1, hD1⟩ := hB
        rw [ht] at hP1
        obtain ⟨hP, hD⟩ := va_join (wr := []) (w1 := []) hP hD [] [] rfl rfl (by decide) (by decide) hk1 hFc hP1 hD1
        generalize H1 = H at hP hS ⊢
        have hP : va_P (dC, dI) vwCl [] H := hP
        have hD : va_D A [] := hD
        have er_6 := er_6.symm
        subst er_6
        have hPz := okF.kept fzq hS
        refine va_castE hx hb hown (hts (.classLink RX3 29 RX2) (by decide +kernel)) (va_recv hK hPz (ci := 3) (q0 := 0) rfl rfl) dX3_firstLike_29 ?_
        refine lv_aload_n hx hb dX3_firstLike_32 rfl (lv_at hl 1 rfl) ?_
        have hPc := hP.sub (ws' := []) [] rfl
        have hDc := hD.sub (ws' := []) [] (by decide) rfl
        have hKc := hK.sub (tys' := []) [] rfl
        have hFc := va_free (wc := []) hD hS hA [] rfl
        refine va_calli (va_runV (As := [.ref h1]) (rest := []) ⟨hx, hb, hml, hown, hts⟩ (c_Line_isLike l dC dI _ qv h1 kd pe ot (nI tt) dy gr z0 z1 z2 z3 z4 z5) (cwV 1 hts gc_M_firstLike_Line_isLike rfl rfl rfl (by decide +kernel) ⟨Nat.le_of_ble_eq_true rfl, Nat.le_of_ble_eq_true rfl⟩) ⟨fun a U g mk q => by obtain ⟨q0, q1, qP, qK, qD, q_fz0, q_fz1⟩ := q; exact ⟨q0, q1, qP, va_K.moved (u := U) (U := U.calling g mk a) (Vm.Alike.refl U.vm) qK, qD, q_fz0, q_fz1⟩, va_recv hKc (okF.kept fzq hS) (ci := 3) (q0 := 0) rfl rfl, fun U hU hW => ⟨rfl, by rw [hU], by rw [hU]; exact hPc, va_K.moved hW.alike hKc, hDc.weaken (fun _ _ _ _ => trivial), by rw [hU]; exact okF.pass fzq hS hFc, by rw [hU]; exact okF.pass fzl hS hFc⟩⟩ rfl rfl hl.1 rfl (lv_room (Nat.le_of_ble_eq_true rfl)) dX3_firstLike_33 ⟨Nat.zero_le _, Nat.zero_le _⟩) hS (fun q _ h => hFc q h) hFc (fun r_7 u t H1 locs ht hvm hw hB hz1 hk1 hS => ?_)
        obtain ⟨hP1, hK1, hD1⟩ := hB
        rw [ht] at hP1
        obtain ⟨hP, hD⟩ := va_join (wr := []) (w1 := []) hP hD [] [] rfl rfl (by decide) (by decide) hk1 hFc hP1 hD1
        generalize H1 = H at hP hS ⊢
        have hP : va_P (dC, dI) vwCl [] H := hP
        have hD : va_D A [] := hD
        have hr_7 := hw
        try dsimp only at hr_7
        refine lv_if_eq (tgt := 41) hx hb dX3_firstLike_36 (by decide) (fun c_8 => ?_) (fun c_8 => ?_)
        · refine lv_iinc (v := (nI (i9 + 1))) (lv' := [(3, .int (nI (i9 + 1))), (0, .ref h0), (1, .ref h1), (2, .int p2)]) hx hb dX3_firstLike_41 hl (k := 3) rfl (nI_1 _) (by decide) rfl (fun ls hl => ?_)
          refine lv_goto (tgt := 2) hx hb dX3_firstLike_44 (by decide) ?_
          exact ih (i9 + 1) _ _ _ (by omega) (by omega) ⟨hP, hD⟩ hS (lv_sub hl [1, 2, 3, 0] rfl)
        · exact kk_39 i9 _ _ _  ⟨hP, hD⟩ hS (lv_sub hl [0, 3] rfl)
set_option maxHeartbeats 4000000 in
set_option maxRecDepth 100000 in
/-- firstLike -/
theorem c_M_firstLike (l : Launch) (dC : Nat → ClassId) (dI : Nat → Nat → Nat) (sz : Nat) (h0 : Nat) (lp1 : Nat) (al1 : Nat) (nl1 : Nat) (cl1 : Nat) (mc1 : Int32) (mv1 : Int32) (gl1 : Nat → Option Nat) (cO : ClassId) (h1 : Nat) (z0 : Int32) (z1 : Int32) (z2 : Int32) (z3 : Int32) (z4 : Int32) (z5 : Int64) (p2 : Int32) (qn1 : nl1 ≤ 20) (qc1 : nl1 ≤ cl1) (qd1 : cl1 < 2 ^ 31) : Met l yX3_firstLike wp_M_firstLike ({ frames := 3, cells := 0, slots := 0, locals := 100 }) (va_Pc [.ref h0, .ref h1, .int p2] (fun U => U.heap.size = sz ∧ va_P (dC, dI) vwCl [] U.heap ∧ va_K (dC, dI) vwCl [(cO, .object "java/lang/Object")] U ∧ va_D (fun _ => True) [] ∧ okF (dC, dI) vwCl (h0, .inr (4, [.int mv1, .ref lp1])) (va_A [] sz) U.heap ∧ okF (dC, dI) vwCl (lp1, .inr (0, [.int mc1, .ref al1, .int (nI nl1)])) (va_A [] sz) U.heap ∧ okF (dC, dI) vwCl (al1, .inl (cO, cl1, .inr (.inr (.inr (.inr gl1))))) (va_A [] sz) U.heap ∧ okLs (dC, dI) vwCl gl1 nl1 (va_A [] sz) U.heap ∧ okF (dC, dI) vwCl (h1, .inr (3, [.int z0, .int z1, .int z2, .int z3, .int z4, .long z5])) (va_A [] sz) U.heap)) (va_Qi (fun (r : Int32) (_ : Unit) => True) (fun (_ : Unit) (t : State) => va_P (dC, dI) vwCl [] t.heap ∧ va_K (dC, dI) vwCl [(cO, .object "java/lang/Object")] t ∧ va_D (va_A [] sz) []) (va_A [] sz)) 0 0 (va_A [] sz) := by
  refine Met.ofW (cc := cX3_firstLike) (maxL := 4) (ret := (some .int)) (by decide) rfl ?_
  intro p e s m args below meth c s₁ B hml hv
  obtain ⟨rfl, hsz, hP, hK, hD0, fzm1, fzA1, fzR1, hLs1, fzl⟩ := hv
  have hx := B.exec
  have hb := B.bytes
  have hr := B.returns
  have hts := atoms_spec (ws := wp_M_firstLike) B.pre
  have hown : s.vm.findClass RX3 = some m.cls := findClass_of_methodNamed B.named
  have hlocks := B.notSynchronized
  subst hsz
  have hD := hD0.self (sz := s.heap.size)
  generalize hAe : va_A [] s.heap.size = A at hD fzm1 fzA1 fzR1 hLs1 fzl ⊢
  have hA : ∀ q : Nat, s.heap.size ≤ q → A q := fun q h => by rw [← hAe]; exact Or.inr h
  have hS : va_S A s.heap s.heap [] := va_S.rf
  have hP : va_P (dC, dI) vwCl [] s.heap := hP
  have hl := lv_entry ([.ref h0, .ref h1, .int p2]) (n := 4) (Nat.le_of_ble_eq_true rfl)
  rw [lg_entry_eq]
  generalize (lg_sl ([.ref h0, .ref h1, .int p2]) ++ List.replicate (4 - (lg_sl ([.ref h0, .ref h1, .int p2])).length) Slot.unset).toArray = ls at hl ⊢
  have hl : lv_has ls 4 [(0, .ref h0), (1, .ref h1), (2, .int p2)] := hl
  have hinX3 : ∀ w ∈ u_ws RX3 TX3 2, w ∈ wp_M_firstLike := fun _ h => List.mem_cons_of_mem _ (List.mem_append_left _ (List.mem_append_left _ (List.mem_append_left _ (List.mem_append_right _ h))))
  refine lv_iconst (v := 0) hx hb dX3_firstLike_0 (by decide) ?_
  refine lv_istore_n (lv' := [(3, .int 0), (0, .ref h0), (1, .ref h1), (2, .int p2)]) hx hb dX3_firstLike_1 rfl hl (by decide) rfl (fun ls hl => ?_)
  refine sg_M_firstLike_2 h0 lp1 al1 nl1 cl1 mc1 mv1 gl1 cO h1 z0 z1 z2 z3 z4 z5 p2 qn1 qc1 qd1 hx hb hml hown hts hK hA fzm1 fzA1 fzR1 hLs1 fzl (fun i9_9 H locs ls  hPD hS hl => ?_) (fun H locs ls  hPD hS hl => ?_) ((nl1 - 0) + 1) 0 _ _ _ (Nat.lt_succ_self _) (by omega) ⟨hP, hD⟩ hS (lv_sub hl [1, 2, 3, 0] rfl)
  · obtain ⟨hP, hD⟩ := hPD
    refine lv_iload_n hx hb dX3_firstLike_39 rfl (lv_at hl 1 rfl) ?_
    have hP9 := hP.sub (ws' := []) [] rfl
    have hD9 := hD.sub (ws' := []) [] (by decide) rfl
    have hK9 := hK.sub (tys' := [(cO, .object "java/lang/Object")]) [0] rfl
    exact W.iret (v := (nI i9_9)) hx hb hr (fun t ht hW => ⟨⟨(nI i9_9), (), rfl, trivial, by rw [ht]; exact hP9, va_K.moved hW.alike hK9, hD9⟩, hS.F ht⟩) hS.2.2 dX3_firstLike_40
  · obtain ⟨hP, hD⟩ := hPD
    refine lv_iconst (v := (-1)) hx hb dX3_firstLike_47 (by decide) ?_
    have hP9 := hP.sub (ws' := []) [] rfl
    have hD9 := hD.sub (ws' := []) [] (by decide) rfl
    have hK9 := hK.sub (tys' := [(cO, .object "java/lang/Object")]) [0] rfl
    exact W.iret (v := (-1)) hx hb hr (fun t ht hW => ⟨⟨(-1), (), rfl, trivial, by rw [ht]; exact hP9, va_K.moved hW.alike hK9, hD9⟩, hS.F ht⟩) hS.2.2 dX3_firstLike_48
def wp_M_unlike : List Cond := .code yX3_unlike cX3_unlike 6 (some .int) :: (([.fieldLink RX3 15 "AgreedTalks$Minutes" "lines" "Ljava/util/ArrayList;", .classLink RX3 29 RX2] : List Cond) ++ wsX30 ++ (wsV RX3 19 RJx4a65c yJx4a65c_size_8abf5 wp_AL_sizeF) ++ (wsV RX3 25 RJx4a65c yJx4a65c_get_915e3 wp_AL_get) ++ (wsV RX3 31 RX3 yX3_firstLike wp_M_firstLike))
theorem gc_M_unlike_AL_sizeF : GoodIn wp_M_unlike (wsV RX3 19 RJx4a65c yJx4a65c_size_8abf5 wp_AL_sizeF) := goodIn_sub (fun _ h => List.mem_cons_of_mem _ (List.mem_append_left _ (List.mem_append_left _ (List.mem_append_right _ h)))) (by decide +kernel)
theorem gc_M_unlike_AL_get : GoodIn wp_M_unlike (wsV RX3 25 RJx4a65c yJx4a65c_get_915e3 wp_AL_get) := goodIn_sub (fun _ h => List.mem_cons_of_mem _ (List.mem_append_left _ (List.mem_append_right _ h))) (by decide +kernel)
theorem gc_M_unlike_M_firstLike : GoodIn wp_M_unlike (wsV RX3 31 RX3 yX3_firstLike wp_M_firstLike) := goodIn_sub (fun _ h => List.mem_cons_of_mem _ (List.mem_append_right _ h)) (by decide +kernel)
set_option maxRecDepth 20000 in
theorem gi_M_unlike : GoodIn lw_tbl wp_M_unlike := (goodIn_ca (goodIn_ca (goodIn_ca (goodIn_ca (goodIn_r (.code yX3_unlike cX3_unlike 6 (some .int) :: ([.fieldLink RX3 15 "AgreedTalks$Minutes" "lines" "Ljava/util/ArrayList;", .classLink RX3 29 RX2] : List Cond)) [633, 474, 636] (by decide +kernel) (by decide +kernel)) wi_wsX3) (goodIn_app (goodIn_r _ [634, 256, 257, 51] (by decide +kernel) (by decide +kernel)) gi_AL_sizeF)) (goodIn_app (goodIn_r _ [635, 495, 496, 51] (by decide +kernel) (by decide +kernel)) gi_AL_get)) (goodIn_app (goodIn_r _ [637, 639, 23, 66] (by decide +kernel) (by decide +kernel)) gi_M_firstLike))
set_option maxHeartbeats 4000000 in
set_option maxRecDepth 100000 in
theorem sg_M_unlike_7 {p : Program} {l : Launch} {e : Env} {s : State} {m : MethodId} {args : Array Value} {below : List Frame} {meth : Method} {c : Code} {Q : State → Prop} {A : Nat → Prop} {dC : Nat → ClassId} {dI : Nat → Nat → Nat} (h0 : Nat) (lp1 : Nat) (al1 : Nat) (nl1 : Nat) (cl1 : Nat) (mc1 : Int32) (mv1 : Int32) (gl1 : Nat → Option Nat) (h1 : Nat) (lp2 : Nat) (al2 : Nat) (nl2 : Nat) (cl2 : Nat) (mc2 : Int32) (mv2 : Int32) (gl2 : Nat → Option Nat) (cO : ClassId) (qn1 : nl1 ≤ 20) (qc1 : nl1 ≤ cl1) (qd1 : cl1 < 2 ^ 31) (qn2 : nl2 ≤ 20) (qc2 : nl2 ≤ cl2) (qd2 : cl2 < 2 ^ 31) (hx : p.tables.exec = Jvm.exec) (hb : c.code = cX3_unlike) (hml : c.maxLocals = 6) (hown : s.vm.findClass RX3 = some m.cls) (hts : ∀ w ∈ wp_M_unlike, w.before args s = true) (hK : va_K (dC, dI) vwCl [(cO, .object "java/lang/Object")] s) (hA : ∀ q : Nat, s.heap.size ≤ q → A q) (fzm1 : okF (dC, dI) vwCl (h0, .inr (4, [.int mv1, .ref lp1])) A s.heap) (fzA1 : okF (dC, dI) vwCl (lp1, .inr (0, [.int mc1, .ref al1, .int (nI nl1)])) A s.heap) (fzR1 : okF (dC, dI) vwCl (al1, .inl (cO, cl1, .inr (.inr (.inr (.inr gl1))))) A s.heap) (hLs1 : okLs (dC, dI) vwCl gl1 nl1 A s.heap) (fzm2 : okF (dC, dI) vwCl (h1, .inr (4, [.int mv2, .ref lp2])) A s.heap) (fzA2 : okF (dC, dI) vwCl (lp2, .inr (0, [.int mc2, .ref al2, .int (nI nl2)])) A s.heap) (fzR2 : okF (dC, dI) vwCl (al2, .inl (cO, cl2, .inr (.inr (.inr (.inr gl2))))) A s.heap) (hLs2 : okLs (dC, dI) vwCl gl2 nl2 A s.heap) (kk_60 : ∀ (pr : Int32) (H : Heap) (locs : List Loc) (ls : Array Slot), okPD (dC, dI) vwCl A [] H → va_S A s.heap H locs → lv_has ls 6 [(0, .ref h0), (1, .ref h1), (2, .int pr)] → W p l e ({ frames := 4, cells := 0, slots := 0, locals := 140 } : Room) s m args below meth c H locs 0 0 Q (F0 m 60 ls [])) : ∀ (n : Nat) (pr : Int32) (pd : Int32) (i9 : Nat) (H : Heap) (locs : List Loc) (ls : Array Slot), nl1 - i9 < n → (i9 ≤ nl1) → okPD (dC, dI) vwCl A [] H → va_S A s.heap H locs → lv_has ls 6 [(0, .ref h0), (1, .ref h1), (2, .int pr), (3, .int pd), (4, .int (nI i9))] → W p l e ({ frames := 4, cells := 0, slots := 0, locals := 140 } : Room) s m args below meth c H locs 0 0 Q (F0 m 7 ls []) := by
  have hinX3 : ∀ w ∈ u_ws RX3 TX3 2, w ∈ wp_M_unlike := fun _ h => List.mem_cons_of_mem _ (List.mem_append_left _ (List.mem_append_left _ (List.mem_append_left _ (List.mem_append_right _ h))))
  intro n
  induction n with
  | zero =>
    intro pr pd i9 H locs ls hn
    exact absurd hn (Nat.not_lt_zero _)
  | succ n ih =>
    intro pr pd i9 H locs ls hn hi hPD hS hl
    obtain ⟨hP, hD⟩ := hPD
    refine lv_iload hx hb dX3_unlike_7 (lv_at hl 4 rfl) ?_
    refine lv_aload_n hx hb dX3_unlike_9 rfl (lv_at hl 0 rfl) ?_
    have hPz := okF.kept fzm1 hS
    refine va_get (D := (dC, dI)) (ci := 4) (v := .ref lp1) (C := RX3) (T := TX3) (N := 2) hx hb hts hinX3 hown hK hPz 0 rfl rfl 1 (by decide) (hts (.fieldLink RX3 15 "AgreedTalks$Minutes" "lines" "Ljava/util/ArrayList;") (by decide +kernel)) (fun _ h9 => h9) rfl dX3_unlike_10 ?_
    have hPc := hP.sub (ws' := []) [] rfl
    have hDc := hD.sub (ws' := []) [] (by decide) rfl
    have hKc := hK.sub (tys' := []) [] rfl
    have hFc := va_free (wc := []) hD hS hA [] rfl
    refine va_calli (va_runV (As := []) (rest := [.int (nI i9)]) ⟨hx, hb, hml, hown, hts⟩ (c_AL_sizeF l dC dI _ lp1 al1 nl1 mc1) (cwV 0 hts gc_M_unlike_AL_sizeF rfl rfl rfl (by decide +kernel) ⟨Nat.le_of_ble_eq_true rfl, Nat.le_of_ble_eq_true rfl⟩) ⟨fun a U g mk q => by obtain ⟨q0, q1, qP, qK, qD, q_fzA⟩ := q; exact ⟨q0, q1, qP, va_K.moved (u := U) (U := U.calling g mk a) (Vm.Alike.refl U.vm) qK, qD, q_fzA⟩, va_recv hKc (okF.kept fzA1 hS) (ci := 0) (q0 := 0) rfl rfl, fun U hU hW => ⟨rfl, by rw [hU], by rw [hU]; exact hPc, va_K.moved hW.alike hKc, hDc.weaken (fun _ _ _ _ => trivial), by rw [hU]; exact okF.pass fzA1 hS hFc⟩⟩ rfl rfl hl.1 rfl (lv_room (Nat.le_of_ble_eq_true rfl)) dX3_unlike_13 ⟨Nat.zero_le _, Nat.zero_le _⟩) hS (fun q _ h => hFc q h) hFc (fun r_1 u t H1 locs ht hvm hw hB hz1 hk1 hS => ?_)
    obtain ⟨hP1, hK1, hD1⟩ := hB
    rw [ht] at hP1
    obtain ⟨hP, hD⟩ := va_join (wr := []) (w1 := []) hP hD [] [] rfl rfl (by decide) (by decide) hk1 hFc hP1 hD1
    generalize H1 = H at hP hS ⊢
    have hP : va_P (dC, dI) vwCl [] H := hP
    have hD : va_D A [] := hD
    obtain rfl : r_1 = (nI nl1) := hw
    refine lv_icmp_ge (tgt := 60) hx hb dX3_unlike_16 (by decide) (fun c_2 => ?_) (fun c_2 => ?_)
    · have c_2 : nl1 ≤ i9 := (nI_leI (a := nl1) (b := i9) (by omega) (by omega)).mp c_2
      exact kk_60 pr _ _ _  ⟨hP, hD⟩ hS (lv_sub hl [0, 1, 2] rfl)
    · have c_2 : ¬ (nl1 ≤ i9) := fun h => c_2 ((nI_leI (a := nl1) (b := i9) (by omega) (by omega)).mpr h)
      refine lv_aload_n hx hb dX3_unlike_19 rfl (lv_at hl 1 rfl) ?_
      refine lv_aload_n hx hb dX3_unlike_20 rfl (lv_at hl 0 rfl) ?_
      have hPz := okF.kept fzm1 hS
      refine va_get (D := (dC, dI)) (ci := 4) (v := .ref lp1) (C := RX3) (T := TX3) (N := 2) hx hb hts hinX3 hown hK hPz 0 rfl rfl 1 (by decide) (hts (.fieldLink RX3 15 "AgreedTalks$Minutes" "lines" "Ljava/util/ArrayList;") (by decide +kernel)) (fun _ h9 => h9) rfl dX3_unlike_21 ?_
      refine lv_iload hx hb dX3_unlike_24 (lv_at hl 4 rfl) ?_
      obtain ⟨qv, tt, kd, pe, ot, dy, gr, hg, fzq, htt, hln⟩ := hLs1 i9 (by omega)
      have hPc := hP.sub (ws' := []) [] rfl
      have hDc := hD.sub (ws' := []) [] (by decide) rfl
      have hKc := hK.sub (tys' := [(cO, .object "java/lang/Object")]) [0] rfl
      have hFc := va_free (wc := []) hD hS hA [] rfl
      refine va_callr (va_runV (As := [.int (nI i9)]) (rest := [.ref h1]) ⟨hx, hb, hml, hown, hts⟩ (c_AL_get l dC dI _ lp1 al1 nl1 cl1 i9 mc1 cO gl1 qv (by omega) (by omega) (by omega) hg) (cwV 1 hts gc_M_unlike_AL_get rfl rfl rfl (by decide +kernel) ⟨Nat.le_of_ble_eq_true rfl, Nat.le_of_ble_eq_true rfl⟩) ⟨fun a U g mk q => by obtain ⟨q0, q1, qP, qK, qD, q_fzA, q_fzR⟩ := q; exact ⟨q0, q1, qP, va_K.moved (u := U) (U := U.calling g mk a) (Vm.Alike.refl U.vm) qK, qD, q_fzA, q_fzR⟩, va_recv hKc (okF.kept fzA1 hS) (ci := 0) (q0 := 0) rfl rfl, fun U hU hW => ⟨rfl, by rw [hU], by rw [hU]; exact hPc, va_K.moved hW.alike hKc, hDc.weaken (fun _ _ _ _ => trivial), by rw [hU]; exact okF.pass fzA1 hS hFc, by rw [hU]; exact okF.pass fzR1 hS hFc⟩⟩ rfl rfl hl.1 rfl (lv_room (Nat.le_of_ble_eq_true rfl)) dX3_unlike_26 ⟨Nat.zero_le _, Nat.zero_le _⟩) hS (fun q _ h => hFc q h) hFc (fun u r_3 t H1 locs ht hvm hw hB hz1 hk1 hS => ?_)
      obtain ⟨er_3, hP1, hK1, hD1⟩ := hB
      rw [ht] at hP1
      obtain ⟨hP, hD⟩ := va_join (wr := []) (w1 := []) hP hD [] [] rfl rfl (by decide) (by decide) hk1 hFc hP1 hD1
      generalize H1 = H at hP hS ⊢
      have hP : va_P (dC, dI) vwCl [] H := hP
      have hD : va_D A [] := hD
      have er_3 := er_3.symm
      subst er_3
      have hPz := okF.kept fzq hS
      refine va_castE hx hb hown (hts (.classLink RX3 29 RX2) (by decide +kernel)) (va_recv hK hPz (ci := 3) (q0 := 0) rfl rfl) dX3_unlike_29 ?_
      refine lv_iload_n hx hb dX3_unlike_32 rfl (lv_at hl 3 rfl) ?_
      have hPc := hP.sub (ws' := []) [] rfl
      have hDc := hD.sub (ws' := []) [] (by decide) rfl
      have hKc := hK.sub (tys' := [(cO, .object "java/lang/Object")]) [0] rfl
      have hFc := va_free (wc := []) hD hS hA [] rfl
      refine va_calli (va_runV (As := [.ref qv, .int pd]) (rest := []) ⟨hx, hb, hml, hown, hts⟩ (c_M_firstLike l dC dI _ h1 lp2 al2 nl2 cl2 mc2 mv2 gl2 cO qv kd pe ot (nI tt) dy gr pd (by omega) (by omega) (by omega)) (cwV 2 hts gc_M_unlike_M_firstLike rfl rfl rfl (by decide +kernel) ⟨Nat.le_of_ble_eq_true rfl, Nat.le_of_ble_eq_true rfl⟩) ⟨fun a U g mk q => by obtain ⟨q0, q1, qP, qK, qD, q_fzm1, q_fzA1, q_fzR1, q_hLs1, q_fzl⟩ := q; exact ⟨q0, q1, qP, va_K.moved (u := U) (U := U.calling g mk a) (Vm.Alike.refl U.vm) qK, qD, q_fzm1, q_fzA1, q_fzR1, q_hLs1, q_fzl⟩, va_recv hKc (okF.kept fzm2 hS) (ci := 4) (q0 := 0) rfl rfl, fun U hU hW => ⟨rfl, by rw [hU], by rw [hU]; exact hPc, va_K.moved hW.alike hKc, hDc.weaken (fun _ _ _ _ => trivial), by rw [hU]; exact okF.pass fzm2 hS hFc, by rw [hU]; exact okF.pass fzA2 hS hFc, by rw [hU]; exact okF.pass fzR2 hS hFc, by rw [hU]; exact okLs.pass hLs2 hS hFc, by rw [hU]; exact okF.pass fzq hS hFc⟩⟩ rfl rfl hl.1 rfl (lv_room (Nat.le_of_ble_eq_true rfl)) dX3_unlike_33 ⟨Nat.zero_le _, Nat.zero_le _⟩) hS (fun q _ h => hFc q h) hFc (fun r_4 u t H1 locs ht hvm hw hB hz1 hk1 hS => ?_)
      obtain ⟨hP1, hK1, hD1⟩ := hB
      rw [ht] at hP1
      obtain ⟨hP, hD⟩ := va_join (wr := []) (w1 := []) hP hD [] [] rfl rfl (by decide) (by decide) hk1 hFc hP1 hD1
      generalize H1 = H at hP hS ⊢
      have hP : va_P (dC, dI) vwCl [] H := hP
      have hD : va_D A [] := hD
      have hr_4 := hw
      try dsimp only at hr_4
      refine lv_istore (lv' := [(5, .int r_4), (0, .ref h0), (1, .ref h1), (2, .int pr), (3, .int pd), (4, .int (nI i9))]) hx hb dX3_unlike_36 hl (by decide) rfl (fun ls hl => ?_)
      refine lv_iload hx hb dX3_unlike_38 (lv_at hl 0 rfl) ?_
      refine lv_iconst (v := (-1)) hx hb dX3_unlike_40 (by decide) ?_
      refine lv_icmp_eq (tgt := 54) hx hb dX3_unlike_41 (by decide) (fun c_5 => ?_) (fun c_5 => ?_)
      · refine lv_iinc (v := (nI (i9 + 1))) (lv' := [(4, .int (nI (i9 + 1))), (5, .int r_4), (0, .ref h0), (1, .ref h1), (2, .int pr), (3, .int pd)]) hx hb dX3_unlike_54 hl (k := 5) rfl (nI_1 _) (by decide) rfl (fun ls hl => ?_)
        refine lv_goto (tgt := 7) hx hb dX3_unlike_57 (by decide) ?_
        exact ih pr pd (i9 + 1) _ _ _ (by omega) (by omega) ⟨hP, hD⟩ hS (lv_sub hl [2, 3, 4, 5, 0] rfl)
      · obtain ⟨x_6, ex_6⟩ : ∃ y : Int32, y = pr + Int32.ofInt 1 := ⟨_, rfl⟩
        refine lv_iinc (v := x_6) (lv' := [(2, .int x_6), (5, .int r_4), (0, .ref h0), (1, .ref h1), (3, .int pd), (4, .int (nI i9))]) hx hb dX3_unlike_44 hl (k := 3) rfl ex_6.symm (by decide) rfl (fun ls hl => ?_)
        refine lv_iload_n hx hb dX3_unlike_47 rfl (lv_at hl 4 rfl) ?_
        refine lv_iconst (v := 1) hx hb dX3_unlike_48 (by decide) ?_
        refine lv_iload hx hb dX3_unlike_49 (lv_at hl 1 rfl) ?_
        refine lv_ishl hx hb dX3_unlike_51 ?_
        refine lv_topi (fun x_7 ex_7 => ?_)
        refine lv_ior hx hb dX3_unlike_52 ?_
        refine lv_topi (fun x_8 ex_8 => ?_)
        refine lv_istore_n (lv' := [(3, .int x_8), (2, .int x_6), (5, .int r_4), (0, .ref h0), (1, .ref h1), (4, .int (nI i9))]) hx hb dX3_unlike_53 rfl hl (by decide) rfl (fun ls hl => ?_)
        refine lv_iinc (v := (nI (i9 + 1))) (lv' := [(4, .int (nI (i9 + 1))), (3, .int x_8), (2, .int x_6), (5, .int r_4), (0, .ref h0), (1, .ref h1)]) hx hb dX3_unlike_54 hl (k := 5) rfl (nI_1 _) (by decide) rfl (fun ls hl => ?_)
        refine lv_goto (tgt := 7) hx hb dX3_unlike_57 (by decide) ?_
        exact ih x_6 x_8 (i9 + 1) _ _ _ (by omega) (by omega) ⟨hP, hD⟩ hS (lv_sub hl [4, 5, 2, 1, 0] rfl)
set_option maxHeartbeats 4000000 in
set_option maxRecDepth 100000 in
/-- unlike -/
theorem c_M_unlike (l : Launch) (dC : Nat → ClassId) (dI : Nat → Nat → Nat) (sz : Nat) (h0 : Nat) (lp1 : Nat) (al1 : Nat) (nl1 : Nat) (cl1 : Nat) (mc1 : Int32) (mv1 : Int32) (gl1 : Nat → Option Nat) (h1 : Nat) (lp2 : Nat) (al2 : Nat) (nl2 : Nat) (cl2 : Nat) (mc2 : Int32) (mv2 : Int32) (gl2 : Nat → Option Nat) (cO : ClassId) (qn1 : nl1 ≤ 20) (qc1 : nl1 ≤ cl1) (qd1 : cl1 < 2 ^ 31) (qn2 : nl2 ≤ 20) (qc2 : nl2 ≤ cl2) (qd2 : cl2 < 2 ^ 31) : Met l yX3_unlike wp_M_unlike ({ frames := 4, cells := 0, slots := 0, locals := 140 }) (va_Pc [.ref h0, .ref h1] (fun U => U.heap.size = sz ∧ va_P (dC, dI) vwCl [] U.heap ∧ va_K (dC, dI) vwCl [(cO, .object "java/lang/Object")] U ∧ va_D (fun _ => True) [] ∧ okF (dC, dI) vwCl (h0, .inr (4, [.int mv1, .ref lp1])) (va_A [] sz) U.heap ∧ okF (dC, dI) vwCl (lp1, .inr (0, [.int mc1, .ref al1, .int (nI nl1)])) (va_A [] sz) U.heap ∧ okF (dC, dI) vwCl (al1, .inl (cO, cl1, .inr (.inr (.inr (.inr gl1))))) (va_A [] sz) U.heap ∧ okLs (dC, dI) vwCl gl1 nl1 (va_A [] sz) U.heap ∧ okF (dC, dI) vwCl (h1, .inr (4, [.int mv2, .ref lp2])) (va_A [] sz) U.heap ∧ okF (dC, dI) vwCl (lp2, .inr (0, [.int mc2, .ref al2, .int (nI nl2)])) (va_A [] sz) U.heap ∧ okF (dC, dI) vwCl (al2, .inl (cO, cl2, .inr (.inr (.inr (.inr gl2))))) (va_A [] sz) U.heap ∧ okLs (dC, dI) vwCl gl2 nl2 (va_A [] sz) U.heap)) (va_Qi (fun (r : Int32) (_ : Unit) => True) (fun (_ : Unit) (t : State) => va_P (dC, dI) vwCl [] t.heap ∧ va_K (dC, dI) vwCl [(cO, .object "java/lang/Object")] t ∧ va_D (va_A [] sz) []) (va_A [] sz)) 0 0 (va_A [] sz) := by
  refine Met.ofW (cc := cX3_unlike) (maxL := 6) (ret := (some .int)) (by decide) rfl ?_
  intro p e s m args below meth c s₁ B hml hv
  obtain ⟨rfl, hsz, hP, hK, hD0, fzm1, fzA1, fzR1, hLs1, fzm2, fzA2, fzR2, hLs2⟩ := hv
  have hx := B.exec
  have hb := B.bytes
  have hr := B.returns
  have hts := atoms_spec (ws := wp_M_unlike) B.pre
  have hown : s.vm.findClass RX3 = some m.cls := findClass_of_methodNamed B.named
  have hlocks := B.notSynchronized
  subst hsz
  have hD := hD0.self (sz := s.heap.size)
  generalize hAe : va_A [] s.heap.size = A at hD fzm1 fzA1 fzR1 hLs1 fzm2 fzA2 fzR2 hLs2 ⊢
  have hA : ∀ q : Nat, s.heap.size ≤ q → A q := fun q h => by rw [← hAe]; exact Or.inr h
  have hS : va_S A s.heap s.heap [] := va_S.rf
  have hP : va_P (dC, dI) vwCl [] s.heap := hP
  have hl := lv_entry ([.ref h0, .ref h1]) (n := 6) (Nat.le_of_ble_eq_true rfl)
  rw [lg_entry_eq]
  generalize (lg_sl ([.ref h0, .ref h1]) ++ List.replicate (6 - (lg_sl ([.ref h0, .ref h1])).length) Slot.unset).toArray = ls at hl ⊢
  have hl : lv_has ls 6 [(0, .ref h0), (1, .ref h1)] := hl
  have hinX3 : ∀ w ∈ u_ws RX3 TX3 2, w ∈ wp_M_unlike := fun _ h => List.mem_cons_of_mem _ (List.mem_append_left _ (List.mem_append_left _ (List.mem_append_left _ (List.mem_append_right _ h))))
  refine lv_iconst (v := 0) hx hb dX3_unlike_0 (by decide) ?_
  refine lv_istore_n (lv' := [(2, .int 0), (0, .ref h0), (1, .ref h1)]) hx hb dX3_unlike_1 rfl hl (by decide) rfl (fun ls hl => ?_)
  refine lv_iconst (v := 0) hx hb dX3_unlike_2 (by decide) ?_
  refine lv_istore_n (lv' := [(3, .int 0), (2, .int 0), (0, .ref h0), (1, .ref h1)]) hx hb dX3_unlike_3 rfl hl (by decide) rfl (fun ls hl => ?_)
  refine lv_iconst (v := 0) hx hb dX3_unlike_4 (by decide) ?_
  refine lv_istore (lv' := [(4, .int 0), (3, .int 0), (2, .int 0), (0, .ref h0), (1, .ref h1)]) hx hb dX3_unlike_5 hl (by decide) rfl (fun ls hl => ?_)
  refine sg_M_unlike_7 h0 lp1 al1 nl1 cl1 mc1 mv1 gl1 h1 lp2 al2 nl2 cl2 mc2 mv2 gl2 cO qn1 qc1 qd1 qn2 qc2 qd2 hx hb hml hown hts hK hA fzm1 fzA1 fzR1 hLs1 fzm2 fzA2 fzR2 hLs2 (fun pr_9 H locs ls  hPD hS hl => ?_) ((nl1 - 0) + 1) 0 0 0 _ _ _ (Nat.lt_succ_self _) (by omega) ⟨hP, hD⟩ hS (lv_sub hl [3, 4, 2, 1, 0] rfl)
  obtain ⟨hP, hD⟩ := hPD
  refine lv_aload_n hx hb dX3_unlike_60 rfl (lv_at hl 0 rfl) ?_
  have hPz := okF.kept fzm1 hS
  refine va_get (D := (dC, dI)) (ci := 4) (v := .ref lp1) (C := RX3) (T := TX3) (N := 2) hx hb hts hinX3 hown hK hPz 0 rfl rfl 1 (by decide) (hts (.fieldLink RX3 15 "AgreedTalks$Minutes" "lines" "Ljava/util/ArrayList;") (by decide +kernel)) (fun _ h9 => h9) rfl dX3_unlike_61 ?_
  have hPc := hP.sub (ws' := []) [] rfl
  have hDc := hD.sub (ws' := []) [] (by decide) rfl
  have hKc := hK.sub (tys' := []) [] rfl
  have hFc := va_free (wc := []) hD hS hA [] rfl
  refine va_calli (va_runV (As := []) (rest := []) ⟨hx, hb, hml, hown, hts⟩ (c_AL_sizeF l dC dI _ lp1 al1 nl1 mc1) (cwV 0 hts gc_M_unlike_AL_sizeF rfl rfl rfl (by decide +kernel) ⟨Nat.le_of_ble_eq_true rfl, Nat.le_of_ble_eq_true rfl⟩) ⟨fun a U g mk q => by obtain ⟨q0, q1, qP, qK, qD, q_fzA⟩ := q; exact ⟨q0, q1, qP, va_K.moved (u := U) (U := U.calling g mk a) (Vm.Alike.refl U.vm) qK, qD, q_fzA⟩, va_recv hKc (okF.kept fzA1 hS) (ci := 0) (q0 := 0) rfl rfl, fun U hU hW => ⟨rfl, by rw [hU], by rw [hU]; exact hPc, va_K.moved hW.alike hKc, hDc.weaken (fun _ _ _ _ => trivial), by rw [hU]; exact okF.pass fzA1 hS hFc⟩⟩ rfl rfl hl.1 rfl (lv_room (Nat.le_of_ble_eq_true rfl)) dX3_unlike_64 ⟨Nat.zero_le _, Nat.zero_le _⟩) hS (fun q _ h => hFc q h) hFc (fun r_10 u t H1 locs ht hvm hw hB hz1 hk1 hS => ?_)
  obtain ⟨hP1, hK1, hD1⟩ := hB
  rw [ht] at hP1
  obtain ⟨hP, hD⟩ := va_join (wr := []) (w1 := []) hP hD [] [] rfl rfl (by decide) (by decide) hk1 hFc hP1 hD1
  generalize H1 = H at hP hS ⊢
  have hP : va_P (dC, dI) vwCl [] H := hP
  have hD : va_D A [] := hD
  obtain rfl : r_10 = (nI nl1) := hw
  refine lv_aload_n hx hb dX3_unlike_67 rfl (lv_at hl 1 rfl) ?_
  have hPz := okF.kept fzm2 hS
  refine va_get (D := (dC, dI)) (ci := 4) (v := .ref lp2) (C := RX3) (T := TX3) (N := 2) hx hb hts hinX3 hown hK hPz 0 rfl rfl 1 (by decide) (hts (.fieldLink RX3 15 "AgreedTalks$Minutes" "lines" "Ljava/util/ArrayList;") (by decide +kernel)) (fun _ h9 => h9) rfl dX3_unlike_68 ?_
  have hPc := hP.sub (ws' := []) [] rfl
  have hDc := hD.sub (ws' := []) [] (by decide) rfl
  have hKc := hK.sub (tys' := []) [] rfl
  have hFc := va_free (wc := []) hD hS hA [] rfl
  refine va_calli (va_runV (As := []) (rest := [.int (nI nl1)]) ⟨hx, hb, hml, hown, hts⟩ (c_AL_sizeF l dC dI _ lp2 al2 nl2 mc2) (cwV 0 hts gc_M_unlike_AL_sizeF rfl rfl rfl (by decide +kernel) ⟨Nat.le_of_ble_eq_true rfl, Nat.le_of_ble_eq_true rfl⟩) ⟨fun a U g mk q => by obtain ⟨q0, q1, qP, qK, qD, q_fzA⟩ := q; exact ⟨q0, q1, qP, va_K.moved (u := U) (U := U.calling g mk a) (Vm.Alike.refl U.vm) qK, qD, q_fzA⟩, va_recv hKc (okF.kept fzA2 hS) (ci := 0) (q0 := 0) rfl rfl, fun U hU hW => ⟨rfl, by rw [hU], by rw [hU]; exact hPc, va_K.moved hW.alike hKc, hDc.weaken (fun _ _ _ _ => trivial), by rw [hU]; exact okF.pass fzA2 hS hFc⟩⟩ rfl rfl hl.1 rfl (lv_room (Nat.le_of_ble_eq_true rfl)) dX3_unlike_71 ⟨Nat.zero_le _, Nat.zero_le _⟩) hS (fun q _ h => hFc q h) hFc (fun r_11 u t H1 locs ht hvm hw hB hz1 hk1 hS => ?_)
  obtain ⟨hP1, hK1, hD1⟩ := hB
  rw [ht] at hP1
  obtain ⟨hP, hD⟩ := va_join (wr := []) (w1 := []) hP hD [] [] rfl rfl (by decide) (by decide) hk1 hFc hP1 hD1
  generalize H1 = H at hP hS ⊢
  have hP : va_P (dC, dI) vwCl [] H := hP
  have hD : va_D A [] := hD
  obtain rfl : r_11 = (nI nl2) := hw
  refine lv_iadd hx hb dX3_unlike_74 ?_
  refine lv_topi (fun x_12 ex_12 => ?_)
  obtain rfl : x_12 = (nI (nl1 + nl2)) := by rw [ex_12]; exact nI_add _ _
  refine lv_iconst (v := 2) hx hb dX3_unlike_75 (by decide) ?_
  refine lv_iload_n hx hb dX3_unlike_76 rfl (lv_at hl 2 rfl) ?_
  refine lv_imul hx hb dX3_unlike_77 ?_
  refine lv_topi (fun x_13 ex_13 => ?_)
  refine lv_isub hx hb dX3_unlike_78 ?_
  refine lv_topi (fun x_14 ex_14 => ?_)
  have hP9 := hP.sub (ws' := []) [] rfl
  have hD9 := hD.sub (ws' := []) [] (by decide) rfl
  have hK9 := hK.sub (tys' := [(cO, .object "java/lang/Object")]) [0] rfl
  exact W.iret (v := x_14) hx hb hr (fun t ht hW => ⟨⟨x_14, (), rfl, trivial, by rw [ht]; exact hP9, va_K.moved hW.alike hK9, hD9⟩, hS.F ht⟩) hS.2.2 dX3_unlike_79
def wp_X6_quarrels : List Cond := .code yX6_quarrels cX6_quarrels 4 (some .int) :: (([.fieldLink RX6 19 "AgreedTalks" "records" "Ljava/util/ArrayList;", .classLink RX6 112 RX3, .fieldLink RX6 13 "AgreedTalks" "counting" "[I", .fieldLink RX6 117 "AgreedTalks$Minutes" "meeting" "I"] : List Cond) ++ wsX60 ++ wsX30 ++ (wsV RX6 105 RX6 yX6_isRecord wp_X6_isRecord) ++ (wsV RX6 108 RJx4a65c yJx4a65c_get_915e3 wp_AL_get) ++ (wsV RX6 167 RX3 yX3_unlike wp_M_unlike))
theorem gc_X6_quarrels_X6_isRecord : GoodIn wp_X6_quarrels (wsV RX6 105 RX6 yX6_isRecord wp_X6_isRecord) := goodIn_sub (fun _ h => List.mem_cons_of_mem _ (List.mem_append_left _ (List.mem_append_left _ (List.mem_append_right _ h)))) (by decide +kernel)
theorem gc_X6_quarrels_AL_get : GoodIn wp_X6_quarrels (wsV RX6 108 RJx4a65c yJx4a65c_get_915e3 wp_AL_get) := goodIn_sub (fun _ h => List.mem_cons_of_mem _ (List.mem_append_left _ (List.mem_append_right _ h))) (by decide +kernel)
theorem gc_X6_quarrels_M_unlike : GoodIn wp_X6_quarrels (wsV RX6 167 RX3 yX3_unlike wp_M_unlike) := goodIn_sub (fun _ h => List.mem_cons_of_mem _ (List.mem_append_right _ h)) (by decide +kernel)
set_option maxRecDepth 20000 in
theorem gi_X6_quarrels : GoodIn lw_tbl wp_X6_quarrels := (goodIn_ca (goodIn_ca (goodIn_ca (goodIn_ca (goodIn_ca (goodIn_r (.code yX6_quarrels cX6_quarrels 4 (some .int) :: ([.fieldLink RX6 19 "AgreedTalks" "records" "Ljava/util/ArrayList;", .classLink RX6 112 RX3, .fieldLink RX6 13 "AgreedTalks" "counting" "[I", .fieldLink RX6 117 "AgreedTalks$Minutes" "meeting" "I"] : List Cond)) [629, 191, 466, 190, 473] (by decide +kernel) (by decide +kernel)) wi_wsX6) wi_wsX3) (goodIn_app (goodIn_r _ [490, 492, 16, 48] (by decide +kernel) (by decide +kernel)) gi_X6_isRecord)) (goodIn_app (goodIn_r _ [494, 495, 496, 51] (by decide +kernel) (by decide +kernel)) gi_AL_get)) (goodIn_app (goodIn_r _ [630, 631, 632, 66] (by decide +kernel) (by decide +kernel)) gi_M_unlike))
set_option maxHeartbeats 4000000 in
set_option maxRecDepth 100000 in
/-- quarrels -/
theorem c_X6_quarrels (l : Launch) (dC : Nat → ClassId) (dI : Nat → Nat → Nat) (sz : Nat) (h0 : Nat) (a0 : Nat) (a1 : Nat) (a2 : Nat) (a3 : Nat) (a4 : Nat) (a5 : Nat) (a6 : Nat) (mk : Nat) (sh : Int32) (fp : Int32) (rf : Int32) (cC : ClassId) (fc : Nat → Int32) (mc : Int32) (ev : Value) (nr : Nat) (cO : ClassId) (p0 : Int32) (qnr : nr < 2 ^ 31) : Met l yX6_quarrels wp_X6_quarrels ({ frames := 5, cells := 0, slots := 0, locals := 190 }) (va_Pc [.ref h0, .int p0] (fun U => U.heap.size = sz ∧ va_P (dC, dI) vwCl [(h0, .inr (7, [.ref a0, .ref a1, .ref a2, .ref a3, .ref a4, .ref a5, .ref a6, .int (nI mk), .int sh, .int fp, .int rf])), (a1, .inl (cC, 30, .inl fc)), (a2, .inr (0, [.int mc, ev, .int (nI nr)]))] U.heap ∧ va_K (dC, dI) vwCl [(cC, .int), (cO, .object "java/lang/Object")] U ∧ va_D (fun _ => True) [(h0, .inr (7, [.ref a0, .ref a1, .ref a2, .ref a3, .ref a4, .ref a5, .ref a6, .int (nI mk), .int sh, .int fp, .int rf])), (a1, .inl (cC, 30, .inl fc)), (a2, .inr (0, [.int mc, ev, .int (nI nr)]))] ∧ okRec (dC, dI) vwCl ev cO nr (va_A [(h0, .inr (7, [.ref a0, .ref a1, .ref a2, .ref a3, .ref a4, .ref a5, .ref a6, .int (nI mk), .int sh, .int fp, .int rf])), (a1, .inl (cC, 30, .inl fc)), (a2, .inr (0, [.int mc, ev, .int (nI nr)]))] sz) U.heap)) (va_Qi (fun (r : Int32) (_ : Unit) => True) (fun (_ : Unit) (t : State) => va_P (dC, dI) vwCl [(h0, .inr (7, [.ref a0, .ref a1, .ref a2, .ref a3, .ref a4, .ref a5, .ref a6, .int (nI mk), .int sh, .int fp, .int rf])), (a1, .inl (cC, 30, .inl fc)), (a2, .inr (0, [.int mc, ev, .int (nI nr)]))] t.heap ∧ va_K (dC, dI) vwCl [(cC, .int), (cO, .object "java/lang/Object")] t ∧ va_D (va_A [(h0, .inr (7, [.ref a0, .ref a1, .ref a2, .ref a3, .ref a4, .ref a5, .ref a6, .int (nI mk), .int sh, .int fp, .int rf])), (a1, .inl (cC, 30, .inl fc)), (a2, .inr (0, [.int mc, ev, .int (nI nr)]))] sz) [(h0, .inr (7, [.ref a0, .ref a1, .ref a2, .ref a3, .ref a4, .ref a5, .ref a6, .int (nI mk), .int sh, .int fp, .int rf])), (a1, .inl (cC, 30, .inl fc)), (a2, .inr (0, [.int mc, ev, .int (nI nr)]))]) (va_A [(h0, .inr (7, [.ref a0, .ref a1, .ref a2, .ref a3, .ref a4, .ref a5, .ref a6, .int (nI mk), .int sh, .int fp, .int rf])), (a1, .inl (cC, 30, .inl fc)), (a2, .inr (0, [.int mc, ev, .int (nI nr)]))] sz)) 0 0 (va_A [(h0, .inr (7, [.ref a0, .ref a1, .ref a2, .ref a3, .ref a4, .ref a5, .ref a6, .int (nI mk), .int sh, .int fp, .int rf])), (a1, .inl (cC, 30, .inl fc)), (a2, .inr (0, [.int mc, ev, .int (nI nr)]))] sz) := by
  refine Met.ofW (cc := cX6_quarrels) (maxL := 4) (ret := (some .int)) (by decide) rfl ?_
  intro p e s m args below meth c s₁ B hml hv
  obtain ⟨rfl, hsz, hP, hK, hD0, hRec⟩ := hv
  have hx := B.exec
  have hb := B.bytes
  have hr := B.returns
  have hts := atoms_spec (ws := wp_X6_quarrels) B.pre
  have hown : s.vm.findClass RX6 = some m.cls := findClass_of_methodNamed B.named
  have hlocks := B.notSynchronized
  subst hsz
  have hD := hD0.self (sz := s.heap.size)
  generalize hAe : va_A [(h0, .inr (7, [.ref a0, .ref a1, .ref a2, .ref a3, .ref a4, .ref a5, .ref a6, .int (nI mk), .int sh, .int fp, .int rf])), (a1, .inl (cC, 30, .inl fc)), (a2, .inr (0, [.int mc, ev, .int (nI nr)]))] s.heap.size = A at hD hRec ⊢
  have hA : ∀ q : Nat, s.heap.size ≤ q → A q := fun q h => by rw [← hAe]; exact Or.inr h
  have hS : va_S A s.heap s.heap [] := va_S.rf
  have hP : va_P (dC, dI) vwCl [(h0, .inr (7, [.ref a0, .ref a1, .ref a2, .ref a3, .ref a4, .ref a5, .ref a6, .int (nI mk), .int sh, .int fp, .int rf])), (a1, .inl (cC, 30, .inl fc)), (a2, .inr (0, [.int mc, ev, .int (nI nr)]))] s.heap := hP
  have hl := lv_entry ([.ref h0, .int p0]) (n := 4) (Nat.le_of_ble_eq_true rfl)
  rw [lg_entry_eq]
  generalize (lg_sl ([.ref h0, .int p0]) ++ List.replicate (4 - (lg_sl ([.ref h0, .int p0])).length) Slot.unset).toArray = ls at hl ⊢
  have hl : lv_has ls 4 [(0, .ref h0), (1, .int p0)] := hl
  have hinX6 : ∀ w ∈ u_ws RX6 TX6 11, w ∈ wp_X6_quarrels := fun _ h => List.mem_cons_of_mem _ (List.mem_append_left _ (List.mem_append_left _ (List.mem_append_left _ (List.mem_append_left _ (List.mem_append_right _ h)))))
  have hinX3 : ∀ w ∈ u_ws RX3 TX3 2, w ∈ wp_X6_quarrels := fun _ h => List.mem_cons_of_mem _ (List.mem_append_left _ (List.mem_append_left _ (List.mem_append_left _ (List.mem_append_right _ h))))
  refine lv_aload_n hx hb dX6_quarrels_0 rfl (lv_at hl 0 rfl) ?_
  refine lv_iload_n hx hb dX6_quarrels_1 rfl (lv_at hl 1 rfl) ?_
  have hPc := hP.sub (ws' := [(h0, .inr (7, [.ref a0, .ref a1, .ref a2, .ref a3, .ref a4, .ref a5, .ref a6, .int (nI mk), .int sh, .int fp, .int rf])), (a2, .inr (0, [.int mc, ev, .int (nI nr)]))]) [0, 2] rfl
  have hDc := hD.sub (ws' := [(h0, .inr (7, [.ref a0, .ref a1, .ref a2, .ref a3, .ref a4, .ref a5, .ref a6, .int (nI mk), .int sh, .int fp, .int rf])), (a2, .inr (0, [.int mc, ev, .int (nI nr)]))]) [0, 2] (by decide) rfl
  have hKc := hK.sub (tys' := []) [] rfl
  have hFc := va_free (wc := [(h0, .inr (7, [.ref a0, .ref a1, .ref a2, .ref a3, .ref a4, .ref a5, .ref a6, .int (nI mk), .int sh, .int fp, .int rf])), (a2, .inr (0, [.int mc, ev, .int (nI nr)]))]) hD hS hA [0, 2] rfl
  refine va_calli (va_runV (As := [.int p0]) (rest := []) ⟨hx, hb, hml, hown, hts⟩ (c_X6_isRecord l dC dI _ h0 a0 a1 a2 a3 a4 a5 a6 mk sh fp rf p0 mc ev nr (by omega)) (cwV 1 hts gc_X6_quarrels_X6_isRecord rfl rfl rfl (by decide +kernel) ⟨Nat.le_of_ble_eq_true rfl, Nat.le_of_ble_eq_true rfl⟩) ⟨fun a U g mk q => by obtain ⟨q0, q1, qP, qK, qD⟩ := q; exact ⟨q0, q1, qP, va_K.moved (u := U) (U := U.calling g mk a) (Vm.Alike.refl U.vm) qK, qD⟩, va_recv hKc hPc (ci := 7) (q0 := 0) rfl rfl, fun U hU hW => ⟨rfl, by rw [hU], by rw [hU]; exact hPc, va_K.moved hW.alike hKc, hDc.weaken (fun _ _ _ _ => trivial)⟩⟩ rfl rfl hl.1 rfl (lv_room (Nat.le_of_ble_eq_true rfl)) dX6_quarrels_2 ⟨Nat.zero_le _, Nat.zero_le _⟩) hS (fun q _ h => hFc q h) hFc (fun r_1 u t H1 locs ht hvm hw hB hz1 hk1 hS => ?_)
  obtain ⟨hP1, hK1, hD1⟩ := hB
  rw [ht] at hP1
  obtain ⟨hP, hD⟩ := va_join (wr := [(a1, .inl (cC, 30, .inl fc))]) (w1 := [(h0, .inr (7, [.ref a0, .ref a1, .ref a2, .ref a3, .ref a4, .ref a5, .ref a6, .int (nI mk), .int sh, .int fp, .int rf])), (a2, .inr (0, [.int mc, ev, .int (nI nr)]))]) hP hD [0, 2] [1] rfl rfl (by decide) (by decide) hk1 hFc hP1 hD1
  generalize H1 = H at hP hS ⊢
  have hP : va_P (dC, dI) vwCl [(a1, .inl (cC, 30, .inl fc)), (h0, .inr (7, [.ref a0, .ref a1, .ref a2, .ref a3, .ref a4, .ref a5, .ref a6, .int (nI mk), .int sh, .int fp, .int rf])), (a2, .inr (0, [.int mc, ev, .int (nI nr)]))] H := hP
  have hD : va_D A [(a1, .inl (cC, 30, .inl fc)), (h0, .inr (7, [.ref a0, .ref a1, .ref a2, .ref a3, .ref a4, .ref a5, .ref a6, .int (nI mk), .int sh, .int fp, .int rf])), (a2, .inr (0, [.int mc, ev, .int (nI nr)]))] := hD
  have hr_1 := hw
  try dsimp only at hr_1
  refine lv_if_ne (tgt := 10) hx hb dX6_quarrels_5 (by decide) (fun c_2 => ?_) (fun c_2 => ?_)
  · obtain ⟨n_3, hn_3, en_3⟩ : ∃ n, n < nr ∧ p0 = nI n := by
      rcases hr_1 with h | ⟨_, h⟩
      · exact absurd h c_2
      · exact h
    subst en_3
    rcases hRec with h0r | ⟨ad, cap, g, hev, hnc, hcap, fzR, hRs⟩
    · exact absurd hn_3 (by omega)
    obtain ⟨qv, mt, lp, mcl, adl, nl, capl, gl, hg, fzm, hmt, fzA2, fzR2, hn20, hnl, hcl, hLs⟩ := hRs n_3 hn_3
    subst hev
    refine lv_aload_n hx hb dX6_quarrels_10 rfl (lv_at hl 0 rfl) ?_
    refine va_get (D := (dC, dI)) (ci := 7) (v := .ref a2) (C := RX6) (T := TX6) (N := 11) hx hb hts hinX6 hown hK hP 1 rfl rfl 2 (by decide) (hts (.fieldLink RX6 19 "AgreedTalks" "records" "Ljava/util/ArrayList;") (by decide +kernel)) (fun _ h9 => h9) rfl dX6_quarrels_11 ?_
    refine lv_iload_n hx hb dX6_quarrels_14 rfl (lv_at hl 1 rfl) ?_
    have hPc := hP.sub (ws' := []) [] rfl
    have hDc := hD.sub (ws' := []) [] (by decide) rfl
    have hKc := hK.sub (tys' := [(cO, .object "java/lang/Object")]) [1] rfl
    have hFc := va_free (wc := []) hD hS hA [] rfl
    refine va_callr (va_runV (As := [.int (nI n_3)]) (rest := []) ⟨hx, hb, hml, hown, hts⟩ (c_AL_get l dC dI _ a2 ad nr cap n_3 mc cO g qv (by omega) (by omega) (by omega) hg) (cwV 1 hts gc_X6_quarrels_AL_get rfl rfl rfl (by decide +kernel) ⟨Nat.le_of_ble_eq_true rfl, Nat.le_of_ble_eq_true rfl⟩) ⟨fun a U g mk q => by obtain ⟨q0, q1, qP, qK, qD, q_fzA, q_fzR⟩ := q; exact ⟨q0, q1, qP, va_K.moved (u := U) (U := U.calling g mk a) (Vm.Alike.refl U.vm) qK, qD, q_fzA, q_fzR⟩, va_recv hK hP (ci := 0) (q0 := 2) rfl rfl, fun U hU hW => ⟨rfl, by rw [hU], by rw [hU]; exact hPc, va_K.moved hW.alike hKc, hDc.weaken (fun _ _ _ _ => trivial), by rw [hU]; exact okF.of hP hD 2 rfl [] rfl (by decide), by rw [hU]; exact okF.pass fzR hS hFc⟩⟩ rfl rfl hl.1 rfl (lv_room (Nat.le_of_ble_eq_true rfl)) dX6_quarrels_15 ⟨Nat.zero_le _, Nat.zero_le _⟩) hS (fun q _ h => hFc q h) hFc (fun u r_4 t H1 locs ht hvm hw hB hz1 hk1 hS => ?_)
    obtain ⟨er_4, hP1, hK1, hD1⟩ := hB
    rw [ht] at hP1
    obtain ⟨hP, hD⟩ := va_join (wr := [(a1, .inl (cC, 30, .inl fc)), (h0, .inr (7, [.ref a0, .ref a1, .ref a2, .ref a3, .ref a4, .ref a5, .ref a6, .int (nI mk), .int sh, .int fp, .int rf])), (a2, .inr (0, [.int mc, .ref ad, .int (nI nr)]))]) (w1 := []) hP hD [] [0, 1, 2] rfl rfl (by decide) (by decide) hk1 hFc hP1 hD1
    generalize H1 = H at hP hS ⊢
    have hP : va_P (dC, dI) vwCl [(a1, .inl (cC, 30, .inl fc)), (h0, .inr (7, [.ref a0, .ref a1, .ref a2, .ref a3, .ref a4, .ref a5, .ref a6, .int (nI mk), .int sh, .int fp, .int rf])), (a2, .inr (0, [.int mc, .ref ad, .int (nI nr)]))] H := hP
    have hD : va_D A [(a1, .inl (cC, 30, .inl fc)), (h0, .inr (7, [.ref a0, .ref a1, .ref a2, .ref a3, .ref a4, .ref a5, .ref a6, .int (nI mk), .int sh, .int fp, .int rf])), (a2, .inr (0, [.int mc, .ref ad, .int (nI nr)]))] := hD
    have er_4 := er_4.symm
    subst er_4
    have hPz := okF.kept fzm hS
    refine va_castE hx hb hown (hts (.classLink RX6 112 RX3) (by decide +kernel)) (va_recv hK hPz (ci := 4) (q0 := 0) rfl rfl) dX6_quarrels_18 ?_
    refine lv_astore_n (lv' := [(2, .ref qv), (0, .ref h0), (1, .int (nI n_3))]) hx hb dX6_quarrels_21 rfl hl (by decide) rfl (fun ls hl => ?_)
    refine lv_aload_n hx hb dX6_quarrels_22 rfl (lv_at hl 1 rfl) ?_
    refine va_get (D := (dC, dI)) (ci := 7) (v := .ref a1) (C := RX6) (T := TX6) (N := 11) hx hb hts hinX6 hown hK hP 1 rfl rfl 1 (by decide) (hts (.fieldLink RX6 13 "AgreedTalks" "counting" "[I") (by decide +kernel)) (fun _ h9 => h9) rfl dX6_quarrels_23 ?_
    refine lv_aload_n hx hb dX6_quarrels_26 rfl (lv_at hl 0 rfl) ?_
    have hPz := okF.kept fzm hS
    refine va_get (D := (dC, dI)) (ci := 4) (v := .int (nI mt)) (C := RX3) (T := TX3) (N := 2) hx hb hts hinX3 hown hK hPz 0 rfl rfl 0 (by decide) (hts (.fieldLink RX6 117 "AgreedTalks$Minutes" "meeting" "I") (by decide +kernel)) (fun _ h9 => h9) rfl dX6_quarrels_27 ?_
    refine va_iald hx hb hK hP 0 0 rfl rfl (vp_in_nI (by omega) (by omega)) dX6_quarrels_30 ?_
    refine lv_topi (fun x_5 ex_5 => ?_)
    rw [show (Int32.toNatClampNeg (nI mt)) = mt from nI_clamp (by omega)] at ex_5
    refine lv_istore_n (lv' := [(3, .int x_5), (2, .ref qv), (0, .ref h0), (1, .int (nI n_3))]) hx hb dX6_quarrels_31 rfl hl (by decide) rfl (fun ls hl => ?_)
    refine lv_iload_n hx hb dX6_quarrels_32 rfl (lv_at hl 0 rfl) ?_
    refine lv_iload_n hx hb dX6_quarrels_33 rfl (lv_at hl 3 rfl) ?_
    refine lv_icmp_eq (tgt := 45) hx hb dX6_quarrels_34 (by decide) (fun c_6 => ?_) (fun c_6 => ?_)
    · refine lv_iconst (v := 0) hx hb dX6_quarrels_45 (by decide) ?_
      have hP9 := hP.sub (ws' := [(h0, .inr (7, [.ref a0, .ref a1, .ref a2, .ref a3, .ref a4, .ref a5, .ref a6, .int (nI mk), .int sh, .int fp, .int rf])), (a1, .inl (cC, 30, .inl fc)), (a2, .inr (0, [.int mc, .ref ad, .int (nI nr)]))]) [1, 0, 2] rfl
      have hD9 := hD.sub (ws' := [(h0, .inr (7, [.ref a0, .ref a1, .ref a2, .ref a3, .ref a4, .ref a5, .ref a6, .int (nI mk), .int sh, .int fp, .int rf])), (a1, .inl (cC, 30, .inl fc)), (a2, .inr (0, [.int mc, .ref ad, .int (nI nr)]))]) [1, 0, 2] (by decide) rfl
      have hK9 := hK.sub (tys' := [(cC, .int), (cO, .object "java/lang/Object")]) [0, 1] rfl
      exact W.iret (v := 0) hx hb hr (fun t ht hW => ⟨⟨0, (), rfl, trivial, by rw [ht]; exact hP9, va_K.moved hW.alike hK9, hD9⟩, hS.F ht⟩) hS.2.2 dX6_quarrels_46
    · refine lv_aload_n hx hb dX6_quarrels_37 rfl (lv_at hl 2 rfl) ?_
      refine lv_iload_n hx hb dX6_quarrels_38 rfl (lv_at hl 0 rfl) ?_
      have hPc := hP.sub (ws' := [(h0, .inr (7, [.ref a0, .ref a1, .ref a2, .ref a3, .ref a4, .ref a5, .ref a6, .int (nI mk), .int sh, .int fp, .int rf])), (a2, .inr (0, [.int mc, .ref ad, .int (nI nr)]))]) [1, 2] rfl
      have hDc := hD.sub (ws' := [(h0, .inr (7, [.ref a0, .ref a1, .ref a2, .ref a3, .ref a4, .ref a5, .ref a6, .int (nI mk), .int sh, .int fp, .int rf])), (a2, .inr (0, [.int mc, .ref ad, .int (nI nr)]))]) [1, 2] (by decide) rfl
      have hKc := hK.sub (tys' := []) [] rfl
      have hFc := va_free (wc := [(h0, .inr (7, [.ref a0, .ref a1, .ref a2, .ref a3, .ref a4, .ref a5, .ref a6, .int (nI mk), .int sh, .int fp, .int rf])), (a2, .inr (0, [.int mc, .ref ad, .int (nI nr)]))]) hD hS hA [1, 2] rfl
      refine va_calli (va_runV (As := [.int x_5]) (rest := []) ⟨hx, hb, hml, hown, hts⟩ (c_X6_isRecord l dC dI _ h0 a0 a1 a2 a3 a4 a5 a6 mk sh fp rf x_5 mc (.ref ad) nr (by omega)) (cwV 1 hts gc_X6_quarrels_X6_isRecord rfl rfl rfl (by decide +kernel) ⟨Nat.le_of_ble_eq_true rfl, Nat.le_of_ble_eq_true rfl⟩) ⟨fun a U g mk q => by obtain ⟨q0, q1, qP, qK, qD⟩ := q; exact ⟨q0, q1, qP, va_K.moved (u := U) (U := U.calling g mk a) (Vm.Alike.refl U.vm) qK, qD⟩, va_recv hKc hPc (ci := 7) (q0 := 0) rfl rfl, fun U hU hW => ⟨rfl, by rw [hU], by rw [hU]; exact hPc, va_K.moved hW.alike hKc, hDc.weaken (fun _ _ _ _ => trivial)⟩⟩ rfl rfl hl.1 rfl (lv_room (Nat.le_of_ble_eq_true rfl)) dX6_quarrels_39 ⟨Nat.zero_le _, Nat.zero_le _⟩) hS (fun q _ h => hFc q h) hFc (fun r_7 u t H1 locs ht hvm hw hB hz1 hk1 hS => ?_)
      obtain ⟨hP1, hK1, hD1⟩ := hB
      rw [ht] at hP1
      obtain ⟨hP, hD⟩ := va_join (wr := [(a1, .inl (cC, 30, .inl fc))]) (w1 := [(h0, .inr (7, [.ref a0, .ref a1, .ref a2, .ref a3, .ref a4, .ref a5, .ref a6, .int (nI mk), .int sh, .int fp, .int rf])), (a2, .inr (0, [.int mc, .ref ad, .int (nI nr)]))]) hP hD [1, 2] [0] rfl rfl (by decide) (by decide) hk1 hFc hP1 hD1
      generalize H1 = H at hP hS ⊢
      have hP : va_P (dC, dI) vwCl [(a1, .inl (cC, 30, .inl fc)), (h0, .inr (7, [.ref a0, .ref a1, .ref a2, .ref a3, .ref a4, .ref a5, .ref a6, .int (nI mk), .int sh, .int fp, .int rf])), (a2, .inr (0, [.int mc, .ref ad, .int (nI nr)]))] H := hP
      have hD : va_D A [(a1, .inl (cC, 30, .inl fc)), (h0, .inr (7, [.ref a0, .ref a1, .ref a2, .ref a3, .ref a4, .ref a5, .ref a6, .int (nI mk), .int sh, .int fp, .int rf])), (a2, .inr (0, [.int mc, .ref ad, .int (nI nr)]))] := hD
      have hr_7 := hw
      try dsimp only at hr_7
      refine lv_if_ne (tgt := 47) hx hb dX6_quarrels_42 (by decide) (fun c_8 => ?_) (fun c_8 => ?_)
      · obtain ⟨n_9, hn_9, en_9⟩ : ∃ n, n < nr ∧ x_5 = nI n := by
          rcases hr_7 with h | ⟨_, h⟩
          · exact absurd h c_8
          · exact h
        subst en_9
        obtain ⟨qv2, mt2, lp2, mcl2, adl2, nl2, capl2, gl2, hg2, fzm2, hmt2, fzA22, fzR22, hn202, hnl2, hcl2, hLs2⟩ := hRs n_9 hn_9
        refine lv_aload_n hx hb dX6_quarrels_47 rfl (lv_at hl 1 rfl) ?_
        refine lv_aload_n hx hb dX6_quarrels_48 rfl (lv_at hl 2 rfl) ?_
        refine va_get (D := (dC, dI)) (ci := 7) (v := .ref a2) (C := RX6) (T := TX6) (N := 11) hx hb hts hinX6 hown hK hP 1 rfl rfl 2 (by decide) (hts (.fieldLink RX6 19 "AgreedTalks" "records" "Ljava/util/ArrayList;") (by decide +kernel)) (fun _ h9 => h9) rfl dX6_quarrels_49 ?_
        refine lv_iload_n hx hb dX6_quarrels_52 rfl (lv_at hl 0 rfl) ?_
        have hPc := hP.sub (ws' := []) [] rfl
        have hDc := hD.sub (ws' := []) [] (by decide) rfl
        have hKc := hK.sub (tys' := [(cO, .object "java/lang/Object")]) [1] rfl
        have hFc := va_free (wc := []) hD hS hA [] rfl
        refine va_callr (va_runV (As := [.int (nI n_9)]) (rest := [.ref qv]) ⟨hx, hb, hml, hown, hts⟩ (c_AL_get l dC dI _ a2 ad nr cap n_9 mc cO g qv2 (by omega) (by omega) (by omega) hg2) (cwV 1 hts gc_X6_quarrels_AL_get rfl rfl rfl (by decide +kernel) ⟨Nat.le_of_ble_eq_true rfl, Nat.le_of_ble_eq_true rfl⟩) ⟨fun a U g mk q => by obtain ⟨q0, q1, qP, qK, qD, q_fzA, q_fzR⟩ := q; exact ⟨q0, q1, qP, va_K.moved (u := U) (U := U.calling g mk a) (Vm.Alike.refl U.vm) qK, qD, q_fzA, q_fzR⟩, va_recv hK hP (ci := 0) (q0 := 2) rfl rfl, fun U hU hW => ⟨rfl, by rw [hU], by rw [hU]; exact hPc, va_K.moved hW.alike hKc, hDc.weaken (fun _ _ _ _ => trivial), by rw [hU]; exact okF.of hP hD 2 rfl [] rfl (by decide), by rw [hU]; exact okF.pass fzR hS hFc⟩⟩ rfl rfl hl.1 rfl (lv_room (Nat.le_of_ble_eq_true rfl)) dX6_quarrels_53 ⟨Nat.zero_le _, Nat.zero_le _⟩) hS (fun q _ h => hFc q h) hFc (fun u r_10 t H1 locs ht hvm hw hB hz1 hk1 hS => ?_)
        obtain ⟨er_10, hP1, hK1, hD1⟩ := hB
        rw [ht] at hP1
        obtain ⟨hP, hD⟩ := va_join (wr := [(a1, .inl (cC, 30, .inl fc)), (h0, .inr (7, [.ref a0, .ref a1, .ref a2, .ref a3, .ref a4, .ref a5, .ref a6, .int (nI mk), .int sh, .int fp, .int rf])), (a2, .inr (0, [.int mc, .ref ad, .int (nI nr)]))]) (w1 := []) hP hD [] [0, 1, 2] rfl rfl (by decide) (by decide) hk1 hFc hP1 hD1
        generalize H1 = H at hP hS ⊢
        have hP : va_P (dC, dI) vwCl [(a1, .inl (cC, 30, .inl fc)), (h0, .inr (7, [.ref a0, .ref a1, .ref a2, .ref a3, .ref a4, .ref a5, .ref a6, .int (nI mk), .int sh, .int fp, .int rf])), (a2, .inr (0, [.int mc, .ref ad, .int (nI nr)]))] H := hP
        have hD : va_D A [(a1, .inl (cC, 30, .inl fc)), (h0, .inr (7, [.ref a0, .ref a1, .ref a2, .ref a3, .ref a4, .ref a5, .ref a6, .int (nI mk), .int sh, .int fp, .int rf])), (a2, .inr (0, [.int mc, .ref ad, .int (nI nr)]))] := hD
        have er_10 := er_10.symm
        subst er_10
        have hPz := okF.kept fzm2 hS
        refine va_castE hx hb hown (hts (.classLink RX6 112 RX3) (by decide +kernel)) (va_recv hK hPz (ci := 4) (q0 := 0) rfl rfl) dX6_quarrels_56 ?_
        have hPc := hP.sub (ws' := []) [] rfl
        have hDc := hD.sub (ws' := []) [] (by decide) rfl
        have hKc := hK.sub (tys' := [(cO, .object "java/lang/Object")]) [1] rfl
        have hFc := va_free (wc := []) hD hS hA [] rfl
        refine va_calli (va_runV (As := [.ref qv2]) (rest := []) ⟨hx, hb, hml, hown, hts⟩ (c_M_unlike l dC dI _ qv lp adl nl capl mcl (nI mt) gl qv2 lp2 adl2 nl2 capl2 mcl2 (nI mt2) gl2 cO (by omega) (by omega) (by omega) (by omega) (by omega) (by omega)) (cwV 1 hts gc_X6_quarrels_M_unlike rfl rfl rfl (by decide +kernel) ⟨Nat.le_of_ble_eq_true rfl, Nat.le_of_ble_eq_true rfl⟩) ⟨fun a U g mk q => by obtain ⟨q0, q1, qP, qK, qD, q_fzm1, q_fzA1, q_fzR1, q_hLs1, q_fzm2, q_fzA2, q_fzR2, q_hLs2⟩ := q; exact ⟨q0, q1, qP, va_K.moved (u := U) (U := U.calling g mk a) (Vm.Alike.refl U.vm) qK, qD, q_fzm1, q_fzA1, q_fzR1, q_hLs1, q_fzm2, q_fzA2, q_fzR2, q_hLs2⟩, va_recv hKc (okF.kept fzm hS) (ci := 4) (q0 := 0) rfl rfl, fun U hU hW => ⟨rfl, by rw [hU], by rw [hU]; exact hPc, va_K.moved hW.alike hKc, hDc.weaken (fun _ _ _ _ => trivial), by rw [hU]; exact okF.pass fzm hS hFc, by rw [hU]; exact okF.pass fzA2 hS hFc, by rw [hU]; exact okF.pass fzR2 hS hFc, by rw [hU]; exact okLs.pass hLs hS hFc, by rw [hU]; exact okF.pass fzm2 hS hFc, by rw [hU]; exact okF.pass fzA22 hS hFc, by rw [hU]; exact okF.pass fzR22 hS hFc, by rw [hU]; exact okLs.pass hLs2 hS hFc⟩⟩ rfl rfl hl.1 rfl (lv_room (Nat.le_of_ble_eq_true rfl)) dX6_quarrels_59 ⟨Nat.zero_le _, Nat.zero_le _⟩) hS (fun q _ h => hFc q h) hFc (fun r_11 u t H1 locs ht hvm hw hB hz1 hk1 hS => ?_)
        obtain ⟨hP1, hK1, hD1⟩ := hB
        rw [ht] at hP1
        obtain ⟨hP, hD⟩ := va_join (wr := [(a1, .inl (cC, 30, .inl fc)), (h0, .inr (7, [.ref a0, .ref a1, .ref a2, .ref a3, .ref a4, .ref a5, .ref a6, .int (nI mk), .int sh, .int fp, .int rf])), (a2, .inr (0, [.int mc, .ref ad, .int (nI nr)]))]) (w1 := []) hP hD [] [0, 1, 2] rfl rfl (by decide) (by decide) hk1 hFc hP1 hD1
        generalize H1 = H at hP hS ⊢
        have hP : va_P (dC, dI) vwCl [(a1, .inl (cC, 30, .inl fc)), (h0, .inr (7, [.ref a0, .ref a1, .ref a2, .ref a3, .ref a4, .ref a5, .ref a6, .int (nI mk), .int sh, .int fp, .int rf])), (a2, .inr (0, [.int mc, .ref ad, .int (nI nr)]))] H := hP
        have hD : va_D A [(a1, .inl (cC, 30, .inl fc)), (h0, .inr (7, [.ref a0, .ref a1, .ref a2, .ref a3, .ref a4, .ref a5, .ref a6, .int (nI mk), .int sh, .int fp, .int rf])), (a2, .inr (0, [.int mc, .ref ad, .int (nI nr)]))] := hD
        have hr_11 := hw
        try dsimp only at hr_11
        have hP9 := hP.sub (ws' := [(h0, .inr (7, [.ref a0, .ref a1, .ref a2, .ref a3, .ref a4, .ref a5, .ref a6, .int (nI mk), .int sh, .int fp, .int rf])), (a1, .inl (cC, 30, .inl fc)), (a2, .inr (0, [.int mc, .ref ad, .int (nI nr)]))]) [1, 0, 2] rfl
        have hD9 := hD.sub (ws' := [(h0, .inr (7, [.ref a0, .ref a1, .ref a2, .ref a3, .ref a4, .ref a5, .ref a6, .int (nI mk), .int sh, .int fp, .int rf])), (a1, .inl (cC, 30, .inl fc)), (a2, .inr (0, [.int mc, .ref ad, .int (nI nr)]))]) [1, 0, 2] (by decide) rfl
        have hK9 := hK.sub (tys' := [(cC, .int), (cO, .object "java/lang/Object")]) [0, 1] rfl
        exact W.iret (v := r_11) hx hb hr (fun t ht hW => ⟨⟨r_11, (), rfl, trivial, by rw [ht]; exact hP9, va_K.moved hW.alike hK9, hD9⟩, hS.F ht⟩) hS.2.2 dX6_quarrels_62
      · refine lv_iconst (v := 0) hx hb dX6_quarrels_45 (by decide) ?_
        have hP9 := hP.sub (ws' := [(h0, .inr (7, [.ref a0, .ref a1, .ref a2, .ref a3, .ref a4, .ref a5, .ref a6, .int (nI mk), .int sh, .int fp, .int rf])), (a1, .inl (cC, 30, .inl fc)), (a2, .inr (0, [.int mc, .ref ad, .int (nI nr)]))]) [1, 0, 2] rfl
        have hD9 := hD.sub (ws' := [(h0, .inr (7, [.ref a0, .ref a1, .ref a2, .ref a3, .ref a4, .ref a5, .ref a6, .int (nI mk), .int sh, .int fp, .int rf])), (a1, .inl (cC, 30, .inl fc)), (a2, .inr (0, [.int mc, .ref ad, .int (nI nr)]))]) [1, 0, 2] (by decide) rfl
        have hK9 := hK.sub (tys' := [(cC, .int), (cO, .object "java/lang/Object")]) [0, 1] rfl
        exact W.iret (v := 0) hx hb hr (fun t ht hW => ⟨⟨0, (), rfl, trivial, by rw [ht]; exact hP9, va_K.moved hW.alike hK9, hD9⟩, hS.F ht⟩) hS.2.2 dX6_quarrels_46
  · refine lv_iconst (v := (-1)) hx hb dX6_quarrels_8 (by decide) ?_
    have hP9 := hP.sub (ws' := [(h0, .inr (7, [.ref a0, .ref a1, .ref a2, .ref a3, .ref a4, .ref a5, .ref a6, .int (nI mk), .int sh, .int fp, .int rf])), (a1, .inl (cC, 30, .inl fc)), (a2, .inr (0, [.int mc, ev, .int (nI nr)]))]) [1, 0, 2] rfl
    have hD9 := hD.sub (ws' := [(h0, .inr (7, [.ref a0, .ref a1, .ref a2, .ref a3, .ref a4, .ref a5, .ref a6, .int (nI mk), .int sh, .int fp, .int rf])), (a1, .inl (cC, 30, .inl fc)), (a2, .inr (0, [.int mc, ev, .int (nI nr)]))]) [1, 0, 2] (by decide) rfl
    have hK9 := hK.sub (tys' := [(cC, .int), (cO, .object "java/lang/Object")]) [0, 1] rfl
    exact W.iret (v := (-1)) hx hb hr (fun t ht hW => ⟨⟨(-1), (), rfl, trivial, by rw [ht]; exact hP9, va_K.moved hW.alike hK9, hD9⟩, hS.F ht⟩) hS.2.2 dX6_quarrels_9
