theorem dJ0_coder_7d493_0 : decode cJ0_coder_7d493 0 = .ok (.getstatic 38, 3) := by decide +kernel
theorem dJ0_coder_7d493_3 : decode cJ0_coder_7d493 3 = .ok (.ifCond .eq 10, 3) := by decide +kernel
theorem dJ0_coder_7d493_6 : decode cJ0_coder_7d493 6 = .ok (.aload_n 0, 1) := by decide +kernel
theorem dJ0_coder_7d493_7 : decode cJ0_coder_7d493 7 = .ok (.getfield 15, 3) := by decide +kernel
theorem dJ0_coder_7d493_10 : decode cJ0_coder_7d493 10 = .ok (.goto 4, 3) := by decide +kernel
theorem dJ0_coder_7d493_14 : decode cJ0_coder_7d493 14 = .ok (.ireturn, 1) := by decide +kernel
theorem dJ0_isLatin1_aae02_0 : decode cJ0_isLatin1_aae02 0 = .ok (.getstatic 38, 3) := by decide +kernel
theorem dJ0_isLatin1_aae02_3 : decode cJ0_isLatin1_aae02 3 = .ok (.ifCond .eq 14, 3) := by decide +kernel
theorem dJ0_isLatin1_aae02_6 : decode cJ0_isLatin1_aae02 6 = .ok (.aload_n 0, 1) := by decide +kernel
theorem dJ0_isLatin1_aae02_7 : decode cJ0_isLatin1_aae02 7 = .ok (.getfield 15, 3) := by decide +kernel
theorem dJ0_isLatin1_aae02_10 : decode cJ0_isLatin1_aae02 10 = .ok (.ifCond .ne 7, 3) := by decide +kernel
theorem dJ0_isLatin1_aae02_13 : decode cJ0_isLatin1_aae02 13 = .ok (.iconst 1, 1) := by decide +kernel
theorem dJ0_isLatin1_aae02_14 : decode cJ0_isLatin1_aae02 14 = .ok (.goto 4, 3) := by decide +kernel
theorem dJ0_isLatin1_aae02_18 : decode cJ0_isLatin1_aae02 18 = .ok (.ireturn, 1) := by decide +kernel
theorem dJ0_length_8abf5_0 : decode cJ0_length_8abf5 0 = .ok (.aload_n 0, 1) := by decide +kernel
theorem dJ0_length_8abf5_1 : decode cJ0_length_8abf5 1 = .ok (.getfield 9, 3) := by decide +kernel
theorem dJ0_length_8abf5_4 : decode cJ0_length_8abf5 4 = .ok (.arraylength, 1) := by decide +kernel
theorem dJ0_length_8abf5_5 : decode cJ0_length_8abf5 5 = .ok (.aload_n 0, 1) := by decide +kernel
theorem dJ0_length_8abf5_6 : decode cJ0_length_8abf5 6 = .ok (.invokevirtual 335, 3) := by decide +kernel
theorem dJ0_length_8abf5_9 : decode cJ0_length_8abf5 9 = .ok (.ishr, 1) := by decide +kernel
theorem dJ0_length_8abf5_10 : decode cJ0_length_8abf5 10 = .ok (.ireturn, 1) := by decide +kernel
theorem dJ0_checkIndex_df160_0 : decode cJ0_checkIndex_df160 0 = .ok (.iload_n 0, 1) := by decide +kernel
theorem dJ0_checkIndex_df160_1 : decode cJ0_checkIndex_df160 1 = .ok (.iload_n 1, 1) := by decide +kernel
theorem dJ0_checkIndex_df160_2 : decode cJ0_checkIndex_df160 2 = .ok (.getstatic 1053, 3) := by decide +kernel
theorem dJ0_checkIndex_df160_5 : decode cJ0_checkIndex_df160 5 = .ok (.invokestatic 1059, 3) := by decide +kernel
theorem dJ0_checkIndex_df160_8 : decode cJ0_checkIndex_df160 8 = .ok (.pop, 1) := by decide +kernel
theorem dJ0_checkIndex_df160_9 : decode cJ0_checkIndex_df160 9 = .ok (.return_, 1) := by decide +kernel
theorem dJ1_charAt_3b067_0 : decode cJ1_charAt_3b067 0 = .ok (.iload_n 1, 1) := by decide +kernel
theorem dJ1_charAt_3b067_1 : decode cJ1_charAt_3b067 1 = .ok (.aload_n 0, 1) := by decide +kernel
theorem dJ1_charAt_3b067_2 : decode cJ1_charAt_3b067 2 = .ok (.arraylength, 1) := by decide +kernel
theorem dJ1_charAt_3b067_3 : decode cJ1_charAt_3b067 3 = .ok (.invokestatic 9, 3) := by decide +kernel
theorem dJ1_charAt_3b067_6 : decode cJ1_charAt_3b067 6 = .ok (.aload_n 0, 1) := by decide +kernel
theorem dJ1_charAt_3b067_7 : decode cJ1_charAt_3b067 7 = .ok (.iload_n 1, 1) := by decide +kernel
theorem dJ1_charAt_3b067_8 : decode cJ1_charAt_3b067 8 = .ok (.baload, 1) := by decide +kernel
theorem dJ1_charAt_3b067_9 : decode cJ1_charAt_3b067 9 = .ok (.sipush 255, 3) := by decide +kernel
theorem dJ1_charAt_3b067_12 : decode cJ1_charAt_3b067 12 = .ok (.iand, 1) := by decide +kernel
theorem dJ1_charAt_3b067_13 : decode cJ1_charAt_3b067 13 = .ok (.i2c, 1) := by decide +kernel
theorem dJ1_charAt_3b067_14 : decode cJ1_charAt_3b067 14 = .ok (.ireturn, 1) := by decide +kernel
theorem dJ0_charAt_5068e_0 : decode cJ0_charAt_5068e 0 = .ok (.aload_n 0, 1) := by decide +kernel
theorem dJ0_charAt_5068e_1 : decode cJ0_charAt_5068e 1 = .ok (.invokevirtual 492, 3) := by decide +kernel
theorem dJ0_charAt_5068e_4 : decode cJ0_charAt_5068e 4 = .ok (.ifCond .eq 12, 3) := by decide +kernel
theorem dJ0_charAt_5068e_7 : decode cJ0_charAt_5068e 7 = .ok (.aload_n 0, 1) := by decide +kernel
theorem dJ0_charAt_5068e_8 : decode cJ0_charAt_5068e 8 = .ok (.getfield 9, 3) := by decide +kernel
theorem dJ0_charAt_5068e_11 : decode cJ0_charAt_5068e 11 = .ok (.iload_n 1, 1) := by decide +kernel
theorem dJ0_charAt_5068e_12 : decode cJ0_charAt_5068e 12 = .ok (.invokestatic 495, 3) := by decide +kernel
theorem dJ0_charAt_5068e_15 : decode cJ0_charAt_5068e 15 = .ok (.ireturn, 1) := by decide +kernel
theorem dX4_takeWord_20 : decode cX4_takeWord 20 = .ok (.iload_n 2, 1) := by decide +kernel
theorem dX4_takeWord_21 : decode cX4_takeWord 21 = .ok (.aload_n 1, 1) := by decide +kernel
theorem dX4_takeWord_22 : decode cX4_takeWord 22 = .ok (.invokevirtual 105, 3) := by decide +kernel
theorem dX4_takeWord_25 : decode cX4_takeWord 25 = .ok (.if_icmp .ge 33, 3) := by decide +kernel
theorem dX4_takeWord_28 : decode cX4_takeWord 28 = .ok (.aload_n 0, 1) := by decide +kernel
theorem dX4_takeWord_29 : decode cX4_takeWord 29 = .ok (.getfield 18, 3) := by decide +kernel
theorem dX4_takeWord_32 : decode cX4_takeWord 32 = .ok (.getfield 109, 3) := by decide +kernel
theorem dX4_takeWord_35 : decode cX4_takeWord 35 = .ok (.aload_n 0, 1) := by decide +kernel
theorem dX4_takeWord_36 : decode cX4_takeWord 36 = .ok (.getfield 9, 3) := by decide +kernel
theorem dX4_takeWord_39 : decode cX4_takeWord 39 = .ok (.iload_n 2, 1) := by decide +kernel
theorem dX4_takeWord_40 : decode cX4_takeWord 40 = .ok (.iadd, 1) := by decide +kernel
theorem dX4_takeWord_41 : decode cX4_takeWord 41 = .ok (.iaload, 1) := by decide +kernel
theorem dX4_takeWord_42 : decode cX4_takeWord 42 = .ok (.aload_n 1, 1) := by decide +kernel
theorem dX4_takeWord_43 : decode cX4_takeWord 43 = .ok (.iload_n 2, 1) := by decide +kernel
theorem dX4_takeWord_44 : decode cX4_takeWord 44 = .ok (.invokevirtual 113, 3) := by decide +kernel
theorem dX4_takeWord_47 : decode cX4_takeWord 47 = .ok (.if_icmp .eq 5, 3) := by decide +kernel
theorem dX4_takeWord_52 : decode cX4_takeWord 52 = .ok (.iinc 2 1, 3) := by decide +kernel
theorem dX4_takeWord_55 : decode cX4_takeWord 55 = .ok (.goto (-35), 3) := by decide +kernel
theorem dX4_takeWord_0 : decode cX4_takeWord 0 = .ok (.aload_n 0, 1) := by decide +kernel
theorem dX4_takeWord_1 : decode cX4_takeWord 1 = .ok (.getfield 15, 3) := by decide +kernel
theorem dX4_takeWord_4 : decode cX4_takeWord 4 = .ok (.aload_n 0, 1) := by decide +kernel
theorem dX4_takeWord_5 : decode cX4_takeWord 5 = .ok (.getfield 9, 3) := by decide +kernel
theorem dX4_takeWord_8 : decode cX4_takeWord 8 = .ok (.isub, 1) := by decide +kernel
theorem dX4_takeWord_9 : decode cX4_takeWord 9 = .ok (.aload_n 1, 1) := by decide +kernel
theorem dX4_takeWord_10 : decode cX4_takeWord 10 = .ok (.invokevirtual 105, 3) := by decide +kernel
theorem dX4_takeWord_13 : decode cX4_takeWord 13 = .ok (.if_icmp .eq 5, 3) := by decide +kernel
theorem dX4_takeWord_18 : decode cX4_takeWord 18 = .ok (.iconst 0, 1) := by decide +kernel
theorem dX4_takeWord_19 : decode cX4_takeWord 19 = .ok (.istore_n 2, 1) := by decide +kernel
theorem dX4_takeWord_50 : decode cX4_takeWord 50 = .ok (.iconst 0, 1) := by decide +kernel
theorem dX4_takeWord_51 : decode cX4_takeWord 51 = .ok (.ireturn, 1) := by decide +kernel
theorem dX4_takeWord_58 : decode cX4_takeWord 58 = .ok (.aload_n 0, 1) := by decide +kernel
theorem dX4_takeWord_59 : decode cX4_takeWord 59 = .ok (.invokevirtual 22, 3) := by decide +kernel
theorem dX4_takeWord_62 : decode cX4_takeWord 62 = .ok (.iconst 1, 1) := by decide +kernel
theorem dX4_takeWord_63 : decode cX4_takeWord 63 = .ok (.ireturn, 1) := by decide +kernel
theorem dX4_takeWord_16 : decode cX4_takeWord 16 = .ok (.iconst 0, 1) := by decide +kernel
theorem dX4_takeWord_17 : decode cX4_takeWord 17 = .ok (.ireturn, 1) := by decide +kernel
def wp_S_coder : List Cond := .code yJ0_coder_7d493 cJ0_coder_7d493 1 (some .byte) :: (([.fieldLink RJ0 38 "java/lang/String" "COMPACT_STRINGS" "Z", .fieldLink RJ0 15 "java/lang/String" "coder" "B"] : List Cond))
set_option maxRecDepth 20000 in
theorem gi_S_coder : GoodIn lw_tbl wp_S_coder := (goodIn_r (.code yJ0_coder_7d493 cJ0_coder_7d493 1 (some .byte) :: ([.fieldLink RJ0 38 "java/lang/String" "COMPACT_STRINGS" "Z", .fieldLink RJ0 15 "java/lang/String" "coder" "B"] : List Cond)) [286, 287, 1010] (by decide +kernel) (by decide +kernel))
set_option maxHeartbeats 4000000 in
set_option maxRecDepth 100000 in
/-- String.coder -/
theorem c_S_coder (l : Launch) (dC : Nat → ClassId) (dI : Nat → Nat → Nat) (sz : Nat) (h0 : Nat) (sv : Nat) (sn : Nat) (sf : Nat → Int32) (zo : Option Nat) : Met l yJ0_coder_7d493 wp_S_coder ({ frames := 0, cells := 0, slots := 0, locals := 0 }) (va_Pc [.ref h0] (fun U => U.heap.size = sz ∧ va_P (dC, dI) vwCl [] U.heap ∧ va_K (dC, dI) vwCl [] U ∧ va_D (fun _ => True) [] ∧ okEnv zo (va_A [] sz) U U.heap ∧ okStr h0 sv sn sf (va_A [] sz) U U.heap)) (va_Qi (fun (r : Int32) (_ : Unit) => r = 0) (fun (_ : Unit) (t : State) => va_P (dC, dI) vwCl [] t.heap ∧ va_K (dC, dI) vwCl [] t ∧ va_D (va_A [] sz) []) (va_A [] sz)) 0 0 (va_A [] sz) := by
  refine Met.ofW (cc := cJ0_coder_7d493) (maxL := 1) (ret := (some .byte)) (by decide) rfl ?_
  intro p e s m args below meth c s₁ B hml hv
  obtain ⟨rfl, hsz, hP, hK, hD0, hE, hs⟩ := hv
  have hx := B.exec
  have hb := B.bytes
  have hr := B.returns
  have hts := atoms_spec (ws := wp_S_coder) B.pre
  have hown : s.vm.findClass RJ0 = some m.cls := findClass_of_methodNamed B.named
  have hlocks := B.notSynchronized
  subst hsz
  have hD := hD0.self (sz := s.heap.size)
  generalize hAe : va_A [] s.heap.size = A at hD hE hs ⊢
  have hA : ∀ q : Nat, s.heap.size ≤ q → A q := fun q h => by rw [← hAe]; exact Or.inr h
  have hS : va_S A s.heap s.heap [] := va_S.rf
  have hP : va_P (dC, dI) vwCl [] s.heap := hP
  have hl := lv_entry ([.ref h0]) (n := 1) (Nat.le_of_ble_eq_true rfl)
  rw [lg_entry_eq]
  generalize (lg_sl ([.ref h0]) ++ List.replicate (1 - (lg_sl ([.ref h0])).length) Slot.unset).toArray = ls at hl ⊢
  have hl : lv_has ls 1 [(0, .ref h0)] := hl
  have qsn : sn < 2 ^ 31 := hs.2.2.2.2
  refine va_gets hx hb hE.1 hS hown (hts (.fieldLink RJ0 38 "java/lang/String" "COMPACT_STRINGS" "Z") (by decide +kernel)) (fun _ h9 => h9) dJ0_coder_7d493_0 ?_
  refine lv_if_eq (tgt := 13) hx hb dJ0_coder_7d493_3 (by decide) (fun c_1 => ?_) (fun c_1 => ?_)
  · exact absurd c_1 (by decide)
  · refine lv_aload_n hx hb dJ0_coder_7d493_6 rfl (lv_at hl 0 rfl) ?_
    refine vk_getf hx hb hs.2.1 hS hown (hts (.fieldLink RJ0 15 "java/lang/String" "coder" "B") (by decide +kernel)) (fun _ h9 => h9) dJ0_coder_7d493_7 ?_
    refine lv_goto (tgt := 14) hx hb dJ0_coder_7d493_10 (by decide) ?_
    have hP9 := hP.sub (ws' := []) [] rfl
    have hD9 := hD.sub (ws' := []) [] (by decide) rfl
    have hK9 := hK.sub (tys' := []) [] rfl
    exact W.zret (v := 0) (ty := .byte) hx hb hr rfl (fun t ht hW => ⟨⟨0, (), rfl, rfl, by rw [ht]; exact hP9, va_K.moved hW.alike hK9, hD9⟩, hS.F ht⟩) hS.2.2 dJ0_coder_7d493_14
def wp_S_isLatin1 : List Cond := .code yJ0_isLatin1_aae02 cJ0_isLatin1_aae02 1 (some .boolean) :: (([.fieldLink RJ0 38 "java/lang/String" "COMPACT_STRINGS" "Z", .fieldLink RJ0 15 "java/lang/String" "coder" "B"] : List Cond))
set_option maxRecDepth 20000 in
theorem gi_S_isLatin1 : GoodIn lw_tbl wp_S_isLatin1 := (goodIn_r (.code yJ0_isLatin1_aae02 cJ0_isLatin1_aae02 1 (some .boolean) :: ([.fieldLink RJ0 38 "java/lang/String" "COMPACT_STRINGS" "Z", .fieldLink RJ0 15 "java/lang/String" "coder" "B"] : List Cond)) [296, 287, 1010] (by decide +kernel) (by decide +kernel))
set_option maxHeartbeats 4000000 in
set_option maxRecDepth 100000 in
/-- String.isLatin1 -/
theorem c_S_isLatin1 (l : Launch) (dC : Nat → ClassId) (dI : Nat → Nat → Nat) (sz : Nat) (h0 : Nat) (sv : Nat) (sn : Nat) (sf : Nat → Int32) (zo : Option Nat) : Met l yJ0_isLatin1_aae02 wp_S_isLatin1 ({ frames := 0, cells := 0, slots := 0, locals := 0 }) (va_Pc [.ref h0] (fun U => U.heap.size = sz ∧ va_P (dC, dI) vwCl [] U.heap ∧ va_K (dC, dI) vwCl [] U ∧ va_D (fun _ => True) [] ∧ okEnv zo (va_A [] sz) U U.heap ∧ okStr h0 sv sn sf (va_A [] sz) U U.heap)) (va_Qi (fun (r : Int32) (_ : Unit) => r = 1) (fun (_ : Unit) (t : State) => va_P (dC, dI) vwCl [] t.heap ∧ va_K (dC, dI) vwCl [] t ∧ va_D (va_A [] sz) []) (va_A [] sz)) 0 0 (va_A [] sz) := by
  refine Met.ofW (cc := cJ0_isLatin1_aae02) (maxL := 1) (ret := (some .boolean)) (by decide) rfl ?_
  intro p e s m args below meth c s₁ B hml hv
  obtain ⟨rfl, hsz, hP, hK, hD0, hE, hs⟩ := hv
  have hx := B.exec
  have hb := B.bytes
  have hr := B.returns
  have hts := atoms_spec (ws := wp_S_isLatin1) B.pre
  have hown : s.vm.findClass RJ0 = some m.cls := findClass_of_methodNamed B.named
  have hlocks := B.notSynchronized
  subst hsz
  have hD := hD0.self (sz := s.heap.size)
  generalize hAe : va_A [] s.heap.size = A at hD hE hs ⊢
  have hA : ∀ q : Nat, s.heap.size ≤ q → A q := fun q h => by rw [← hAe]; exact Or.inr h
  have hS : va_S A s.heap s.heap [] := va_S.rf
  have hP : va_P (dC, dI) vwCl [] s.heap := hP
  have hl := lv_entry ([.ref h0]) (n := 1) (Nat.le_of_ble_eq_true rfl)
  rw [lg_entry_eq]
  generalize (lg_sl ([.ref h0]) ++ List.replicate (1 - (lg_sl ([.ref h0])).length) Slot.unset).toArray = ls at hl ⊢
  have hl : lv_has ls 1 [(0, .ref h0)] := hl
  have qsn : sn < 2 ^ 31 := hs.2.2.2.2
  refine va_gets hx hb hE.1 hS hown (hts (.fieldLink RJ0 38 "java/lang/String" "COMPACT_STRINGS" "Z") (by decide +kernel)) (fun _ h9 => h9) dJ0_isLatin1_aae02_0 ?_
  refine lv_if_eq (tgt := 17) hx hb dJ0_isLatin1_aae02_3 (by decide) (fun c_1 => ?_) (fun c_1 => ?_)
  · exact absurd c_1 (by decide)
  · refine lv_aload_n hx hb dJ0_isLatin1_aae02_6 rfl (lv_at hl 0 rfl) ?_
    refine vk_getf hx hb hs.2.1 hS hown (hts (.fieldLink RJ0 15 "java/lang/String" "coder" "B") (by decide +kernel)) (fun _ h9 => h9) dJ0_isLatin1_aae02_7 ?_
    refine lv_if_ne (tgt := 17) hx hb dJ0_isLatin1_aae02_10 (by decide) (fun c_2 => ?_) (fun c_2 => ?_)
    · exact absurd c_2 (by decide)
    · refine lv_iconst (v := 1) hx hb dJ0_isLatin1_aae02_13 (by decide) ?_
      refine lv_goto (tgt := 18) hx hb dJ0_isLatin1_aae02_14 (by decide) ?_
      have hP9 := hP.sub (ws' := []) [] rfl
      have hD9 := hD.sub (ws' := []) [] (by decide) rfl
      have hK9 := hK.sub (tys' := []) [] rfl
      exact W.zret (v := 1) (ty := .boolean) hx hb hr rfl (fun t ht hW => ⟨⟨1, (), rfl, rfl, by rw [ht]; exact hP9, va_K.moved hW.alike hK9, hD9⟩, hS.F ht⟩) hS.2.2 dJ0_isLatin1_aae02_18
def wp_S_length : List Cond := .code yJ0_length_8abf5 cJ0_length_8abf5 1 (some .int) :: (([.fieldLink RJ0 9 "java/lang/String" "value" "[B"] : List Cond) ++ (wsV RJ0 335 RJ0 yJ0_coder_7d493 wp_S_coder))
theorem gc_S_length_S_coder : GoodIn wp_S_length (wsV RJ0 335 RJ0 yJ0_coder_7d493 wp_S_coder) := goodIn_sub (fun _ h => List.mem_cons_of_mem _ (List.mem_append_right _ h)) (by decide +kernel)
set_option maxRecDepth 20000 in
theorem gi_S_length : GoodIn lw_tbl wp_S_length := (goodIn_ca (goodIn_r (.code yJ0_length_8abf5 cJ0_length_8abf5 1 (some .int) :: ([.fieldLink RJ0 9 "java/lang/String" "value" "[B"] : List Cond)) [282, 1009] (by decide +kernel) (by decide +kernel)) (goodIn_app (goodIn_r _ [283, 284, 285, 58] (by decide +kernel) (by decide +kernel)) gi_S_coder))
set_option maxHeartbeats 4000000 in
set_option maxRecDepth 100000 in
/-- String.length -/
theorem c_S_length (l : Launch) (dC : Nat → ClassId) (dI : Nat → Nat → Nat) (sz : Nat) (h0 : Nat) (sv : Nat) (sn : Nat) (sf : Nat → Int32) (zo : Option Nat) : Met l yJ0_length_8abf5 wp_S_length ({ frames := 1, cells := 0, slots := 0, locals := 30 }) (va_Pc [.ref h0] (fun U => U.heap.size = sz ∧ va_P (dC, dI) vwCl [] U.heap ∧ va_K (dC, dI) vwCl [] U ∧ va_D (fun _ => True) [] ∧ okEnv zo (va_A [] sz) U U.heap ∧ okStr h0 sv sn sf (va_A [] sz) U U.heap)) (va_Qi (fun (r : Int32) (_ : Unit) => r = (nI sn)) (fun (_ : Unit) (t : State) => va_P (dC, dI) vwCl [] t.heap ∧ va_K (dC, dI) vwCl [] t ∧ va_D (va_A [] sz) []) (va_A [] sz)) 0 0 (va_A [] sz) := by
  refine Met.ofW (cc := cJ0_length_8abf5) (maxL := 1) (ret := (some .int)) (by decide) rfl ?_
  intro p e s m args below meth c s₁ B hml hv
  obtain ⟨rfl, hsz, hP, hK, hD0, hE, hs⟩ := hv
  have hx := B.exec
  have hb := B.bytes
  have hr := B.returns
  have hts := atoms_spec (ws := wp_S_length) B.pre
  have hown : s.vm.findClass RJ0 = some m.cls := findClass_of_methodNamed B.named
  have hlocks := B.notSynchronized
  subst hsz
  have hD := hD0.self (sz := s.heap.size)
  generalize hAe : va_A [] s.heap.size = A at hD hE hs ⊢
  have hA : ∀ q : Nat, s.heap.size ≤ q → A q := fun q h => by rw [← hAe]; exact Or.inr h
  have hS : va_S A s.heap s.heap [] := va_S.rf
  have hP : va_P (dC, dI) vwCl [] s.heap := hP
  have hl := lv_entry ([.ref h0]) (n := 1) (Nat.le_of_ble_eq_true rfl)
  rw [lg_entry_eq]
  generalize (lg_sl ([.ref h0]) ++ List.replicate (1 - (lg_sl ([.ref h0])).length) Slot.unset).toArray = ls at hl ⊢
  have hl : lv_has ls 1 [(0, .ref h0)] := hl
  have qsn : sn < 2 ^ 31 := hs.2.2.2.2
  refine lv_aload_n hx hb dJ0_length_8abf5_0 rfl (lv_at hl 0 rfl) ?_
  refine vk_getf hx hb hs.2.2.1 hS hown (hts (.fieldLink RJ0 9 "java/lang/String" "value" "[B") (by decide +kernel)) (fun _ h9 => h9) dJ0_length_8abf5_1 ?_
  refine va_tlen (v := nI sn) hx hb hs.2.2.2.1 hS rfl dJ0_length_8abf5_4 ?_
  refine lv_aload_n hx hb dJ0_length_8abf5_5 rfl (lv_at hl 0 rfl) ?_
  have hPc := hP.sub (ws' := []) [] rfl
  have hDc := hD.sub (ws' := []) [] (by decide) rfl
  have hKc := hK.sub (tys' := []) [] rfl
  have hFc := va_free (wc := []) hD hS hA [] rfl
  refine va_calli (va_runV (As := []) (rest := [.int (nI sn)]) ⟨hx, hb, hml, hown, hts⟩ (c_S_coder l dC dI _ h0 sv sn sf zo) (cwV 0 hts gc_S_length_S_coder rfl rfl rfl (by decide +kernel) ⟨Nat.le_of_ble_eq_true rfl, Nat.le_of_ble_eq_true rfl⟩) ⟨fun a U g mk q => by obtain ⟨q0, q1, qP, qK, qD, q_hE, q_hs⟩ := q; exact ⟨q0, q1, qP, va_K.moved (u := U) (U := U.calling g mk a) (Vm.Alike.refl U.vm) qK, qD, okEnv.same rfl q_hE, okStr.moved (Vm.Alike.refl U.vm) q_hs⟩, okStr.recv hs hS, fun U hU hW => ⟨rfl, by rw [hU], by rw [hU]; exact hPc, va_K.moved hW.alike hKc, hDc.weaken (fun _ _ _ _ => trivial), by rw [hU]; exact okEnv.pass hE hW hS hFc, by rw [hU]; exact okStr.pass hs hW hS hFc⟩⟩ rfl rfl hl.1 rfl (lv_room (Nat.le_of_ble_eq_true rfl)) dJ0_length_8abf5_6 ⟨Nat.zero_le _, Nat.zero_le _⟩) hS (fun q _ h => hFc q h) hFc (fun r_1 u t H1 locs ht hvm hw hB hz1 hk1 hS => ?_)
  obtain ⟨hP1, hK1, hD1⟩ := hB
  rw [ht] at hP1
  obtain ⟨hP, hD⟩ := va_join (wr := []) (w1 := []) hP hD [] [] rfl rfl (by decide) (by decide) hk1 hFc hP1 hD1
  generalize H1 = H at hP hS ⊢
  have hP : va_P (dC, dI) vwCl [] H := hP
  have hD : va_D A [] := hD
  obtain rfl : r_1 = 0 := hw
  refine lv_ishr hx hb dJ0_length_8abf5_9 ?_
  refine lv_topi (fun x_2 ex_2 => ?_)
  obtain rfl : x_2 = (nI sn) := by rw [ex_2]; exact shr0 _
  have hP9 := hP.sub (ws' := []) [] rfl
  have hD9 := hD.sub (ws' := []) [] (by decide) rfl
  have hK9 := hK.sub (tys' := []) [] rfl
  exact W.iret (v := (nI sn)) hx hb hr (fun t ht hW => ⟨⟨(nI sn), (), rfl, rfl, by rw [ht]; exact hP9, va_K.moved hW.alike hK9, hD9⟩, hS.F ht⟩) hS.2.2 dJ0_length_8abf5_10
def wp_J3_checkR : List Cond := .code yJ3_checkIndex_8e157 cJ3_checkIndex_8e157 3 (some .int) :: (([] : List Cond))
set_option maxRecDepth 20000 in
theorem gi_J3_checkR : GoodIn lw_tbl wp_J3_checkR := (goodIn_r (.code yJ3_checkIndex_8e157 cJ3_checkIndex_8e157 3 (some .int) :: ([] : List Cond)) [307] (by decide +kernel) (by decide +kernel))
set_option maxHeartbeats 4000000 in
set_option maxRecDepth 100000 in
/-- Preconditions.checkIndex -/
theorem c_J3_checkR (l : Launch) (dC : Nat → ClassId) (dI : Nat → Nat → Nat) (sz : Nat) (jj : Nat) (nr : Nat) (zt : Nat) (qj : jj < nr) (qn : nr < 2 ^ 31) : Met l yJ3_checkIndex_8e157 wp_J3_checkR ({ frames := 0, cells := 0, slots := 0, locals := 0 }) (va_Pc [.int (nI jj), .int (nI nr), .ref zt] (fun U => U.heap.size = sz ∧ va_P (dC, dI) vwCl [] U.heap ∧ va_K (dC, dI) vwCl [] U ∧ va_D (fun _ => True) [])) (va_Qi (fun (r : Int32) (_ : Unit) => r = (nI jj)) (fun (_ : Unit) (t : State) => va_P (dC, dI) vwCl [] t.heap ∧ va_K (dC, dI) vwCl [] t ∧ va_D (va_A [] sz) []) (va_A [] sz)) 0 0 (va_A [] sz) := by
  refine Met.ofW (cc := cJ3_checkIndex_8e157) (maxL := 3) (ret := (some .int)) (by decide) rfl ?_
  intro p e s m args below meth c s₁ B hml hv
  obtain ⟨rfl, hsz, hP, hK, hD0⟩ := hv
  have hx := B.exec
  have hb := B.bytes
  have hr := B.returns
  have hts := atoms_spec (ws := wp_J3_checkR) B.pre
  have hown : s.vm.findClass RJ3 = some m.cls := findClass_of_methodNamed B.named
  have hlocks := B.notSynchronized
  subst hsz
  have hD := hD0.self (sz := s.heap.size)
  generalize hAe : va_A [] s.heap.size = A at hD ⊢
  have hA : ∀ q : Nat, s.heap.size ≤ q → A q := fun q h => by rw [← hAe]; exact Or.inr h
  have hS : va_S A s.heap s.heap [] := va_S.rf
  have hP : va_P (dC, dI) vwCl [] s.heap := hP
  have hl := lv_entry ([.int (nI jj), .int (nI nr), .ref zt]) (n := 3) (Nat.le_of_ble_eq_true rfl)
  rw [lg_entry_eq]
  generalize (lg_sl ([.int (nI jj), .int (nI nr), .ref zt]) ++ List.replicate (3 - (lg_sl ([.int (nI jj), .int (nI nr), .ref zt])).length) Slot.unset).toArray = ls at hl ⊢
  have hl : lv_has ls 3 [(0, .int (nI jj)), (1, .int (nI nr)), (2, .ref zt)] := hl
  refine lv_iload_n hx hb dJ3_checkIndex_8e157_0 rfl (lv_at hl 0 rfl) ?_
  refine lv_if_lt (tgt := 9) hx hb dJ3_checkIndex_8e157_1 (by decide) (fun c_1 => ?_) (fun c_1 => ?_)
  · exact absurd c_1 (nI_pos (by omega))
  · have c_1 : ¬ (jj < 0) := fun h => c_1 ((nI_ltI (a := jj) (b := 0) (by omega) (by omega)).mpr h)
    refine lv_iload_n hx hb dJ3_checkIndex_8e157_4 rfl (lv_at hl 0 rfl) ?_
    refine lv_iload_n hx hb dJ3_checkIndex_8e157_5 rfl (lv_at hl 1 rfl) ?_
    refine lv_icmp_lt (tgt := 16) hx hb dJ3_checkIndex_8e157_6 (by decide) (fun c_2 => ?_) (fun c_2 => ?_)
    · have c_2 : jj < nr := (nI_ltI (a := jj) (b := nr) (by omega) (by omega)).mp c_2
      refine lv_iload_n hx hb dJ3_checkIndex_8e157_16 rfl (lv_at hl 0 rfl) ?_
      have hP9 := hP.sub (ws' := []) [] rfl
      have hD9 := hD.sub (ws' := []) [] (by decide) rfl
      have hK9 := hK.sub (tys' := []) [] rfl
      exact W.iret (v := (nI jj)) hx hb hr (fun t ht hW => ⟨⟨(nI jj), (), rfl, rfl, by rw [ht]; exact hP9, va_K.moved hW.alike hK9, hD9⟩, hS.F ht⟩) hS.2.2 dJ3_checkIndex_8e157_17
    · exact absurd (nI_lt qj qn) c_2
def wp_S_checkIndex : List Cond := .code yJ0_checkIndex_df160 cJ0_checkIndex_df160 2 none :: (([.fieldLink RJ0 1053 "jdk/internal/util/Preconditions" "SIOOBE_FORMATTER" "Ljava/util/function/BiFunction;"] : List Cond) ++ (va_wsS RJ0 1059 yJ3_checkIndex_8e157 wp_J3_check) ++ (va_wsS RJ0 1059 yJ3_checkIndex_8e157 wp_J3_checkR))
theorem gc_S_checkIndex_J3_check : GoodIn wp_S_checkIndex (va_wsS RJ0 1059 yJ3_checkIndex_8e157 wp_J3_check) := goodIn_sub (fun _ h => List.mem_cons_of_mem _ (List.mem_append_left _ (List.mem_append_right _ h))) (by decide +kernel)
theorem gc_S_checkIndex_J3_checkR : GoodIn wp_S_checkIndex (va_wsS RJ0 1059 yJ3_checkIndex_8e157 wp_J3_checkR) := goodIn_sub (fun _ h => List.mem_cons_of_mem _ (List.mem_append_right _ h)) (by decide +kernel)
set_option maxRecDepth 20000 in
theorem gi_S_checkIndex : GoodIn lw_tbl wp_S_checkIndex := (goodIn_ca (goodIn_ca (goodIn_r (.code yJ0_checkIndex_df160 cJ0_checkIndex_df160 2 none :: ([.fieldLink RJ0 1053 "jdk/internal/util/Preconditions" "SIOOBE_FORMATTER" "Ljava/util/function/BiFunction;"] : List Cond)) [302, 303] (by decide +kernel) (by decide +kernel)) (goodIn_app (goodIn_r _ [305, 306, 60] (by decide +kernel) (by decide +kernel)) gi_J3_check)) (goodIn_app (goodIn_r _ [305, 306, 60] (by decide +kernel) (by decide +kernel)) gi_J3_checkR))
set_option maxHeartbeats 4000000 in
set_option maxRecDepth 100000 in
/-- String.checkIndex -/
theorem c_S_checkIndex (l : Launch) (dC : Nat → ClassId) (dI : Nat → Nat → Nat) (sz : Nat) (jj : Nat) (nr : Nat) (zo : Option Nat) (qj : jj < nr) (qn : nr < 2 ^ 31) : Met l yJ0_checkIndex_df160 wp_S_checkIndex ({ frames := 1, cells := 0, slots := 0, locals := 30 }) (va_Pc [.int (nI jj), .int (nI nr)] (fun U => U.heap.size = sz ∧ va_P (dC, dI) vwCl [] U.heap ∧ va_K (dC, dI) vwCl [] U ∧ va_D (fun _ => True) [] ∧ okEnv zo (va_A [] sz) U U.heap)) (va_Qv (fun (_ : Unit) => True) (fun (_ : Unit) (t : State) => va_P (dC, dI) vwCl [] t.heap ∧ va_K (dC, dI) vwCl [] t ∧ va_D (va_A [] sz) []) (va_A [] sz)) 0 0 (va_A [] sz) := by
  refine Met.ofW (cc := cJ0_checkIndex_df160) (maxL := 2) (ret := none) (by decide) rfl ?_
  intro p e s m args below meth c s₁ B hml hv
  obtain ⟨rfl, hsz, hP, hK, hD0, hE⟩ := hv
  have hx := B.exec
  have hb := B.bytes
  have hr := B.returns
  have hts := atoms_spec (ws := wp_S_checkIndex) B.pre
  have hown : s.vm.findClass RJ0 = some m.cls := findClass_of_methodNamed B.named
  have hlocks := B.notSynchronized
  subst hsz
  have hD := hD0.self (sz := s.heap.size)
  generalize hAe : va_A [] s.heap.size = A at hD hE ⊢
  have hA : ∀ q : Nat, s.heap.size ≤ q → A q := fun q h => by rw [← hAe]; exact Or.inr h
  have hS : va_S A s.heap s.heap [] := va_S.rf
  have hP : va_P (dC, dI) vwCl [] s.heap := hP
  have hl := lv_entry ([.int (nI jj), .int (nI nr)]) (n := 2) (Nat.le_of_ble_eq_true rfl)
  rw [lg_entry_eq]
  generalize (lg_sl ([.int (nI jj), .int (nI nr)]) ++ List.replicate (2 - (lg_sl ([.int (nI jj), .int (nI nr)])).length) Slot.unset).toArray = ls at hl ⊢
  have hl : lv_has ls 2 [(0, .int (nI jj)), (1, .int (nI nr))] := hl
  refine lv_iload_n hx hb dJ0_checkIndex_df160_0 rfl (lv_at hl 0 rfl) ?_
  refine lv_iload_n hx hb dJ0_checkIndex_df160_1 rfl (lv_at hl 1 rfl) ?_
  cases zo with
  | none =>
    refine va_gets (v := .null) hx hb hE.2.1 hS hown (hts (.fieldLink RJ0 1053 "jdk/internal/util/Preconditions" "SIOOBE_FORMATTER" "Ljava/util/function/BiFunction;") (by decide +kernel)) (fun _ h9 => h9) dJ0_checkIndex_df160_2 ?_
    have hPc := hP.sub (ws' := []) [] rfl
    have hDc := hD.sub (ws' := []) [] (by decide) rfl
    have hKc := hK.sub (tys' := []) [] rfl
    have hFc := va_free (wc := []) hD hS hA [] rfl
    refine va_calli (va_runS (As := [.int (nI jj), .int (nI nr), .null]) (rest := []) ⟨hx, hb, hml, hown, hts⟩ (c_J3_check l dC dI _ jj nr (by omega) (by omega)) (va_cwS 3 hts gc_S_checkIndex_J3_check rfl rfl rfl (by decide +kernel) ⟨Nat.le_of_ble_eq_true rfl, Nat.le_of_ble_eq_true rfl⟩) ⟨fun a U g mk q => by obtain ⟨q0, q1, qP, qK, qD⟩ := q; exact ⟨q0, q1, qP, va_K.moved (u := U) (U := U.calling g mk a) (Vm.Alike.refl U.vm) qK, qD⟩, fun U hU hW => ⟨rfl, by rw [hU], by rw [hU]; exact hPc, va_K.moved hW.alike hKc, hDc.weaken (fun _ _ _ _ => trivial)⟩⟩ rfl rfl hl.1 rfl (lv_room (Nat.le_of_ble_eq_true rfl)) dJ0_checkIndex_df160_5 ⟨Nat.zero_le _, Nat.zero_le _⟩) hS (fun q _ h => hFc q h) hFc (fun r_1 u t H1 locs ht hvm hw hB hz1 hk1 hS => ?_)
    obtain ⟨hP1, hK1, hD1⟩ := hB
    rw [ht] at hP1
    obtain ⟨hP, hD⟩ := va_join (wr := []) (w1 := []) hP hD [] [] rfl rfl (by decide) (by decide) hk1 hFc hP1 hD1
    generalize H1 = H at hP hS ⊢
    have hP : va_P (dC, dI) vwCl [] H := hP
    have hD : va_D A [] := hD
    obtain rfl : r_1 = (nI jj) := hw
    refine lv_pop hx hb dJ0_checkIndex_df160_8 rfl ?_
    have hP9 := hP.sub (ws' := []) [] rfl
    have hD9 := hD.sub (ws' := []) [] (by decide) rfl
    have hK9 := hK.sub (tys' := []) [] rfl
    exact W.vret hx hb hr (fun t ht hW => ⟨⟨(), rfl, trivial, by rw [ht]; exact hP9, va_K.moved hW.alike hK9, hD9⟩, hS.F ht⟩) hS.2.2 dJ0_checkIndex_df160_9
  | some zt =>
    refine va_gets (v := .ref zt) hx hb hE.2.1 hS hown (hts (.fieldLink RJ0 1053 "jdk/internal/util/Preconditions" "SIOOBE_FORMATTER" "Ljava/util/function/BiFunction;") (by decide +kernel)) (fun _ h9 => h9) dJ0_checkIndex_df160_2 ?_
    have hPc := hP.sub (ws' := []) [] rfl
    have hDc := hD.sub (ws' := []) [] (by decide) rfl
    have hKc := hK.sub (tys' := []) [] rfl
    have hFc := va_free (wc := []) hD hS hA [] rfl
    refine va_calli (va_runS (As := [.int (nI jj), .int (nI nr), .ref zt]) (rest := []) ⟨hx, hb, hml, hown, hts⟩ (c_J3_checkR l dC dI _ jj nr zt (by omega) (by omega)) (va_cwS 3 hts gc_S_checkIndex_J3_checkR rfl rfl rfl (by decide +kernel) ⟨Nat.le_of_ble_eq_true rfl, Nat.le_of_ble_eq_true rfl⟩) ⟨fun a U g mk q => by obtain ⟨q0, q1, qP, qK, qD⟩ := q; exact ⟨q0, q1, qP, va_K.moved (u := U) (U := U.calling g mk a) (Vm.Alike.refl U.vm) qK, qD⟩, fun U hU hW => ⟨rfl, by rw [hU], by rw [hU]; exact hPc, va_K.moved hW.alike hKc, hDc.weaken (fun _ _ _ _ => trivial)⟩⟩ rfl rfl hl.1 rfl (lv_room (Nat.le_of_ble_eq_true rfl)) dJ0_checkIndex_df160_5 ⟨Nat.zero_le _, Nat.zero_le _⟩) hS (fun q _ h => hFc q h) hFc (fun r_2 u t H1 locs ht hvm hw hB hz1 hk1 hS => ?_)
    obtain ⟨hP1, hK1, hD1⟩ := hB
    rw [ht] at hP1
    obtain ⟨hP, hD⟩ := va_join (wr := []) (w1 := []) hP hD [] [] rfl rfl (by decide) (by decide) hk1 hFc hP1 hD1
    generalize H1 = H at hP hS ⊢
    have hP : va_P (dC, dI) vwCl [] H := hP
    have hD : va_D A [] := hD
    obtain rfl : r_2 = (nI jj) := hw
    refine lv_pop hx hb dJ0_checkIndex_df160_8 rfl ?_
    have hP9 := hP.sub (ws' := []) [] rfl
    have hD9 := hD.sub (ws' := []) [] (by decide) rfl
    have hK9 := hK.sub (tys' := []) [] rfl
    exact W.vret hx hb hr (fun t ht hW => ⟨⟨(), rfl, trivial, by rw [ht]; exact hP9, va_K.moved hW.alike hK9, hD9⟩, hS.F ht⟩) hS.2.2 dJ0_checkIndex_df160_9
def wp_S1_charAt : List Cond := .code yJ1_charAt_3b067 cJ1_charAt_3b067 2 (some .char) :: (([] : List Cond) ++ (va_wsS RJ1 9 yJ0_checkIndex_df160 wp_S_checkIndex))
theorem gc_S1_charAt_S_checkIndex : GoodIn wp_S1_charAt (va_wsS RJ1 9 yJ0_checkIndex_df160 wp_S_checkIndex) := goodIn_sub (fun _ h => List.mem_cons_of_mem _ (List.mem_append_right _ h)) (by decide +kernel)
set_option maxRecDepth 20000 in
theorem gi_S1_charAt : GoodIn lw_tbl wp_S1_charAt := (goodIn_ca (goodIn_r (.code yJ1_charAt_3b067 cJ1_charAt_3b067 2 (some .char) :: ([] : List Cond)) [299] (by decide +kernel) (by decide +kernel)) (goodIn_app (goodIn_r _ [300, 301, 58] (by decide +kernel) (by decide +kernel)) gi_S_checkIndex))
set_option maxHeartbeats 4000000 in
set_option maxRecDepth 100000 in
/-- StringLatin1.charAt -/
theorem c_S1_charAt (l : Launch) (dC : Nat → ClassId) (dI : Nat → Nat → Nat) (sz : Nat) (h0 : Nat) (jj : Nat) (sn : Nat) (sf : Nat → Int32) (zo : Option Nat) (qj : jj < sn) : Met l yJ1_charAt_3b067 wp_S1_charAt ({ frames := 2, cells := 0, slots := 0, locals := 60 }) (va_Pc [.ref h0, .int (nI jj)] (fun U => U.heap.size = sz ∧ va_P (dC, dI) vwCl [] U.heap ∧ va_K (dC, dI) vwCl [] U ∧ va_D (fun _ => True) [] ∧ okEnv zo (va_A [] sz) U U.heap ∧ okBy h0 sn sf (va_A [] sz) U U.heap)) (va_Qi (fun (r : Int32) (_ : Unit) => narrow .char (.int r) = .int r) (fun (_ : Unit) (t : State) => va_P (dC, dI) vwCl [] t.heap ∧ va_K (dC, dI) vwCl [] t ∧ va_D (va_A [] sz) []) (va_A [] sz)) 0 0 (va_A [] sz) := by
  refine Met.ofW (cc := cJ1_charAt_3b067) (maxL := 2) (ret := (some .char)) (by decide) rfl ?_
  intro p e s m args below meth c s₁ B hml hv
  obtain ⟨rfl, hsz, hP, hK, hD0, hE, hT⟩ := hv
  have hx := B.exec
  have hb := B.bytes
  have hr := B.returns
  have hts := atoms_spec (ws := wp_S1_charAt) B.pre
  have hown : s.vm.findClass RJ1 = some m.cls := findClass_of_methodNamed B.named
  have hlocks := B.notSynchronized
  subst hsz
  have hD := hD0.self (sz := s.heap.size)
  generalize hAe : va_A [] s.heap.size = A at hD hE hT ⊢
  have hA : ∀ q : Nat, s.heap.size ≤ q → A q := fun q h => by rw [← hAe]; exact Or.inr h
  have hS : va_S A s.heap s.heap [] := va_S.rf
  have hP : va_P (dC, dI) vwCl [] s.heap := hP
  have hl := lv_entry ([.ref h0, .int (nI jj)]) (n := 2) (Nat.le_of_ble_eq_true rfl)
  rw [lg_entry_eq]
  generalize (lg_sl ([.ref h0, .int (nI jj)]) ++ List.replicate (2 - (lg_sl ([.ref h0, .int (nI jj)])).length) Slot.unset).toArray = ls at hl ⊢
  have hl : lv_has ls 2 [(0, .ref h0), (1, .int (nI jj))] := hl
  have qsn : sn < 2 ^ 31 := hT.2
  refine lv_iload_n hx hb dJ1_charAt_3b067_0 rfl (lv_at hl 1 rfl) ?_
  refine lv_aload_n hx hb dJ1_charAt_3b067_1 rfl (lv_at hl 0 rfl) ?_
  refine va_tlen (v := nI sn) hx hb hT.1 hS rfl dJ1_charAt_3b067_2 ?_
  have hPc := hP.sub (ws' := []) [] rfl
  have hDc := hD.sub (ws' := []) [] (by decide) rfl
  have hKc := hK.sub (tys' := []) [] rfl
  have hFc := va_free (wc := []) hD hS hA [] rfl
  refine va_callv (va_runS (As := [.int (nI jj), .int (nI sn)]) (rest := []) ⟨hx, hb, hml, hown, hts⟩ (c_S_checkIndex l dC dI _ jj sn zo (by omega) (by omega)) (va_cwS 2 hts gc_S1_charAt_S_checkIndex rfl rfl rfl (by decide +kernel) ⟨Nat.le_of_ble_eq_true rfl, Nat.le_of_ble_eq_true rfl⟩) ⟨fun a U g mk q => by obtain ⟨q0, q1, qP, qK, qD, q_hE⟩ := q; exact ⟨q0, q1, qP, va_K.moved (u := U) (U := U.calling g mk a) (Vm.Alike.refl U.vm) qK, qD, okEnv.same rfl q_hE⟩, fun U hU hW => ⟨rfl, by rw [hU], by rw [hU]; exact hPc, va_K.moved hW.alike hKc, hDc.weaken (fun _ _ _ _ => trivial), by rw [hU]; exact okEnv.pass hE hW hS hFc⟩⟩ rfl rfl hl.1 rfl (lv_room (Nat.le_of_ble_eq_true rfl)) dJ1_charAt_3b067_3 ⟨Nat.zero_le _, Nat.zero_le _⟩) hS (fun q _ h => hFc q h) hFc (fun u t H1 locs ht hvm hw hB hz1 hk1 hS => ?_)
  obtain ⟨hP1, hK1, hD1⟩ := hB
  rw [ht] at hP1
  obtain ⟨hP, hD⟩ := va_join (wr := []) (w1 := []) hP hD [] [] rfl rfl (by decide) (by decide) hk1 hFc hP1 hD1
  generalize H1 = H at hP hS ⊢
  have hP : va_P (dC, dI) vwCl [] H := hP
  have hD : va_D A [] := hD
  refine lv_aload_n hx hb dJ1_charAt_3b067_6 rfl (lv_at hl 0 rfl) ?_
  refine lv_iload_n hx hb dJ1_charAt_3b067_7 rfl (lv_at hl 1 rfl) ?_
  refine va_tb hx hb hT.1 hS (vp_in_nI (by omega) (by omega)) rfl dJ1_charAt_3b067_8 ?_
  refine lv_topi (fun x_1 ex_1 => ?_)
  refine lv_sipush (v := 255) hx hb dJ1_charAt_3b067_9 (by decide) ?_
  refine lv_iand hx hb dJ1_charAt_3b067_12 ?_
  refine lv_topi (fun x_2 ex_2 => ?_)
  refine lv_i2c hx hb dJ1_charAt_3b067_13 rfl ?_
  have hP9 := hP.sub (ws' := []) [] rfl
  have hD9 := hD.sub (ws' := []) [] (by decide) rfl
  have hK9 := hK.sub (tys' := []) [] rfl
  exact W.zret (v := (x_2.toUInt32 % 65536).toInt32) (ty := .char) hx hb hr (pk_nc _) (fun t ht hW => ⟨⟨(x_2.toUInt32 % 65536).toInt32, (), rfl, pk_nc _, by rw [ht]; exact hP9, va_K.moved hW.alike hK9, hD9⟩, hS.F ht⟩) hS.2.2 dJ1_charAt_3b067_14
def wp_S_charAt : List Cond := .code yJ0_charAt_5068e cJ0_charAt_5068e 2 (some .char) :: (([.fieldLink RJ0 9 "java/lang/String" "value" "[B"] : List Cond) ++ (wsV RJ0 492 RJ0 yJ0_isLatin1_aae02 wp_S_isLatin1) ++ (va_wsS RJ0 495 yJ1_charAt_3b067 wp_S1_charAt))
theorem gc_S_charAt_S_isLatin1 : GoodIn wp_S_charAt (wsV RJ0 492 RJ0 yJ0_isLatin1_aae02 wp_S_isLatin1) := goodIn_sub (fun _ h => List.mem_cons_of_mem _ (List.mem_append_left _ (List.mem_append_right _ h))) (by decide +kernel)
theorem gc_S_charAt_S1_charAt : GoodIn wp_S_charAt (va_wsS RJ0 495 yJ1_charAt_3b067 wp_S1_charAt) := goodIn_sub (fun _ h => List.mem_cons_of_mem _ (List.mem_append_right _ h)) (by decide +kernel)
set_option maxRecDepth 20000 in
theorem gi_S_charAt : GoodIn lw_tbl wp_S_charAt := (goodIn_ca (goodIn_ca (goodIn_r (.code yJ0_charAt_5068e cJ0_charAt_5068e 2 (some .char) :: ([.fieldLink RJ0 9 "java/lang/String" "value" "[B"] : List Cond)) [292, 1009] (by decide +kernel) (by decide +kernel)) (goodIn_app (goodIn_r _ [293, 294, 295, 58] (by decide +kernel) (by decide +kernel)) gi_S_isLatin1)) (goodIn_app (goodIn_r _ [297, 298, 59] (by decide +kernel) (by decide +kernel)) gi_S1_charAt))
set_option maxHeartbeats 4000000 in
set_option maxRecDepth 100000 in
/-- String.charAt -/
theorem c_S_charAt (l : Launch) (dC : Nat → ClassId) (dI : Nat → Nat → Nat) (sz : Nat) (h0 : Nat) (jj : Nat) (sv : Nat) (sn : Nat) (sf : Nat → Int32) (zo : Option Nat) (qj : jj < sn) : Met l yJ0_charAt_5068e wp_S_charAt ({ frames := 3, cells := 0, slots := 0, locals := 90 }) (va_Pc [.ref h0, .int (nI jj)] (fun U => U.heap.size = sz ∧ va_P (dC, dI) vwCl [] U.heap ∧ va_K (dC, dI) vwCl [] U ∧ va_D (fun _ => True) [] ∧ okEnv zo (va_A [] sz) U U.heap ∧ okStr h0 sv sn sf (va_A [] sz) U U.heap)) (va_Qi (fun (r : Int32) (_ : Unit) => True) (fun (_ : Unit) (t : State) => va_P (dC, dI) vwCl [] t.heap ∧ va_K (dC, dI) vwCl [] t ∧ va_D (va_A [] sz) []) (va_A [] sz)) 0 0 (va_A [] sz) := by
  refine Met.ofW (cc := cJ0_charAt_5068e) (maxL := 2) (ret := (some .char)) (by decide) rfl ?_
  intro p e s m args below meth c s₁ B hml hv
  obtain ⟨rfl, hsz, hP, hK, hD0, hE, hs⟩ := hv
  have hx := B.exec
  have hb := B.bytes
  have hr := B.returns
  have hts := atoms_spec (ws := wp_S_charAt) B.pre
  have hown : s.vm.findClass RJ0 = some m.cls := findClass_of_methodNamed B.named
  have hlocks := B.notSynchronized
  subst hsz
  have hD := hD0.self (sz := s.heap.size)
  generalize hAe : va_A [] s.heap.size = A at hD hE hs ⊢
  have hA : ∀ q : Nat, s.heap.size ≤ q → A q := fun q h => by rw [← hAe]; exact Or.inr h
  have hS : va_S A s.heap s.heap [] := va_S.rf
  have hP : va_P (dC, dI) vwCl [] s.heap := hP
  have hl := lv_entry ([.ref h0, .int (nI jj)]) (n := 2) (Nat.le_of_ble_eq_true rfl)
  rw [lg_entry_eq]
  generalize (lg_sl ([.ref h0, .int (nI jj)]) ++ List.replicate (2 - (lg_sl ([.ref h0, .int (nI jj)])).length) Slot.unset).toArray = ls at hl ⊢
  have hl : lv_has ls 2 [(0, .ref h0), (1, .int (nI jj))] := hl
  have qsn : sn < 2 ^ 31 := hs.2.2.2.2
  refine lv_aload_n hx hb dJ0_charAt_5068e_0 rfl (lv_at hl 0 rfl) ?_
  have hPc := hP.sub (ws' := []) [] rfl
  have hDc := hD.sub (ws' := []) [] (by decide) rfl
  have hKc := hK.sub (tys' := []) [] rfl
  have hFc := va_free (wc := []) hD hS hA [] rfl
  refine va_calli (va_runV (As := []) (rest := []) ⟨hx, hb, hml, hown, hts⟩ (c_S_isLatin1 l dC dI _ h0 sv sn sf zo) (cwV 0 hts gc_S_charAt_S_isLatin1 rfl rfl rfl (by decide +kernel) ⟨Nat.le_of_ble_eq_true rfl, Nat.le_of_ble_eq_true rfl⟩) ⟨fun a U g mk q => by obtain ⟨q0, q1, qP, qK, qD, q_hE, q_hs⟩ := q; exact ⟨q0, q1, qP, va_K.moved (u := U) (U := U.calling g mk a) (Vm.Alike.refl U.vm) qK, qD, okEnv.same rfl q_hE, okStr.moved (Vm.Alike.refl U.vm) q_hs⟩, okStr.recv hs hS, fun U hU hW => ⟨rfl, by rw [hU], by rw [hU]; exact hPc, va_K.moved hW.alike hKc, hDc.weaken (fun _ _ _ _ => trivial), by rw [hU]; exact okEnv.pass hE hW hS hFc, by rw [hU]; exact okStr.pass hs hW hS hFc⟩⟩ rfl rfl hl.1 rfl (lv_room (Nat.le_of_ble_eq_true rfl)) dJ0_charAt_5068e_1 ⟨Nat.zero_le _, Nat.zero_le _⟩) hS (fun q _ h => hFc q h) hFc (fun r_1 u t H1 locs ht hvm hw hB hz1 hk1 hS => ?_)
  obtain ⟨hP1, hK1, hD1⟩ := hB
  rw [ht] at hP1
  obtain ⟨hP, hD⟩ := va_join (wr := []) (w1 := []) hP hD [] [] rfl rfl (by decide) (by decide) hk1 hFc hP1 hD1
  generalize H1 = H at hP hS ⊢
  have hP : va_P (dC, dI) vwCl [] H := hP
  have hD : va_D A [] := hD
  obtain rfl : r_1 = 1 := hw
  refine lv_if_eq (tgt := 16) hx hb dJ0_charAt_5068e_4 (by decide) (fun c_2 => ?_) (fun c_2 => ?_)
  · exact absurd c_2 (by decide)
  · refine lv_aload_n hx hb dJ0_charAt_5068e_7 rfl (lv_at hl 0 rfl) ?_
    refine vk_getf hx hb hs.2.2.1 hS hown (hts (.fieldLink RJ0 9 "java/lang/String" "value" "[B") (by decide +kernel)) (fun _ h9 => h9) dJ0_charAt_5068e_8 ?_
    refine lv_iload_n hx hb dJ0_charAt_5068e_11 rfl (lv_at hl 1 rfl) ?_
    have hPc := hP.sub (ws' := []) [] rfl
    have hDc := hD.sub (ws' := []) [] (by decide) rfl
    have hKc := hK.sub (tys' := []) [] rfl
    have hFc := va_free (wc := []) hD hS hA [] rfl
    refine va_calli (va_runS (As := [.ref sv, .int (nI jj)]) (rest := []) ⟨hx, hb, hml, hown, hts⟩ (c_S1_charAt l dC dI _ sv jj sn sf zo (by omega)) (va_cwS 2 hts gc_S_charAt_S1_charAt rfl rfl rfl (by decide +kernel) ⟨Nat.le_of_ble_eq_true rfl, Nat.le_of_ble_eq_true rfl⟩) ⟨fun a U g mk q => by obtain ⟨q0, q1, qP, qK, qD, q_hE, q_hT⟩ := q; exact ⟨q0, q1, qP, va_K.moved (u := U) (U := U.calling g mk a) (Vm.Alike.refl U.vm) qK, qD, okEnv.same rfl q_hE, okBy.moved (Vm.Alike.refl U.vm) q_hT⟩, fun U hU hW => ⟨rfl, by rw [hU], by rw [hU]; exact hPc, va_K.moved hW.alike hKc, hDc.weaken (fun _ _ _ _ => trivial), by rw [hU]; exact okEnv.pass hE hW hS hFc, by rw [hU]; exact okBy.pass hs.2.2.2 hW hS hFc⟩⟩ rfl rfl hl.1 rfl (lv_room (Nat.le_of_ble_eq_true rfl)) dJ0_charAt_5068e_12 ⟨Nat.zero_le _, Nat.zero_le _⟩) hS (fun q _ h => hFc q h) hFc (fun r_3 u t H1 locs ht hvm hw hB hz1 hk1 hS => ?_)
    obtain ⟨hP1, hK1, hD1⟩ := hB
    rw [ht] at hP1
    obtain ⟨hP, hD⟩ := va_join (wr := []) (w1 := []) hP hD [] [] rfl rfl (by decide) (by decide) hk1 hFc hP1 hD1
    generalize H1 = H at hP hS ⊢
    have hP : va_P (dC, dI) vwCl [] H := hP
    have hD : va_D A [] := hD
    have hr_3 := hw
    try dsimp only at hr_3
    have hP9 := hP.sub (ws' := []) [] rfl
    have hD9 := hD.sub (ws' := []) [] (by decide) rfl
    have hK9 := hK.sub (tys' := []) [] rfl
    exact W.zret (v := r_3) (ty := .char) hx hb hr hr_3 (fun t ht hW => ⟨⟨r_3, (), rfl, trivial, by rw [ht]; exact hP9, va_K.moved hW.alike hK9, hD9⟩, hS.F ht⟩) hS.2.2 dJ0_charAt_5068e_15
def wp_R_takeWord : List Cond := .code yX4_takeWord cX4_takeWord 3 (some .boolean) :: (([.fieldLink RX4 15 "AgreedTalks$Reader" "stop" "I", .fieldLink RX4 9 "AgreedTalks$Reader" "start" "I", .fieldLink RX4 18 "AgreedTalks$Reader" "tape" "LAgreedTalks$Tape;", .fieldLink RX4 109 "AgreedTalks$Tape" "bytes" "[I"] : List Cond) ++ wsX40 ++ wsX50 ++ (wsV RX4 105 RJ0 yJ0_length_8abf5 wp_S_length) ++ (wsV RX4 113 RJ0 yJ0_charAt_5068e wp_S_charAt) ++ (wsV RX4 22 RX4 yX4_step wp_R_step))
theorem gc_R_takeWord_S_length : GoodIn wp_R_takeWord (wsV RX4 105 RJ0 yJ0_length_8abf5 wp_S_length) := goodIn_sub (fun _ h => List.mem_cons_of_mem _ (List.mem_append_left _ (List.mem_append_left _ (List.mem_append_right _ h)))) (by decide +kernel)
theorem gc_R_takeWord_S_charAt : GoodIn wp_R_takeWord (wsV RX4 113 RJ0 yJ0_charAt_5068e wp_S_charAt) := goodIn_sub (fun _ h => List.mem_cons_of_mem _ (List.mem_append_left _ (List.mem_append_right _ h))) (by decide +kernel)
theorem gc_R_takeWord_R_step : GoodIn wp_R_takeWord (wsV RX4 22 RX4 yX4_step wp_R_step) := goodIn_sub (fun _ h => List.mem_cons_of_mem _ (List.mem_append_right _ h)) (by decide +kernel)
set_option maxRecDepth 20000 in
theorem gi_R_takeWord : GoodIn lw_tbl wp_R_takeWord := (goodIn_ca (goodIn_ca (goodIn_ca (goodIn_ca (goodIn_ca (goodIn_r (.code yX4_takeWord cX4_takeWord 3 (some .boolean) :: ([.fieldLink RX4 15 "AgreedTalks$Reader" "stop" "I", .fieldLink RX4 9 "AgreedTalks$Reader" "start" "I", .fieldLink RX4 18 "AgreedTalks$Reader" "tape" "LAgreedTalks$Tape;", .fieldLink RX4 109 "AgreedTalks$Tape" "bytes" "[I"] : List Cond)) [278, 128, 126, 125, 110] (by decide +kernel) (by decide +kernel)) wi_wsX4) wi_wsX5) (goodIn_app (goodIn_r _ [279, 280, 281, 58] (by decide +kernel) (by decide +kernel)) gi_S_length)) (goodIn_app (goodIn_r _ [289, 290, 291, 58] (by decide +kernel) (by decide +kernel)) gi_S_charAt)) (goodIn_app (goodIn_r _ [263, 265, 3, 53] (by decide +kernel) (by decide +kernel)) gi_R_step))
set_option maxHeartbeats 4000000 in
set_option maxRecDepth 100000 in
theorem sg_R_takeWord_20 {p : Program} {l : Launch} {e : Env} {s : State} {m : MethodId} {args : Array Value} {below : List Frame} {meth : Method} {c : Code} {Q : State → Prop} {A : Nat → Prop} {dC : Nat → ClassId} {dI : Nat → Nat → Nat} (h0 : Nat) (ta : Nat) (s0 : Nat) (e0 : Nat) (ab : Nat) (tp : Nat) (cB : ClassId) (fb : Nat → Int32) (h1 : Nat) (sv : Nat) (sn : Nat) (sf : Nat → Int32) (zo : Option Nat) (qtp : tp ≤ 300) (qs : s0 ≤ e0) (qe : e0 ≤ tp) (hT : okT fb s0 e0) (hx : p.tables.exec = Jvm.exec) (hb : c.code = cX4_takeWord) (hml : c.maxLocals = 3) (hown : s.vm.findClass RX4 = some m.cls) (hts : ∀ w ∈ wp_R_takeWord, w.before args s = true) (hK : va_K (dC, dI) vwCl [(cB, .int)] s) (hA : ∀ q : Nat, s.heap.size ≤ q → A q) (hE : okEnv zo A s s.heap) (hs : okStr h1 sv sn sf A s s.heap) (kk_50 : ∀ (H : Heap) (locs : List Loc) (ls : Array Slot), okPD (dC, dI) vwCl A [(h0, .inr (5, [.ref ta, .int (nI s0), .int (nI e0)])), (ta, .inr (6, [.ref ab, .int (nI tp)])), (ab, .inl (cB, 300, .inl fb))] H → va_S A s.heap H locs → lv_has ls 3 [(0, .ref h0)] → W p l e ({ frames := 4, cells := 0, slots := 0, locals := 120 } : Room) s m args below meth c H locs 0 0 Q (F0 m 50 ls [])) (kk_58 : ∀ (H : Heap) (locs : List Loc) (ls : Array Slot), okPD (dC, dI) vwCl A [(h0, .inr (5, [.ref ta, .int (nI s0), .int (nI e0)])), (ta, .inr (6, [.ref ab, .int (nI tp)])), (ab, .inl (cB, 300, .inl fb))] H → va_S A s.heap H locs → lv_has ls 3 [(0, .ref h0)] → W p l e ({ frames := 4, cells := 0, slots := 0, locals := 120 } : Room) s m args below meth c H locs 0 0 Q (F0 m 58 ls [])) : ∀ (n : Nat) (i9 : Nat) (H : Heap) (locs : List Loc) (ls : Array Slot), sn - i9 < n → (e0 - s0 = sn) → (i9 ≤ sn) → okPD (dC, dI) vwCl A [(h0, .inr (5, [.ref ta, .int (nI s0), .int (nI e0)])), (ta, .inr (6, [.ref ab, .int (nI tp)])), (ab, .inl (cB, 300, .inl fb))] H → va_S A s.heap H locs → lv_has ls 3 [(0, .ref h0), (1, .ref h1), (2, .int (nI i9))] → W p l e ({ frames := 4, cells := 0, slots := 0, locals := 120 } : Room) s m args below meth c H locs 0 0 Q (F0 m 20 ls []) := by
  have hinX4 : ∀ w ∈ u_ws RX4 TX4 3, w ∈ wp_R_takeWord := fun _ h => List.mem_cons_of_mem _ (List.mem_append_left _ (List.mem_append_left _ (List.mem_append_left _ (List.mem_append_left _ (List.mem_append_right _ h)))))
  have hinX5 : ∀ w ∈ u_ws RX5 TX5 2, w ∈ wp_R_takeWord := fun _ h => List.mem_cons_of_mem _ (List.mem_append_left _ (List.mem_append_left _ (List.mem_append_left _ (List.mem_append_right _ h))))
  have qsn : sn < 2 ^ 31 := hs.2.2.2.2
  intro n
  induction n with
  | zero =>
    intro i9 H locs ls hn
    exact absurd hn (Nat.not_lt_zero _)
  | succ n ih =>
    intro i9 H locs ls hn hlen hi hPD hS hl
    obtain ⟨hP, hD⟩ := hPD
    refine lv_iload_n hx hb dX4_takeWord_20 rfl (lv_at hl 2 rfl) ?_
    refine lv_aload_n hx hb dX4_takeWord_21 rfl (lv_at hl 1 rfl) ?_
    have hPc := hP.sub (ws' := []) [] rfl
    have hDc := hD.sub (ws' := []) [] (by decide) rfl
    have hKc := hK.sub (tys' := []) [] rfl
    have hFc := va_free (wc := []) hD hS hA [] rfl
    refine va_calli (va_runV (As := []) (rest := [.int (nI i9)]) ⟨hx, hb, hml, hown, hts⟩ (c_S_length l dC dI _ h1 sv sn sf zo) (cwV 0 hts gc_R_takeWord_S_length rfl rfl rfl (by decide +kernel) ⟨Nat.le_of_ble_eq_true rfl, Nat.le_of_ble_eq_true rfl⟩) ⟨fun a U g mk q => by obtain ⟨q0, q1, qP, qK, qD, q_hE, q_hs⟩ := q; exact ⟨q0, q1, qP, va_K.moved (u := U) (U := U.calling g mk a) (Vm.Alike.refl U.vm) qK, qD, okEnv.same rfl q_hE, okStr.moved (Vm.Alike.refl U.vm) q_hs⟩, okStr.recv hs hS, fun U hU hW => ⟨rfl, by rw [hU], by rw [hU]; exact hPc, va_K.moved hW.alike hKc, hDc.weaken (fun _ _ _ _ => trivial), by rw [hU]; exact okEnv.pass hE hW hS hFc, by rw [hU]; exact okStr.pass hs hW hS hFc⟩⟩ rfl rfl hl.1 rfl (lv_room (Nat.le_of_ble_eq_true rfl)) dX4_takeWord_22 ⟨Nat.zero_le _, Nat.zero_le _⟩) hS (fun q _ h => hFc q h) hFc (fun r_4 u t H1 locs ht hvm hw hB hz1 hk1 hS => ?_)
    obtain ⟨hP1, hK1, hD1⟩ := hB
    rw [ht] at hP1
    obtain ⟨hP, hD⟩ := va_join (wr := [(h0, .inr (5, [.ref ta, .int (nI s0), .int (nI e0)])), (ta, .inr (6, [.ref ab, .int (nI tp)])), (ab, .inl (cB, 300, .inl fb))]) (w1 := []) hP hD [] [0, 1, 2] rfl rfl (by decide) (by decide) hk1 hFc hP1 hD1
    generalize H1 = H at hP hS ⊢
    have hP : va_P (dC, dI) vwCl [(h0, .inr (5, [.ref ta, .int (nI s0), .int (nI e0)])), (ta, .inr (6, [.ref ab, .int (nI tp)])), (ab, .inl (cB, 300, .inl fb))] H := hP
    have hD : va_D A [(h0, .inr (5, [.ref ta, .int (nI s0), .int (nI e0)])), (ta, .inr (6, [.ref ab, .int (nI tp)])), (ab, .inl (cB, 300, .inl fb))] := hD
    obtain rfl : r_4 = (nI sn) := hw
    refine lv_icmp_ge (tgt := 58) hx hb dX4_takeWord_25 (by decide) (fun c_5 => ?_) (fun c_5 => ?_)
    · have c_5 : sn ≤ i9 := (nI_leI (a := sn) (b := i9) (by omega) (by omega)).mp c_5
      exact kk_58  _ _ _  ⟨hP, hD⟩ hS (lv_sub hl [0] rfl)
    · have c_5 : ¬ (sn ≤ i9) := fun h => c_5 ((nI_leI (a := sn) (b := i9) (by omega) (by omega)).mpr h)
      refine lv_aload_n hx hb dX4_takeWord_28 rfl (lv_at hl 0 rfl) ?_
      refine va_get (D := (dC, dI)) (ci := 5) (v := .ref ta) (C := RX4) (T := TX4) (N := 3) hx hb hts hinX4 hown hK hP 0 rfl rfl 0 (by decide) (hts (.fieldLink RX4 18 "AgreedTalks$Reader" "tape" "LAgreedTalks$Tape;") (by decide +kernel)) (fun _ h9 => h9) rfl dX4_takeWord_29 ?_
      refine va_get (D := (dC, dI)) (ci := 6) (v := .ref ab) (C := RX5) (T := TX5) (N := 2) hx hb hts hinX5 hown hK hP 1 rfl rfl 0 (by decide) (hts (.fieldLink RX4 109 "AgreedTalks$Tape" "bytes" "[I") (by decide +kernel)) (fun _ h9 => h9) rfl dX4_takeWord_32 ?_
      refine lv_aload_n hx hb dX4_takeWord_35 rfl (lv_at hl 0 rfl) ?_
      refine va_get (D := (dC, dI)) (ci := 5) (v := .int (nI s0)) (C := RX4) (T := TX4) (N := 3) hx hb hts hinX4 hown hK hP 0 rfl rfl 1 (by decide) (hts (.fieldLink RX4 9 "AgreedTalks$Reader" "start" "I") (by decide +kernel)) (fun _ h9 => h9) rfl dX4_takeWord_36 ?_
      refine lv_iload_n hx hb dX4_takeWord_39 rfl (lv_at hl 2 rfl) ?_
      refine lv_iadd hx hb dX4_takeWord_40 ?_
      refine lv_topi (fun x_6 ex_6 => ?_)
      obtain rfl : x_6 = (nI (s0 + i9)) := by rw [ex_6]; exact nI_add _ _
      refine va_iald hx hb hK hP 2 0 rfl rfl (vp_in_nI (by omega) (by omega)) dX4_takeWord_41 ?_
      refine lv_topi (fun x_7 ex_7 => ?_)
      rw [show (Int32.toNatClampNeg (nI (s0 + i9))) = s0 + i9 from nI_clamp (by omega)] at ex_7
      refine lv_aload_n hx hb dX4_takeWord_42 rfl (lv_at hl 1 rfl) ?_
      refine lv_iload_n hx hb dX4_takeWord_43 rfl (lv_at hl 2 rfl) ?_
      have hPc := hP.sub (ws' := []) [] rfl
      have hDc := hD.sub (ws' := []) [] (by decide) rfl
      have hKc := hK.sub (tys' := []) [] rfl
      have hFc := va_free (wc := []) hD hS hA [] rfl
      refine va_calli (va_runV (As := [.int (nI i9)]) (rest := [.int x_7]) ⟨hx, hb, hml, hown, hts⟩ (c_S_charAt l dC dI _ h1 i9 sv sn sf zo (by omega)) (cwV 1 hts gc_R_takeWord_S_charAt rfl rfl rfl (by decide +kernel) ⟨Nat.le_of_ble_eq_true rfl, Nat.le_of_ble_eq_true rfl⟩) ⟨fun a U g mk q => by obtain ⟨q0, q1, qP, qK, qD, q_hE, q_hs⟩ := q; exact ⟨q0, q1, qP, va_K.moved (u := U) (U := U.calling g mk a) (Vm.Alike.refl U.vm) qK, qD, okEnv.same rfl q_hE, okStr.moved (Vm.Alike.refl U.vm) q_hs⟩, okStr.recv hs hS, fun U hU hW => ⟨rfl, by rw [hU], by rw [hU]; exact hPc, va_K.moved hW.alike hKc, hDc.weaken (fun _ _ _ _ => trivial), by rw [hU]; exact okEnv.pass hE hW hS hFc, by rw [hU]; exact okStr.pass hs hW hS hFc⟩⟩ rfl rfl hl.1 rfl (lv_room (Nat.le_of_ble_eq_true rfl)) dX4_takeWord_44 ⟨Nat.zero_le _, Nat.zero_le _⟩) hS (fun q _ h => hFc q h) hFc (fun r_8 u t H1 locs ht hvm hw hB hz1 hk1 hS => ?_)
      obtain ⟨hP1, hK1, hD1⟩ := hB
      rw [ht] at hP1
      obtain ⟨hP, hD⟩ := va_join (wr := [(h0, .inr (5, [.ref ta, .int (nI s0), .int (nI e0)])), (ta, .inr (6, [.ref ab, .int (nI tp)])), (ab, .inl (cB, 300, .inl fb))]) (w1 := []) hP hD [] [0, 1, 2] rfl rfl (by decide) (by decide) hk1 hFc hP1 hD1
      generalize H1 = H at hP hS ⊢
      have hP : va_P (dC, dI) vwCl [(h0, .inr (5, [.ref ta, .int (nI s0), .int (nI e0)])), (ta, .inr (6, [.ref ab, .int (nI tp)])), (ab, .inl (cB, 300, .inl fb))] H := hP
      have hD : va_D A [(h0, .inr (5, [.ref ta, .int (nI s0), .int (nI e0)])), (ta, .inr (6, [.ref ab, .int (nI tp)])), (ab, .inl (cB, 300, .inl fb))] := hD
      have hr_8 := hw
      try dsimp only at hr_8
      refine lv_icmp_eq (tgt := 52) hx hb dX4_takeWord_47 (by decide) (fun c_9 => ?_) (fun c_9 => ?_)
      · refine lv_iinc (v := (nI (i9 + 1))) (lv' := [(2, .int (nI (i9 + 1))), (0, .ref h0), (1, .ref h1)]) hx hb dX4_takeWord_52 hl (k := 2) rfl (nI_1 _) (by decide) rfl (fun ls hl => ?_)
        refine lv_goto (tgt := 20) hx hb dX4_takeWord_55 (by decide) ?_
        exact ih (i9 + 1) _ _ _ (by omega) (by omega) (by omega) ⟨hP, hD⟩ hS (lv_sub hl [1, 2, 0] rfl)
      · exact kk_50  _ _ _  ⟨hP, hD⟩ hS (lv_sub hl [0] rfl)
set_option maxHeartbeats 4000000 in
set_option maxRecDepth 100000 in
/-- takeWord -/
theorem c_R_takeWord (l : Launch) (dC : Nat → ClassId) (dI : Nat → Nat → Nat) (sz : Nat) (h0 : Nat) (ta : Nat) (s0 : Nat) (e0 : Nat) (ab : Nat) (tp : Nat) (cB : ClassId) (fb : Nat → Int32) (h1 : Nat) (sv : Nat) (sn : Nat) (sf : Nat → Int32) (zo : Option Nat) (qtp : tp ≤ 300) (qs : s0 ≤ e0) (qe : e0 ≤ tp) (hT : okT fb s0 e0) : Met l yX4_takeWord wp_R_takeWord ({ frames := 4, cells := 0, slots := 0, locals := 120 }) (va_Pc [.ref h0, .ref h1] (fun U => U.heap.size = sz ∧ va_P (dC, dI) vwCl [(h0, .inr (5, [.ref ta, .int (nI s0), .int (nI e0)])), (ta, .inr (6, [.ref ab, .int (nI tp)])), (ab, .inl (cB, 300, .inl fb))] U.heap ∧ va_K (dC, dI) vwCl [(cB, .int)] U ∧ va_D (fun _ => True) [(h0, .inr (5, [.ref ta, .int (nI s0), .int (nI e0)])), (ta, .inr (6, [.ref ab, .int (nI tp)])), (ab, .inl (cB, 300, .inl fb))] ∧ okEnv zo (va_A [(h0, .inr (5, [.ref ta, .int (nI s0), .int (nI e0)])), (ta, .inr (6, [.ref ab, .int (nI tp)])), (ab, .inl (cB, 300, .inl fb))] sz) U U.heap ∧ okStr h1 sv sn sf (va_A [(h0, .inr (5, [.ref ta, .int (nI s0), .int (nI e0)])), (ta, .inr (6, [.ref ab, .int (nI tp)])), (ab, .inl (cB, 300, .inl fb))] sz) U U.heap)) (va_Qi (fun (r : Int32) (_ : Unit) => r = 0 ∨ r = 1) (fun (_ : Unit) (t : State) => ∃ (s1 : Nat), ∃ (e1 : Nat), (s1 ≤ e1) ∧ (e1 ≤ tp) ∧ (okT fb s1 e1) ∧ va_P (dC, dI) vwCl [(h0, .inr (5, [.ref ta, .int (nI s1), .int (nI e1)])), (ta, .inr (6, [.ref ab, .int (nI tp)])), (ab, .inl (cB, 300, .inl fb))] t.heap ∧ va_K (dC, dI) vwCl [(cB, .int)] t ∧ va_D (va_A [(h0, .inr (5, [.ref ta, .int (nI s0), .int (nI e0)])), (ta, .inr (6, [.ref ab, .int (nI tp)])), (ab, .inl (cB, 300, .inl fb))] sz) [(h0, .inr (5, [.ref ta, .int (nI s1), .int (nI e1)])), (ta, .inr (6, [.ref ab, .int (nI tp)])), (ab, .inl (cB, 300, .inl fb))]) (va_A [(h0, .inr (5, [.ref ta, .int (nI s0), .int (nI e0)])), (ta, .inr (6, [.ref ab, .int (nI tp)])), (ab, .inl (cB, 300, .inl fb))] sz)) 0 0 (va_A [(h0, .inr (5, [.ref ta, .int (nI s0), .int (nI e0)])), (ta, .inr (6, [.ref ab, .int (nI tp)])), (ab, .inl (cB, 300, .inl fb))] sz) := by
  refine Met.ofW (cc := cX4_takeWord) (maxL := 3) (ret := (some .boolean)) (by decide) rfl ?_
  intro p e s m args below meth c s₁ B hml hv
  obtain ⟨rfl, hsz, hP, hK, hD0, hE, hs⟩ := hv
  have hx := B.exec
  have hb := B.bytes
  have hr := B.returns
  have hts := atoms_spec (ws := wp_R_takeWord) B.pre
  have hown : s.vm.findClass RX4 = some m.cls := findClass_of_methodNamed B.named
  have hlocks := B.notSynchronized
  subst hsz
  have hD := hD0.self (sz := s.heap.size)
  generalize hAe : va_A [(h0, .inr (5, [.ref ta, .int (nI s0), .int (nI e0)])), (ta, .inr (6, [.ref ab, .int (nI tp)])), (ab, .inl (cB, 300, .inl fb))] s.heap.size = A at hD hE hs ⊢
  have hA : ∀ q : Nat, s.heap.size ≤ q → A q := fun q h => by rw [← hAe]; exact Or.inr h
  have hS : va_S A s.heap s.heap [] := va_S.rf
  have hP : va_P (dC, dI) vwCl [(h0, .inr (5, [.ref ta, .int (nI s0), .int (nI e0)])), (ta, .inr (6, [.ref ab, .int (nI tp)])), (ab, .inl (cB, 300, .inl fb))] s.heap := hP
  have hl := lv_entry ([.ref h0, .ref h1]) (n := 3) (Nat.le_of_ble_eq_true rfl)
  rw [lg_entry_eq]
  generalize (lg_sl ([.ref h0, .ref h1]) ++ List.replicate (3 - (lg_sl ([.ref h0, .ref h1])).length) Slot.unset).toArray = ls at hl ⊢
  have hl : lv_has ls 3 [(0, .ref h0), (1, .ref h1)] := hl
  have hinX4 : ∀ w ∈ u_ws RX4 TX4 3, w ∈ wp_R_takeWord := fun _ h => List.mem_cons_of_mem _ (List.mem_append_left _ (List.mem_append_left _ (List.mem_append_left _ (List.mem_append_left _ (List.mem_append_right _ h)))))
  have hinX5 : ∀ w ∈ u_ws RX5 TX5 2, w ∈ wp_R_takeWord := fun _ h => List.mem_cons_of_mem _ (List.mem_append_left _ (List.mem_append_left _ (List.mem_append_left _ (List.mem_append_right _ h))))
  have qsn : sn < 2 ^ 31 := hs.2.2.2.2
  refine lv_aload_n hx hb dX4_takeWord_0 rfl (lv_at hl 0 rfl) ?_
  refine va_get (D := (dC, dI)) (ci := 5) (v := .int (nI e0)) (C := RX4) (T := TX4) (N := 3) hx hb hts hinX4 hown hK hP 0 rfl rfl 2 (by decide) (hts (.fieldLink RX4 15 "AgreedTalks$Reader" "stop" "I") (by decide +kernel)) (fun _ h9 => h9) rfl dX4_takeWord_1 ?_
  refine lv_aload_n hx hb dX4_takeWord_4 rfl (lv_at hl 0 rfl) ?_
  refine va_get (D := (dC, dI)) (ci := 5) (v := .int (nI s0)) (C := RX4) (T := TX4) (N := 3) hx hb hts hinX4 hown hK hP 0 rfl rfl 1 (by decide) (hts (.fieldLink RX4 9 "AgreedTalks$Reader" "start" "I") (by decide +kernel)) (fun _ h9 => h9) rfl dX4_takeWord_5 ?_
  refine lv_isub hx hb dX4_takeWord_8 ?_
  refine lv_topi (fun x_1 ex_1 => ?_)
  obtain rfl : x_1 = (nI (e0 - s0)) := by rw [ex_1]; exact pk_sub (by omega)
  refine lv_aload_n hx hb dX4_takeWord_9 rfl (lv_at hl 1 rfl) ?_
  have hPc := hP.sub (ws' := []) [] rfl
  have hDc := hD.sub (ws' := []) [] (by decide) rfl
  have hKc := hK.sub (tys' := []) [] rfl
  have hFc := va_free (wc := []) hD hS hA [] rfl
  refine va_calli (va_runV (As := []) (rest := [.int (nI (e0 - s0))]) ⟨hx, hb, hml, hown, hts⟩ (c_S_length l dC dI _ h1 sv sn sf zo) (cwV 0 hts gc_R_takeWord_S_length rfl rfl rfl (by decide +kernel) ⟨Nat.le_of_ble_eq_true rfl, Nat.le_of_ble_eq_true rfl⟩) ⟨fun a U g mk q => by obtain ⟨q0, q1, qP, qK, qD, q_hE, q_hs⟩ := q; exact ⟨q0, q1, qP, va_K.moved (u := U) (U := U.calling g mk a) (Vm.Alike.refl U.vm) qK, qD, okEnv.same rfl q_hE, okStr.moved (Vm.Alike.refl U.vm) q_hs⟩, okStr.recv hs hS, fun U hU hW => ⟨rfl, by rw [hU], by rw [hU]; exact hPc, va_K.moved hW.alike hKc, hDc.weaken (fun _ _ _ _ => trivial), by rw [hU]; exact okEnv.pass hE hW hS hFc, by rw [hU]; exact okStr.pass hs hW hS hFc⟩⟩ rfl rfl hl.1 rfl (lv_room (Nat.le_of_ble_eq_true rfl)) dX4_takeWord_10 ⟨Nat.zero_le _, Nat.zero_le _⟩) hS (fun q _ h => hFc q h) hFc (fun r_2 u t H1 locs ht hvm hw hB hz1 hk1 hS => ?_)
  obtain ⟨hP1, hK1, hD1⟩ := hB
  rw [ht] at hP1
  obtain ⟨hP, hD⟩ := va_join (wr := [(h0, .inr (5, [.ref ta, .int (nI s0), .int (nI e0)])), (ta, .inr (6, [.ref ab, .int (nI tp)])), (ab, .inl (cB, 300, .inl fb))]) (w1 := []) hP hD [] [0, 1, 2] rfl rfl (by decide) (by decide) hk1 hFc hP1 hD1
  generalize H1 = H at hP hS ⊢
  have hP : va_P (dC, dI) vwCl [(h0, .inr (5, [.ref ta, .int (nI s0), .int (nI e0)])), (ta, .inr (6, [.ref ab, .int (nI tp)])), (ab, .inl (cB, 300, .inl fb))] H := hP
  have hD : va_D A [(h0, .inr (5, [.ref ta, .int (nI s0), .int (nI e0)])), (ta, .inr (6, [.ref ab, .int (nI tp)])), (ab, .inl (cB, 300, .inl fb))] := hD
  obtain rfl : r_2 = (nI sn) := hw
  refine lv_icmp_eq (tgt := 18) hx hb dX4_takeWord_13 (by decide) (fun c_3 => ?_) (fun c_3 => ?_)
  · have c_3 : e0 - s0 = sn := (nI_eq (a := e0 - s0) (b := sn) (by omega) (by omega)).mp c_3
    refine lv_iconst (v := 0) hx hb dX4_takeWord_18 (by decide) ?_
    refine lv_istore_n (lv' := [(2, .int 0), (0, .ref h0), (1, .ref h1)]) hx hb dX4_takeWord_19 rfl hl (by decide) rfl (fun ls hl => ?_)
    refine sg_R_takeWord_20 h0 ta s0 e0 ab tp cB fb h1 sv sn sf zo qtp qs qe hT hx hb hml hown hts hK hA hE hs (fun H locs ls  hPD hS hl => ?_) (fun H locs ls  hPD hS hl => ?_) ((sn - 0) + 1) 0 _ _ _ (Nat.lt_succ_self _) (by omega) (by omega) ⟨hP, hD⟩ hS (lv_sub hl [1, 2, 0] rfl)
    · obtain ⟨hP, hD⟩ := hPD
      refine lv_iconst (v := 0) hx hb dX4_takeWord_50 (by decide) ?_
      have hP9 := hP.sub (ws' := [(h0, .inr (5, [.ref ta, .int (nI s0), .int (nI e0)])), (ta, .inr (6, [.ref ab, .int (nI tp)])), (ab, .inl (cB, 300, .inl fb))]) [0, 1, 2] rfl
      have hD9 := hD.sub (ws' := [(h0, .inr (5, [.ref ta, .int (nI s0), .int (nI e0)])), (ta, .inr (6, [.ref ab, .int (nI tp)])), (ab, .inl (cB, 300, .inl fb))]) [0, 1, 2] (by decide) rfl
      have hK9 := hK.sub (tys' := [(cB, .int)]) [0] rfl
      exact W.zret (v := 0) (ty := .boolean) hx hb hr rfl (fun t ht hW => ⟨⟨0, (), rfl, Or.inl rfl, s0, e0, (by omega), (by omega), (by assumption), by rw [ht]; exact hP9, va_K.moved hW.alike hK9, hD9⟩, hS.F ht⟩) hS.2.2 dX4_takeWord_51
    · obtain ⟨hP, hD⟩ := hPD
      refine lv_aload_n hx hb dX4_takeWord_58 rfl (lv_at hl 0 rfl) ?_
      have hPc := hP.sub (ws' := [(h0, .inr (5, [.ref ta, .int (nI s0), .int (nI e0)])), (ta, .inr (6, [.ref ab, .int (nI tp)])), (ab, .inl (cB, 300, .inl fb))]) [0, 1, 2] rfl
      have hDc := hD.sub (ws' := [(h0, .inr (5, [.ref ta, .int (nI s0), .int (nI e0)])), (ta, .inr (6, [.ref ab, .int (nI tp)])), (ab, .inl (cB, 300, .inl fb))]) [0, 1, 2] (by decide) rfl
      have hKc := hK.sub (tys' := [(cB, .int)]) [0] rfl
      have hFc := va_free (wc := [(h0, .inr (5, [.ref ta, .int (nI s0), .int (nI e0)])), (ta, .inr (6, [.ref ab, .int (nI tp)])), (ab, .inl (cB, 300, .inl fb))]) hD hS hA [0, 1, 2] rfl
      refine va_callv (va_runV (As := []) (rest := []) ⟨hx, hb, hml, hown, hts⟩ (c_R_step l dC dI _ h0 ta e0 ab tp cB fb (nI s0) (by omega) (by omega)) (cwV 0 hts gc_R_takeWord_R_step rfl rfl rfl (by decide +kernel) ⟨Nat.le_of_ble_eq_true rfl, Nat.le_of_ble_eq_true rfl⟩) ⟨fun a U g mk q => by obtain ⟨q0, q1, qP, qK, qD⟩ := q; exact ⟨q0, q1, qP, va_K.moved (u := U) (U := U.calling g mk a) (Vm.Alike.refl U.vm) qK, qD⟩, va_recv hKc hPc (ci := 5) (q0 := 0) rfl rfl, fun U hU hW => ⟨rfl, by rw [hU], by rw [hU]; exact hPc, va_K.moved hW.alike hKc, hDc.weaken (fun _ _ _ _ => trivial)⟩⟩ rfl rfl hl.1 rfl (lv_room (Nat.le_of_ble_eq_true rfl)) dX4_takeWord_59 ⟨Nat.zero_le _, Nat.zero_le _⟩) hS (fun q _ h => hFc q h) hFc (fun u t H1 locs ht hvm hw hB hz1 hk1 hS => ?_)
      obtain ⟨s1_10, e1_11, hf_12, hf_13, hf_14, hP1, hK1, hD1⟩ := hB
      rw [ht] at hP1
      obtain ⟨hP, hD⟩ := va_join (wr := []) (w1 := [(h0, .inr (5, [.ref ta, .int (nI s1_10), .int (nI e1_11)])), (ta, .inr (6, [.ref ab, .int (nI tp)])), (ab, .inl (cB, 300, .inl fb))]) hP hD [0, 1, 2] [] rfl rfl (by decide) (by decide) hk1 hFc hP1 hD1
      generalize H1 = H at hP hS ⊢
      have hP : va_P (dC, dI) vwCl [(h0, .inr (5, [.ref ta, .int (nI s1_10), .int (nI e1_11)])), (ta, .inr (6, [.ref ab, .int (nI tp)])), (ab, .inl (cB, 300, .inl fb))] H := hP
      have hD : va_D A [(h0, .inr (5, [.ref ta, .int (nI s1_10), .int (nI e1_11)])), (ta, .inr (6, [.ref ab, .int (nI tp)])), (ab, .inl (cB, 300, .inl fb))] := hD
      refine lv_iconst (v := 1) hx hb dX4_takeWord_62 (by decide) ?_
      have hP9 := hP.sub (ws' := [(h0, .inr (5, [.ref ta, .int (nI s1_10), .int (nI e1_11)])), (ta, .inr (6, [.ref ab, .int (nI tp)])), (ab, .inl (cB, 300, .inl fb))]) [0, 1, 2] rfl
      have hD9 := hD.sub (ws' := [(h0, .inr (5, [.ref ta, .int (nI s1_10), .int (nI e1_11)])), (ta, .inr (6, [.ref ab, .int (nI tp)])), (ab, .inl (cB, 300, .inl fb))]) [0, 1, 2] (by decide) rfl
      have hK9 := hK.sub (tys' := [(cB, .int)]) [0] rfl
      exact W.zret (v := 1) (ty := .boolean) hx hb hr rfl (fun t ht hW => ⟨⟨1, (), rfl, Or.inr rfl, s1_10, e1_11, (by omega), (by omega), (by assumption), by rw [ht]; exact hP9, va_K.moved hW.alike hK9, hD9⟩, hS.F ht⟩) hS.2.2 dX4_takeWord_63
  · have c_3 : ¬ (e0 - s0 = sn) := fun h => c_3 ((nI_eq (a := e0 - s0) (b := sn) (by omega) (by omega)).mpr h)
    refine lv_iconst (v := 0) hx hb dX4_takeWord_16 (by decide) ?_
    have hP9 := hP.sub (ws' := [(h0, .inr (5, [.ref ta, .int (nI s0), .int (nI e0)])), (ta, .inr (6, [.ref ab, .int (nI tp)])), (ab, .inl (cB, 300, .inl fb))]) [0, 1, 2] rfl
    have hD9 := hD.sub (ws' := [(h0, .inr (5, [.ref ta, .int (nI s0), .int (nI e0)])), (ta, .inr (6, [.ref ab, .int (nI tp)])), (ab, .inl (cB, 300, .inl fb))]) [0, 1, 2] (by decide) rfl
    have hK9 := hK.sub (tys' := [(cB, .int)]) [0] rfl
    exact W.zret (v := 0) (ty := .boolean) hx hb hr rfl (fun t ht hW => ⟨⟨0, (), rfl, Or.inl rfl, s0, e0, (by omega), (by omega), (by assumption), by rw [ht]; exact hP9, va_K.moved hW.alike hK9, hD9⟩, hS.F ht⟩) hS.2.2 dX4_takeWord_17
