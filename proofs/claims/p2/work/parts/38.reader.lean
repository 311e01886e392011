theorem dX4_kindOf_0 : decode cX4_kindOf 0 = .ok (.iload_n 0, 1) := by decide +kernel
theorem dX4_kindOf_1 : decode cX4_kindOf 1 = .ok (.bipush 97, 2) := by decide +kernel
theorem dX4_kindOf_3 : decode cX4_kindOf 3 = .ok (.if_icmp .lt 11, 3) := by decide +kernel
theorem dX4_kindOf_14 : decode cX4_kindOf 14 = .ok (.iload_n 0, 1) := by decide +kernel
theorem dX4_kindOf_15 : decode cX4_kindOf 15 = .ok (.bipush 48, 2) := by decide +kernel
theorem dX4_kindOf_17 : decode cX4_kindOf 17 = .ok (.if_icmp .lt 13, 3) := by decide +kernel
theorem dX4_kindOf_30 : decode cX4_kindOf 30 = .ok (.iconst 2, 1) := by decide +kernel
theorem dX4_kindOf_31 : decode cX4_kindOf 31 = .ok (.ireturn, 1) := by decide +kernel
theorem dX4_kindOf_20 : decode cX4_kindOf 20 = .ok (.iload_n 0, 1) := by decide +kernel
theorem dX4_kindOf_21 : decode cX4_kindOf 21 = .ok (.bipush 57, 2) := by decide +kernel
theorem dX4_kindOf_23 : decode cX4_kindOf 23 = .ok (.if_icmp .gt 7, 3) := by decide +kernel
theorem dX4_kindOf_26 : decode cX4_kindOf 26 = .ok (.iconst 1, 1) := by decide +kernel
theorem dX4_kindOf_27 : decode cX4_kindOf 27 = .ok (.goto 4, 3) := by decide +kernel
theorem dX4_kindOf_6 : decode cX4_kindOf 6 = .ok (.iload_n 0, 1) := by decide +kernel
theorem dX4_kindOf_7 : decode cX4_kindOf 7 = .ok (.bipush 122, 2) := by decide +kernel
theorem dX4_kindOf_9 : decode cX4_kindOf 9 = .ok (.if_icmp .gt 5, 3) := by decide +kernel
theorem dX4_kindOf_12 : decode cX4_kindOf 12 = .ok (.iconst 0, 1) := by decide +kernel
theorem dX4_kindOf_13 : decode cX4_kindOf 13 = .ok (.ireturn, 1) := by decide +kernel
theorem dX4_step_8 : decode cX4_step 8 = .ok (.aload_n 0, 1) := by decide +kernel
theorem dX4_step_9 : decode cX4_step 9 = .ok (.getfield 9, 3) := by decide +kernel
theorem dX4_step_12 : decode cX4_step 12 = .ok (.aload_n 0, 1) := by decide +kernel
theorem dX4_step_13 : decode cX4_step 13 = .ok (.getfield 18, 3) := by decide +kernel
theorem dX4_step_16 : decode cX4_step 16 = .ok (.getfield 35, 3) := by decide +kernel
theorem dX4_step_19 : decode cX4_step 19 = .ok (.if_icmp .ge 33, 3) := by decide +kernel
theorem dX4_step_22 : decode cX4_step 22 = .ok (.aload_n 0, 1) := by decide +kernel
theorem dX4_step_23 : decode cX4_step 23 = .ok (.getfield 18, 3) := by decide +kernel
theorem dX4_step_26 : decode cX4_step 26 = .ok (.getfield 109, 3) := by decide +kernel
theorem dX4_step_29 : decode cX4_step 29 = .ok (.aload_n 0, 1) := by decide +kernel
theorem dX4_step_30 : decode cX4_step 30 = .ok (.getfield 9, 3) := by decide +kernel
theorem dX4_step_33 : decode cX4_step 33 = .ok (.iaload, 1) := by decide +kernel
theorem dX4_step_34 : decode cX4_step 34 = .ok (.bipush 32, 2) := by decide +kernel
theorem dX4_step_36 : decode cX4_step 36 = .ok (.if_icmp .ne 16, 3) := by decide +kernel
theorem dX4_step_39 : decode cX4_step 39 = .ok (.aload_n 0, 1) := by decide +kernel
theorem dX4_step_40 : decode cX4_step 40 = .ok (.dup, 1) := by decide +kernel
theorem dX4_step_41 : decode cX4_step 41 = .ok (.getfield 9, 3) := by decide +kernel
theorem dX4_step_44 : decode cX4_step 44 = .ok (.iconst 1, 1) := by decide +kernel
theorem dX4_step_45 : decode cX4_step 45 = .ok (.iadd, 1) := by decide +kernel
theorem dX4_step_46 : decode cX4_step 46 = .ok (.putfield 9, 3) := by decide +kernel
theorem dX4_step_49 : decode cX4_step 49 = .ok (.goto (-41), 3) := by decide +kernel
theorem dX4_step_101 : decode cX4_step 101 = .ok (.iload_n 1, 1) := by decide +kernel
theorem dX4_step_102 : decode cX4_step 102 = .ok (.iconst 2, 1) := by decide +kernel
theorem dX4_step_103 : decode cX4_step 103 = .ok (.if_icmp .eq 49, 3) := by decide +kernel
theorem dX4_step_106 : decode cX4_step 106 = .ok (.aload_n 0, 1) := by decide +kernel
theorem dX4_step_107 : decode cX4_step 107 = .ok (.getfield 15, 3) := by decide +kernel
theorem dX4_step_110 : decode cX4_step 110 = .ok (.aload_n 0, 1) := by decide +kernel
theorem dX4_step_111 : decode cX4_step 111 = .ok (.getfield 18, 3) := by decide +kernel
theorem dX4_step_114 : decode cX4_step 114 = .ok (.getfield 35, 3) := by decide +kernel
theorem dX4_step_117 : decode cX4_step 117 = .ok (.if_icmp .ge 35, 3) := by decide +kernel
theorem dX4_step_120 : decode cX4_step 120 = .ok (.aload_n 0, 1) := by decide +kernel
theorem dX4_step_121 : decode cX4_step 121 = .ok (.getfield 18, 3) := by decide +kernel
theorem dX4_step_124 : decode cX4_step 124 = .ok (.getfield 109, 3) := by decide +kernel
theorem dX4_step_127 : decode cX4_step 127 = .ok (.aload_n 0, 1) := by decide +kernel
theorem dX4_step_128 : decode cX4_step 128 = .ok (.getfield 15, 3) := by decide +kernel
theorem dX4_step_131 : decode cX4_step 131 = .ok (.iaload, 1) := by decide +kernel
theorem dX4_step_132 : decode cX4_step 132 = .ok (.invokestatic 121, 3) := by decide +kernel
theorem dX4_step_135 : decode cX4_step 135 = .ok (.iload_n 1, 1) := by decide +kernel
theorem dX4_step_136 : decode cX4_step 136 = .ok (.if_icmp .ne 16, 3) := by decide +kernel
theorem dX4_step_139 : decode cX4_step 139 = .ok (.aload_n 0, 1) := by decide +kernel
theorem dX4_step_140 : decode cX4_step 140 = .ok (.dup, 1) := by decide +kernel
theorem dX4_step_141 : decode cX4_step 141 = .ok (.getfield 15, 3) := by decide +kernel
theorem dX4_step_144 : decode cX4_step 144 = .ok (.iconst 1, 1) := by decide +kernel
theorem dX4_step_145 : decode cX4_step 145 = .ok (.iadd, 1) := by decide +kernel
theorem dX4_step_146 : decode cX4_step 146 = .ok (.putfield 15, 3) := by decide +kernel
theorem dX4_step_149 : decode cX4_step 149 = .ok (.goto (-48), 3) := by decide +kernel
theorem dX4_step_0 : decode cX4_step 0 = .ok (.aload_n 0, 1) := by decide +kernel
theorem dX4_step_1 : decode cX4_step 1 = .ok (.aload_n 0, 1) := by decide +kernel
theorem dX4_step_2 : decode cX4_step 2 = .ok (.getfield 15, 3) := by decide +kernel
theorem dX4_step_5 : decode cX4_step 5 = .ok (.putfield 9, 3) := by decide +kernel
theorem dX4_step_52 : decode cX4_step 52 = .ok (.aload_n 0, 1) := by decide +kernel
theorem dX4_step_53 : decode cX4_step 53 = .ok (.aload_n 0, 1) := by decide +kernel
theorem dX4_step_54 : decode cX4_step 54 = .ok (.getfield 9, 3) := by decide +kernel
theorem dX4_step_57 : decode cX4_step 57 = .ok (.putfield 15, 3) := by decide +kernel
theorem dX4_step_60 : decode cX4_step 60 = .ok (.aload_n 0, 1) := by decide +kernel
theorem dX4_step_61 : decode cX4_step 61 = .ok (.getfield 9, 3) := by decide +kernel
theorem dX4_step_64 : decode cX4_step 64 = .ok (.aload_n 0, 1) := by decide +kernel
theorem dX4_step_65 : decode cX4_step 65 = .ok (.getfield 18, 3) := by decide +kernel
theorem dX4_step_68 : decode cX4_step 68 = .ok (.getfield 35, 3) := by decide +kernel
theorem dX4_step_71 : decode cX4_step 71 = .ok (.if_icmp .lt 4, 3) := by decide +kernel
theorem dX4_step_75 : decode cX4_step 75 = .ok (.aload_n 0, 1) := by decide +kernel
theorem dX4_step_76 : decode cX4_step 76 = .ok (.getfield 18, 3) := by decide +kernel
theorem dX4_step_79 : decode cX4_step 79 = .ok (.getfield 109, 3) := by decide +kernel
theorem dX4_step_82 : decode cX4_step 82 = .ok (.aload_n 0, 1) := by decide +kernel
theorem dX4_step_83 : decode cX4_step 83 = .ok (.getfield 9, 3) := by decide +kernel
theorem dX4_step_86 : decode cX4_step 86 = .ok (.iaload, 1) := by decide +kernel
theorem dX4_step_87 : decode cX4_step 87 = .ok (.invokestatic 121, 3) := by decide +kernel
theorem dX4_step_90 : decode cX4_step 90 = .ok (.istore_n 1, 1) := by decide +kernel
theorem dX4_step_91 : decode cX4_step 91 = .ok (.aload_n 0, 1) := by decide +kernel
theorem dX4_step_92 : decode cX4_step 92 = .ok (.dup, 1) := by decide +kernel
theorem dX4_step_93 : decode cX4_step 93 = .ok (.getfield 15, 3) := by decide +kernel
theorem dX4_step_96 : decode cX4_step 96 = .ok (.iconst 1, 1) := by decide +kernel
theorem dX4_step_97 : decode cX4_step 97 = .ok (.iadd, 1) := by decide +kernel
theorem dX4_step_98 : decode cX4_step 98 = .ok (.putfield 15, 3) := by decide +kernel
theorem dX4_step_152 : decode cX4_step 152 = .ok (.return_, 1) := by decide +kernel
theorem dX4_step_74 : decode cX4_step 74 = .ok (.return_, 1) := by decide +kernel
theorem dX4_takePerson_0 : decode cX4_takePerson 0 = .ok (.aload_n 0, 1) := by decide +kernel
theorem dX4_takePerson_1 : decode cX4_takePerson 1 = .ok (.getfield 15, 3) := by decide +kernel
theorem dX4_takePerson_4 : decode cX4_takePerson 4 = .ok (.aload_n 0, 1) := by decide +kernel
theorem dX4_takePerson_5 : decode cX4_takePerson 5 = .ok (.getfield 9, 3) := by decide +kernel
theorem dX4_takePerson_8 : decode cX4_takePerson 8 = .ok (.isub, 1) := by decide +kernel
theorem dX4_takePerson_9 : decode cX4_takePerson 9 = .ok (.iconst 1, 1) := by decide +kernel
theorem dX4_takePerson_10 : decode cX4_takePerson 10 = .ok (.if_icmp .eq 5, 3) := by decide +kernel
theorem dX4_takePerson_15 : decode cX4_takePerson 15 = .ok (.aload_n 0, 1) := by decide +kernel
theorem dX4_takePerson_16 : decode cX4_takePerson 16 = .ok (.getfield 18, 3) := by decide +kernel
theorem dX4_takePerson_19 : decode cX4_takePerson 19 = .ok (.getfield 109, 3) := by decide +kernel
theorem dX4_takePerson_22 : decode cX4_takePerson 22 = .ok (.aload_n 0, 1) := by decide +kernel
theorem dX4_takePerson_23 : decode cX4_takePerson 23 = .ok (.getfield 9, 3) := by decide +kernel
theorem dX4_takePerson_26 : decode cX4_takePerson 26 = .ok (.iaload, 1) := by decide +kernel
theorem dX4_takePerson_27 : decode cX4_takePerson 27 = .ok (.bipush 97, 2) := by decide +kernel
theorem dX4_takePerson_29 : decode cX4_takePerson 29 = .ok (.isub, 1) := by decide +kernel
theorem dX4_takePerson_30 : decode cX4_takePerson 30 = .ok (.istore_n 1, 1) := by decide +kernel
theorem dX4_takePerson_31 : decode cX4_takePerson 31 = .ok (.iload_n 1, 1) := by decide +kernel
theorem dX4_takePerson_32 : decode cX4_takePerson 32 = .ok (.invokestatic 117, 3) := by decide +kernel
theorem dX4_takePerson_35 : decode cX4_takePerson 35 = .ok (.ifCond .ne 5, 3) := by decide +kernel
theorem dX4_takePerson_40 : decode cX4_takePerson 40 = .ok (.aload_n 0, 1) := by decide +kernel
theorem dX4_takePerson_41 : decode cX4_takePerson 41 = .ok (.invokevirtual 22, 3) := by decide +kernel
theorem dX4_takePerson_44 : decode cX4_takePerson 44 = .ok (.iload_n 1, 1) := by decide +kernel
theorem dX4_takePerson_45 : decode cX4_takePerson 45 = .ok (.ireturn, 1) := by decide +kernel
theorem dX4_takePerson_38 : decode cX4_takePerson 38 = .ok (.iconst (-1), 1) := by decide +kernel
theorem dX4_takePerson_39 : decode cX4_takePerson 39 = .ok (.ireturn, 1) := by decide +kernel
theorem dX4_takePerson_13 : decode cX4_takePerson 13 = .ok (.iconst (-1), 1) := by decide +kernel
theorem dX4_takePerson_14 : decode cX4_takePerson 14 = .ok (.ireturn, 1) := by decide +kernel
theorem dX4_takeNumber_42 : decode cX4_takeNumber 42 = .ok (.iload_n 3, 1) := by decide +kernel
theorem dX4_takeNumber_43 : decode cX4_takeNumber 43 = .ok (.aload_n 0, 1) := by decide +kernel
theorem dX4_takeNumber_44 : decode cX4_takeNumber 44 = .ok (.getfield 15, 3) := by decide +kernel
theorem dX4_takeNumber_47 : decode cX4_takeNumber 47 = .ok (.if_icmp .ge 33, 3) := by decide +kernel
theorem dX4_takeNumber_50 : decode cX4_takeNumber 50 = .ok (.iload_n 2, 1) := by decide +kernel
theorem dX4_takeNumber_51 : decode cX4_takeNumber 51 = .ok (.bipush 10, 2) := by decide +kernel
theorem dX4_takeNumber_53 : decode cX4_takeNumber 53 = .ok (.imul, 1) := by decide +kernel
theorem dX4_takeNumber_54 : decode cX4_takeNumber 54 = .ok (.aload_n 0, 1) := by decide +kernel
theorem dX4_takeNumber_55 : decode cX4_takeNumber 55 = .ok (.getfield 18, 3) := by decide +kernel
theorem dX4_takeNumber_58 : decode cX4_takeNumber 58 = .ok (.getfield 109, 3) := by decide +kernel
theorem dX4_takeNumber_61 : decode cX4_takeNumber 61 = .ok (.iload_n 3, 1) := by decide +kernel
theorem dX4_takeNumber_62 : decode cX4_takeNumber 62 = .ok (.iaload, 1) := by decide +kernel
theorem dX4_takeNumber_63 : decode cX4_takeNumber 63 = .ok (.iadd, 1) := by decide +kernel
theorem dX4_takeNumber_64 : decode cX4_takeNumber 64 = .ok (.bipush 48, 2) := by decide +kernel
theorem dX4_takeNumber_66 : decode cX4_takeNumber 66 = .ok (.isub, 1) := by decide +kernel
theorem dX4_takeNumber_67 : decode cX4_takeNumber 67 = .ok (.sipush 1000, 3) := by decide +kernel
theorem dX4_takeNumber_70 : decode cX4_takeNumber 70 = .ok (.invokestatic 124, 3) := by decide +kernel
theorem dX4_takeNumber_73 : decode cX4_takeNumber 73 = .ok (.istore_n 2, 1) := by decide +kernel
theorem dX4_takeNumber_74 : decode cX4_takeNumber 74 = .ok (.iinc 3 1, 3) := by decide +kernel
theorem dX4_takeNumber_77 : decode cX4_takeNumber 77 = .ok (.goto (-35), 3) := by decide +kernel
theorem dX4_takeNumber_0 : decode cX4_takeNumber 0 = .ok (.aload_n 0, 1) := by decide +kernel
theorem dX4_takeNumber_1 : decode cX4_takeNumber 1 = .ok (.getfield 9, 3) := by decide +kernel
theorem dX4_takeNumber_4 : decode cX4_takeNumber 4 = .ok (.aload_n 0, 1) := by decide +kernel
theorem dX4_takeNumber_5 : decode cX4_takeNumber 5 = .ok (.getfield 18, 3) := by decide +kernel
theorem dX4_takeNumber_8 : decode cX4_takeNumber 8 = .ok (.getfield 35, 3) := by decide +kernel
theorem dX4_takeNumber_11 : decode cX4_takeNumber 11 = .ok (.if_icmp .ge 22, 3) := by decide +kernel
theorem dX4_takeNumber_33 : decode cX4_takeNumber 33 = .ok (.iconst (-1), 1) := by decide +kernel
theorem dX4_takeNumber_34 : decode cX4_takeNumber 34 = .ok (.ireturn, 1) := by decide +kernel
theorem dX4_takeNumber_14 : decode cX4_takeNumber 14 = .ok (.aload_n 0, 1) := by decide +kernel
theorem dX4_takeNumber_15 : decode cX4_takeNumber 15 = .ok (.getfield 18, 3) := by decide +kernel
theorem dX4_takeNumber_18 : decode cX4_takeNumber 18 = .ok (.getfield 109, 3) := by decide +kernel
theorem dX4_takeNumber_21 : decode cX4_takeNumber 21 = .ok (.aload_n 0, 1) := by decide +kernel
theorem dX4_takeNumber_22 : decode cX4_takeNumber 22 = .ok (.getfield 9, 3) := by decide +kernel
theorem dX4_takeNumber_25 : decode cX4_takeNumber 25 = .ok (.iaload, 1) := by decide +kernel
theorem dX4_takeNumber_26 : decode cX4_takeNumber 26 = .ok (.invokestatic 121, 3) := by decide +kernel
theorem dX4_takeNumber_29 : decode cX4_takeNumber 29 = .ok (.iconst 1, 1) := by decide +kernel
theorem dX4_takeNumber_30 : decode cX4_takeNumber 30 = .ok (.if_icmp .eq 5, 3) := by decide +kernel
theorem dX4_takeNumber_35 : decode cX4_takeNumber 35 = .ok (.iconst 0, 1) := by decide +kernel
theorem dX4_takeNumber_36 : decode cX4_takeNumber 36 = .ok (.istore_n 2, 1) := by decide +kernel
theorem dX4_takeNumber_37 : decode cX4_takeNumber 37 = .ok (.aload_n 0, 1) := by decide +kernel
theorem dX4_takeNumber_38 : decode cX4_takeNumber 38 = .ok (.getfield 9, 3) := by decide +kernel
theorem dX4_takeNumber_41 : decode cX4_takeNumber 41 = .ok (.istore_n 3, 1) := by decide +kernel
theorem dX4_takeNumber_80 : decode cX4_takeNumber 80 = .ok (.iload_n 2, 1) := by decide +kernel
theorem dX4_takeNumber_81 : decode cX4_takeNumber 81 = .ok (.iload_n 1, 1) := by decide +kernel
theorem dX4_takeNumber_82 : decode cX4_takeNumber 82 = .ok (.if_icmp .lt 5, 3) := by decide +kernel
theorem dX4_takeNumber_87 : decode cX4_takeNumber 87 = .ok (.aload_n 0, 1) := by decide +kernel
theorem dX4_takeNumber_88 : decode cX4_takeNumber 88 = .ok (.invokevirtual 22, 3) := by decide +kernel
theorem dX4_takeNumber_91 : decode cX4_takeNumber 91 = .ok (.iload_n 2, 1) := by decide +kernel
theorem dX4_takeNumber_92 : decode cX4_takeNumber 92 = .ok (.ireturn, 1) := by decide +kernel
theorem dX4_takeNumber_85 : decode cX4_takeNumber 85 = .ok (.iconst (-1), 1) := by decide +kernel
theorem dX4_takeNumber_86 : decode cX4_takeNumber 86 = .ok (.ireturn, 1) := by decide +kernel
def wp_R_kindOf : List Cond := .code yX4_kindOf cX4_kindOf 1 (some .int) :: (([] : List Cond))
set_option maxRecDepth 20000 in
theorem gi_R_kindOf : GoodIn lw_tbl wp_R_kindOf := (goodIn_r (.code yX4_kindOf cX4_kindOf 1 (some .int) :: ([] : List Cond)) [269] (by decide +kernel) (by decide +kernel))
set_option maxHeartbeats 4000000 in
set_option maxRecDepth 100000 in
/-- kindOf -/
theorem c_R_kindOf (l : Launch) (dC : Nat → ClassId) (dI : Nat → Nat → Nat) (sz : Nat) (p0 : Int32) : Met l yX4_kindOf wp_R_kindOf ({ frames := 0, cells := 0, slots := 0, locals := 0 }) (va_Pc [.int p0] (fun U => U.heap.size = sz ∧ va_P (dC, dI) vwCl [] U.heap ∧ va_K (dC, dI) vwCl [] U ∧ va_D (fun _ => True) [])) (va_Qi (fun (r : Int32) (_ : Unit) => r = 1 ↔ okDi p0) (fun (_ : Unit) (t : State) => va_P (dC, dI) vwCl [] t.heap ∧ va_K (dC, dI) vwCl [] t ∧ va_D (va_A [] sz) []) (va_A [] sz)) 0 0 (va_A [] sz) := by
  refine Met.ofW (cc := cX4_kindOf) (maxL := 1) (ret := (some .int)) (by decide) rfl ?_
  intro p e s m args below meth c s₁ B hml hv
  obtain ⟨rfl, hsz, hP, hK, hD0⟩ := hv
  have hx := B.exec
  have hb := B.bytes
  have hr := B.returns
  have hts := atoms_spec (ws := wp_R_kindOf) B.pre
  have hown : s.vm.findClass RX4 = some m.cls := findClass_of_methodNamed B.named
  have hlocks := B.notSynchronized
  subst hsz
  have hD := hD0.self (sz := s.heap.size)
  generalize hAe : va_A [] s.heap.size = A at hD ⊢
  have hA : ∀ q : Nat, s.heap.size ≤ q → A q := fun q h => by rw [← hAe]; exact Or.inr h
  have hS : va_S A s.heap s.heap [] := va_S.rf
  have hP : va_P (dC, dI) vwCl [] s.heap := hP
  have hl := lv_entry ([.int p0]) (n := 1) (Nat.le_of_ble_eq_true rfl)
  rw [lg_entry_eq]
  generalize (lg_sl ([.int p0]) ++ List.replicate (1 - (lg_sl ([.int p0])).length) Slot.unset).toArray = ls at hl ⊢
  have hl : lv_has ls 1 [(0, .int p0)] := hl
  refine lv_iload_n hx hb dX4_kindOf_0 rfl (lv_at hl 0 rfl) ?_
  refine lv_bipush (v := 97) hx hb dX4_kindOf_1 (by decide) ?_
  refine lv_icmp_lt (tgt := 14) hx hb dX4_kindOf_3 (by decide) (fun c_1 => ?_) (fun c_1 => ?_)
  · refine lv_iload_n hx hb dX4_kindOf_14 rfl (lv_at hl 0 rfl) ?_
    refine lv_bipush (v := 48) hx hb dX4_kindOf_15 (by decide) ?_
    refine lv_icmp_lt (tgt := 30) hx hb dX4_kindOf_17 (by decide) (fun c_2 => ?_) (fun c_2 => ?_)
    · refine lv_iconst (v := 2) hx hb dX4_kindOf_30 (by decide) ?_
      have hP9 := hP.sub (ws' := []) [] rfl
      have hD9 := hD.sub (ws' := []) [] (by decide) rfl
      have hK9 := hK.sub (tys' := []) [] rfl
      exact W.iret (v := 2) hx hb hr (fun t ht hW => ⟨⟨2, (), rfl, kO2a c_2, by rw [ht]; exact hP9, va_K.moved hW.alike hK9, hD9⟩, hS.F ht⟩) hS.2.2 dX4_kindOf_31
    · refine lv_iload_n hx hb dX4_kindOf_20 rfl (lv_at hl 0 rfl) ?_
      refine lv_bipush (v := 57) hx hb dX4_kindOf_21 (by decide) ?_
      refine lv_icmp_gt (tgt := 30) hx hb dX4_kindOf_23 (by decide) (fun c_3 => ?_) (fun c_3 => ?_)
      · refine lv_iconst (v := 2) hx hb dX4_kindOf_30 (by decide) ?_
        have hP9 := hP.sub (ws' := []) [] rfl
        have hD9 := hD.sub (ws' := []) [] (by decide) rfl
        have hK9 := hK.sub (tys' := []) [] rfl
        exact W.iret (v := 2) hx hb hr (fun t ht hW => ⟨⟨2, (), rfl, kO2b c_3, by rw [ht]; exact hP9, va_K.moved hW.alike hK9, hD9⟩, hS.F ht⟩) hS.2.2 dX4_kindOf_31
      · refine lv_iconst (v := 1) hx hb dX4_kindOf_26 (by decide) ?_
        refine lv_goto (tgt := 31) hx hb dX4_kindOf_27 (by decide) ?_
        have hP9 := hP.sub (ws' := []) [] rfl
        have hD9 := hD.sub (ws' := []) [] (by decide) rfl
        have hK9 := hK.sub (tys' := []) [] rfl
        exact W.iret (v := 1) hx hb hr (fun t ht hW => ⟨⟨1, (), rfl, ⟨fun _ => okR (a := 48) (b := 57) (by decide) (by decide) (Int32.not_lt.mp c_2) (Int32.not_lt.mp c_3), fun _ => rfl⟩, by rw [ht]; exact hP9, va_K.moved hW.alike hK9, hD9⟩, hS.F ht⟩) hS.2.2 dX4_kindOf_31
  · refine lv_iload_n hx hb dX4_kindOf_6 rfl (lv_at hl 0 rfl) ?_
    refine lv_bipush (v := 122) hx hb dX4_kindOf_7 (by decide) ?_
    refine lv_icmp_gt (tgt := 14) hx hb dX4_kindOf_9 (by decide) (fun c_4 => ?_) (fun c_4 => ?_)
    · refine lv_iload_n hx hb dX4_kindOf_14 rfl (lv_at hl 0 rfl) ?_
      refine lv_bipush (v := 48) hx hb dX4_kindOf_15 (by decide) ?_
      refine lv_icmp_lt (tgt := 30) hx hb dX4_kindOf_17 (by decide) (fun c_5 => ?_) (fun c_5 => ?_)
      · refine lv_iconst (v := 2) hx hb dX4_kindOf_30 (by decide) ?_
        have hP9 := hP.sub (ws' := []) [] rfl
        have hD9 := hD.sub (ws' := []) [] (by decide) rfl
        have hK9 := hK.sub (tys' := []) [] rfl
        exact W.iret (v := 2) hx hb hr (fun t ht hW => ⟨⟨2, (), rfl, kO2a c_5, by rw [ht]; exact hP9, va_K.moved hW.alike hK9, hD9⟩, hS.F ht⟩) hS.2.2 dX4_kindOf_31
      · refine lv_iload_n hx hb dX4_kindOf_20 rfl (lv_at hl 0 rfl) ?_
        refine lv_bipush (v := 57) hx hb dX4_kindOf_21 (by decide) ?_
        refine lv_icmp_gt (tgt := 30) hx hb dX4_kindOf_23 (by decide) (fun c_6 => ?_) (fun c_6 => ?_)
        · refine lv_iconst (v := 2) hx hb dX4_kindOf_30 (by decide) ?_
          have hP9 := hP.sub (ws' := []) [] rfl
          have hD9 := hD.sub (ws' := []) [] (by decide) rfl
          have hK9 := hK.sub (tys' := []) [] rfl
          exact W.iret (v := 2) hx hb hr (fun t ht hW => ⟨⟨2, (), rfl, kO2b c_6, by rw [ht]; exact hP9, va_K.moved hW.alike hK9, hD9⟩, hS.F ht⟩) hS.2.2 dX4_kindOf_31
        · refine lv_iconst (v := 1) hx hb dX4_kindOf_26 (by decide) ?_
          refine lv_goto (tgt := 31) hx hb dX4_kindOf_27 (by decide) ?_
          have hP9 := hP.sub (ws' := []) [] rfl
          have hD9 := hD.sub (ws' := []) [] (by decide) rfl
          have hK9 := hK.sub (tys' := []) [] rfl
          exact W.iret (v := 1) hx hb hr (fun t ht hW => ⟨⟨1, (), rfl, ⟨fun _ => okR (a := 48) (b := 57) (by decide) (by decide) (Int32.not_lt.mp c_5) (Int32.not_lt.mp c_6), fun _ => rfl⟩, by rw [ht]; exact hP9, va_K.moved hW.alike hK9, hD9⟩, hS.F ht⟩) hS.2.2 dX4_kindOf_31
    · refine lv_iconst (v := 0) hx hb dX4_kindOf_12 (by decide) ?_
      have hP9 := hP.sub (ws' := []) [] rfl
      have hD9 := hD.sub (ws' := []) [] (by decide) rfl
      have hK9 := hK.sub (tys' := []) [] rfl
      exact W.iret (v := 0) hx hb hr (fun t ht hW => ⟨⟨0, (), rfl, kO0 c_1, by rw [ht]; exact hP9, va_K.moved hW.alike hK9, hD9⟩, hS.F ht⟩) hS.2.2 dX4_kindOf_13
def wp_R_step : List Cond := .code yX4_step cX4_step 2 none :: (([.fieldLink RX4 15 "AgreedTalks$Reader" "stop" "I", .fieldLink RX4 9 "AgreedTalks$Reader" "start" "I", .fieldLink RX4 18 "AgreedTalks$Reader" "tape" "LAgreedTalks$Tape;", .fieldLink RX4 35 "AgreedTalks$Tape" "length" "I", .fieldLink RX4 109 "AgreedTalks$Tape" "bytes" "[I"] : List Cond) ++ wsX40 ++ wsX50 ++ (va_wsS RX4 121 yX4_kindOf wp_R_kindOf))
theorem gc_R_step_R_kindOf : GoodIn wp_R_step (va_wsS RX4 121 yX4_kindOf wp_R_kindOf) := goodIn_sub (fun _ h => List.mem_cons_of_mem _ (List.mem_append_right _ h)) (by decide +kernel)
set_option maxRecDepth 20000 in
theorem gi_R_step : GoodIn lw_tbl wp_R_step := (goodIn_ca (goodIn_ca (goodIn_ca (goodIn_r (.code yX4_step cX4_step 2 none :: ([.fieldLink RX4 15 "AgreedTalks$Reader" "stop" "I", .fieldLink RX4 9 "AgreedTalks$Reader" "start" "I", .fieldLink RX4 18 "AgreedTalks$Reader" "tape" "LAgreedTalks$Tape;", .fieldLink RX4 35 "AgreedTalks$Tape" "length" "I", .fieldLink RX4 109 "AgreedTalks$Tape" "bytes" "[I"] : List Cond)) [266, 128, 126, 125, 112, 110] (by decide +kernel) (by decide +kernel)) wi_wsX4) wi_wsX5) (goodIn_app (goodIn_r _ [267, 268, 53] (by decide +kernel) (by decide +kernel)) gi_R_kindOf))
set_option maxHeartbeats 4000000 in
set_option maxRecDepth 100000 in
theorem sg_R_step_8 {p : Program} {l : Launch} {e : Env} {s : State} {m : MethodId} {args : Array Value} {below : List Frame} {meth : Method} {c : Code} {Q : State → Prop} {A : Nat → Prop} {dC : Nat → ClassId} {dI : Nat → Nat → Nat} (h0 : Nat) (ta : Nat) (e0 : Nat) (ab : Nat) (tp : Nat) (cB : ClassId) (fb : Nat → Int32) (sv : Int32) (qtp : tp ≤ 300) (qe : e0 ≤ tp) (hx : p.tables.exec = Jvm.exec) (hb : c.code = cX4_step) (hml : c.maxLocals = 2) (hown : s.vm.findClass RX4 = some m.cls) (hts : ∀ w ∈ wp_R_step, w.before args s = true) (hK : va_K (dC, dI) vwCl [(cB, .int)] s) (hA : ∀ q : Nat, s.heap.size ≤ q → A q) (kk_52 : ∀ (s9 : Nat) (H : Heap) (locs : List Loc) (ls : Array Slot), (s9 ≤ tp) → okPD (dC, dI) vwCl A [(h0, .inr (5, [.ref ta, .int (nI s9), .int (nI e0)])), (ta, .inr (6, [.ref ab, .int (nI tp)])), (ab, .inl (cB, 300, .inl fb))] H → va_S A s.heap H locs → lv_has ls 2 [(0, .ref h0)] → W p l e ({ frames := 1, cells := 0, slots := 0, locals := 30 } : Room) s m args below meth c H locs 0 0 Q (F0 m 52 ls [])) : ∀ (n : Nat) (s9 : Nat) (H : Heap) (locs : List Loc) (ls : Array Slot), tp - s9 < n → (s9 ≤ tp) → okPD (dC, dI) vwCl A [(h0, .inr (5, [.ref ta, .int (nI s9), .int (nI e0)])), (ta, .inr (6, [.ref ab, .int (nI tp)])), (ab, .inl (cB, 300, .inl fb))] H → va_S A s.heap H locs → lv_has ls 2 [(0, .ref h0)] → W p l e ({ frames := 1, cells := 0, slots := 0, locals := 30 } : Room) s m args below meth c H locs 0 0 Q (F0 m 8 ls []) := by
  have hinX4 : ∀ w ∈ u_ws RX4 TX4 3, w ∈ wp_R_step := fun _ h => List.mem_cons_of_mem _ (List.mem_append_left _ (List.mem_append_left _ (List.mem_append_right _ h)))
  have hinX5 : ∀ w ∈ u_ws RX5 TX5 2, w ∈ wp_R_step := fun _ h => List.mem_cons_of_mem _ (List.mem_append_left _ (List.mem_append_right _ h))
  intro n
  induction n with
  | zero =>
    intro s9 H locs ls hn
    exact absurd hn (Nat.not_lt_zero _)
  | succ n ih =>
    intro s9 H locs ls hn hs hPD hS hl
    obtain ⟨hP, hD⟩ := hPD
    refine lv_aload_n hx hb dX4_step_8 rfl (lv_at hl 0 rfl) ?_
    refine va_get (D := (dC, dI)) (ci := 5) (v := .int (nI s9)) (C := RX4) (T := TX4) (N := 3) hx hb hts hinX4 hown hK hP 0 rfl rfl 1 (by decide) (hts (.fieldLink RX4 9 "AgreedTalks$Reader" "start" "I") (by decide +kernel)) (fun _ h9 => h9) rfl dX4_step_9 ?_
    refine lv_aload_n hx hb dX4_step_12 rfl (lv_at hl 0 rfl) ?_
    refine va_get (D := (dC, dI)) (ci := 5) (v := .ref ta) (C := RX4) (T := TX4) (N := 3) hx hb hts hinX4 hown hK hP 0 rfl rfl 0 (by decide) (hts (.fieldLink RX4 18 "AgreedTalks$Reader" "tape" "LAgreedTalks$Tape;") (by decide +kernel)) (fun _ h9 => h9) rfl dX4_step_13 ?_
    refine va_get (D := (dC, dI)) (ci := 6) (v := .int (nI tp)) (C := RX5) (T := TX5) (N := 2) hx hb hts hinX5 hown hK hP 1 rfl rfl 1 (by decide) (hts (.fieldLink RX4 35 "AgreedTalks$Tape" "length" "I") (by decide +kernel)) (fun _ h9 => h9) rfl dX4_step_16 ?_
    refine lv_icmp_ge (tgt := 52) hx hb dX4_step_19 (by decide) (fun c_1 => ?_) (fun c_1 => ?_)
    · have c_1 : tp ≤ s9 := (nI_leI (a := tp) (b := s9) (by omega) (by omega)).mp c_1
      exact kk_52 s9 _ _ _ (by omega) ⟨hP, hD⟩ hS (lv_sub hl [0] rfl)
    · have c_1 : ¬ (tp ≤ s9) := fun h => c_1 ((nI_leI (a := tp) (b := s9) (by omega) (by omega)).mpr h)
      refine lv_aload_n hx hb dX4_step_22 rfl (lv_at hl 0 rfl) ?_
      refine va_get (D := (dC, dI)) (ci := 5) (v := .ref ta) (C := RX4) (T := TX4) (N := 3) hx hb hts hinX4 hown hK hP 0 rfl rfl 0 (by decide) (hts (.fieldLink RX4 18 "AgreedTalks$Reader" "tape" "LAgreedTalks$Tape;") (by decide +kernel)) (fun _ h9 => h9) rfl dX4_step_23 ?_
      refine va_get (D := (dC, dI)) (ci := 6) (v := .ref ab) (C := RX5) (T := TX5) (N := 2) hx hb hts hinX5 hown hK hP 1 rfl rfl 0 (by decide) (hts (.fieldLink RX4 109 "AgreedTalks$Tape" "bytes" "[I") (by decide +kernel)) (fun _ h9 => h9) rfl dX4_step_26 ?_
      refine lv_aload_n hx hb dX4_step_29 rfl (lv_at hl 0 rfl) ?_
      refine va_get (D := (dC, dI)) (ci := 5) (v := .int (nI s9)) (C := RX4) (T := TX4) (N := 3) hx hb hts hinX4 hown hK hP 0 rfl rfl 1 (by decide) (hts (.fieldLink RX4 9 "AgreedTalks$Reader" "start" "I") (by decide +kernel)) (fun _ h9 => h9) rfl dX4_step_30 ?_
      refine va_iald hx hb hK hP 2 0 rfl rfl (vp_in_nI (by omega) (by omega)) dX4_step_33 ?_
      refine lv_topi (fun x_2 ex_2 => ?_)
      rw [show (Int32.toNatClampNeg (nI s9)) = s9 from nI_clamp (by omega)] at ex_2
      refine lv_bipush (v := 32) hx hb dX4_step_34 (by decide) ?_
      refine lv_icmp_ne (tgt := 52) hx hb dX4_step_36 (by decide) (fun c_3 => ?_) (fun c_3 => ?_)
      · exact kk_52 s9 _ _ _ (by omega) ⟨hP, hD⟩ hS (lv_sub hl [0] rfl)
      · refine lv_aload_n hx hb dX4_step_39 rfl (lv_at hl 0 rfl) ?_
        refine lv_dup hx hb dX4_step_40 rfl ?_
        refine va_get (D := (dC, dI)) (ci := 5) (v := .int (nI s9)) (C := RX4) (T := TX4) (N := 3) hx hb hts hinX4 hown hK hP 0 rfl rfl 1 (by decide) (hts (.fieldLink RX4 9 "AgreedTalks$Reader" "start" "I") (by decide +kernel)) (fun _ h9 => h9) rfl dX4_step_41 ?_
        refine lv_iconst (v := 1) hx hb dX4_step_44 (by decide) ?_
        refine lv_iadd hx hb dX4_step_45 ?_
        refine lv_topi (fun x_4 ex_4 => ?_)
        obtain rfl : x_4 = (nI (s9 + 1)) := by rw [ex_4]; exact nI_add _ _
        refine va_put (D := (dC, dI)) (ci := 5) (v := .int (nI (s9 + 1))) (ty := .int) (C := RX4) (T := TX4) (N := 3) hx hb hts hinX4 tyX4 tyX4_ok nmX4 hown hK hP hD hS 0 rfl rfl 1 (by decide) (hts (.fieldLink RX4 9 "AgreedTalks$Reader" "start" "I") (by decide +kernel)) (fun _ h9 => h9) rfl (by decide +kernel) rfl rfl (Nat.le_of_ble_eq_true rfl) dX4_step_46 (fun H locs hP hD hS => ?_)
        have hP : va_P (dC, dI) vwCl [(h0, .inr (5, [.ref ta, .int (nI (s9 + 1)), .int (nI e0)])), (ta, .inr (6, [.ref ab, .int (nI tp)])), (ab, .inl (cB, 300, .inl fb))] H := hP
        have hD : va_D A [(h0, .inr (5, [.ref ta, .int (nI (s9 + 1)), .int (nI e0)])), (ta, .inr (6, [.ref ab, .int (nI tp)])), (ab, .inl (cB, 300, .inl fb))] := hD
        refine lv_goto (tgt := 8) hx hb dX4_step_49 (by decide) ?_
        exact ih (s9 + 1) _ _ _ (by omega) (by omega) ⟨hP, hD⟩ hS (lv_sub hl [0] rfl)
set_option maxHeartbeats 4000000 in
set_option maxRecDepth 100000 in
theorem sg_R_step_101 {p : Program} {l : Launch} {e : Env} {s : State} {m : MethodId} {args : Array Value} {below : List Frame} {meth : Method} {c : Code} {Q : State → Prop} {A : Nat → Prop} {dC : Nat → ClassId} {dI : Nat → Nat → Nat} (h0 : Nat) (ta : Nat) (e0 : Nat) (ab : Nat) (tp : Nat) (cB : ClassId) (fb : Nat → Int32) (sv : Int32) (s9 : Nat) (kv : Int32) (qtp : tp ≤ 300) (qe : e0 ≤ tp) (hx : p.tables.exec = Jvm.exec) (hb : c.code = cX4_step) (hml : c.maxLocals = 2) (hown : s.vm.findClass RX4 = some m.cls) (hts : ∀ w ∈ wp_R_step, w.before args s = true) (hK : va_K (dC, dI) vwCl [(cB, .int)] s) (hA : ∀ q : Nat, s.heap.size ≤ q → A q) (kk_152 : ∀ (e9 : Nat) (H : Heap) (locs : List Loc) (ls : Array Slot), (s9 < e9) → (e9 ≤ tp) → (okT fb s9 e9) → okPD (dC, dI) vwCl A [(h0, .inr (5, [.ref ta, .int (nI s9), .int (nI e9)])), (ta, .inr (6, [.ref ab, .int (nI tp)])), (ab, .inl (cB, 300, .inl fb))] H → va_S A s.heap H locs → lv_has ls 2 [(0, .ref h0)] → W p l e ({ frames := 1, cells := 0, slots := 0, locals := 30 } : Room) s m args below meth c H locs 0 0 Q (F0 m 152 ls [])) : ∀ (n : Nat) (e9 : Nat) (H : Heap) (locs : List Loc) (ls : Array Slot), tp - e9 < n → (s9 < e9) → (e9 ≤ tp) → (okT fb s9 e9) → (kv = 1 ↔ okDi (fb s9)) → okPD (dC, dI) vwCl A [(h0, .inr (5, [.ref ta, .int (nI s9), .int (nI e9)])), (ta, .inr (6, [.ref ab, .int (nI tp)])), (ab, .inl (cB, 300, .inl fb))] H → va_S A s.heap H locs → lv_has ls 2 [(0, .ref h0), (1, .int kv)] → W p l e ({ frames := 1, cells := 0, slots := 0, locals := 30 } : Room) s m args below meth c H locs 0 0 Q (F0 m 101 ls []) := by
  have hinX4 : ∀ w ∈ u_ws RX4 TX4 3, w ∈ wp_R_step := fun _ h => List.mem_cons_of_mem _ (List.mem_append_left _ (List.mem_append_left _ (List.mem_append_right _ h)))
  have hinX5 : ∀ w ∈ u_ws RX5 TX5 2, w ∈ wp_R_step := fun _ h => List.mem_cons_of_mem _ (List.mem_append_left _ (List.mem_append_right _ h))
  intro n
  induction n with
  | zero =>
    intro e9 H locs ls hn
    exact absurd hn (Nat.not_lt_zero _)
  | succ n ih =>
    intro e9 H locs ls hn hs he hT hkv hPD hS hl
    obtain ⟨hP, hD⟩ := hPD
    refine lv_iload_n hx hb dX4_step_101 rfl (lv_at hl 1 rfl) ?_
    refine lv_iconst (v := 2) hx hb dX4_step_102 (by decide) ?_
    refine lv_icmp_eq (tgt := 152) hx hb dX4_step_103 (by decide) (fun c_10 => ?_) (fun c_10 => ?_)
    · exact kk_152 e9 _ _ _ (by omega) (by omega) (by assumption) ⟨hP, hD⟩ hS (lv_sub hl [0] rfl)
    · refine lv_aload_n hx hb dX4_step_106 rfl (lv_at hl 0 rfl) ?_
      refine va_get (D := (dC, dI)) (ci := 5) (v := .int (nI e9)) (C := RX4) (T := TX4) (N := 3) hx hb hts hinX4 hown hK hP 0 rfl rfl 2 (by decide) (hts (.fieldLink RX4 15 "AgreedTalks$Reader" "stop" "I") (by decide +kernel)) (fun _ h9 => h9) rfl dX4_step_107 ?_
      refine lv_aload_n hx hb dX4_step_110 rfl (lv_at hl 0 rfl) ?_
      refine va_get (D := (dC, dI)) (ci := 5) (v := .ref ta) (C := RX4) (T := TX4) (N := 3) hx hb hts hinX4 hown hK hP 0 rfl rfl 0 (by decide) (hts (.fieldLink RX4 18 "AgreedTalks$Reader" "tape" "LAgreedTalks$Tape;") (by decide +kernel)) (fun _ h9 => h9) rfl dX4_step_111 ?_
      refine va_get (D := (dC, dI)) (ci := 6) (v := .int (nI tp)) (C := RX5) (T := TX5) (N := 2) hx hb hts hinX5 hown hK hP 1 rfl rfl 1 (by decide) (hts (.fieldLink RX4 35 "AgreedTalks$Tape" "length" "I") (by decide +kernel)) (fun _ h9 => h9) rfl dX4_step_114 ?_
      refine lv_icmp_ge (tgt := 152) hx hb dX4_step_117 (by decide) (fun c_11 => ?_) (fun c_11 => ?_)
      · have c_11 : tp ≤ e9 := (nI_leI (a := tp) (b := e9) (by omega) (by omega)).mp c_11
        exact kk_152 e9 _ _ _ (by omega) (by omega) (by assumption) ⟨hP, hD⟩ hS (lv_sub hl [0] rfl)
      · have c_11 : ¬ (tp ≤ e9) := fun h => c_11 ((nI_leI (a := tp) (b := e9) (by omega) (by omega)).mpr h)
        refine lv_aload_n hx hb dX4_step_120 rfl (lv_at hl 0 rfl) ?_
        refine va_get (D := (dC, dI)) (ci := 5) (v := .ref ta) (C := RX4) (T := TX4) (N := 3) hx hb hts hinX4 hown hK hP 0 rfl rfl 0 (by decide) (hts (.fieldLink RX4 18 "AgreedTalks$Reader" "tape" "LAgreedTalks$Tape;") (by decide +kernel)) (fun _ h9 => h9) rfl dX4_step_121 ?_
        refine va_get (D := (dC, dI)) (ci := 6) (v := .ref ab) (C := RX5) (T := TX5) (N := 2) hx hb hts hinX5 hown hK hP 1 rfl rfl 0 (by decide) (hts (.fieldLink RX4 109 "AgreedTalks$Tape" "bytes" "[I") (by decide +kernel)) (fun _ h9 => h9) rfl dX4_step_124 ?_
        refine lv_aload_n hx hb dX4_step_127 rfl (lv_at hl 0 rfl) ?_
        refine va_get (D := (dC, dI)) (ci := 5) (v := .int (nI e9)) (C := RX4) (T := TX4) (N := 3) hx hb hts hinX4 hown hK hP 0 rfl rfl 2 (by decide) (hts (.fieldLink RX4 15 "AgreedTalks$Reader" "stop" "I") (by decide +kernel)) (fun _ h9 => h9) rfl dX4_step_128 ?_
        refine va_iald hx hb hK hP 2 0 rfl rfl (vp_in_nI (by omega) (by omega)) dX4_step_131 ?_
        refine lv_topi (fun x_12 ex_12 => ?_)
        rw [show (Int32.toNatClampNeg (nI e9)) = e9 from nI_clamp (by omega)] at ex_12
        have hPc := hP.sub (ws' := []) [] rfl
        have hDc := hD.sub (ws' := []) [] (by decide) rfl
        have hKc := hK.sub (tys' := []) [] rfl
        have hFc := va_free (wc := []) hD hS hA [] rfl
        refine va_calli (va_runS (As := [.int x_12]) (rest := []) ⟨hx, hb, hml, hown, hts⟩ (c_R_kindOf l dC dI _ x_12) (va_cwS 1 hts gc_R_step_R_kindOf rfl rfl rfl (by decide +kernel) ⟨Nat.le_of_ble_eq_true rfl, Nat.le_of_ble_eq_true rfl⟩) ⟨fun a U g mk q => by obtain ⟨q0, q1, qP, qK, qD⟩ := q; exact ⟨q0, q1, qP, va_K.moved (u := U) (U := U.calling g mk a) (Vm.Alike.refl U.vm) qK, qD⟩, fun U hU hW => ⟨rfl, by rw [hU], by rw [hU]; exact hPc, va_K.moved hW.alike hKc, hDc.weaken (fun _ _ _ _ => trivial)⟩⟩ rfl rfl hl.1 rfl (lv_room (Nat.le_of_ble_eq_true rfl)) dX4_step_132 ⟨Nat.zero_le _, Nat.zero_le _⟩) hS (fun q _ h => hFc q h) hFc (fun r_13 u t H1 locs ht hvm hw hB hz1 hk1 hS => ?_)
        obtain ⟨hP1, hK1, hD1⟩ := hB
        rw [ht] at hP1
        obtain ⟨hP, hD⟩ := va_join (wr := [(h0, .inr (5, [.ref ta, .int (nI s9), .int (nI e9)])), (ta, .inr (6, [.ref ab, .int (nI tp)])), (ab, .inl (cB, 300, .inl fb))]) (w1 := []) hP hD [] [0, 1, 2] rfl rfl (by decide) (by decide) hk1 hFc hP1 hD1
        generalize H1 = H at hP hS ⊢
        have hP : va_P (dC, dI) vwCl [(h0, .inr (5, [.ref ta, .int (nI s9), .int (nI e9)])), (ta, .inr (6, [.ref ab, .int (nI tp)])), (ab, .inl (cB, 300, .inl fb))] H := hP
        have hD : va_D A [(h0, .inr (5, [.ref ta, .int (nI s9), .int (nI e9)])), (ta, .inr (6, [.ref ab, .int (nI tp)])), (ab, .inl (cB, 300, .inl fb))] := hD
        have hr_13 := hw
        try dsimp only at hr_13
        refine lv_iload_n hx hb dX4_step_135 rfl (lv_at hl 1 rfl) ?_
        refine lv_icmp_ne (tgt := 152) hx hb dX4_step_136 (by decide) (fun c_14 => ?_) (fun c_14 => ?_)
        · exact kk_152 e9 _ _ _ (by omega) (by omega) (by assumption) ⟨hP, hD⟩ hS (lv_sub hl [0] rfl)
        · refine lv_aload_n hx hb dX4_step_139 rfl (lv_at hl 0 rfl) ?_
          refine lv_dup hx hb dX4_step_140 rfl ?_
          refine va_get (D := (dC, dI)) (ci := 5) (v := .int (nI e9)) (C := RX4) (T := TX4) (N := 3) hx hb hts hinX4 hown hK hP 0 rfl rfl 2 (by decide) (hts (.fieldLink RX4 15 "AgreedTalks$Reader" "stop" "I") (by decide +kernel)) (fun _ h9 => h9) rfl dX4_step_141 ?_
          refine lv_iconst (v := 1) hx hb dX4_step_144 (by decide) ?_
          refine lv_iadd hx hb dX4_step_145 ?_
          refine lv_topi (fun x_15 ex_15 => ?_)
          obtain rfl : x_15 = (nI (e9 + 1)) := by rw [ex_15]; exact nI_add _ _
          refine va_put (D := (dC, dI)) (ci := 5) (v := .int (nI (e9 + 1))) (ty := .int) (C := RX4) (T := TX4) (N := 3) hx hb hts hinX4 tyX4 tyX4_ok nmX4 hown hK hP hD hS 0 rfl rfl 2 (by decide) (hts (.fieldLink RX4 15 "AgreedTalks$Reader" "stop" "I") (by decide +kernel)) (fun _ h9 => h9) rfl (by decide +kernel) rfl rfl (Nat.le_of_ble_eq_true rfl) dX4_step_146 (fun H locs hP hD hS => ?_)
          have hP : va_P (dC, dI) vwCl [(h0, .inr (5, [.ref ta, .int (nI s9), .int (nI (e9 + 1))])), (ta, .inr (6, [.ref ab, .int (nI tp)])), (ab, .inl (cB, 300, .inl fb))] H := hP
          have hD : va_D A [(h0, .inr (5, [.ref ta, .int (nI s9), .int (nI (e9 + 1))])), (ta, .inr (6, [.ref ab, .int (nI tp)])), (ab, .inl (cB, 300, .inl fb))] := hD
          refine lv_goto (tgt := 101) hx hb dX4_step_149 (by decide) ?_
          exact ih (e9 + 1) _ _ _ (by omega) (by omega) (by omega) (okT_s hT hkv (by rw [← ex_12, ← c_14]; exact hr_13)) hkv ⟨hP, hD⟩ hS (lv_sub hl [0, 1] rfl)
set_option maxHeartbeats 4000000 in
set_option maxRecDepth 100000 in
/-- step -/
theorem c_R_step (l : Launch) (dC : Nat → ClassId) (dI : Nat → Nat → Nat) (sz : Nat) (h0 : Nat) (ta : Nat) (e0 : Nat) (ab : Nat) (tp : Nat) (cB : ClassId) (fb : Nat → Int32) (sv : Int32) (qtp : tp ≤ 300) (qe : e0 ≤ tp) : Met l yX4_step wp_R_step ({ frames := 1, cells := 0, slots := 0, locals := 30 }) (va_Pc [.ref h0] (fun U => U.heap.size = sz ∧ va_P (dC, dI) vwCl [(h0, .inr (5, [.ref ta, .int sv, .int (nI e0)])), (ta, .inr (6, [.ref ab, .int (nI tp)])), (ab, .inl (cB, 300, .inl fb))] U.heap ∧ va_K (dC, dI) vwCl [(cB, .int)] U ∧ va_D (fun _ => True) [(h0, .inr (5, [.ref ta, .int sv, .int (nI e0)])), (ta, .inr (6, [.ref ab, .int (nI tp)])), (ab, .inl (cB, 300, .inl fb))])) (va_Qv (fun (_ : Unit) => True) (fun (_ : Unit) (t : State) => ∃ (s1 : Nat), ∃ (e1 : Nat), (s1 ≤ e1) ∧ (e1 ≤ tp) ∧ (okT fb s1 e1) ∧ va_P (dC, dI) vwCl [(h0, .inr (5, [.ref ta, .int (nI s1), .int (nI e1)])), (ta, .inr (6, [.ref ab, .int (nI tp)])), (ab, .inl (cB, 300, .inl fb))] t.heap ∧ va_K (dC, dI) vwCl [(cB, .int)] t ∧ va_D (va_A [(h0, .inr (5, [.ref ta, .int sv, .int (nI e0)])), (ta, .inr (6, [.ref ab, .int (nI tp)])), (ab, .inl (cB, 300, .inl fb))] sz) [(h0, .inr (5, [.ref ta, .int (nI s1), .int (nI e1)])), (ta, .inr (6, [.ref ab, .int (nI tp)])), (ab, .inl (cB, 300, .inl fb))]) (va_A [(h0, .inr (5, [.ref ta, .int sv, .int (nI e0)])), (ta, .inr (6, [.ref ab, .int (nI tp)])), (ab, .inl (cB, 300, .inl fb))] sz)) 0 0 (va_A [(h0, .inr (5, [.ref ta, .int sv, .int (nI e0)])), (ta, .inr (6, [.ref ab, .int (nI tp)])), (ab, .inl (cB, 300, .inl fb))] sz) := by
  refine Met.ofW (cc := cX4_step) (maxL := 2) (ret := none) (by decide) rfl ?_
  intro p e s m args below meth c s₁ B hml hv
  obtain ⟨rfl, hsz, hP, hK, hD0⟩ := hv
  have hx := B.exec
  have hb := B.bytes
  have hr := B.returns
  have hts := atoms_spec (ws := wp_R_step) B.pre
  have hown : s.vm.findClass RX4 = some m.cls := findClass_of_methodNamed B.named
  have hlocks := B.notSynchronized
  subst hsz
  have hD := hD0.self (sz := s.heap.size)
  generalize hAe : va_A [(h0, .inr (5, [.ref ta, .int sv, .int (nI e0)])), (ta, .inr (6, [.ref ab, .int (nI tp)])), (ab, .inl (cB, 300, .inl fb))] s.heap.size = A at hD ⊢
  have hA : ∀ q : Nat, s.heap.size ≤ q → A q := fun q h => by rw [← hAe]; exact Or.inr h
  have hS : va_S A s.heap s.heap [] := va_S.rf
  have hP : va_P (dC, dI) vwCl [(h0, .inr (5, [.ref ta, .int sv, .int (nI e0)])), (ta, .inr (6, [.ref ab, .int (nI tp)])), (ab, .inl (cB, 300, .inl fb))] s.heap := hP
  have hl := lv_entry ([.ref h0]) (n := 2) (Nat.le_of_ble_eq_true rfl)
  rw [lg_entry_eq]
  generalize (lg_sl ([.ref h0]) ++ List.replicate (2 - (lg_sl ([.ref h0])).length) Slot.unset).toArray = ls at hl ⊢
  have hl : lv_has ls 2 [(0, .ref h0)] := hl
  have hinX4 : ∀ w ∈ u_ws RX4 TX4 3, w ∈ wp_R_step := fun _ h => List.mem_cons_of_mem _ (List.mem_append_left _ (List.mem_append_left _ (List.mem_append_right _ h)))
  have hinX5 : ∀ w ∈ u_ws RX5 TX5 2, w ∈ wp_R_step := fun _ h => List.mem_cons_of_mem _ (List.mem_append_left _ (List.mem_append_right _ h))
  refine lv_aload_n hx hb dX4_step_0 rfl (lv_at hl 0 rfl) ?_
  refine lv_aload_n hx hb dX4_step_1 rfl (lv_at hl 0 rfl) ?_
  refine va_get (D := (dC, dI)) (ci := 5) (v := .int (nI e0)) (C := RX4) (T := TX4) (N := 3) hx hb hts hinX4 hown hK hP 0 rfl rfl 2 (by decide) (hts (.fieldLink RX4 15 "AgreedTalks$Reader" "stop" "I") (by decide +kernel)) (fun _ h9 => h9) rfl dX4_step_2 ?_
  refine va_put (D := (dC, dI)) (ci := 5) (v := .int (nI e0)) (ty := .int) (C := RX4) (T := TX4) (N := 3) hx hb hts hinX4 tyX4 tyX4_ok nmX4 hown hK hP hD hS 0 rfl rfl 1 (by decide) (hts (.fieldLink RX4 9 "AgreedTalks$Reader" "start" "I") (by decide +kernel)) (fun _ h9 => h9) rfl (by decide +kernel) rfl rfl (Nat.le_of_ble_eq_true rfl) dX4_step_5 (fun H locs hP hD hS => ?_)
  have hP : va_P (dC, dI) vwCl [(h0, .inr (5, [.ref ta, .int (nI e0), .int (nI e0)])), (ta, .inr (6, [.ref ab, .int (nI tp)])), (ab, .inl (cB, 300, .inl fb))] H := hP
  have hD : va_D A [(h0, .inr (5, [.ref ta, .int (nI e0), .int (nI e0)])), (ta, .inr (6, [.ref ab, .int (nI tp)])), (ab, .inl (cB, 300, .inl fb))] := hD
  refine sg_R_step_8 h0 ta e0 ab tp cB fb sv qtp qe hx hb hml hown hts hK hA (fun s9_5 H locs ls hs hPD hS hl => ?_) ((tp - e0) + 1) e0 _ _ _ (Nat.lt_succ_self _) (by omega) ⟨hP, hD⟩ hS (lv_sub hl [0] rfl)
  obtain ⟨hP, hD⟩ := hPD
  refine lv_aload_n hx hb dX4_step_52 rfl (lv_at hl 0 rfl) ?_
  refine lv_aload_n hx hb dX4_step_53 rfl (lv_at hl 0 rfl) ?_
  refine va_get (D := (dC, dI)) (ci := 5) (v := .int (nI s9_5)) (C := RX4) (T := TX4) (N := 3) hx hb hts hinX4 hown hK hP 0 rfl rfl 1 (by decide) (hts (.fieldLink RX4 9 "AgreedTalks$Reader" "start" "I") (by decide +kernel)) (fun _ h9 => h9) rfl dX4_step_54 ?_
  refine va_put (D := (dC, dI)) (ci := 5) (v := .int (nI s9_5)) (ty := .int) (C := RX4) (T := TX4) (N := 3) hx hb hts hinX4 tyX4 tyX4_ok nmX4 hown hK hP hD hS 0 rfl rfl 2 (by decide) (hts (.fieldLink RX4 15 "AgreedTalks$Reader" "stop" "I") (by decide +kernel)) (fun _ h9 => h9) rfl (by decide +kernel) rfl rfl (Nat.le_of_ble_eq_true rfl) dX4_step_57 (fun H locs hP hD hS => ?_)
  have hP : va_P (dC, dI) vwCl [(h0, .inr (5, [.ref ta, .int (nI s9_5), .int (nI s9_5)])), (ta, .inr (6, [.ref ab, .int (nI tp)])), (ab, .inl (cB, 300, .inl fb))] H := hP
  have hD : va_D A [(h0, .inr (5, [.ref ta, .int (nI s9_5), .int (nI s9_5)])), (ta, .inr (6, [.ref ab, .int (nI tp)])), (ab, .inl (cB, 300, .inl fb))] := hD
  refine lv_aload_n hx hb dX4_step_60 rfl (lv_at hl 0 rfl) ?_
  refine va_get (D := (dC, dI)) (ci := 5) (v := .int (nI s9_5)) (C := RX4) (T := TX4) (N := 3) hx hb hts hinX4 hown hK hP 0 rfl rfl 1 (by decide) (hts (.fieldLink RX4 9 "AgreedTalks$Reader" "start" "I") (by decide +kernel)) (fun _ h9 => h9) rfl dX4_step_61 ?_
  refine lv_aload_n hx hb dX4_step_64 rfl (lv_at hl 0 rfl) ?_
  refine va_get (D := (dC, dI)) (ci := 5) (v := .ref ta) (C := RX4) (T := TX4) (N := 3) hx hb hts hinX4 hown hK hP 0 rfl rfl 0 (by decide) (hts (.fieldLink RX4 18 "AgreedTalks$Reader" "tape" "LAgreedTalks$Tape;") (by decide +kernel)) (fun _ h9 => h9) rfl dX4_step_65 ?_
  refine va_get (D := (dC, dI)) (ci := 6) (v := .int (nI tp)) (C := RX5) (T := TX5) (N := 2) hx hb hts hinX5 hown hK hP 1 rfl rfl 1 (by decide) (hts (.fieldLink RX4 35 "AgreedTalks$Tape" "length" "I") (by decide +kernel)) (fun _ h9 => h9) rfl dX4_step_68 ?_
  refine lv_icmp_lt (tgt := 75) hx hb dX4_step_71 (by decide) (fun c_6 => ?_) (fun c_6 => ?_)
  · have c_6 : s9_5 < tp := (nI_ltI (a := s9_5) (b := tp) (by omega) (by omega)).mp c_6
    refine lv_aload_n hx hb dX4_step_75 rfl (lv_at hl 0 rfl) ?_
    refine va_get (D := (dC, dI)) (ci := 5) (v := .ref ta) (C := RX4) (T := TX4) (N := 3) hx hb hts hinX4 hown hK hP 0 rfl rfl 0 (by decide) (hts (.fieldLink RX4 18 "AgreedTalks$Reader" "tape" "LAgreedTalks$Tape;") (by decide +kernel)) (fun _ h9 => h9) rfl dX4_step_76 ?_
    refine va_get (D := (dC, dI)) (ci := 6) (v := .ref ab) (C := RX5) (T := TX5) (N := 2) hx hb hts hinX5 hown hK hP 1 rfl rfl 0 (by decide) (hts (.fieldLink RX4 109 "AgreedTalks$Tape" "bytes" "[I") (by decide +kernel)) (fun _ h9 => h9) rfl dX4_step_79 ?_
    refine lv_aload_n hx hb dX4_step_82 rfl (lv_at hl 0 rfl) ?_
    refine va_get (D := (dC, dI)) (ci := 5) (v := .int (nI s9_5)) (C := RX4) (T := TX4) (N := 3) hx hb hts hinX4 hown hK hP 0 rfl rfl 1 (by decide) (hts (.fieldLink RX4 9 "AgreedTalks$Reader" "start" "I") (by decide +kernel)) (fun _ h9 => h9) rfl dX4_step_83 ?_
    refine va_iald hx hb hK hP 2 0 rfl rfl (vp_in_nI (by omega) (by omega)) dX4_step_86 ?_
    refine lv_topi (fun x_7 ex_7 => ?_)
    rw [show (Int32.toNatClampNeg (nI s9_5)) = s9_5 from nI_clamp (by omega)] at ex_7
    have hPc := hP.sub (ws' := []) [] rfl
    have hDc := hD.sub (ws' := []) [] (by decide) rfl
    have hKc := hK.sub (tys' := []) [] rfl
    have hFc := va_free (wc := []) hD hS hA [] rfl
    refine va_calli (va_runS (As := [.int x_7]) (rest := []) ⟨hx, hb, hml, hown, hts⟩ (c_R_kindOf l dC dI _ x_7) (va_cwS 1 hts gc_R_step_R_kindOf rfl rfl rfl (by decide +kernel) ⟨Nat.le_of_ble_eq_true rfl, Nat.le_of_ble_eq_true rfl⟩) ⟨fun a U g mk q => by obtain ⟨q0, q1, qP, qK, qD⟩ := q; exact ⟨q0, q1, qP, va_K.moved (u := U) (U := U.calling g mk a) (Vm.Alike.refl U.vm) qK, qD⟩, fun U hU hW => ⟨rfl, by rw [hU], by rw [hU]; exact hPc, va_K.moved hW.alike hKc, hDc.weaken (fun _ _ _ _ => trivial)⟩⟩ rfl rfl hl.1 rfl (lv_room (Nat.le_of_ble_eq_true rfl)) dX4_step_87 ⟨Nat.zero_le _, Nat.zero_le _⟩) hS (fun q _ h => hFc q h) hFc (fun r_8 u t H1 locs ht hvm hw hB hz1 hk1 hS => ?_)
    obtain ⟨hP1, hK1, hD1⟩ := hB
    rw [ht] at hP1
    obtain ⟨hP, hD⟩ := va_join (wr := [(h0, .inr (5, [.ref ta, .int (nI s9_5), .int (nI s9_5)])), (ta, .inr (6, [.ref ab, .int (nI tp)])), (ab, .inl (cB, 300, .inl fb))]) (w1 := []) hP hD [] [0, 1, 2] rfl rfl (by decide) (by decide) hk1 hFc hP1 hD1
    generalize H1 = H at hP hS ⊢
    have hP : va_P (dC, dI) vwCl [(h0, .inr (5, [.ref ta, .int (nI s9_5), .int (nI s9_5)])), (ta, .inr (6, [.ref ab, .int (nI tp)])), (ab, .inl (cB, 300, .inl fb))] H := hP
    have hD : va_D A [(h0, .inr (5, [.ref ta, .int (nI s9_5), .int (nI s9_5)])), (ta, .inr (6, [.ref ab, .int (nI tp)])), (ab, .inl (cB, 300, .inl fb))] := hD
    have hr_8 := hw
    try dsimp only at hr_8
    refine lv_istore_n (lv' := [(1, .int r_8), (0, .ref h0)]) hx hb dX4_step_90 rfl hl (by decide) rfl (fun ls hl => ?_)
    refine lv_aload_n hx hb dX4_step_91 rfl (lv_at hl 1 rfl) ?_
    refine lv_dup hx hb dX4_step_92 rfl ?_
    refine va_get (D := (dC, dI)) (ci := 5) (v := .int (nI s9_5)) (C := RX4) (T := TX4) (N := 3) hx hb hts hinX4 hown hK hP 0 rfl rfl 2 (by decide) (hts (.fieldLink RX4 15 "AgreedTalks$Reader" "stop" "I") (by decide +kernel)) (fun _ h9 => h9) rfl dX4_step_93 ?_
    refine lv_iconst (v := 1) hx hb dX4_step_96 (by decide) ?_
    refine lv_iadd hx hb dX4_step_97 ?_
    refine lv_topi (fun x_9 ex_9 => ?_)
    obtain rfl : x_9 = (nI (s9_5 + 1)) := by rw [ex_9]; exact nI_add _ _
    refine va_put (D := (dC, dI)) (ci := 5) (v := .int (nI (s9_5 + 1))) (ty := .int) (C := RX4) (T := TX4) (N := 3) hx hb hts hinX4 tyX4 tyX4_ok nmX4 hown hK hP hD hS 0 rfl rfl 2 (by decide) (hts (.fieldLink RX4 15 "AgreedTalks$Reader" "stop" "I") (by decide +kernel)) (fun _ h9 => h9) rfl (by decide +kernel) rfl rfl (Nat.le_of_ble_eq_true rfl) dX4_step_98 (fun H locs hP hD hS => ?_)
    have hP : va_P (dC, dI) vwCl [(h0, .inr (5, [.ref ta, .int (nI s9_5), .int (nI (s9_5 + 1))])), (ta, .inr (6, [.ref ab, .int (nI tp)])), (ab, .inl (cB, 300, .inl fb))] H := hP
    have hD : va_D A [(h0, .inr (5, [.ref ta, .int (nI s9_5), .int (nI (s9_5 + 1))])), (ta, .inr (6, [.ref ab, .int (nI tp)])), (ab, .inl (cB, 300, .inl fb))] := hD
    refine sg_R_step_101 h0 ta e0 ab tp cB fb sv s9_5 r_8 qtp qe hx hb hml hown hts hK hA (fun e9_16 H locs ls hs he hT hPD hS hl => ?_) ((tp - (s9_5 + 1)) + 1) (s9_5 + 1) _ _ _ (Nat.lt_succ_self _) (by omega) (by omega) (okT_1 _ _) (by rw [← ex_7]; exact hr_8) ⟨hP, hD⟩ hS (lv_sub hl [1, 0] rfl)
    obtain ⟨hP, hD⟩ := hPD
    have hP9 := hP.sub (ws' := [(h0, .inr (5, [.ref ta, .int (nI s9_5), .int (nI e9_16)])), (ta, .inr (6, [.ref ab, .int (nI tp)])), (ab, .inl (cB, 300, .inl fb))]) [0, 1, 2] rfl
    have hD9 := hD.sub (ws' := [(h0, .inr (5, [.ref ta, .int (nI s9_5), .int (nI e9_16)])), (ta, .inr (6, [.ref ab, .int (nI tp)])), (ab, .inl (cB, 300, .inl fb))]) [0, 1, 2] (by decide) rfl
    have hK9 := hK.sub (tys' := [(cB, .int)]) [0] rfl
    exact W.vret hx hb hr (fun t ht hW => ⟨⟨(), rfl, trivial, s9_5, e9_16, (by omega), (by omega), (by assumption), by rw [ht]; exact hP9, va_K.moved hW.alike hK9, hD9⟩, hS.F ht⟩) hS.2.2 dX4_step_152
  · have c_6 : ¬ (s9_5 < tp) := fun h => c_6 ((nI_ltI (a := s9_5) (b := tp) (by omega) (by omega)).mpr h)
    have hP9 := hP.sub (ws' := [(h0, .inr (5, [.ref ta, .int (nI s9_5), .int (nI s9_5)])), (ta, .inr (6, [.ref ab, .int (nI tp)])), (ab, .inl (cB, 300, .inl fb))]) [0, 1, 2] rfl
    have hD9 := hD.sub (ws' := [(h0, .inr (5, [.ref ta, .int (nI s9_5), .int (nI s9_5)])), (ta, .inr (6, [.ref ab, .int (nI tp)])), (ab, .inl (cB, 300, .inl fb))]) [0, 1, 2] (by decide) rfl
    have hK9 := hK.sub (tys' := [(cB, .int)]) [0] rfl
    exact W.vret hx hb hr (fun t ht hW => ⟨⟨(), rfl, trivial, s9_5, s9_5, (by omega), (by omega), (okT_0 _ _), by rw [ht]; exact hP9, va_K.moved hW.alike hK9, hD9⟩, hS.F ht⟩) hS.2.2 dX4_step_74
def wp_R_takePerson : List Cond := .code yX4_takePerson cX4_takePerson 2 (some .int) :: (([.fieldLink RX4 15 "AgreedTalks$Reader" "stop" "I", .fieldLink RX4 9 "AgreedTalks$Reader" "start" "I", .fieldLink RX4 18 "AgreedTalks$Reader" "tape" "LAgreedTalks$Tape;", .fieldLink RX4 109 "AgreedTalks$Tape" "bytes" "[I", .initialized RX6, .static yX6_isPerson] : List Cond) ++ wsX40 ++ wsX50 ++ wp_X6_isPerson ++ (wsV RX4 22 RX4 yX4_step wp_R_step))
theorem gc_R_takePerson_X6_isPerson : GoodIn wp_R_takePerson wp_X6_isPerson := goodIn_sub (fun _ h => List.mem_cons_of_mem _ (List.mem_append_left _ (List.mem_append_right _ h))) (by decide +kernel)
theorem gc_R_takePerson_R_step : GoodIn wp_R_takePerson (wsV RX4 22 RX4 yX4_step wp_R_step) := goodIn_sub (fun _ h => List.mem_cons_of_mem _ (List.mem_append_right _ h)) (by decide +kernel)
set_option maxRecDepth 20000 in
theorem gi_R_takePerson : GoodIn lw_tbl wp_R_takePerson := (goodIn_ca (goodIn_ca (goodIn_ca (goodIn_ca (goodIn_r (.code yX4_takePerson cX4_takePerson 2 (some .int) :: ([.fieldLink RX4 15 "AgreedTalks$Reader" "stop" "I", .fieldLink RX4 9 "AgreedTalks$Reader" "start" "I", .fieldLink RX4 18 "AgreedTalks$Reader" "tape" "LAgreedTalks$Tape;", .fieldLink RX4 109 "AgreedTalks$Tape" "bytes" "[I", .initialized RX6, .static yX6_isPerson] : List Cond)) [377, 128, 126, 125, 110, 48, 379] (by decide +kernel) (by decide +kernel)) wi_wsX4) wi_wsX5) gi_X6_isPerson) (goodIn_app (goodIn_r _ [263, 265, 3, 53] (by decide +kernel) (by decide +kernel)) gi_R_step))
set_option maxHeartbeats 4000000 in
set_option maxRecDepth 100000 in
/-- takePerson -/
theorem c_R_takePerson (l : Launch) (dC : Nat → ClassId) (dI : Nat → Nat → Nat) (sz : Nat) (h0 : Nat) (ta : Nat) (s0 : Nat) (e0 : Nat) (ab : Nat) (tp : Nat) (cB : ClassId) (fb : Nat → Int32) (qtp : tp ≤ 300) (qs : s0 ≤ e0) (qe : e0 ≤ tp) (hT : okT fb s0 e0) : Met l yX4_takePerson wp_R_takePerson ({ frames := 2, cells := 0, slots := 0, locals := 60 }) (va_Pc [.ref h0] (fun U => U.heap.size = sz ∧ va_P (dC, dI) vwCl [(h0, .inr (5, [.ref ta, .int (nI s0), .int (nI e0)])), (ta, .inr (6, [.ref ab, .int (nI tp)])), (ab, .inl (cB, 300, .inl fb))] U.heap ∧ va_K (dC, dI) vwCl [(cB, .int)] U ∧ va_D (fun _ => True) [(h0, .inr (5, [.ref ta, .int (nI s0), .int (nI e0)])), (ta, .inr (6, [.ref ab, .int (nI tp)])), (ab, .inl (cB, 300, .inl fb))] ∧ va_Nw (.methodLinkNest RX4 117 yX6_isPerson "AgreedTalks") U)) (va_Qi (fun (r : Int32) (_ : Unit) => r = -1 ∨ ∃ n, n < 12 ∧ r = nI n) (fun (_ : Unit) (t : State) => ∃ (s1 : Nat), ∃ (e1 : Nat), (s1 ≤ e1) ∧ (e1 ≤ tp) ∧ (okT fb s1 e1) ∧ va_P (dC, dI) vwCl [(h0, .inr (5, [.ref ta, .int (nI s1), .int (nI e1)])), (ta, .inr (6, [.ref ab, .int (nI tp)])), (ab, .inl (cB, 300, .inl fb))] t.heap ∧ va_K (dC, dI) vwCl [(cB, .int)] t ∧ va_D (va_A [(h0, .inr (5, [.ref ta, .int (nI s0), .int (nI e0)])), (ta, .inr (6, [.ref ab, .int (nI tp)])), (ab, .inl (cB, 300, .inl fb))] sz) [(h0, .inr (5, [.ref ta, .int (nI s1), .int (nI e1)])), (ta, .inr (6, [.ref ab, .int (nI tp)])), (ab, .inl (cB, 300, .inl fb))]) (va_A [(h0, .inr (5, [.ref ta, .int (nI s0), .int (nI e0)])), (ta, .inr (6, [.ref ab, .int (nI tp)])), (ab, .inl (cB, 300, .inl fb))] sz)) 0 0 (va_A [(h0, .inr (5, [.ref ta, .int (nI s0), .int (nI e0)])), (ta, .inr (6, [.ref ab, .int (nI tp)])), (ab, .inl (cB, 300, .inl fb))] sz) := by
  refine Met.ofW (cc := cX4_takePerson) (maxL := 2) (ret := (some .int)) (by decide) rfl ?_
  intro p e s m args below meth c s₁ B hml hv
  obtain ⟨rfl, hsz, hP, hK, hD0, nw4p⟩ := hv
  have hx := B.exec
  have hb := B.bytes
  have hr := B.returns
  have hts := atoms_spec (ws := wp_R_takePerson) B.pre
  have hown : s.vm.findClass RX4 = some m.cls := findClass_of_methodNamed B.named
  have hlocks := B.notSynchronized
  subst hsz
  have hD := hD0.self (sz := s.heap.size)
  generalize hAe : va_A [(h0, .inr (5, [.ref ta, .int (nI s0), .int (nI e0)])), (ta, .inr (6, [.ref ab, .int (nI tp)])), (ab, .inl (cB, 300, .inl fb))] s.heap.size = A at hD ⊢
  have hA : ∀ q : Nat, s.heap.size ≤ q → A q := fun q h => by rw [← hAe]; exact Or.inr h
  have hS : va_S A s.heap s.heap [] := va_S.rf
  have hP : va_P (dC, dI) vwCl [(h0, .inr (5, [.ref ta, .int (nI s0), .int (nI e0)])), (ta, .inr (6, [.ref ab, .int (nI tp)])), (ab, .inl (cB, 300, .inl fb))] s.heap := hP
  have hl := lv_entry ([.ref h0]) (n := 2) (Nat.le_of_ble_eq_true rfl)
  rw [lg_entry_eq]
  generalize (lg_sl ([.ref h0]) ++ List.replicate (2 - (lg_sl ([.ref h0])).length) Slot.unset).toArray = ls at hl ⊢
  have hl : lv_has ls 2 [(0, .ref h0)] := hl
  have hinX4 : ∀ w ∈ u_ws RX4 TX4 3, w ∈ wp_R_takePerson := fun _ h => List.mem_cons_of_mem _ (List.mem_append_left _ (List.mem_append_left _ (List.mem_append_left _ (List.mem_append_right _ h))))
  have hinX5 : ∀ w ∈ u_ws RX5 TX5 2, w ∈ wp_R_takePerson := fun _ h => List.mem_cons_of_mem _ (List.mem_append_left _ (List.mem_append_left _ (List.mem_append_right _ h)))
  refine lv_aload_n hx hb dX4_takePerson_0 rfl (lv_at hl 0 rfl) ?_
  refine va_get (D := (dC, dI)) (ci := 5) (v := .int (nI e0)) (C := RX4) (T := TX4) (N := 3) hx hb hts hinX4 hown hK hP 0 rfl rfl 2 (by decide) (hts (.fieldLink RX4 15 "AgreedTalks$Reader" "stop" "I") (by decide +kernel)) (fun _ h9 => h9) rfl dX4_takePerson_1 ?_
  refine lv_aload_n hx hb dX4_takePerson_4 rfl (lv_at hl 0 rfl) ?_
  refine va_get (D := (dC, dI)) (ci := 5) (v := .int (nI s0)) (C := RX4) (T := TX4) (N := 3) hx hb hts hinX4 hown hK hP 0 rfl rfl 1 (by decide) (hts (.fieldLink RX4 9 "AgreedTalks$Reader" "start" "I") (by decide +kernel)) (fun _ h9 => h9) rfl dX4_takePerson_5 ?_
  refine lv_isub hx hb dX4_takePerson_8 ?_
  refine lv_topi (fun x_1 ex_1 => ?_)
  obtain rfl : x_1 = (nI (e0 - s0)) := by rw [ex_1]; exact pk_sub (by omega)
  refine lv_iconst (v := 1) hx hb dX4_takePerson_9 (by decide) ?_
  refine lv_icmp_eq (tgt := 15) hx hb dX4_takePerson_10 (by decide) (fun c_2 => ?_) (fun c_2 => ?_)
  · have c_2 : e0 - s0 = 1 := (nI_eq (a := e0 - s0) (b := 1) (by omega) (by omega)).mp c_2
    refine lv_aload_n hx hb dX4_takePerson_15 rfl (lv_at hl 0 rfl) ?_
    refine va_get (D := (dC, dI)) (ci := 5) (v := .ref ta) (C := RX4) (T := TX4) (N := 3) hx hb hts hinX4 hown hK hP 0 rfl rfl 0 (by decide) (hts (.fieldLink RX4 18 "AgreedTalks$Reader" "tape" "LAgreedTalks$Tape;") (by decide +kernel)) (fun _ h9 => h9) rfl dX4_takePerson_16 ?_
    refine va_get (D := (dC, dI)) (ci := 6) (v := .ref ab) (C := RX5) (T := TX5) (N := 2) hx hb hts hinX5 hown hK hP 1 rfl rfl 0 (by decide) (hts (.fieldLink RX4 109 "AgreedTalks$Tape" "bytes" "[I") (by decide +kernel)) (fun _ h9 => h9) rfl dX4_takePerson_19 ?_
    refine lv_aload_n hx hb dX4_takePerson_22 rfl (lv_at hl 0 rfl) ?_
    refine va_get (D := (dC, dI)) (ci := 5) (v := .int (nI s0)) (C := RX4) (T := TX4) (N := 3) hx hb hts hinX4 hown hK hP 0 rfl rfl 1 (by decide) (hts (.fieldLink RX4 9 "AgreedTalks$Reader" "start" "I") (by decide +kernel)) (fun _ h9 => h9) rfl dX4_takePerson_23 ?_
    refine va_iald hx hb hK hP 2 0 rfl rfl (vp_in_nI (by omega) (by omega)) dX4_takePerson_26 ?_
    refine lv_topi (fun x_3 ex_3 => ?_)
    rw [show (Int32.toNatClampNeg (nI s0)) = s0 from nI_clamp (by omega)] at ex_3
    refine lv_bipush (v := 97) hx hb dX4_takePerson_27 (by decide) ?_
    refine lv_isub hx hb dX4_takePerson_29 ?_
    refine lv_topi (fun x_4 ex_4 => ?_)
    refine lv_istore_n (lv' := [(1, .int x_4), (0, .ref h0)]) hx hb dX4_takePerson_30 rfl hl (by decide) rfl (fun ls hl => ?_)
    refine lv_iload_n hx hb dX4_takePerson_31 rfl (lv_at hl 0 rfl) ?_
    have hPc := hP.sub (ws' := []) [] rfl
    have hDc := hD.sub (ws' := []) [] (by decide) rfl
    have hKc := hK.sub (tys' := []) [] rfl
    have hFc := va_free (wc := []) hD hS hA [] rfl
    refine va_calli (va_runSN (As := [.int x_4]) (rest := []) ⟨hx, hb, hml, hown, hts⟩ (c_X6_isPerson l dC dI _ x_4) ⟨va_cnB 1 hts gc_R_takePerson_X6_isPerson rfl rfl rfl nw4p (hts (.initialized RX6) (by decide +kernel)) (by decide +kernel) ⟨Nat.le_of_ble_eq_true rfl, Nat.le_of_ble_eq_true rfl⟩, (hts (.static yX6_isPerson) (by decide +kernel)), trivial⟩ ⟨fun a U g mk q => by obtain ⟨q0, q1, qP, qK, qD⟩ := q; exact ⟨q0, q1, qP, va_K.moved (u := U) (U := U.calling g mk a) (Vm.Alike.refl U.vm) qK, qD⟩, fun U hU hW => ⟨rfl, by rw [hU], by rw [hU]; exact hPc, va_K.moved hW.alike hKc, hDc.weaken (fun _ _ _ _ => trivial)⟩⟩ rfl rfl hl.1 rfl (lv_room (Nat.le_of_ble_eq_true rfl)) dX4_takePerson_32 ⟨Nat.zero_le _, Nat.zero_le _⟩) hS (fun q _ h => hFc q h) hFc (fun r_5 u t H1 locs ht hvm hw hB hz1 hk1 hS => ?_)
    obtain ⟨hP1, hK1, hD1⟩ := hB
    rw [ht] at hP1
    obtain ⟨hP, hD⟩ := va_join (wr := [(h0, .inr (5, [.ref ta, .int (nI s0), .int (nI e0)])), (ta, .inr (6, [.ref ab, .int (nI tp)])), (ab, .inl (cB, 300, .inl fb))]) (w1 := []) hP hD [] [0, 1, 2] rfl rfl (by decide) (by decide) hk1 hFc hP1 hD1
    generalize H1 = H at hP hS ⊢
    have hP : va_P (dC, dI) vwCl [(h0, .inr (5, [.ref ta, .int (nI s0), .int (nI e0)])), (ta, .inr (6, [.ref ab, .int (nI tp)])), (ab, .inl (cB, 300, .inl fb))] H := hP
    have hD : va_D A [(h0, .inr (5, [.ref ta, .int (nI s0), .int (nI e0)])), (ta, .inr (6, [.ref ab, .int (nI tp)])), (ab, .inl (cB, 300, .inl fb))] := hD
    have hr_5 := hw
    try dsimp only at hr_5
    refine lv_if_ne (tgt := 40) hx hb dX4_takePerson_35 (by decide) (fun c_6 => ?_) (fun c_6 => ?_)
    · obtain ⟨n_7, hn_7, en_7⟩ : ∃ n, n < 12 ∧ x_4 = nI n := by
        rcases hr_5 with h | ⟨_, h⟩
        · exact absurd h c_6
        · exact h
      subst en_7
      refine lv_aload_n hx hb dX4_takePerson_40 rfl (lv_at hl 1 rfl) ?_
      have hPc := hP.sub (ws' := [(h0, .inr (5, [.ref ta, .int (nI s0), .int (nI e0)])), (ta, .inr (6, [.ref ab, .int (nI tp)])), (ab, .inl (cB, 300, .inl fb))]) [0, 1, 2] rfl
      have hDc := hD.sub (ws' := [(h0, .inr (5, [.ref ta, .int (nI s0), .int (nI e0)])), (ta, .inr (6, [.ref ab, .int (nI tp)])), (ab, .inl (cB, 300, .inl fb))]) [0, 1, 2] (by decide) rfl
      have hKc := hK.sub (tys' := [(cB, .int)]) [0] rfl
      have hFc := va_free (wc := [(h0, .inr (5, [.ref ta, .int (nI s0), .int (nI e0)])), (ta, .inr (6, [.ref ab, .int (nI tp)])), (ab, .inl (cB, 300, .inl fb))]) hD hS hA [0, 1, 2] rfl
      refine va_callv (va_runV (As := []) (rest := []) ⟨hx, hb, hml, hown, hts⟩ (c_R_step l dC dI _ h0 ta e0 ab tp cB fb (nI s0) (by omega) (by omega)) (cwV 0 hts gc_R_takePerson_R_step rfl rfl rfl (by decide +kernel) ⟨Nat.le_of_ble_eq_true rfl, Nat.le_of_ble_eq_true rfl⟩) ⟨fun a U g mk q => by obtain ⟨q0, q1, qP, qK, qD⟩ := q; exact ⟨q0, q1, qP, va_K.moved (u := U) (U := U.calling g mk a) (Vm.Alike.refl U.vm) qK, qD⟩, va_recv hKc hPc (ci := 5) (q0 := 0) rfl rfl, fun U hU hW => ⟨rfl, by rw [hU], by rw [hU]; exact hPc, va_K.moved hW.alike hKc, hDc.weaken (fun _ _ _ _ => trivial)⟩⟩ rfl rfl hl.1 rfl (lv_room (Nat.le_of_ble_eq_true rfl)) dX4_takePerson_41 ⟨Nat.zero_le _, Nat.zero_le _⟩) hS (fun q _ h => hFc q h) hFc (fun u t H1 locs ht hvm hw hB hz1 hk1 hS => ?_)
      obtain ⟨s1_8, e1_9, hf_10, hf_11, hf_12, hP1, hK1, hD1⟩ := hB
      rw [ht] at hP1
      obtain ⟨hP, hD⟩ := va_join (wr := []) (w1 := [(h0, .inr (5, [.ref ta, .int (nI s1_8), .int (nI e1_9)])), (ta, .inr (6, [.ref ab, .int (nI tp)])), (ab, .inl (cB, 300, .inl fb))]) hP hD [0, 1, 2] [] rfl rfl (by decide) (by decide) hk1 hFc hP1 hD1
      generalize H1 = H at hP hS ⊢
      have hP : va_P (dC, dI) vwCl [(h0, .inr (5, [.ref ta, .int (nI s1_8), .int (nI e1_9)])), (ta, .inr (6, [.ref ab, .int (nI tp)])), (ab, .inl (cB, 300, .inl fb))] H := hP
      have hD : va_D A [(h0, .inr (5, [.ref ta, .int (nI s1_8), .int (nI e1_9)])), (ta, .inr (6, [.ref ab, .int (nI tp)])), (ab, .inl (cB, 300, .inl fb))] := hD
      refine lv_iload_n hx hb dX4_takePerson_44 rfl (lv_at hl 0 rfl) ?_
      have hP9 := hP.sub (ws' := [(h0, .inr (5, [.ref ta, .int (nI s1_8), .int (nI e1_9)])), (ta, .inr (6, [.ref ab, .int (nI tp)])), (ab, .inl (cB, 300, .inl fb))]) [0, 1, 2] rfl
      have hD9 := hD.sub (ws' := [(h0, .inr (5, [.ref ta, .int (nI s1_8), .int (nI e1_9)])), (ta, .inr (6, [.ref ab, .int (nI tp)])), (ab, .inl (cB, 300, .inl fb))]) [0, 1, 2] (by decide) rfl
      have hK9 := hK.sub (tys' := [(cB, .int)]) [0] rfl
      exact W.iret (v := (nI n_7)) hx hb hr (fun t ht hW => ⟨⟨(nI n_7), (), rfl, Or.inr ⟨n_7, by omega, rfl⟩, s1_8, e1_9, (by omega), (by omega), (by assumption), by rw [ht]; exact hP9, va_K.moved hW.alike hK9, hD9⟩, hS.F ht⟩) hS.2.2 dX4_takePerson_45
    · refine lv_iconst (v := (-1)) hx hb dX4_takePerson_38 (by decide) ?_
      have hP9 := hP.sub (ws' := [(h0, .inr (5, [.ref ta, .int (nI s0), .int (nI e0)])), (ta, .inr (6, [.ref ab, .int (nI tp)])), (ab, .inl (cB, 300, .inl fb))]) [0, 1, 2] rfl
      have hD9 := hD.sub (ws' := [(h0, .inr (5, [.ref ta, .int (nI s0), .int (nI e0)])), (ta, .inr (6, [.ref ab, .int (nI tp)])), (ab, .inl (cB, 300, .inl fb))]) [0, 1, 2] (by decide) rfl
      have hK9 := hK.sub (tys' := [(cB, .int)]) [0] rfl
      exact W.iret (v := (-1)) hx hb hr (fun t ht hW => ⟨⟨(-1), (), rfl, Or.inl rfl, s0, e0, (by omega), (by omega), (by assumption), by rw [ht]; exact hP9, va_K.moved hW.alike hK9, hD9⟩, hS.F ht⟩) hS.2.2 dX4_takePerson_39
  · have c_2 : ¬ (e0 - s0 = 1) := fun h => c_2 ((nI_eq (a := e0 - s0) (b := 1) (by omega) (by omega)).mpr h)
    refine lv_iconst (v := (-1)) hx hb dX4_takePerson_13 (by decide) ?_
    have hP9 := hP.sub (ws' := [(h0, .inr (5, [.ref ta, .int (nI s0), .int (nI e0)])), (ta, .inr (6, [.ref ab, .int (nI tp)])), (ab, .inl (cB, 300, .inl fb))]) [0, 1, 2] rfl
    have hD9 := hD.sub (ws' := [(h0, .inr (5, [.ref ta, .int (nI s0), .int (nI e0)])), (ta, .inr (6, [.ref ab, .int (nI tp)])), (ab, .inl (cB, 300, .inl fb))]) [0, 1, 2] (by decide) rfl
    have hK9 := hK.sub (tys' := [(cB, .int)]) [0] rfl
    exact W.iret (v := (-1)) hx hb hr (fun t ht hW => ⟨⟨(-1), (), rfl, Or.inl rfl, s0, e0, (by omega), (by omega), (by assumption), by rw [ht]; exact hP9, va_K.moved hW.alike hK9, hD9⟩, hS.F ht⟩) hS.2.2 dX4_takePerson_14
def wp_R_takeNumber : List Cond := .code yX4_takeNumber cX4_takeNumber 4 (some .int) :: (([.fieldLink RX4 9 "AgreedTalks$Reader" "start" "I", .fieldLink RX4 18 "AgreedTalks$Reader" "tape" "LAgreedTalks$Tape;", .fieldLink RX4 35 "AgreedTalks$Tape" "length" "I", .fieldLink RX4 109 "AgreedTalks$Tape" "bytes" "[I", .fieldLink RX4 15 "AgreedTalks$Reader" "stop" "I", .code Lib.Math.min.name Lib.Math.min.code 2 (some .int), .methodLink RX4 124 Lib.Math.min.name, .static Lib.Math.min.name, .initialized "java/lang/Math"] : List Cond) ++ wsX40 ++ wsX50 ++ (va_wsS RX4 121 yX4_kindOf wp_R_kindOf) ++ (wsV RX4 22 RX4 yX4_step wp_R_step))
theorem gc_R_takeNumber_R_kindOf : GoodIn wp_R_takeNumber (va_wsS RX4 121 yX4_kindOf wp_R_kindOf) := goodIn_sub (fun _ h => List.mem_cons_of_mem _ (List.mem_append_left _ (List.mem_append_right _ h))) (by decide +kernel)
theorem gc_R_takeNumber_R_step : GoodIn wp_R_takeNumber (wsV RX4 22 RX4 yX4_step wp_R_step) := goodIn_sub (fun _ h => List.mem_cons_of_mem _ (List.mem_append_right _ h)) (by decide +kernel)
set_option maxRecDepth 20000 in
theorem gi_R_takeNumber : GoodIn lw_tbl wp_R_takeNumber := (goodIn_ca (goodIn_ca (goodIn_ca (goodIn_ca (goodIn_r (.code yX4_takeNumber cX4_takeNumber 4 (some .int) :: ([.fieldLink RX4 9 "AgreedTalks$Reader" "start" "I", .fieldLink RX4 18 "AgreedTalks$Reader" "tape" "LAgreedTalks$Tape;", .fieldLink RX4 35 "AgreedTalks$Tape" "length" "I", .fieldLink RX4 109 "AgreedTalks$Tape" "bytes" "[I", .fieldLink RX4 15 "AgreedTalks$Reader" "stop" "I", .code Lib.Math.min.name Lib.Math.min.code 2 (some .int), .methodLink RX4 124 Lib.Math.min.name, .static Lib.Math.min.name, .initialized "java/lang/Math"] : List Cond)) [334, 126, 125, 112, 110, 128, 337, 335, 336, 62] (by decide +kernel) (by decide +kernel)) wi_wsX4) wi_wsX5) (goodIn_app (goodIn_r _ [267, 268, 53] (by decide +kernel) (by decide +kernel)) gi_R_kindOf)) (goodIn_app (goodIn_r _ [263, 265, 3, 53] (by decide +kernel) (by decide +kernel)) gi_R_step))
set_option maxHeartbeats 4000000 in
set_option maxRecDepth 100000 in
theorem sg_R_takeNumber_42 {p : Program} {l : Launch} {e : Env} {s : State} {m : MethodId} {args : Array Value} {below : List Frame} {meth : Method} {c : Code} {Q : State → Prop} {A : Nat → Prop} {dC : Nat → ClassId} {dI : Nat → Nat → Nat} (h0 : Nat) (ta : Nat) (s0 : Nat) (e0 : Nat) (ab : Nat) (tp : Nat) (cB : ClassId) (fb : Nat → Int32) (bd : Nat) (qtp : tp ≤ 300) (qs : s0 ≤ e0) (qe : e0 ≤ tp) (hT : okT fb s0 e0) (qb : bd ≤ 1000) (hx : p.tables.exec = Jvm.exec) (hb : c.code = cX4_takeNumber) (hml : c.maxLocals = 4) (hown : s.vm.findClass RX4 = some m.cls) (hts : ∀ w ∈ wp_R_takeNumber, w.before args s = true) (hK : va_K (dC, dI) vwCl [(cB, .int)] s) (hA : ∀ q : Nat, s.heap.size ≤ q → A q) (kk_80 : ∀ (w9 : Nat) (H : Heap) (locs : List Loc) (ls : Array Slot), (w9 ≤ 1000) → okPD (dC, dI) vwCl A [(h0, .inr (5, [.ref ta, .int (nI s0), .int (nI e0)])), (ta, .inr (6, [.ref ab, .int (nI tp)])), (ab, .inl (cB, 300, .inl fb))] H → va_S A s.heap H locs → lv_has ls 4 [(0, .ref h0), (1, .int (nI bd)), (2, .int (nI w9))] → W p l e ({ frames := 2, cells := 0, slots := 0, locals := 60 } : Room) s m args below meth c H locs 0 0 Q (F0 m 80 ls [])) : ∀ (n : Nat) (w9 : Nat) (i9 : Nat) (H : Heap) (locs : List Loc) (ls : Array Slot), e0 - i9 < n → (∀ j, s0 ≤ j → j < e0 → okDi (fb j)) → (w9 ≤ 1000) → (s0 ≤ i9) → (i9 ≤ e0) → okPD (dC, dI) vwCl A [(h0, .inr (5, [.ref ta, .int (nI s0), .int (nI e0)])), (ta, .inr (6, [.ref ab, .int (nI tp)])), (ab, .inl (cB, 300, .inl fb))] H → va_S A s.heap H locs → lv_has ls 4 [(0, .ref h0), (1, .int (nI bd)), (2, .int (nI w9)), (3, .int (nI i9))] → W p l e ({ frames := 2, cells := 0, slots := 0, locals := 60 } : Room) s m args below meth c H locs 0 0 Q (F0 m 42 ls []) := by
  have hinX4 : ∀ w ∈ u_ws RX4 TX4 3, w ∈ wp_R_takeNumber := fun _ h => List.mem_cons_of_mem _ (List.mem_append_left _ (List.mem_append_left _ (List.mem_append_left _ (List.mem_append_right _ h))))
  have hinX5 : ∀ w ∈ u_ws RX5 TX5 2, w ∈ wp_R_takeNumber := fun _ h => List.mem_cons_of_mem _ (List.mem_append_left _ (List.mem_append_left _ (List.mem_append_right _ h)))
  intro n
  induction n with
  | zero =>
    intro w9 i9 H locs ls hn
    exact absurd hn (Nat.not_lt_zero _)
  | succ n ih =>
    intro w9 i9 H locs ls hn hdg hw hi1 hi2 hPD hS hl
    obtain ⟨hP, hD⟩ := hPD
    refine lv_iload_n hx hb dX4_takeNumber_42 rfl (lv_at hl 3 rfl) ?_
    refine lv_aload_n hx hb dX4_takeNumber_43 rfl (lv_at hl 0 rfl) ?_
    refine va_get (D := (dC, dI)) (ci := 5) (v := .int (nI e0)) (C := RX4) (T := TX4) (N := 3) hx hb hts hinX4 hown hK hP 0 rfl rfl 2 (by decide) (hts (.fieldLink RX4 15 "AgreedTalks$Reader" "stop" "I") (by decide +kernel)) (fun _ h9 => h9) rfl dX4_takeNumber_44 ?_
    refine lv_icmp_ge (tgt := 80) hx hb dX4_takeNumber_47 (by decide) (fun c_5 => ?_) (fun c_5 => ?_)
    · have c_5 : e0 ≤ i9 := (nI_leI (a := e0) (b := i9) (by omega) (by omega)).mp c_5
      exact kk_80 w9 _ _ _ (by omega) ⟨hP, hD⟩ hS (lv_sub hl [0, 1, 2] rfl)
    · have c_5 : ¬ (e0 ≤ i9) := fun h => c_5 ((nI_leI (a := e0) (b := i9) (by omega) (by omega)).mpr h)
      refine lv_iload_n hx hb dX4_takeNumber_50 rfl (lv_at hl 2 rfl) ?_
      refine lv_bipush (v := 10) hx hb dX4_takeNumber_51 (by decide) ?_
      refine lv_imul hx hb dX4_takeNumber_53 ?_
      refine lv_topi (fun x_6 ex_6 => ?_)
      obtain rfl : x_6 = (nI (w9 * 10)) := by rw [ex_6]; exact pk_mul _ _
      refine lv_aload_n hx hb dX4_takeNumber_54 rfl (lv_at hl 0 rfl) ?_
      refine va_get (D := (dC, dI)) (ci := 5) (v := .ref ta) (C := RX4) (T := TX4) (N := 3) hx hb hts hinX4 hown hK hP 0 rfl rfl 0 (by decide) (hts (.fieldLink RX4 18 "AgreedTalks$Reader" "tape" "LAgreedTalks$Tape;") (by decide +kernel)) (fun _ h9 => h9) rfl dX4_takeNumber_55 ?_
      refine va_get (D := (dC, dI)) (ci := 6) (v := .ref ab) (C := RX5) (T := TX5) (N := 2) hx hb hts hinX5 hown hK hP 1 rfl rfl 0 (by decide) (hts (.fieldLink RX4 109 "AgreedTalks$Tape" "bytes" "[I") (by decide +kernel)) (fun _ h9 => h9) rfl dX4_takeNumber_58 ?_
      refine lv_iload_n hx hb dX4_takeNumber_61 rfl (lv_at hl 3 rfl) ?_
      refine va_iald hx hb hK hP 2 0 rfl rfl (vp_in_nI (by omega) (by omega)) dX4_takeNumber_62 ?_
      refine lv_topi (fun x_7 ex_7 => ?_)
      rw [show (Int32.toNatClampNeg (nI i9)) = i9 from nI_clamp (by omega)] at ex_7
      obtain ⟨b_8, hb_8a, hb_8b, h9⟩ := hdg (i9) (by omega) (by omega)
      rw [h9] at ex_7
      subst ex_7
      refine lv_iadd hx hb dX4_takeNumber_63 ?_
      refine lv_topi (fun x_9 ex_9 => ?_)
      obtain rfl : x_9 = (nI (w9 * 10 + b_8)) := by rw [ex_9]; exact nI_add _ _
      refine lv_bipush (v := 48) hx hb dX4_takeNumber_64 (by decide) ?_
      refine lv_isub hx hb dX4_takeNumber_66 ?_
      refine lv_topi (fun x_10 ex_10 => ?_)
      obtain rfl : x_10 = (nI (w9 * 10 + b_8 - 48)) := by rw [ex_10]; exact pk_sub (b := 48) (by omega)
      refine lv_sipush (v := 1000) hx hb dX4_takeNumber_67 (by decide) ?_
      refine va_mmin hx hb (hml.trans hl.1.symm) hown (hts (.methodLink RX4 124 Lib.Math.min.name) (by decide +kernel)) (hts (.static Lib.Math.min.name) (by decide +kernel)) (hts (.initialized "java/lang/Math") (by decide +kernel)) (hts _ (List.mem_cons_of_mem _ (List.mem_append_left _ (List.mem_append_left _ (List.mem_append_left _ (List.mem_append_left _ (List.mem_of_getElem? (i := 5) rfl))))))) (Nat.le_of_ble_eq_true rfl) (Nat.le_of_ble_eq_true rfl) (Nat.zero_le _) (Nat.zero_le _) dX4_takeNumber_70 ?_
      refine lv_topi (fun x_11 ex_11 => ?_)
      obtain ⟨n_12, hn_12, h9⟩ := minN (w := w9 * 10 + b_8 - 48) (by omega)
      rw [h9] at ex_11
      subst ex_11
      refine lv_istore_n (lv' := [(2, .int (nI n_12)), (0, .ref h0), (1, .int (nI bd)), (3, .int (nI i9))]) hx hb dX4_takeNumber_73 rfl hl (by decide) rfl (fun ls hl => ?_)
      refine lv_iinc (v := (nI (i9 + 1))) (lv' := [(3, .int (nI (i9 + 1))), (2, .int (nI n_12)), (0, .ref h0), (1, .int (nI bd))]) hx hb dX4_takeNumber_74 hl (k := 3) rfl (nI_1 _) (by decide) rfl (fun ls hl => ?_)
      refine lv_goto (tgt := 42) hx hb dX4_takeNumber_77 (by decide) ?_
      exact ih n_12 (i9 + 1) _ _ _ (by omega) (by assumption) (by omega) (by omega) (by omega) ⟨hP, hD⟩ hS (lv_sub hl [2, 3, 1, 0] rfl)
set_option maxHeartbeats 4000000 in
set_option maxRecDepth 100000 in
/-- takeNumber -/
theorem c_R_takeNumber (l : Launch) (dC : Nat → ClassId) (dI : Nat → Nat → Nat) (sz : Nat) (h0 : Nat) (ta : Nat) (s0 : Nat) (e0 : Nat) (ab : Nat) (tp : Nat) (cB : ClassId) (fb : Nat → Int32) (bd : Nat) (qtp : tp ≤ 300) (qs : s0 ≤ e0) (qe : e0 ≤ tp) (hT : okT fb s0 e0) (qb : bd ≤ 1000) : Met l yX4_takeNumber wp_R_takeNumber ({ frames := 2, cells := 0, slots := 0, locals := 60 }) (va_Pc [.ref h0, .int (nI bd)] (fun U => U.heap.size = sz ∧ va_P (dC, dI) vwCl [(h0, .inr (5, [.ref ta, .int (nI s0), .int (nI e0)])), (ta, .inr (6, [.ref ab, .int (nI tp)])), (ab, .inl (cB, 300, .inl fb))] U.heap ∧ va_K (dC, dI) vwCl [(cB, .int)] U ∧ va_D (fun _ => True) [(h0, .inr (5, [.ref ta, .int (nI s0), .int (nI e0)])), (ta, .inr (6, [.ref ab, .int (nI tp)])), (ab, .inl (cB, 300, .inl fb))])) (va_Qi (fun (r : Int32) (_ : Unit) => r = -1 ∨ ∃ n, n < bd ∧ r = nI n) (fun (_ : Unit) (t : State) => ∃ (s1 : Nat), ∃ (e1 : Nat), (s1 ≤ e1) ∧ (e1 ≤ tp) ∧ (okT fb s1 e1) ∧ va_P (dC, dI) vwCl [(h0, .inr (5, [.ref ta, .int (nI s1), .int (nI e1)])), (ta, .inr (6, [.ref ab, .int (nI tp)])), (ab, .inl (cB, 300, .inl fb))] t.heap ∧ va_K (dC, dI) vwCl [(cB, .int)] t ∧ va_D (va_A [(h0, .inr (5, [.ref ta, .int (nI s0), .int (nI e0)])), (ta, .inr (6, [.ref ab, .int (nI tp)])), (ab, .inl (cB, 300, .inl fb))] sz) [(h0, .inr (5, [.ref ta, .int (nI s1), .int (nI e1)])), (ta, .inr (6, [.ref ab, .int (nI tp)])), (ab, .inl (cB, 300, .inl fb))]) (va_A [(h0, .inr (5, [.ref ta, .int (nI s0), .int (nI e0)])), (ta, .inr (6, [.ref ab, .int (nI tp)])), (ab, .inl (cB, 300, .inl fb))] sz)) 0 0 (va_A [(h0, .inr (5, [.ref ta, .int (nI s0), .int (nI e0)])), (ta, .inr (6, [.ref ab, .int (nI tp)])), (ab, .inl (cB, 300, .inl fb))] sz) := by
  refine Met.ofW (cc := cX4_takeNumber) (maxL := 4) (ret := (some .int)) (by decide) rfl ?_
  intro p e s m args below meth c s₁ B hml hv
  obtain ⟨rfl, hsz, hP, hK, hD0⟩ := hv
  have hx := B.exec
  have hb := B.bytes
  have hr := B.returns
  have hts := atoms_spec (ws := wp_R_takeNumber) B.pre
  have hown : s.vm.findClass RX4 = some m.cls := findClass_of_methodNamed B.named
  have hlocks := B.notSynchronized
  subst hsz
  have hD := hD0.self (sz := s.heap.size)
  generalize hAe : va_A [(h0, .inr (5, [.ref ta, .int (nI s0), .int (nI e0)])), (ta, .inr (6, [.ref ab, .int (nI tp)])), (ab, .inl (cB, 300, .inl fb))] s.heap.size = A at hD ⊢
  have hA : ∀ q : Nat, s.heap.size ≤ q → A q := fun q h => by rw [← hAe]; exact Or.inr h
  have hS : va_S A s.heap s.heap [] := va_S.rf
  have hP : va_P (dC, dI) vwCl [(h0, .inr (5, [.ref ta, .int (nI s0), .int (nI e0)])), (ta, .inr (6, [.ref ab, .int (nI tp)])), (ab, .inl (cB, 300, .inl fb))] s.heap := hP
  have hl := lv_entry ([.ref h0, .int (nI bd)]) (n := 4) (Nat.le_of_ble_eq_true rfl)
  rw [lg_entry_eq]
  generalize (lg_sl ([.ref h0, .int (nI bd)]) ++ List.replicate (4 - (lg_sl ([.ref h0, .int (nI bd)])).length) Slot.unset).toArray = ls at hl ⊢
  have hl : lv_has ls 4 [(0, .ref h0), (1, .int (nI bd))] := hl
  have hinX4 : ∀ w ∈ u_ws RX4 TX4 3, w ∈ wp_R_takeNumber := fun _ h => List.mem_cons_of_mem _ (List.mem_append_left _ (List.mem_append_left _ (List.mem_append_left _ (List.mem_append_right _ h))))
  have hinX5 : ∀ w ∈ u_ws RX5 TX5 2, w ∈ wp_R_takeNumber := fun _ h => List.mem_cons_of_mem _ (List.mem_append_left _ (List.mem_append_left _ (List.mem_append_right _ h)))
  refine lv_aload_n hx hb dX4_takeNumber_0 rfl (lv_at hl 0 rfl) ?_
  refine va_get (D := (dC, dI)) (ci := 5) (v := .int (nI s0)) (C := RX4) (T := TX4) (N := 3) hx hb hts hinX4 hown hK hP 0 rfl rfl 1 (by decide) (hts (.fieldLink RX4 9 "AgreedTalks$Reader" "start" "I") (by decide +kernel)) (fun _ h9 => h9) rfl dX4_takeNumber_1 ?_
  refine lv_aload_n hx hb dX4_takeNumber_4 rfl (lv_at hl 0 rfl) ?_
  refine va_get (D := (dC, dI)) (ci := 5) (v := .ref ta) (C := RX4) (T := TX4) (N := 3) hx hb hts hinX4 hown hK hP 0 rfl rfl 0 (by decide) (hts (.fieldLink RX4 18 "AgreedTalks$Reader" "tape" "LAgreedTalks$Tape;") (by decide +kernel)) (fun _ h9 => h9) rfl dX4_takeNumber_5 ?_
  refine va_get (D := (dC, dI)) (ci := 6) (v := .int (nI tp)) (C := RX5) (T := TX5) (N := 2) hx hb hts hinX5 hown hK hP 1 rfl rfl 1 (by decide) (hts (.fieldLink RX4 35 "AgreedTalks$Tape" "length" "I") (by decide +kernel)) (fun _ h9 => h9) rfl dX4_takeNumber_8 ?_
  refine lv_icmp_ge (tgt := 33) hx hb dX4_takeNumber_11 (by decide) (fun c_1 => ?_) (fun c_1 => ?_)
  · have c_1 : tp ≤ s0 := (nI_leI (a := tp) (b := s0) (by omega) (by omega)).mp c_1
    refine lv_iconst (v := (-1)) hx hb dX4_takeNumber_33 (by decide) ?_
    have hP9 := hP.sub (ws' := [(h0, .inr (5, [.ref ta, .int (nI s0), .int (nI e0)])), (ta, .inr (6, [.ref ab, .int (nI tp)])), (ab, .inl (cB, 300, .inl fb))]) [0, 1, 2] rfl
    have hD9 := hD.sub (ws' := [(h0, .inr (5, [.ref ta, .int (nI s0), .int (nI e0)])), (ta, .inr (6, [.ref ab, .int (nI tp)])), (ab, .inl (cB, 300, .inl fb))]) [0, 1, 2] (by decide) rfl
    have hK9 := hK.sub (tys' := [(cB, .int)]) [0] rfl
    exact W.iret (v := (-1)) hx hb hr (fun t ht hW => ⟨⟨(-1), (), rfl, Or.inl rfl, s0, e0, (by omega), (by omega), (by assumption), by rw [ht]; exact hP9, va_K.moved hW.alike hK9, hD9⟩, hS.F ht⟩) hS.2.2 dX4_takeNumber_34
  · have c_1 : ¬ (tp ≤ s0) := fun h => c_1 ((nI_leI (a := tp) (b := s0) (by omega) (by omega)).mpr h)
    refine lv_aload_n hx hb dX4_takeNumber_14 rfl (lv_at hl 0 rfl) ?_
    refine va_get (D := (dC, dI)) (ci := 5) (v := .ref ta) (C := RX4) (T := TX4) (N := 3) hx hb hts hinX4 hown hK hP 0 rfl rfl 0 (by decide) (hts (.fieldLink RX4 18 "AgreedTalks$Reader" "tape" "LAgreedTalks$Tape;") (by decide +kernel)) (fun _ h9 => h9) rfl dX4_takeNumber_15 ?_
    refine va_get (D := (dC, dI)) (ci := 6) (v := .ref ab) (C := RX5) (T := TX5) (N := 2) hx hb hts hinX5 hown hK hP 1 rfl rfl 0 (by decide) (hts (.fieldLink RX4 109 "AgreedTalks$Tape" "bytes" "[I") (by decide +kernel)) (fun _ h9 => h9) rfl dX4_takeNumber_18 ?_
    refine lv_aload_n hx hb dX4_takeNumber_21 rfl (lv_at hl 0 rfl) ?_
    refine va_get (D := (dC, dI)) (ci := 5) (v := .int (nI s0)) (C := RX4) (T := TX4) (N := 3) hx hb hts hinX4 hown hK hP 0 rfl rfl 1 (by decide) (hts (.fieldLink RX4 9 "AgreedTalks$Reader" "start" "I") (by decide +kernel)) (fun _ h9 => h9) rfl dX4_takeNumber_22 ?_
    refine va_iald hx hb hK hP 2 0 rfl rfl (vp_in_nI (by omega) (by omega)) dX4_takeNumber_25 ?_
    refine lv_topi (fun x_2 ex_2 => ?_)
    rw [show (Int32.toNatClampNeg (nI s0)) = s0 from nI_clamp (by omega)] at ex_2
    have hPc := hP.sub (ws' := []) [] rfl
    have hDc := hD.sub (ws' := []) [] (by decide) rfl
    have hKc := hK.sub (tys' := []) [] rfl
    have hFc := va_free (wc := []) hD hS hA [] rfl
    refine va_calli (va_runS (As := [.int x_2]) (rest := []) ⟨hx, hb, hml, hown, hts⟩ (c_R_kindOf l dC dI _ x_2) (va_cwS 1 hts gc_R_takeNumber_R_kindOf rfl rfl rfl (by decide +kernel) ⟨Nat.le_of_ble_eq_true rfl, Nat.le_of_ble_eq_true rfl⟩) ⟨fun a U g mk q => by obtain ⟨q0, q1, qP, qK, qD⟩ := q; exact ⟨q0, q1, qP, va_K.moved (u := U) (U := U.calling g mk a) (Vm.Alike.refl U.vm) qK, qD⟩, fun U hU hW => ⟨rfl, by rw [hU], by rw [hU]; exact hPc, va_K.moved hW.alike hKc, hDc.weaken (fun _ _ _ _ => trivial)⟩⟩ rfl rfl hl.1 rfl (lv_room (Nat.le_of_ble_eq_true rfl)) dX4_takeNumber_26 ⟨Nat.zero_le _, Nat.zero_le _⟩) hS (fun q _ h => hFc q h) hFc (fun r_3 u t H1 locs ht hvm hw hB hz1 hk1 hS => ?_)
    obtain ⟨hP1, hK1, hD1⟩ := hB
    rw [ht] at hP1
    obtain ⟨hP, hD⟩ := va_join (wr := [(h0, .inr (5, [.ref ta, .int (nI s0), .int (nI e0)])), (ta, .inr (6, [.ref ab, .int (nI tp)])), (ab, .inl (cB, 300, .inl fb))]) (w1 := []) hP hD [] [0, 1, 2] rfl rfl (by decide) (by decide) hk1 hFc hP1 hD1
    generalize H1 = H at hP hS ⊢
    have hP : va_P (dC, dI) vwCl [(h0, .inr (5, [.ref ta, .int (nI s0), .int (nI e0)])), (ta, .inr (6, [.ref ab, .int (nI tp)])), (ab, .inl (cB, 300, .inl fb))] H := hP
    have hD : va_D A [(h0, .inr (5, [.ref ta, .int (nI s0), .int (nI e0)])), (ta, .inr (6, [.ref ab, .int (nI tp)])), (ab, .inl (cB, 300, .inl fb))] := hD
    have hr_3 := hw
    try dsimp only at hr_3
    refine lv_iconst (v := 1) hx hb dX4_takeNumber_29 (by decide) ?_
    refine lv_icmp_eq (tgt := 35) hx hb dX4_takeNumber_30 (by decide) (fun c_4 => ?_) (fun c_4 => ?_)
    · have hdg : ∀ j, s0 ≤ j → j < e0 → okDi (fb j) := hT (by rw [← ex_2]; exact hr_3.mp c_4)
      refine lv_iconst (v := 0) hx hb dX4_takeNumber_35 (by decide) ?_
      refine lv_istore_n (lv' := [(2, .int 0), (0, .ref h0), (1, .int (nI bd))]) hx hb dX4_takeNumber_36 rfl hl (by decide) rfl (fun ls hl => ?_)
      refine lv_aload_n hx hb dX4_takeNumber_37 rfl (lv_at hl 1 rfl) ?_
      refine va_get (D := (dC, dI)) (ci := 5) (v := .int (nI s0)) (C := RX4) (T := TX4) (N := 3) hx hb hts hinX4 hown hK hP 0 rfl rfl 1 (by decide) (hts (.fieldLink RX4 9 "AgreedTalks$Reader" "start" "I") (by decide +kernel)) (fun _ h9 => h9) rfl dX4_takeNumber_38 ?_
      refine lv_istore_n (lv' := [(3, .int (nI s0)), (2, .int 0), (0, .ref h0), (1, .int (nI bd))]) hx hb dX4_takeNumber_41 rfl hl (by decide) rfl (fun ls hl => ?_)
      refine sg_R_takeNumber_42 h0 ta s0 e0 ab tp cB fb bd qtp qs qe hT qb hx hb hml hown hts hK hA (fun w9_13 H locs ls hw hPD hS hl => ?_) ((e0 - s0) + 1) 0 s0 _ _ _ (Nat.lt_succ_self _) (by assumption) (by omega) (by omega) (by omega) ⟨hP, hD⟩ hS (lv_sub hl [2, 3, 1, 0] rfl)
      obtain ⟨hP, hD⟩ := hPD
      refine lv_iload_n hx hb dX4_takeNumber_80 rfl (lv_at hl 2 rfl) ?_
      refine lv_iload_n hx hb dX4_takeNumber_81 rfl (lv_at hl 1 rfl) ?_
      refine lv_icmp_lt (tgt := 87) hx hb dX4_takeNumber_82 (by decide) (fun c_14 => ?_) (fun c_14 => ?_)
      · have c_14 : w9_13 < bd := (nI_ltI (a := w9_13) (b := bd) (by omega) (by omega)).mp c_14
        refine lv_aload_n hx hb dX4_takeNumber_87 rfl (lv_at hl 0 rfl) ?_
        have hPc := hP.sub (ws' := [(h0, .inr (5, [.ref ta, .int (nI s0), .int (nI e0)])), (ta, .inr (6, [.ref ab, .int (nI tp)])), (ab, .inl (cB, 300, .inl fb))]) [0, 1, 2] rfl
        have hDc := hD.sub (ws' := [(h0, .inr (5, [.ref ta, .int (nI s0), .int (nI e0)])), (ta, .inr (6, [.ref ab, .int (nI tp)])), (ab, .inl (cB, 300, .inl fb))]) [0, 1, 2] (by decide) rfl
        have hKc := hK.sub (tys' := [(cB, .int)]) [0] rfl
        have hFc := va_free (wc := [(h0, .inr (5, [.ref ta, .int (nI s0), .int (nI e0)])), (ta, .inr (6, [.ref ab, .int (nI tp)])), (ab, .inl (cB, 300, .inl fb))]) hD hS hA [0, 1, 2] rfl
        refine va_callv (va_runV (As := []) (rest := []) ⟨hx, hb, hml, hown, hts⟩ (c_R_step l dC dI _ h0 ta e0 ab tp cB fb (nI s0) (by omega) (by omega)) (cwV 0 hts gc_R_takeNumber_R_step rfl rfl rfl (by decide +kernel) ⟨Nat.le_of_ble_eq_true rfl, Nat.le_of_ble_eq_true rfl⟩) ⟨fun a U g mk q => by obtain ⟨q0, q1, qP, qK, qD⟩ := q; exact ⟨q0, q1, qP, va_K.moved (u := U) (U := U.calling g mk a) (Vm.Alike.refl U.vm) qK, qD⟩, va_recv hKc hPc (ci := 5) (q0 := 0) rfl rfl, fun U hU hW => ⟨rfl, by rw [hU], by rw [hU]; exact hPc, va_K.moved hW.alike hKc, hDc.weaken (fun _ _ _ _ => trivial)⟩⟩ rfl rfl hl.1 rfl (lv_room (Nat.le_of_ble_eq_true rfl)) dX4_takeNumber_88 ⟨Nat.zero_le _, Nat.zero_le _⟩) hS (fun q _ h => hFc q h) hFc (fun u t H1 locs ht hvm hw hB hz1 hk1 hS => ?_)
        obtain ⟨s1_15, e1_16, hf_17, hf_18, hf_19, hP1, hK1, hD1⟩ := hB
        rw [ht] at hP1
        obtain ⟨hP, hD⟩ := va_join (wr := []) (w1 := [(h0, .inr (5, [.ref ta, .int (nI s1_15), .int (nI e1_16)])), (ta, .inr (6, [.ref ab, .int (nI tp)])), (ab, .inl (cB, 300, .inl fb))]) hP hD [0, 1, 2] [] rfl rfl (by decide) (by decide) hk1 hFc hP1 hD1
        generalize H1 = H at hP hS ⊢
        have hP : va_P (dC, dI) vwCl [(h0, .inr (5, [.ref ta, .int (nI s1_15), .int (nI e1_16)])), (ta, .inr (6, [.ref ab, .int (nI tp)])), (ab, .inl (cB, 300, .inl fb))] H := hP
        have hD : va_D A [(h0, .inr (5, [.ref ta, .int (nI s1_15), .int (nI e1_16)])), (ta, .inr (6, [.ref ab, .int (nI tp)])), (ab, .inl (cB, 300, .inl fb))] := hD
        refine lv_iload_n hx hb dX4_takeNumber_91 rfl (lv_at hl 2 rfl) ?_
        have hP9 := hP.sub (ws' := [(h0, .inr (5, [.ref ta, .int (nI s1_15), .int (nI e1_16)])), (ta, .inr (6, [.ref ab, .int (nI tp)])), (ab, .inl (cB, 300, .inl fb))]) [0, 1, 2] rfl
        have hD9 := hD.sub (ws' := [(h0, .inr (5, [.ref ta, .int (nI s1_15), .int (nI e1_16)])), (ta, .inr (6, [.ref ab, .int (nI tp)])), (ab, .inl (cB, 300, .inl fb))]) [0, 1, 2] (by decide) rfl
        have hK9 := hK.sub (tys' := [(cB, .int)]) [0] rfl
        exact W.iret (v := (nI w9_13)) hx hb hr (fun t ht hW => ⟨⟨(nI w9_13), (), rfl, Or.inr ⟨w9_13, by omega, rfl⟩, s1_15, e1_16, (by omega), (by omega), (by assumption), by rw [ht]; exact hP9, va_K.moved hW.alike hK9, hD9⟩, hS.F ht⟩) hS.2.2 dX4_takeNumber_92
      · have c_14 : ¬ (w9_13 < bd) := fun h => c_14 ((nI_ltI (a := w9_13) (b := bd) (by omega) (by omega)).mpr h)
        refine lv_iconst (v := (-1)) hx hb dX4_takeNumber_85 (by decide) ?_
        have hP9 := hP.sub (ws' := [(h0, .inr (5, [.ref ta, .int (nI s0), .int (nI e0)])), (ta, .inr (6, [.ref ab, .int (nI tp)])), (ab, .inl (cB, 300, .inl fb))]) [0, 1, 2] rfl
        have hD9 := hD.sub (ws' := [(h0, .inr (5, [.ref ta, .int (nI s0), .int (nI e0)])), (ta, .inr (6, [.ref ab, .int (nI tp)])), (ab, .inl (cB, 300, .inl fb))]) [0, 1, 2] (by decide) rfl
        have hK9 := hK.sub (tys' := [(cB, .int)]) [0] rfl
        exact W.iret (v := (-1)) hx hb hr (fun t ht hW => ⟨⟨(-1), (), rfl, Or.inl rfl, s0, e0, (by omega), (by omega), (by assumption), by rw [ht]; exact hP9, va_K.moved hW.alike hK9, hD9⟩, hS.F ht⟩) hS.2.2 dX4_takeNumber_86
    · refine lv_iconst (v := (-1)) hx hb dX4_takeNumber_33 (by decide) ?_
      have hP9 := hP.sub (ws' := [(h0, .inr (5, [.ref ta, .int (nI s0), .int (nI e0)])), (ta, .inr (6, [.ref ab, .int (nI tp)])), (ab, .inl (cB, 300, .inl fb))]) [0, 1, 2] rfl
      have hD9 := hD.sub (ws' := [(h0, .inr (5, [.ref ta, .int (nI s0), .int (nI e0)])), (ta, .inr (6, [.ref ab, .int (nI tp)])), (ab, .inl (cB, 300, .inl fb))]) [0, 1, 2] (by decide) rfl
      have hK9 := hK.sub (tys' := [(cB, .int)]) [0] rfl
      exact W.iret (v := (-1)) hx hb hr (fun t ht hW => ⟨⟨(-1), (), rfl, Or.inl rfl, s0, e0, (by omega), (by omega), (by assumption), by rw [ht]; exact hP9, va_K.moved hW.alike hK9, hD9⟩, hS.F ht⟩) hS.2.2 dX4_takeNumber_34
