theorem dX5_init_0 : decode cX5_init 0 = .ok (.aload_n 0, 1) := by decide +kernel
theorem dX5_init_1 : decode cX5_init 1 = .ok (.invokespecial 3, 3) := by decide +kernel
theorem dX5_init_4 : decode cX5_init 4 = .ok (.aload_n 0, 1) := by decide +kernel
theorem dX5_init_5 : decode cX5_init 5 = .ok (.sipush 300, 3) := by decide +kernel
theorem dX5_init_8 : decode cX5_init 8 = .ok (.newarray .int, 2) := by decide +kernel
theorem dX5_init_10 : decode cX5_init 10 = .ok (.putfield 9, 3) := by decide +kernel
theorem dX5_init_13 : decode cX5_init 13 = .ok (.aload_n 0, 1) := by decide +kernel
theorem dX5_init_14 : decode cX5_init 14 = .ok (.iconst 0, 1) := by decide +kernel
theorem dX5_init_15 : decode cX5_init 15 = .ok (.putfield 15, 3) := by decide +kernel
theorem dX5_init_18 : decode cX5_init 18 = .ok (.return_, 1) := by decide +kernel
theorem dX4_init_0 : decode cX4_init 0 = .ok (.aload_n 0, 1) := by decide +kernel
theorem dX4_init_1 : decode cX4_init 1 = .ok (.invokespecial 3, 3) := by decide +kernel
theorem dX4_init_4 : decode cX4_init 4 = .ok (.aload_n 0, 1) := by decide +kernel
theorem dX4_init_5 : decode cX4_init 5 = .ok (.iconst 0, 1) := by decide +kernel
theorem dX4_init_6 : decode cX4_init 6 = .ok (.putfield 9, 3) := by decide +kernel
theorem dX4_init_9 : decode cX4_init 9 = .ok (.aload_n 0, 1) := by decide +kernel
theorem dX4_init_10 : decode cX4_init 10 = .ok (.iconst 0, 1) := by decide +kernel
theorem dX4_init_11 : decode cX4_init 11 = .ok (.putfield 15, 3) := by decide +kernel
theorem dX4_init_14 : decode cX4_init 14 = .ok (.aload_n 0, 1) := by decide +kernel
theorem dX4_init_15 : decode cX4_init 15 = .ok (.aload_n 1, 1) := by decide +kernel
theorem dX4_init_16 : decode cX4_init 16 = .ok (.putfield 18, 3) := by decide +kernel
theorem dX4_init_19 : decode cX4_init 19 = .ok (.return_, 1) := by decide +kernel
theorem dX1_init_0 : decode cX1_init 0 = .ok (.aload_n 0, 1) := by decide +kernel
theorem dX1_init_1 : decode cX1_init 1 = .ok (.invokespecial 3, 3) := by decide +kernel
theorem dX1_init_4 : decode cX1_init 4 = .ok (.aload_n 0, 1) := by decide +kernel
theorem dX1_init_5 : decode cX1_init 5 = .ok (.bipush 40, 2) := by decide +kernel
theorem dX1_init_7 : decode cX1_init 7 = .ok (.newarray .int, 2) := by decide +kernel
theorem dX1_init_9 : decode cX1_init 9 = .ok (.putfield 9, 3) := by decide +kernel
theorem dX1_init_12 : decode cX1_init 12 = .ok (.aload_n 0, 1) := by decide +kernel
theorem dX1_init_13 : decode cX1_init 13 = .ok (.bipush 40, 2) := by decide +kernel
theorem dX1_init_15 : decode cX1_init 15 = .ok (.newarray .int, 2) := by decide +kernel
theorem dX1_init_17 : decode cX1_init 17 = .ok (.putfield 15, 3) := by decide +kernel
theorem dX1_init_20 : decode cX1_init 20 = .ok (.aload_n 0, 1) := by decide +kernel
theorem dX1_init_21 : decode cX1_init 21 = .ok (.bipush 40, 2) := by decide +kernel
theorem dX1_init_23 : decode cX1_init 23 = .ok (.newarray .int, 2) := by decide +kernel
theorem dX1_init_25 : decode cX1_init 25 = .ok (.putfield 18, 3) := by decide +kernel
theorem dX1_init_28 : decode cX1_init 28 = .ok (.aload_n 0, 1) := by decide +kernel
theorem dX1_init_29 : decode cX1_init 29 = .ok (.sipush 480, 3) := by decide +kernel
theorem dX1_init_32 : decode cX1_init 32 = .ok (.newarray .int, 2) := by decide +kernel
theorem dX1_init_34 : decode cX1_init 34 = .ok (.putfield 21, 3) := by decide +kernel
theorem dX1_init_37 : decode cX1_init 37 = .ok (.return_, 1) := by decide +kernel
theorem dX0_init_0 : decode cX0_init 0 = .ok (.aload_n 0, 1) := by decide +kernel
theorem dX0_init_1 : decode cX0_init 1 = .ok (.invokespecial 3, 3) := by decide +kernel
theorem dX0_init_4 : decode cX0_init 4 = .ok (.aload_n 0, 1) := by decide +kernel
theorem dX0_init_5 : decode cX0_init 5 = .ok (.sipush 480, 3) := by decide +kernel
theorem dX0_init_8 : decode cX0_init 8 = .ok (.newarray .int, 2) := by decide +kernel
theorem dX0_init_10 : decode cX0_init 10 = .ok (.putfield 9, 3) := by decide +kernel
theorem dX0_init_13 : decode cX0_init 13 = .ok (.aload_n 0, 1) := by decide +kernel
theorem dX0_init_14 : decode cX0_init 14 = .ok (.sipush 480, 3) := by decide +kernel
theorem dX0_init_17 : decode cX0_init 17 = .ok (.newarray .long, 2) := by decide +kernel
theorem dX0_init_19 : decode cX0_init 19 = .ok (.putfield 15, 3) := by decide +kernel
theorem dX0_init_22 : decode cX0_init 22 = .ok (.aload_n 0, 1) := by decide +kernel
theorem dX0_init_23 : decode cX0_init 23 = .ok (.sipush 480, 3) := by decide +kernel
theorem dX0_init_26 : decode cX0_init 26 = .ok (.newarray .int, 2) := by decide +kernel
theorem dX0_init_28 : decode cX0_init 28 = .ok (.putfield 19, 3) := by decide +kernel
theorem dX0_init_31 : decode cX0_init 31 = .ok (.aload_n 0, 1) := by decide +kernel
theorem dX0_init_32 : decode cX0_init 32 = .ok (.bipush 40, 2) := by decide +kernel
theorem dX0_init_34 : decode cX0_init 34 = .ok (.newarray .int, 2) := by decide +kernel
theorem dX0_init_36 : decode cX0_init 36 = .ok (.putfield 22, 3) := by decide +kernel
theorem dX0_init_39 : decode cX0_init 39 = .ok (.aload_n 0, 1) := by decide +kernel
theorem dX0_init_40 : decode cX0_init 40 = .ok (.lconst 0, 1) := by decide +kernel
theorem dX0_init_41 : decode cX0_init 41 = .ok (.putfield 25, 3) := by decide +kernel
theorem dX0_init_44 : decode cX0_init 44 = .ok (.return_, 1) := by decide +kernel
theorem dX6_init_0 : decode cX6_init 0 = .ok (.aload_n 0, 1) := by decide +kernel
theorem dX6_init_1 : decode cX6_init 1 = .ok (.invokespecial 1, 3) := by decide +kernel
theorem dX6_init_4 : decode cX6_init 4 = .ok (.aload_n 0, 1) := by decide +kernel
theorem dX6_init_5 : decode cX6_init 5 = .ok (.bipush 30, 2) := by decide +kernel
theorem dX6_init_7 : decode cX6_init 7 = .ok (.newarray .int, 2) := by decide +kernel
theorem dX6_init_9 : decode cX6_init 9 = .ok (.putfield 9, 3) := by decide +kernel
theorem dX6_init_12 : decode cX6_init 12 = .ok (.aload_n 0, 1) := by decide +kernel
theorem dX6_init_13 : decode cX6_init 13 = .ok (.bipush 30, 2) := by decide +kernel
theorem dX6_init_15 : decode cX6_init 15 = .ok (.newarray .int, 2) := by decide +kernel
theorem dX6_init_17 : decode cX6_init 17 = .ok (.putfield 13, 3) := by decide +kernel
theorem dX6_init_20 : decode cX6_init 20 = .ok (.aload_n 0, 1) := by decide +kernel
theorem dX6_init_21 : decode cX6_init 21 = .ok (.new 16, 3) := by decide +kernel
theorem dX6_init_24 : decode cX6_init 24 = .ok (.dup, 1) := by decide +kernel
theorem dX6_init_25 : decode cX6_init 25 = .ok (.invokespecial 18, 3) := by decide +kernel
theorem dX6_init_28 : decode cX6_init 28 = .ok (.putfield 19, 3) := by decide +kernel
theorem dX6_init_31 : decode cX6_init 31 = .ok (.aload_n 0, 1) := by decide +kernel
theorem dX6_init_32 : decode cX6_init 32 = .ok (.new 23, 3) := by decide +kernel
theorem dX6_init_35 : decode cX6_init 35 = .ok (.dup, 1) := by decide +kernel
theorem dX6_init_36 : decode cX6_init 36 = .ok (.invokespecial 25, 3) := by decide +kernel
theorem dX6_init_39 : decode cX6_init 39 = .ok (.putfield 26, 3) := by decide +kernel
theorem dX6_init_42 : decode cX6_init 42 = .ok (.aload_n 0, 1) := by decide +kernel
theorem dX6_init_43 : decode cX6_init 43 = .ok (.new 30, 3) := by decide +kernel
theorem dX6_init_46 : decode cX6_init 46 = .ok (.dup, 1) := by decide +kernel
theorem dX6_init_47 : decode cX6_init 47 = .ok (.aload_n 0, 1) := by decide +kernel
theorem dX6_init_48 : decode cX6_init 48 = .ok (.getfield 26, 3) := by decide +kernel
theorem dX6_init_51 : decode cX6_init 51 = .ok (.invokespecial 32, 3) := by decide +kernel
theorem dX6_init_54 : decode cX6_init 54 = .ok (.putfield 35, 3) := by decide +kernel
theorem dX6_init_57 : decode cX6_init 57 = .ok (.aload_n 0, 1) := by decide +kernel
theorem dX6_init_58 : decode cX6_init 58 = .ok (.new 39, 3) := by decide +kernel
theorem dX6_init_61 : decode cX6_init 61 = .ok (.dup, 1) := by decide +kernel
theorem dX6_init_62 : decode cX6_init 62 = .ok (.invokespecial 41, 3) := by decide +kernel
theorem dX6_init_65 : decode cX6_init 65 = .ok (.putfield 42, 3) := by decide +kernel
theorem dX6_init_68 : decode cX6_init 68 = .ok (.aload_n 0, 1) := by decide +kernel
theorem dX6_init_69 : decode cX6_init 69 = .ok (.new 46, 3) := by decide +kernel
theorem dX6_init_72 : decode cX6_init 72 = .ok (.dup, 1) := by decide +kernel
theorem dX6_init_73 : decode cX6_init 73 = .ok (.invokespecial 48, 3) := by decide +kernel
theorem dX6_init_76 : decode cX6_init 76 = .ok (.putfield 49, 3) := by decide +kernel
theorem dX6_init_79 : decode cX6_init 79 = .ok (.aload_n 0, 1) := by decide +kernel
theorem dX6_init_80 : decode cX6_init 80 = .ok (.iconst 0, 1) := by decide +kernel
theorem dX6_init_81 : decode cX6_init 81 = .ok (.putfield 53, 3) := by decide +kernel
theorem dX6_init_84 : decode cX6_init 84 = .ok (.aload_n 0, 1) := by decide +kernel
theorem dX6_init_85 : decode cX6_init 85 = .ok (.iconst (-1), 1) := by decide +kernel
theorem dX6_init_86 : decode cX6_init 86 = .ok (.putfield 57, 3) := by decide +kernel
theorem dX6_init_89 : decode cX6_init 89 = .ok (.aload_n 0, 1) := by decide +kernel
theorem dX6_init_90 : decode cX6_init 90 = .ok (.iconst (-1), 1) := by decide +kernel
theorem dX6_init_91 : decode cX6_init 91 = .ok (.putfield 60, 3) := by decide +kernel
theorem dX6_init_94 : decode cX6_init 94 = .ok (.aload_n 0, 1) := by decide +kernel
theorem dX6_init_95 : decode cX6_init 95 = .ok (.iconst 0, 1) := by decide +kernel
theorem dX6_init_96 : decode cX6_init 96 = .ok (.putfield 63, 3) := by decide +kernel
theorem dX6_init_99 : decode cX6_init 99 = .ok (.aload_n 0, 1) := by decide +kernel
theorem dX6_init_100 : decode cX6_init 100 = .ok (.getfield 13, 3) := by decide +kernel
theorem dX6_init_103 : decode cX6_init 103 = .ok (.iconst (-1), 1) := by decide +kernel
theorem dX6_init_104 : decode cX6_init 104 = .ok (.invokestatic 66, 3) := by decide +kernel
theorem dX6_init_107 : decode cX6_init 107 = .ok (.return_, 1) := by decide +kernel
def wp_Tape_init : List Cond := .code yX5_init cX5_init 1 none :: (([.methodLink RX5 3 objectInit, .instanceMethod objectInit, .code objectInit ⟨#[0xb1]⟩ 1 none, .arrayClass .int, .fieldLink RX5 9 "AgreedTalks$Tape" "bytes" "[I", .fieldLink RX5 15 "AgreedTalks$Tape" "length" "I"] : List Cond) ++ wsX50)
set_option maxRecDepth 20000 in
theorem gi_Tape_init : GoodIn lw_tbl wp_Tape_init := (goodIn_ca (goodIn_r (.code yX5_init cX5_init 1 none :: ([.methodLink RX5 3 objectInit, .instanceMethod objectInit, .code objectInit ⟨#[0xb1]⟩ 1 none, .arrayClass .int, .fieldLink RX5 9 "AgreedTalks$Tape" "bytes" "[I", .fieldLink RX5 15 "AgreedTalks$Tape" "length" "I"] : List Cond)) [107, 108, 74, 75, 102, 109, 111] (by decide +kernel) (by decide +kernel)) wi_wsX5)
set_option maxHeartbeats 4000000 in
set_option maxRecDepth 100000 in
/-- Tape() -/
theorem c_Tape_init (l : Launch) (dC : Nat → ClassId) (dI : Nat → Nat → Nat) (sz : Nat) (h0 : Nat) : Met l yX5_init wp_Tape_init ({ frames := 1, cells := 1, slots := 300, locals := 20 }) (va_Pc [.ref h0] (fun U => U.heap.size = sz ∧ va_P (dC, dI) vwCl [(h0, .inr (6, [.null, .int 0]))] U.heap ∧ va_K (dC, dI) vwCl [] U ∧ va_D (fun _ => True) [(h0, .inr (6, [.null, .int 0]))])) (va_Qv (fun (_ : Unit) => True) (fun (_ : Unit) (t : State) => ∃ (ab : Nat), ∃ (cB : ClassId), va_P (dC, dI) vwCl [(h0, .inr (6, [.ref ab, .int 0])), (ab, .inl (cB, 300, .inl (fun _ => 0)))] t.heap ∧ va_K (dC, dI) vwCl [(cB, .int)] t ∧ va_D (va_A [(h0, .inr (6, [.null, .int 0]))] sz) [(h0, .inr (6, [.ref ab, .int 0])), (ab, .inl (cB, 300, .inl (fun _ => 0)))]) (va_A [(h0, .inr (6, [.null, .int 0]))] sz)) 1 300 (va_A [(h0, .inr (6, [.null, .int 0]))] sz) := by
  refine Met.ofW (cc := cX5_init) (maxL := 1) (ret := none) (by decide) rfl ?_
  intro p e s m args below meth c s₁ B hml hv
  obtain ⟨rfl, hsz, hP, hK, hD0⟩ := hv
  have hx := B.exec
  have hb := B.bytes
  have hr := B.returns
  have hts := atoms_spec (ws := wp_Tape_init) B.pre
  have hown : s.vm.findClass RX5 = some m.cls := findClass_of_methodNamed B.named
  have hlocks := B.notSynchronized
  have hin : meth.name = "<init>" := (name_of_methodNamed B.named B.method).1
  subst hsz
  have hD := hD0.self (sz := s.heap.size)
  generalize hAe : va_A [(h0, .inr (6, [.null, .int 0]))] s.heap.size = A at hD ⊢
  have hA : ∀ q : Nat, s.heap.size ≤ q → A q := fun q h => by rw [← hAe]; exact Or.inr h
  have hS : va_S A s.heap s.heap [] := va_S.rf
  have hP : va_P (dC, dI) vwCl [(h0, .inr (6, [.null, .int 0]))] s.heap := hP
  have hl := lv_entry ([.ref h0]) (n := 1) (Nat.le_of_ble_eq_true rfl)
  rw [lg_entry_eq]
  generalize (lg_sl ([.ref h0]) ++ List.replicate (1 - (lg_sl ([.ref h0])).length) Slot.unset).toArray = ls at hl ⊢
  have hl : lv_has ls 1 [(0, .ref h0)] := hl
  have hinX5 : ∀ w ∈ u_ws RX5 TX5 2, w ∈ wp_Tape_init := fun _ h => List.mem_cons_of_mem _ (List.mem_append_right _ h)
  refine lv_aload_n hx hb dX5_init_0 rfl (lv_at hl 0 rfl) ?_
  refine W.objInit hx hb hown (hts (.methodLink RX5 3 objectInit) (by decide +kernel)) (hts (.instanceMethod objectInit) (by decide +kernel)) (hts _ (List.mem_cons_of_mem _ (List.mem_append_left _ (List.mem_of_getElem? (i := 2) rfl)))) rfl (by rw [hml]; exact hl.1) rfl dX5_init_1 (Nat.le_of_ble_eq_true rfl) (Nat.le_of_ble_eq_true rfl) ?_
  refine W.eq (g2 := F0 m 4 ls []) rfl ?_
  refine lv_aload_n hx hb dX5_init_4 rfl (lv_at hl 0 rfl) ?_
  refine lv_sipush (v := 300) hx hb dX5_init_5 (by decide) ?_
  refine va_newa (atype := .int) (ty := .int) (N' := 300) (a0 := (300, .inl (fun _ => 0))) hx hb (hts (.arrayClass .int) (by decide +kernel)) rfl hK hP hD hS hA (fun _ => rfl) (by decide) (by decide) (by decide) (by decide) (by decide) dX5_init_8 (fun q_1 cy_2 H hK hP hD hS => ?_)
  have hP : va_P (dC, dI) vwCl [(h0, .inr (6, [.null, .int 0])), (q_1, .inl (cy_2, 300, .inl (fun _ => 0)))] H := hP
  have hD : va_D A [(h0, .inr (6, [.null, .int 0])), (q_1, .inl (cy_2, 300, .inl (fun _ => 0)))] := hD
  have hK : va_K (dC, dI) vwCl [(cy_2, .int)] s := hK
  refine W.widen (k := 1) (n := 300) (by omega) (by omega) ?_
  refine va_putF (D := (dC, dI)) (ci := 6) (v := .ref q_1) (ty := .array .int) (C := RX5) (T := TX5) (N := 2) hx hb hts hinX5 tyX5 tyX5_ok nmX5 hown hK hP hD hS 0 rfl rfl 0 (by decide) (hts (.fieldLink RX5 9 "AgreedTalks$Tape" "bytes" "[I") (by decide +kernel)) (fun _ h9 => h9) rfl hin rfl (by decide +kernel) rfl rfl (Nat.le_of_ble_eq_true rfl) dX5_init_10 (fun H locs hP hD hS => ?_)
  have hP : va_P (dC, dI) vwCl [(h0, .inr (6, [.ref q_1, .int 0])), (q_1, .inl (cy_2, 300, .inl (fun _ => 0)))] H := hP
  have hD : va_D A [(h0, .inr (6, [.ref q_1, .int 0])), (q_1, .inl (cy_2, 300, .inl (fun _ => 0)))] := hD
  refine lv_aload_n hx hb dX5_init_13 rfl (lv_at hl 0 rfl) ?_
  refine lv_iconst (v := 0) hx hb dX5_init_14 (by decide) ?_
  refine va_put (D := (dC, dI)) (ci := 6) (v := .int 0) (ty := .int) (C := RX5) (T := TX5) (N := 2) hx hb hts hinX5 tyX5 tyX5_ok nmX5 hown hK hP hD hS 0 rfl rfl 1 (by decide) (hts (.fieldLink RX5 15 "AgreedTalks$Tape" "length" "I") (by decide +kernel)) (fun _ h9 => h9) rfl (by decide +kernel) rfl rfl (Nat.le_of_ble_eq_true rfl) dX5_init_15 (fun H locs hP hD hS => ?_)
  have hP : va_P (dC, dI) vwCl [(h0, .inr (6, [.ref q_1, .int 0])), (q_1, .inl (cy_2, 300, .inl (fun _ => 0)))] H := hP
  have hD : va_D A [(h0, .inr (6, [.ref q_1, .int 0])), (q_1, .inl (cy_2, 300, .inl (fun _ => 0)))] := hD
  have hP9 := hP.sub (ws' := [(h0, .inr (6, [.ref q_1, .int 0])), (q_1, .inl (cy_2, 300, .inl (fun _ => 0)))]) [0, 1] rfl
  have hD9 := hD.sub (ws' := [(h0, .inr (6, [.ref q_1, .int 0])), (q_1, .inl (cy_2, 300, .inl (fun _ => 0)))]) [0, 1] (by decide) rfl
  have hK9 := hK.sub (tys' := [(cy_2, .int)]) [0] rfl
  refine W.widen (k := 1) (n := 300) (by omega) (by omega) ?_
  exact W.vret hx hb hr (fun t ht hW => ⟨⟨(), rfl, trivial, q_1, cy_2, by rw [ht]; exact hP9, va_K.moved hW.alike hK9, hD9⟩, hS.F ht⟩) hS.2.2 dX5_init_18
def wp_Reader_init : List Cond := .code yX4_init cX4_init 2 none :: (([.methodLink RX4 3 objectInit, .instanceMethod objectInit, .code objectInit ⟨#[0xb1]⟩ 1 none, .fieldLink RX4 9 "AgreedTalks$Reader" "start" "I", .fieldLink RX4 15 "AgreedTalks$Reader" "stop" "I", .fieldLink RX4 18 "AgreedTalks$Reader" "tape" "LAgreedTalks$Tape;"] : List Cond) ++ wsX40)
set_option maxRecDepth 20000 in
theorem gi_Reader_init : GoodIn lw_tbl wp_Reader_init := (goodIn_ca (goodIn_r (.code yX4_init cX4_init 2 none :: ([.methodLink RX4 3 objectInit, .instanceMethod objectInit, .code objectInit ⟨#[0xb1]⟩ 1 none, .fieldLink RX4 9 "AgreedTalks$Reader" "start" "I", .fieldLink RX4 15 "AgreedTalks$Reader" "stop" "I", .fieldLink RX4 18 "AgreedTalks$Reader" "tape" "LAgreedTalks$Tape;"] : List Cond)) [123, 124, 74, 75, 126, 128, 125] (by decide +kernel) (by decide +kernel)) wi_wsX4)
set_option maxHeartbeats 4000000 in
set_option maxRecDepth 100000 in
/-- Reader(tape) -/
theorem c_Reader_init (l : Launch) (dC : Nat → ClassId) (dI : Nat → Nat → Nat) (sz : Nat) (h0 : Nat) (p0 : Nat) : Met l yX4_init wp_Reader_init ({ frames := 1, cells := 0, slots := 0, locals := 20 }) (va_Pc [.ref h0, .ref p0] (fun U => U.heap.size = sz ∧ va_P (dC, dI) vwCl [(h0, .inr (5, [.null, .int 0, .int 0]))] U.heap ∧ va_K (dC, dI) vwCl [] U ∧ va_D (fun _ => True) [(h0, .inr (5, [.null, .int 0, .int 0]))])) (va_Qv (fun (_ : Unit) => True) (fun (_ : Unit) (t : State) => va_P (dC, dI) vwCl [(h0, .inr (5, [.ref p0, .int 0, .int 0]))] t.heap ∧ va_K (dC, dI) vwCl [] t ∧ va_D (va_A [(h0, .inr (5, [.null, .int 0, .int 0]))] sz) [(h0, .inr (5, [.ref p0, .int 0, .int 0]))]) (va_A [(h0, .inr (5, [.null, .int 0, .int 0]))] sz)) 0 0 (va_A [(h0, .inr (5, [.null, .int 0, .int 0]))] sz) := by
  refine Met.ofW (cc := cX4_init) (maxL := 2) (ret := none) (by decide) rfl ?_
  intro p e s m args below meth c s₁ B hml hv
  obtain ⟨rfl, hsz, hP, hK, hD0⟩ := hv
  have hx := B.exec
  have hb := B.bytes
  have hr := B.returns
  have hts := atoms_spec (ws := wp_Reader_init) B.pre
  have hown : s.vm.findClass RX4 = some m.cls := findClass_of_methodNamed B.named
  have hlocks := B.notSynchronized
  have hin : meth.name = "<init>" := (name_of_methodNamed B.named B.method).1
  subst hsz
  have hD := hD0.self (sz := s.heap.size)
  generalize hAe : va_A [(h0, .inr (5, [.null, .int 0, .int 0]))] s.heap.size = A at hD ⊢
  have hA : ∀ q : Nat, s.heap.size ≤ q → A q := fun q h => by rw [← hAe]; exact Or.inr h
  have hS : va_S A s.heap s.heap [] := va_S.rf
  have hP : va_P (dC, dI) vwCl [(h0, .inr (5, [.null, .int 0, .int 0]))] s.heap := hP
  have hl := lv_entry ([.ref h0, .ref p0]) (n := 2) (Nat.le_of_ble_eq_true rfl)
  rw [lg_entry_eq]
  generalize (lg_sl ([.ref h0, .ref p0]) ++ List.replicate (2 - (lg_sl ([.ref h0, .ref p0])).length) Slot.unset).toArray = ls at hl ⊢
  have hl : lv_has ls 2 [(0, .ref h0), (1, .ref p0)] := hl
  have hinX4 : ∀ w ∈ u_ws RX4 TX4 3, w ∈ wp_Reader_init := fun _ h => List.mem_cons_of_mem _ (List.mem_append_right _ h)
  refine lv_aload_n hx hb dX4_init_0 rfl (lv_at hl 0 rfl) ?_
  refine W.objInit hx hb hown (hts (.methodLink RX4 3 objectInit) (by decide +kernel)) (hts (.instanceMethod objectInit) (by decide +kernel)) (hts _ (List.mem_cons_of_mem _ (List.mem_append_left _ (List.mem_of_getElem? (i := 2) rfl)))) rfl (by rw [hml]; exact hl.1) rfl dX4_init_1 (Nat.le_of_ble_eq_true rfl) (Nat.le_of_ble_eq_true rfl) ?_
  refine W.eq (g2 := F0 m 4 ls []) rfl ?_
  refine lv_aload_n hx hb dX4_init_4 rfl (lv_at hl 0 rfl) ?_
  refine lv_iconst (v := 0) hx hb dX4_init_5 (by decide) ?_
  refine va_put (D := (dC, dI)) (ci := 5) (v := .int 0) (ty := .int) (C := RX4) (T := TX4) (N := 3) hx hb hts hinX4 tyX4 tyX4_ok nmX4 hown hK hP hD hS 0 rfl rfl 1 (by decide) (hts (.fieldLink RX4 9 "AgreedTalks$Reader" "start" "I") (by decide +kernel)) (fun _ h9 => h9) rfl (by decide +kernel) rfl rfl (Nat.le_of_ble_eq_true rfl) dX4_init_6 (fun H locs hP hD hS => ?_)
  have hP : va_P (dC, dI) vwCl [(h0, .inr (5, [.null, .int 0, .int 0]))] H := hP
  have hD : va_D A [(h0, .inr (5, [.null, .int 0, .int 0]))] := hD
  refine lv_aload_n hx hb dX4_init_9 rfl (lv_at hl 0 rfl) ?_
  refine lv_iconst (v := 0) hx hb dX4_init_10 (by decide) ?_
  refine va_put (D := (dC, dI)) (ci := 5) (v := .int 0) (ty := .int) (C := RX4) (T := TX4) (N := 3) hx hb hts hinX4 tyX4 tyX4_ok nmX4 hown hK hP hD hS 0 rfl rfl 2 (by decide) (hts (.fieldLink RX4 15 "AgreedTalks$Reader" "stop" "I") (by decide +kernel)) (fun _ h9 => h9) rfl (by decide +kernel) rfl rfl (Nat.le_of_ble_eq_true rfl) dX4_init_11 (fun H locs hP hD hS => ?_)
  have hP : va_P (dC, dI) vwCl [(h0, .inr (5, [.null, .int 0, .int 0]))] H := hP
  have hD : va_D A [(h0, .inr (5, [.null, .int 0, .int 0]))] := hD
  refine lv_aload_n hx hb dX4_init_14 rfl (lv_at hl 0 rfl) ?_
  refine lv_aload_n hx hb dX4_init_15 rfl (lv_at hl 1 rfl) ?_
  refine va_putF (D := (dC, dI)) (ci := 5) (v := .ref p0) (ty := .object "AgreedTalks$Tape") (C := RX4) (T := TX4) (N := 3) hx hb hts hinX4 tyX4 tyX4_ok nmX4 hown hK hP hD hS 0 rfl rfl 0 (by decide) (hts (.fieldLink RX4 18 "AgreedTalks$Reader" "tape" "LAgreedTalks$Tape;") (by decide +kernel)) (fun _ h9 => h9) rfl hin rfl (by decide +kernel) rfl rfl (Nat.le_of_ble_eq_true rfl) dX4_init_16 (fun H locs hP hD hS => ?_)
  have hP : va_P (dC, dI) vwCl [(h0, .inr (5, [.ref p0, .int 0, .int 0]))] H := hP
  have hD : va_D A [(h0, .inr (5, [.ref p0, .int 0, .int 0]))] := hD
  have hP9 := hP.sub (ws' := [(h0, .inr (5, [.ref p0, .int 0, .int 0]))]) [0] rfl
  have hD9 := hD.sub (ws' := [(h0, .inr (5, [.ref p0, .int 0, .int 0]))]) [0] (by decide) rfl
  have hK9 := hK.sub (tys' := []) [] rfl
  exact W.vret hx hb hr (fun t ht hW => ⟨⟨(), rfl, trivial, by rw [ht]; exact hP9, va_K.moved hW.alike hK9, hD9⟩, hS.F ht⟩) hS.2.2 dX4_init_19
def wp_Deeds_init : List Cond := .code yX1_init cX1_init 1 none :: (([.methodLink RX1 3 objectInit, .instanceMethod objectInit, .code objectInit ⟨#[0xb1]⟩ 1 none, .arrayClass .int, .fieldLink RX1 9 "AgreedTalks$Deeds" "holders" "[I", .fieldLink RX1 15 "AgreedTalks$Deeds" "dueDays" "[I", .fieldLink RX1 18 "AgreedTalks$Deeds" "finished" "[I", .fieldLink RX1 21 "AgreedTalks$Deeds" "requests" "[I"] : List Cond) ++ wsX10)
set_option maxRecDepth 20000 in
theorem gi_Deeds_init : GoodIn lw_tbl wp_Deeds_init := (goodIn_ca (goodIn_r (.code yX1_init cX1_init 1 none :: ([.methodLink RX1 3 objectInit, .instanceMethod objectInit, .code objectInit ⟨#[0xb1]⟩ 1 none, .arrayClass .int, .fieldLink RX1 9 "AgreedTalks$Deeds" "holders" "[I", .fieldLink RX1 15 "AgreedTalks$Deeds" "dueDays" "[I", .fieldLink RX1 18 "AgreedTalks$Deeds" "finished" "[I", .fieldLink RX1 21 "AgreedTalks$Deeds" "requests" "[I"] : List Cond)) [140, 141, 74, 75, 102, 142, 144, 146, 148] (by decide +kernel) (by decide +kernel)) wi_wsX1)
set_option maxHeartbeats 4000000 in
set_option maxRecDepth 100000 in
/-- Deeds() -/
theorem c_Deeds_init (l : Launch) (dC : Nat → ClassId) (dI : Nat → Nat → Nat) (sz : Nat) (h0 : Nat) : Met l yX1_init wp_Deeds_init ({ frames := 1, cells := 4, slots := 600, locals := 20 }) (va_Pc [.ref h0] (fun U => U.heap.size = sz ∧ va_P (dC, dI) vwCl [(h0, .inr (2, [.null, .null, .null, .null]))] U.heap ∧ va_K (dC, dI) vwCl [] U ∧ va_D (fun _ => True) [(h0, .inr (2, [.null, .null, .null, .null]))])) (va_Qv (fun (_ : Unit) => True) (fun (_ : Unit) (t : State) => ∃ (d0 : Nat), ∃ (d1 : Nat), ∃ (d2 : Nat), ∃ (d3 : Nat), ∃ (cd0 : ClassId), ∃ (cd1 : ClassId), ∃ (cd2 : ClassId), ∃ (cd3 : ClassId), va_P (dC, dI) vwCl [(h0, .inr (2, [.ref d0, .ref d1, .ref d2, .ref d3])), (d0, .inl (cd0, 40, .inl (fun _ => 0))), (d1, .inl (cd1, 40, .inl (fun _ => 0))), (d2, .inl (cd2, 40, .inl (fun _ => 0))), (d3, .inl (cd3, 480, .inl (fun _ => 0)))] t.heap ∧ va_K (dC, dI) vwCl [(cd0, .int), (cd1, .int), (cd2, .int), (cd3, .int)] t ∧ va_D (va_A [(h0, .inr (2, [.null, .null, .null, .null]))] sz) [(h0, .inr (2, [.ref d0, .ref d1, .ref d2, .ref d3])), (d0, .inl (cd0, 40, .inl (fun _ => 0))), (d1, .inl (cd1, 40, .inl (fun _ => 0))), (d2, .inl (cd2, 40, .inl (fun _ => 0))), (d3, .inl (cd3, 480, .inl (fun _ => 0)))]) (va_A [(h0, .inr (2, [.null, .null, .null, .null]))] sz)) 4 600 (va_A [(h0, .inr (2, [.null, .null, .null, .null]))] sz) := by
  refine Met.ofW (cc := cX1_init) (maxL := 1) (ret := none) (by decide) rfl ?_
  intro p e s m args below meth c s₁ B hml hv
  obtain ⟨rfl, hsz, hP, hK, hD0⟩ := hv
  have hx := B.exec
  have hb := B.bytes
  have hr := B.returns
  have hts := atoms_spec (ws := wp_Deeds_init) B.pre
  have hown : s.vm.findClass RX1 = some m.cls := findClass_of_methodNamed B.named
  have hlocks := B.notSynchronized
  have hin : meth.name = "<init>" := (name_of_methodNamed B.named B.method).1
  subst hsz
  have hD := hD0.self (sz := s.heap.size)
  generalize hAe : va_A [(h0, .inr (2, [.null, .null, .null, .null]))] s.heap.size = A at hD ⊢
  have hA : ∀ q : Nat, s.heap.size ≤ q → A q := fun q h => by rw [← hAe]; exact Or.inr h
  have hS : va_S A s.heap s.heap [] := va_S.rf
  have hP : va_P (dC, dI) vwCl [(h0, .inr (2, [.null, .null, .null, .null]))] s.heap := hP
  have hl := lv_entry ([.ref h0]) (n := 1) (Nat.le_of_ble_eq_true rfl)
  rw [lg_entry_eq]
  generalize (lg_sl ([.ref h0]) ++ List.replicate (1 - (lg_sl ([.ref h0])).length) Slot.unset).toArray = ls at hl ⊢
  have hl : lv_has ls 1 [(0, .ref h0)] := hl
  have hinX1 : ∀ w ∈ u_ws RX1 TX1 4, w ∈ wp_Deeds_init := fun _ h => List.mem_cons_of_mem _ (List.mem_append_right _ h)
  refine lv_aload_n hx hb dX1_init_0 rfl (lv_at hl 0 rfl) ?_
  refine W.objInit hx hb hown (hts (.methodLink RX1 3 objectInit) (by decide +kernel)) (hts (.instanceMethod objectInit) (by decide +kernel)) (hts _ (List.mem_cons_of_mem _ (List.mem_append_left _ (List.mem_of_getElem? (i := 2) rfl)))) rfl (by rw [hml]; exact hl.1) rfl dX1_init_1 (Nat.le_of_ble_eq_true rfl) (Nat.le_of_ble_eq_true rfl) ?_
  refine W.eq (g2 := F0 m 4 ls []) rfl ?_
  refine lv_aload_n hx hb dX1_init_4 rfl (lv_at hl 0 rfl) ?_
  refine lv_bipush (v := 40) hx hb dX1_init_5 (by decide) ?_
  refine va_newa (atype := .int) (ty := .int) (N' := 40) (a0 := (40, .inl (fun _ => 0))) hx hb (hts (.arrayClass .int) (by decide +kernel)) rfl hK hP hD hS hA (fun _ => rfl) (by decide) (by decide) (by decide) (by decide) (by decide) dX1_init_7 (fun q_1 cy_2 H hK hP hD hS => ?_)
  have hP : va_P (dC, dI) vwCl [(h0, .inr (2, [.null, .null, .null, .null])), (q_1, .inl (cy_2, 40, .inl (fun _ => 0)))] H := hP
  have hD : va_D A [(h0, .inr (2, [.null, .null, .null, .null])), (q_1, .inl (cy_2, 40, .inl (fun _ => 0)))] := hD
  have hK : va_K (dC, dI) vwCl [(cy_2, .int)] s := hK
  refine W.widen (k := 1) (n := 40) (by omega) (by omega) ?_
  refine va_putF (D := (dC, dI)) (ci := 2) (v := .ref q_1) (ty := .array .int) (C := RX1) (T := TX1) (N := 4) hx hb hts hinX1 tyX1 tyX1_ok nmX1 hown hK hP hD hS 0 rfl rfl 0 (by decide) (hts (.fieldLink RX1 9 "AgreedTalks$Deeds" "holders" "[I") (by decide +kernel)) (fun _ h9 => h9) rfl hin rfl (by decide +kernel) rfl rfl (Nat.le_of_ble_eq_true rfl) dX1_init_9 (fun H locs hP hD hS => ?_)
  have hP : va_P (dC, dI) vwCl [(h0, .inr (2, [.ref q_1, .null, .null, .null])), (q_1, .inl (cy_2, 40, .inl (fun _ => 0)))] H := hP
  have hD : va_D A [(h0, .inr (2, [.ref q_1, .null, .null, .null])), (q_1, .inl (cy_2, 40, .inl (fun _ => 0)))] := hD
  refine lv_aload_n hx hb dX1_init_12 rfl (lv_at hl 0 rfl) ?_
  refine lv_bipush (v := 40) hx hb dX1_init_13 (by decide) ?_
  refine va_newa (atype := .int) (ty := .int) (N' := 40) (a0 := (40, .inl (fun _ => 0))) hx hb (hts (.arrayClass .int) (by decide +kernel)) rfl hK hP hD hS hA (fun _ => rfl) (by decide) (by decide) (by decide) (by decide) (by decide) dX1_init_15 (fun q_3 cy_4 H hK hP hD hS => ?_)
  have hP : va_P (dC, dI) vwCl [(h0, .inr (2, [.ref q_1, .null, .null, .null])), (q_1, .inl (cy_2, 40, .inl (fun _ => 0))), (q_3, .inl (cy_4, 40, .inl (fun _ => 0)))] H := hP
  have hD : va_D A [(h0, .inr (2, [.ref q_1, .null, .null, .null])), (q_1, .inl (cy_2, 40, .inl (fun _ => 0))), (q_3, .inl (cy_4, 40, .inl (fun _ => 0)))] := hD
  have hK : va_K (dC, dI) vwCl [(cy_2, .int), (cy_4, .int)] s := hK
  refine W.widen (k := 2) (n := 80) (by omega) (by omega) ?_
  refine va_putF (D := (dC, dI)) (ci := 2) (v := .ref q_3) (ty := .array .int) (C := RX1) (T := TX1) (N := 4) hx hb hts hinX1 tyX1 tyX1_ok nmX1 hown hK hP hD hS 0 rfl rfl 1 (by decide) (hts (.fieldLink RX1 15 "AgreedTalks$Deeds" "dueDays" "[I") (by decide +kernel)) (fun _ h9 => h9) rfl hin rfl (by decide +kernel) rfl rfl (Nat.le_of_ble_eq_true rfl) dX1_init_17 (fun H locs hP hD hS => ?_)
  have hP : va_P (dC, dI) vwCl [(h0, .inr (2, [.ref q_1, .ref q_3, .null, .null])), (q_1, .inl (cy_2, 40, .inl (fun _ => 0))), (q_3, .inl (cy_4, 40, .inl (fun _ => 0)))] H := hP
  have hD : va_D A [(h0, .inr (2, [.ref q_1, .ref q_3, .null, .null])), (q_1, .inl (cy_2, 40, .inl (fun _ => 0))), (q_3, .inl (cy_4, 40, .inl (fun _ => 0)))] := hD
  refine lv_aload_n hx hb dX1_init_20 rfl (lv_at hl 0 rfl) ?_
  refine lv_bipush (v := 40) hx hb dX1_init_21 (by decide) ?_
  refine va_newa (atype := .int) (ty := .int) (N' := 40) (a0 := (40, .inl (fun _ => 0))) hx hb (hts (.arrayClass .int) (by decide +kernel)) rfl hK hP hD hS hA (fun _ => rfl) (by decide) (by decide) (by decide) (by decide) (by decide) dX1_init_23 (fun q_5 cy_6 H hK hP hD hS => ?_)
  have hP : va_P (dC, dI) vwCl [(h0, .inr (2, [.ref q_1, .ref q_3, .null, .null])), (q_1, .inl (cy_2, 40, .inl (fun _ => 0))), (q_3, .inl (cy_4, 40, .inl (fun _ => 0))), (q_5, .inl (cy_6, 40, .inl (fun _ => 0)))] H := hP
  have hD : va_D A [(h0, .inr (2, [.ref q_1, .ref q_3, .null, .null])), (q_1, .inl (cy_2, 40, .inl (fun _ => 0))), (q_3, .inl (cy_4, 40, .inl (fun _ => 0))), (q_5, .inl (cy_6, 40, .inl (fun _ => 0)))] := hD
  have hK : va_K (dC, dI) vwCl [(cy_2, .int), (cy_4, .int), (cy_6, .int)] s := hK
  refine W.widen (k := 3) (n := 120) (by omega) (by omega) ?_
  refine va_putF (D := (dC, dI)) (ci := 2) (v := .ref q_5) (ty := .array .int) (C := RX1) (T := TX1) (N := 4) hx hb hts hinX1 tyX1 tyX1_ok nmX1 hown hK hP hD hS 0 rfl rfl 2 (by decide) (hts (.fieldLink RX1 18 "AgreedTalks$Deeds" "finished" "[I") (by decide +kernel)) (fun _ h9 => h9) rfl hin rfl (by decide +kernel) rfl rfl (Nat.le_of_ble_eq_true rfl) dX1_init_25 (fun H locs hP hD hS => ?_)
  have hP : va_P (dC, dI) vwCl [(h0, .inr (2, [.ref q_1, .ref q_3, .ref q_5, .null])), (q_1, .inl (cy_2, 40, .inl (fun _ => 0))), (q_3, .inl (cy_4, 40, .inl (fun _ => 0))), (q_5, .inl (cy_6, 40, .inl (fun _ => 0)))] H := hP
  have hD : va_D A [(h0, .inr (2, [.ref q_1, .ref q_3, .ref q_5, .null])), (q_1, .inl (cy_2, 40, .inl (fun _ => 0))), (q_3, .inl (cy_4, 40, .inl (fun _ => 0))), (q_5, .inl (cy_6, 40, .inl (fun _ => 0)))] := hD
  refine lv_aload_n hx hb dX1_init_28 rfl (lv_at hl 0 rfl) ?_
  refine lv_sipush (v := 480) hx hb dX1_init_29 (by decide) ?_
  refine va_newa (atype := .int) (ty := .int) (N' := 480) (a0 := (480, .inl (fun _ => 0))) hx hb (hts (.arrayClass .int) (by decide +kernel)) rfl hK hP hD hS hA (fun _ => rfl) (by decide) (by decide) (by decide) (by decide) (by decide) dX1_init_32 (fun q_7 cy_8 H hK hP hD hS => ?_)
  have hP : va_P (dC, dI) vwCl [(h0, .inr (2, [.ref q_1, .ref q_3, .ref q_5, .null])), (q_1, .inl (cy_2, 40, .inl (fun _ => 0))), (q_3, .inl (cy_4, 40, .inl (fun _ => 0))), (q_5, .inl (cy_6, 40, .inl (fun _ => 0))), (q_7, .inl (cy_8, 480, .inl (fun _ => 0)))] H := hP
  have hD : va_D A [(h0, .inr (2, [.ref q_1, .ref q_3, .ref q_5, .null])), (q_1, .inl (cy_2, 40, .inl (fun _ => 0))), (q_3, .inl (cy_4, 40, .inl (fun _ => 0))), (q_5, .inl (cy_6, 40, .inl (fun _ => 0))), (q_7, .inl (cy_8, 480, .inl (fun _ => 0)))] := hD
  have hK : va_K (dC, dI) vwCl [(cy_2, .int), (cy_4, .int), (cy_6, .int), (cy_8, .int)] s := hK
  refine W.widen (k := 4) (n := 600) (by omega) (by omega) ?_
  refine va_putF (D := (dC, dI)) (ci := 2) (v := .ref q_7) (ty := .array .int) (C := RX1) (T := TX1) (N := 4) hx hb hts hinX1 tyX1 tyX1_ok nmX1 hown hK hP hD hS 0 rfl rfl 3 (by decide) (hts (.fieldLink RX1 21 "AgreedTalks$Deeds" "requests" "[I") (by decide +kernel)) (fun _ h9 => h9) rfl hin rfl (by decide +kernel) rfl rfl (Nat.le_of_ble_eq_true rfl) dX1_init_34 (fun H locs hP hD hS => ?_)
  have hP : va_P (dC, dI) vwCl [(h0, .inr (2, [.ref q_1, .ref q_3, .ref q_5, .ref q_7])), (q_1, .inl (cy_2, 40, .inl (fun _ => 0))), (q_3, .inl (cy_4, 40, .inl (fun _ => 0))), (q_5, .inl (cy_6, 40, .inl (fun _ => 0))), (q_7, .inl (cy_8, 480, .inl (fun _ => 0)))] H := hP
  have hD : va_D A [(h0, .inr (2, [.ref q_1, .ref q_3, .ref q_5, .ref q_7])), (q_1, .inl (cy_2, 40, .inl (fun _ => 0))), (q_3, .inl (cy_4, 40, .inl (fun _ => 0))), (q_5, .inl (cy_6, 40, .inl (fun _ => 0))), (q_7, .inl (cy_8, 480, .inl (fun _ => 0)))] := hD
  have hP9 := hP.sub (ws' := [(h0, .inr (2, [.ref q_1, .ref q_3, .ref q_5, .ref q_7])), (q_1, .inl (cy_2, 40, .inl (fun _ => 0))), (q_3, .inl (cy_4, 40, .inl (fun _ => 0))), (q_5, .inl (cy_6, 40, .inl (fun _ => 0))), (q_7, .inl (cy_8, 480, .inl (fun _ => 0)))]) [0, 1, 2, 3, 4] rfl
  have hD9 := hD.sub (ws' := [(h0, .inr (2, [.ref q_1, .ref q_3, .ref q_5, .ref q_7])), (q_1, .inl (cy_2, 40, .inl (fun _ => 0))), (q_3, .inl (cy_4, 40, .inl (fun _ => 0))), (q_5, .inl (cy_6, 40, .inl (fun _ => 0))), (q_7, .inl (cy_8, 480, .inl (fun _ => 0)))]) [0, 1, 2, 3, 4] (by decide) rfl
  have hK9 := hK.sub (tys' := [(cy_2, .int), (cy_4, .int), (cy_6, .int), (cy_8, .int)]) [0, 1, 2, 3] rfl
  refine W.widen (k := 4) (n := 600) (by omega) (by omega) ?_
  exact W.vret hx hb hr (fun t ht hW => ⟨⟨(), rfl, trivial, q_1, q_3, q_5, q_7, cy_2, cy_4, cy_6, cy_8, by rw [ht]; exact hP9, va_K.moved hW.alike hK9, hD9⟩, hS.F ht⟩) hS.2.2 dX1_init_37
def wp_Claims_init : List Cond := .code yX0_init cX0_init 1 none :: (([.methodLink RX0 3 objectInit, .instanceMethod objectInit, .code objectInit ⟨#[0xb1]⟩ 1 none, .arrayClass .int, .fieldLink RX0 9 "AgreedTalks$Claims" "words" "[I", .arrayClass .long, .fieldLink RX0 15 "AgreedTalks$Claims" "grounds" "[J", .fieldLink RX0 19 "AgreedTalks$Claims" "turns" "[I", .fieldLink RX0 22 "AgreedTalks$Claims" "marks" "[I", .fieldLink RX0 25 "AgreedTalks$Claims" "standing" "J"] : List Cond) ++ wsX00)
set_option maxRecDepth 20000 in
theorem gi_Claims_init : GoodIn lw_tbl wp_Claims_init := (goodIn_ca (goodIn_r (.code yX0_init cX0_init 1 none :: ([.methodLink RX0 3 objectInit, .instanceMethod objectInit, .code objectInit ⟨#[0xb1]⟩ 1 none, .arrayClass .int, .fieldLink RX0 9 "AgreedTalks$Claims" "words" "[I", .arrayClass .long, .fieldLink RX0 15 "AgreedTalks$Claims" "grounds" "[J", .fieldLink RX0 19 "AgreedTalks$Claims" "turns" "[I", .fieldLink RX0 22 "AgreedTalks$Claims" "marks" "[I", .fieldLink RX0 25 "AgreedTalks$Claims" "standing" "J"] : List Cond)) [163, 164, 74, 75, 102, 165, 185, 167, 168, 170, 172] (by decide +kernel) (by decide +kernel)) wi_wsX0)
set_option maxHeartbeats 4000000 in
set_option maxRecDepth 100000 in
/-- Claims() -/
theorem c_Claims_init (l : Launch) (dC : Nat → ClassId) (dI : Nat → Nat → Nat) (sz : Nat) (h0 : Nat) : Met l yX0_init wp_Claims_init ({ frames := 1, cells := 4, slots := 1480, locals := 20 }) (va_Pc [.ref h0] (fun U => U.heap.size = sz ∧ va_P (dC, dI) vwCl [(h0, .inr (1, [.null, .null, .null, .null, .long 0]))] U.heap ∧ va_K (dC, dI) vwCl [] U ∧ va_D (fun _ => True) [(h0, .inr (1, [.null, .null, .null, .null, .long 0]))])) (va_Qv (fun (_ : Unit) => True) (fun (_ : Unit) (t : State) => ∃ (c0 : Nat), ∃ (c1 : Nat), ∃ (c2 : Nat), ∃ (c3 : Nat), ∃ (cc0 : ClassId), ∃ (cc1 : ClassId), ∃ (cc2 : ClassId), ∃ (cc3 : ClassId), va_P (dC, dI) vwCl [(h0, .inr (1, [.ref c0, .ref c1, .ref c2, .ref c3, .long 0])), (c0, .inl (cc0, 480, .inl (fun _ => 0))), (c1, .inl (cc1, 480, .inr (.inl (fun _ => 0)))), (c2, .inl (cc2, 480, .inl (fun _ => 0))), (c3, .inl (cc3, 40, .inl (fun _ => 0)))] t.heap ∧ va_K (dC, dI) vwCl [(cc0, .int), (cc1, .long), (cc2, .int), (cc3, .int)] t ∧ va_D (va_A [(h0, .inr (1, [.null, .null, .null, .null, .long 0]))] sz) [(h0, .inr (1, [.ref c0, .ref c1, .ref c2, .ref c3, .long 0])), (c0, .inl (cc0, 480, .inl (fun _ => 0))), (c1, .inl (cc1, 480, .inr (.inl (fun _ => 0)))), (c2, .inl (cc2, 480, .inl (fun _ => 0))), (c3, .inl (cc3, 40, .inl (fun _ => 0)))]) (va_A [(h0, .inr (1, [.null, .null, .null, .null, .long 0]))] sz)) 4 1480 (va_A [(h0, .inr (1, [.null, .null, .null, .null, .long 0]))] sz) := by
  refine Met.ofW (cc := cX0_init) (maxL := 1) (ret := none) (by decide) rfl ?_
  intro p e s m args below meth c s₁ B hml hv
  obtain ⟨rfl, hsz, hP, hK, hD0⟩ := hv
  have hx := B.exec
  have hb := B.bytes
  have hr := B.returns
  have hts := atoms_spec (ws := wp_Claims_init) B.pre
  have hown : s.vm.findClass RX0 = some m.cls := findClass_of_methodNamed B.named
  have hlocks := B.notSynchronized
  have hin : meth.name = "<init>" := (name_of_methodNamed B.named B.method).1
  subst hsz
  have hD := hD0.self (sz := s.heap.size)
  generalize hAe : va_A [(h0, .inr (1, [.null, .null, .null, .null, .long 0]))] s.heap.size = A at hD ⊢
  have hA : ∀ q : Nat, s.heap.size ≤ q → A q := fun q h => by rw [← hAe]; exact Or.inr h
  have hS : va_S A s.heap s.heap [] := va_S.rf
  have hP : va_P (dC, dI) vwCl [(h0, .inr (1, [.null, .null, .null, .null, .long 0]))] s.heap := hP
  have hl := lv_entry ([.ref h0]) (n := 1) (Nat.le_of_ble_eq_true rfl)
  rw [lg_entry_eq]
  generalize (lg_sl ([.ref h0]) ++ List.replicate (1 - (lg_sl ([.ref h0])).length) Slot.unset).toArray = ls at hl ⊢
  have hl : lv_has ls 1 [(0, .ref h0)] := hl
  have hinX0 : ∀ w ∈ u_ws RX0 TX0 5, w ∈ wp_Claims_init := fun _ h => List.mem_cons_of_mem _ (List.mem_append_right _ h)
  refine lv_aload_n hx hb dX0_init_0 rfl (lv_at hl 0 rfl) ?_
  refine W.objInit hx hb hown (hts (.methodLink RX0 3 objectInit) (by decide +kernel)) (hts (.instanceMethod objectInit) (by decide +kernel)) (hts _ (List.mem_cons_of_mem _ (List.mem_append_left _ (List.mem_of_getElem? (i := 2) rfl)))) rfl (by rw [hml]; exact hl.1) rfl dX0_init_1 (Nat.le_of_ble_eq_true rfl) (Nat.le_of_ble_eq_true rfl) ?_
  refine W.eq (g2 := F0 m 4 ls []) rfl ?_
  refine lv_aload_n hx hb dX0_init_4 rfl (lv_at hl 0 rfl) ?_
  refine lv_sipush (v := 480) hx hb dX0_init_5 (by decide) ?_
  refine va_newa (atype := .int) (ty := .int) (N' := 480) (a0 := (480, .inl (fun _ => 0))) hx hb (hts (.arrayClass .int) (by decide +kernel)) rfl hK hP hD hS hA (fun _ => rfl) (by decide) (by decide) (by decide) (by decide) (by decide) dX0_init_8 (fun q_1 cy_2 H hK hP hD hS => ?_)
  have hP : va_P (dC, dI) vwCl [(h0, .inr (1, [.null, .null, .null, .null, .long 0])), (q_1, .inl (cy_2, 480, .inl (fun _ => 0)))] H := hP
  have hD : va_D A [(h0, .inr (1, [.null, .null, .null, .null, .long 0])), (q_1, .inl (cy_2, 480, .inl (fun _ => 0)))] := hD
  have hK : va_K (dC, dI) vwCl [(cy_2, .int)] s := hK
  refine W.widen (k := 1) (n := 480) (by omega) (by omega) ?_
  refine va_putF (D := (dC, dI)) (ci := 1) (v := .ref q_1) (ty := .array .int) (C := RX0) (T := TX0) (N := 5) hx hb hts hinX0 tyX0 tyX0_ok nmX0 hown hK hP hD hS 0 rfl rfl 0 (by decide) (hts (.fieldLink RX0 9 "AgreedTalks$Claims" "words" "[I") (by decide +kernel)) (fun _ h9 => h9) rfl hin rfl (by decide +kernel) rfl rfl (Nat.le_of_ble_eq_true rfl) dX0_init_10 (fun H locs hP hD hS => ?_)
  have hP : va_P (dC, dI) vwCl [(h0, .inr (1, [.ref q_1, .null, .null, .null, .long 0])), (q_1, .inl (cy_2, 480, .inl (fun _ => 0)))] H := hP
  have hD : va_D A [(h0, .inr (1, [.ref q_1, .null, .null, .null, .long 0])), (q_1, .inl (cy_2, 480, .inl (fun _ => 0)))] := hD
  refine lv_aload_n hx hb dX0_init_13 rfl (lv_at hl 0 rfl) ?_
  refine lv_sipush (v := 480) hx hb dX0_init_14 (by decide) ?_
  refine va_newa (atype := .long) (ty := .long) (N' := 480) (a0 := (480, .inr (.inl (fun _ => 0)))) hx hb (hts (.arrayClass .long) (by decide +kernel)) rfl hK hP hD hS hA (fun _ => rfl) (by decide) (by decide) (by decide) (by decide) (by decide) dX0_init_17 (fun q_3 cy_4 H hK hP hD hS => ?_)
  have hP : va_P (dC, dI) vwCl [(h0, .inr (1, [.ref q_1, .null, .null, .null, .long 0])), (q_1, .inl (cy_2, 480, .inl (fun _ => 0))), (q_3, .inl (cy_4, 480, .inr (.inl (fun _ => 0))))] H := hP
  have hD : va_D A [(h0, .inr (1, [.ref q_1, .null, .null, .null, .long 0])), (q_1, .inl (cy_2, 480, .inl (fun _ => 0))), (q_3, .inl (cy_4, 480, .inr (.inl (fun _ => 0))))] := hD
  have hK : va_K (dC, dI) vwCl [(cy_2, .int), (cy_4, .long)] s := hK
  refine W.widen (k := 2) (n := 960) (by omega) (by omega) ?_
  refine va_putF (D := (dC, dI)) (ci := 1) (v := .ref q_3) (ty := .array .long) (C := RX0) (T := TX0) (N := 5) hx hb hts hinX0 tyX0 tyX0_ok nmX0 hown hK hP hD hS 0 rfl rfl 1 (by decide) (hts (.fieldLink RX0 15 "AgreedTalks$Claims" "grounds" "[J") (by decide +kernel)) (fun _ h9 => h9) rfl hin rfl (by decide +kernel) rfl rfl (Nat.le_of_ble_eq_true rfl) dX0_init_19 (fun H locs hP hD hS => ?_)
  have hP : va_P (dC, dI) vwCl [(h0, .inr (1, [.ref q_1, .ref q_3, .null, .null, .long 0])), (q_1, .inl (cy_2, 480, .inl (fun _ => 0))), (q_3, .inl (cy_4, 480, .inr (.inl (fun _ => 0))))] H := hP
  have hD : va_D A [(h0, .inr (1, [.ref q_1, .ref q_3, .null, .null, .long 0])), (q_1, .inl (cy_2, 480, .inl (fun _ => 0))), (q_3, .inl (cy_4, 480, .inr (.inl (fun _ => 0))))] := hD
  refine lv_aload_n hx hb dX0_init_22 rfl (lv_at hl 0 rfl) ?_
  refine lv_sipush (v := 480) hx hb dX0_init_23 (by decide) ?_
  refine va_newa (atype := .int) (ty := .int) (N' := 480) (a0 := (480, .inl (fun _ => 0))) hx hb (hts (.arrayClass .int) (by decide +kernel)) rfl hK hP hD hS hA (fun _ => rfl) (by decide) (by decide) (by decide) (by decide) (by decide) dX0_init_26 (fun q_5 cy_6 H hK hP hD hS => ?_)
  have hP : va_P (dC, dI) vwCl [(h0, .inr (1, [.ref q_1, .ref q_3, .null, .null, .long 0])), (q_1, .inl (cy_2, 480, .inl (fun _ => 0))), (q_3, .inl (cy_4, 480, .inr (.inl (fun _ => 0)))), (q_5, .inl (cy_6, 480, .inl (fun _ => 0)))] H := hP
  have hD : va_D A [(h0, .inr (1, [.ref q_1, .ref q_3, .null, .null, .long 0])), (q_1, .inl (cy_2, 480, .inl (fun _ => 0))), (q_3, .inl (cy_4, 480, .inr (.inl (fun _ => 0)))), (q_5, .inl (cy_6, 480, .inl (fun _ => 0)))] := hD
  have hK : va_K (dC, dI) vwCl [(cy_2, .int), (cy_4, .long), (cy_6, .int)] s := hK
  refine W.widen (k := 3) (n := 1440) (by omega) (by omega) ?_
  refine va_putF (D := (dC, dI)) (ci := 1) (v := .ref q_5) (ty := .array .int) (C := RX0) (T := TX0) (N := 5) hx hb hts hinX0 tyX0 tyX0_ok nmX0 hown hK hP hD hS 0 rfl rfl 2 (by decide) (hts (.fieldLink RX0 19 "AgreedTalks$Claims" "turns" "[I") (by decide +kernel)) (fun _ h9 => h9) rfl hin rfl (by decide +kernel) rfl rfl (Nat.le_of_ble_eq_true rfl) dX0_init_28 (fun H locs hP hD hS => ?_)
  have hP : va_P (dC, dI) vwCl [(h0, .inr (1, [.ref q_1, .ref q_3, .ref q_5, .null, .long 0])), (q_1, .inl (cy_2, 480, .inl (fun _ => 0))), (q_3, .inl (cy_4, 480, .inr (.inl (fun _ => 0)))), (q_5, .inl (cy_6, 480, .inl (fun _ => 0)))] H := hP
  have hD : va_D A [(h0, .inr (1, [.ref q_1, .ref q_3, .ref q_5, .null, .long 0])), (q_1, .inl (cy_2, 480, .inl (fun _ => 0))), (q_3, .inl (cy_4, 480, .inr (.inl (fun _ => 0)))), (q_5, .inl (cy_6, 480, .inl (fun _ => 0)))] := hD
  refine lv_aload_n hx hb dX0_init_31 rfl (lv_at hl 0 rfl) ?_
  refine lv_bipush (v := 40) hx hb dX0_init_32 (by decide) ?_
  refine va_newa (atype := .int) (ty := .int) (N' := 40) (a0 := (40, .inl (fun _ => 0))) hx hb (hts (.arrayClass .int) (by decide +kernel)) rfl hK hP hD hS hA (fun _ => rfl) (by decide) (by decide) (by decide) (by decide) (by decide) dX0_init_34 (fun q_7 cy_8 H hK hP hD hS => ?_)
  have hP : va_P (dC, dI) vwCl [(h0, .inr (1, [.ref q_1, .ref q_3, .ref q_5, .null, .long 0])), (q_1, .inl (cy_2, 480, .inl (fun _ => 0))), (q_3, .inl (cy_4, 480, .inr (.inl (fun _ => 0)))), (q_5, .inl (cy_6, 480, .inl (fun _ => 0))), (q_7, .inl (cy_8, 40, .inl (fun _ => 0)))] H := hP
  have hD : va_D A [(h0, .inr (1, [.ref q_1, .ref q_3, .ref q_5, .null, .long 0])), (q_1, .inl (cy_2, 480, .inl (fun _ => 0))), (q_3, .inl (cy_4, 480, .inr (.inl (fun _ => 0)))), (q_5, .inl (cy_6, 480, .inl (fun _ => 0))), (q_7, .inl (cy_8, 40, .inl (fun _ => 0)))] := hD
  have hK : va_K (dC, dI) vwCl [(cy_2, .int), (cy_4, .long), (cy_6, .int), (cy_8, .int)] s := hK
  refine W.widen (k := 4) (n := 1480) (by omega) (by omega) ?_
  refine va_putF (D := (dC, dI)) (ci := 1) (v := .ref q_7) (ty := .array .int) (C := RX0) (T := TX0) (N := 5) hx hb hts hinX0 tyX0 tyX0_ok nmX0 hown hK hP hD hS 0 rfl rfl 3 (by decide) (hts (.fieldLink RX0 22 "AgreedTalks$Claims" "marks" "[I") (by decide +kernel)) (fun _ h9 => h9) rfl hin rfl (by decide +kernel) rfl rfl (Nat.le_of_ble_eq_true rfl) dX0_init_36 (fun H locs hP hD hS => ?_)
  have hP : va_P (dC, dI) vwCl [(h0, .inr (1, [.ref q_1, .ref q_3, .ref q_5, .ref q_7, .long 0])), (q_1, .inl (cy_2, 480, .inl (fun _ => 0))), (q_3, .inl (cy_4, 480, .inr (.inl (fun _ => 0)))), (q_5, .inl (cy_6, 480, .inl (fun _ => 0))), (q_7, .inl (cy_8, 40, .inl (fun _ => 0)))] H := hP
  have hD : va_D A [(h0, .inr (1, [.ref q_1, .ref q_3, .ref q_5, .ref q_7, .long 0])), (q_1, .inl (cy_2, 480, .inl (fun _ => 0))), (q_3, .inl (cy_4, 480, .inr (.inl (fun _ => 0)))), (q_5, .inl (cy_6, 480, .inl (fun _ => 0))), (q_7, .inl (cy_8, 40, .inl (fun _ => 0)))] := hD
  refine lv_aload_n hx hb dX0_init_39 rfl (lv_at hl 0 rfl) ?_
  refine lv_lconst (v := 0) hx hb dX0_init_40 (by decide) ?_
  refine va_put (D := (dC, dI)) (ci := 1) (v := .long 0) (ty := .long) (C := RX0) (T := TX0) (N := 5) hx hb hts hinX0 tyX0 tyX0_ok nmX0 hown hK hP hD hS 0 rfl rfl 4 (by decide) (hts (.fieldLink RX0 25 "AgreedTalks$Claims" "standing" "J") (by decide +kernel)) (fun _ h9 => h9) rfl (by decide +kernel) rfl rfl (Nat.le_of_ble_eq_true rfl) dX0_init_41 (fun H locs hP hD hS => ?_)
  have hP : va_P (dC, dI) vwCl [(h0, .inr (1, [.ref q_1, .ref q_3, .ref q_5, .ref q_7, .long 0])), (q_1, .inl (cy_2, 480, .inl (fun _ => 0))), (q_3, .inl (cy_4, 480, .inr (.inl (fun _ => 0)))), (q_5, .inl (cy_6, 480, .inl (fun _ => 0))), (q_7, .inl (cy_8, 40, .inl (fun _ => 0)))] H := hP
  have hD : va_D A [(h0, .inr (1, [.ref q_1, .ref q_3, .ref q_5, .ref q_7, .long 0])), (q_1, .inl (cy_2, 480, .inl (fun _ => 0))), (q_3, .inl (cy_4, 480, .inr (.inl (fun _ => 0)))), (q_5, .inl (cy_6, 480, .inl (fun _ => 0))), (q_7, .inl (cy_8, 40, .inl (fun _ => 0)))] := hD
  have hP9 := hP.sub (ws' := [(h0, .inr (1, [.ref q_1, .ref q_3, .ref q_5, .ref q_7, .long 0])), (q_1, .inl (cy_2, 480, .inl (fun _ => 0))), (q_3, .inl (cy_4, 480, .inr (.inl (fun _ => 0)))), (q_5, .inl (cy_6, 480, .inl (fun _ => 0))), (q_7, .inl (cy_8, 40, .inl (fun _ => 0)))]) [0, 1, 2, 3, 4] rfl
  have hD9 := hD.sub (ws' := [(h0, .inr (1, [.ref q_1, .ref q_3, .ref q_5, .ref q_7, .long 0])), (q_1, .inl (cy_2, 480, .inl (fun _ => 0))), (q_3, .inl (cy_4, 480, .inr (.inl (fun _ => 0)))), (q_5, .inl (cy_6, 480, .inl (fun _ => 0))), (q_7, .inl (cy_8, 40, .inl (fun _ => 0)))]) [0, 1, 2, 3, 4] (by decide) rfl
  have hK9 := hK.sub (tys' := [(cy_2, .int), (cy_4, .long), (cy_6, .int), (cy_8, .int)]) [0, 1, 2, 3] rfl
  refine W.widen (k := 4) (n := 1480) (by omega) (by omega) ?_
  exact W.vret hx hb hr (fun t ht hW => ⟨⟨(), rfl, trivial, q_1, q_3, q_5, q_7, cy_2, cy_4, cy_6, cy_8, by rw [ht]; exact hP9, va_K.moved hW.alike hK9, hD9⟩, hS.F ht⟩) hS.2.2 dX0_init_44
def wp_X6_init : List Cond := .code yX6_init cX6_init 1 none :: (([.methodLink RX6 1 objectInit, .instanceMethod objectInit, .code objectInit ⟨#[0xb1]⟩ 1 none, .arrayClass .int, .fieldLink RX6 9 "AgreedTalks" "days" "[I", .fieldLink RX6 13 "AgreedTalks" "counting" "[I", .classLink RX6 16 RJx4a65c, .instantiable RJx4a65c 3, .initialized RJx4a65c, .methodLink RX6 18 yJx4a65c_init_da8c8, .instanceMethod yJx4a65c_init_da8c8, .fieldLink RX6 19 "AgreedTalks" "records" "Ljava/util/ArrayList;", .classLink RX6 23 RX5, .instantiable RX5 2, .initialized RX5, .instanceMethod yX5_init, .fieldLink RX6 26 "AgreedTalks" "tape" "LAgreedTalks$Tape;", .classLink RX6 30 RX4, .instantiable RX4 3, .initialized RX4, .methodLink RX6 32 yX4_init, .instanceMethod yX4_init, .fieldLink RX6 35 "AgreedTalks" "reader" "LAgreedTalks$Reader;", .classLink RX6 39 RX1, .instantiable RX1 4, .initialized RX1, .instanceMethod yX1_init, .fieldLink RX6 42 "AgreedTalks" "deeds" "LAgreedTalks$Deeds;", .classLink RX6 46 RX0, .instantiable RX0 5, .initialized RX0, .instanceMethod yX0_init, .fieldLink RX6 49 "AgreedTalks" "claims" "LAgreedTalks$Claims;", .fieldLink RX6 53 "AgreedTalks" "meetings" "I", .fieldLink RX6 57 "AgreedTalks" "shown" "I", .fieldLink RX6 60 "AgreedTalks" "faultPlace" "I", .fieldLink RX6 63 "AgreedTalks" "refusal" "I"] : List Cond) ++ wsX60 ++ wsJx4a65c0 ++ wsX50 ++ wsX40 ++ wsX10 ++ wsX00 ++ wp_AL_init ++ wp_Tape_init ++ wp_Reader_init ++ wp_Deeds_init ++ wp_Claims_init ++ (va_wsS RX6 66 yJ7_fill_53178 wp_fill))
theorem gc_X6_init_AL_init : GoodIn wp_X6_init wp_AL_init := goodIn_sub (fun _ h => List.mem_cons_of_mem _ (List.mem_append_left _ (List.mem_append_left _ (List.mem_append_left _ (List.mem_append_left _ (List.mem_append_left _ (List.mem_append_right _ h))))))) (by decide +kernel)
theorem gc_X6_init_Tape_init : GoodIn wp_X6_init wp_Tape_init := goodIn_sub (fun _ h => List.mem_cons_of_mem _ (List.mem_append_left _ (List.mem_append_left _ (List.mem_append_left _ (List.mem_append_left _ (List.mem_append_right _ h)))))) (by decide +kernel)
theorem gc_X6_init_Reader_init : GoodIn wp_X6_init wp_Reader_init := goodIn_sub (fun _ h => List.mem_cons_of_mem _ (List.mem_append_left _ (List.mem_append_left _ (List.mem_append_left _ (List.mem_append_right _ h))))) (by decide +kernel)
theorem gc_X6_init_Deeds_init : GoodIn wp_X6_init wp_Deeds_init := goodIn_sub (fun _ h => List.mem_cons_of_mem _ (List.mem_append_left _ (List.mem_append_left _ (List.mem_append_right _ h)))) (by decide +kernel)
theorem gc_X6_init_Claims_init : GoodIn wp_X6_init wp_Claims_init := goodIn_sub (fun _ h => List.mem_cons_of_mem _ (List.mem_append_left _ (List.mem_append_right _ h))) (by decide +kernel)
theorem gc_X6_init_fill : GoodIn wp_X6_init (va_wsS RX6 66 yJ7_fill_53178 wp_fill) := goodIn_sub (fun _ h => List.mem_cons_of_mem _ (List.mem_append_right _ h)) (by decide +kernel)
set_option maxRecDepth 20000 in
theorem gi_X6_init : GoodIn lw_tbl wp_X6_init := (goodIn_ca (goodIn_ca (goodIn_ca (goodIn_ca (goodIn_ca (goodIn_ca (goodIn_ca (goodIn_ca (goodIn_ca (goodIn_ca (goodIn_ca (goodIn_ca (goodIn_r (.code yX6_init cX6_init 1 none :: ([.methodLink RX6 1 objectInit, .instanceMethod objectInit, .code objectInit ⟨#[0xb1]⟩ 1 none, .arrayClass .int, .fieldLink RX6 9 "AgreedTalks" "days" "[I", .fieldLink RX6 13 "AgreedTalks" "counting" "[I", .classLink RX6 16 RJx4a65c, .instantiable RJx4a65c 3, .initialized RJx4a65c, .methodLink RX6 18 yJx4a65c_init_da8c8, .instanceMethod yJx4a65c_init_da8c8, .fieldLink RX6 19 "AgreedTalks" "records" "Ljava/util/ArrayList;", .classLink RX6 23 RX5, .instantiable RX5 2, .initialized RX5, .instanceMethod yX5_init, .fieldLink RX6 26 "AgreedTalks" "tape" "LAgreedTalks$Tape;", .classLink RX6 30 RX4, .instantiable RX4 3, .initialized RX4, .methodLink RX6 32 yX4_init, .instanceMethod yX4_init, .fieldLink RX6 35 "AgreedTalks" "reader" "LAgreedTalks$Reader;", .classLink RX6 39 RX1, .instantiable RX1 4, .initialized RX1, .instanceMethod yX1_init, .fieldLink RX6 42 "AgreedTalks" "deeds" "LAgreedTalks$Deeds;", .classLink RX6 46 RX0, .instantiable RX0 5, .initialized RX0, .instanceMethod yX0_init, .fieldLink RX6 49 "AgreedTalks" "claims" "LAgreedTalks$Claims;", .fieldLink RX6 53 "AgreedTalks" "meetings" "I", .fieldLink RX6 57 "AgreedTalks" "shown" "I", .fieldLink RX6 60 "AgreedTalks" "faultPlace" "I", .fieldLink RX6 63 "AgreedTalks" "refusal" "I"] : List Cond)) [72, 73, 74, 75, 102, 189, 190, 76, 77, 51, 78, 79, 191, 103, 104, 52, 106, 192, 119, 120, 53, 121, 122, 193, 136, 137, 54, 139, 194, 159, 160, 55, 162, 195, 196, 197, 198, 199] (by decide +kernel) (by decide +kernel)) wi_wsX6) wi_wsJx4a65c) wi_wsX5) wi_wsX4) wi_wsX1) wi_wsX0) gi_AL_init) gi_Tape_init) gi_Reader_init) gi_Deeds_init) gi_Claims_init) (goodIn_app (goodIn_r _ [186, 187, 56] (by decide +kernel) (by decide +kernel)) gi_fill))
set_option maxHeartbeats 4000000 in
set_option maxRecDepth 100000 in
/-- AgreedTalks() -/
theorem c_X6_init (l : Launch) (dC : Nat → ClassId) (dI : Nat → Nat → Nat) (sz : Nat) (h0 : Nat) (ze : Nat) (mi : Nat) : Met l yX6_init wp_X6_init ({ frames := 4, cells := 16, slots := 2457, locals := 90 }) (va_Pc [.ref h0] (fun U => U.heap.size = sz ∧ va_P (dC, dI) vwCl [(h0, .inr (7, [.null, .null, .null, .null, .null, .null, .null, .int 0, .int 0, .int 0, .int 0]))] U.heap ∧ va_K (dC, dI) vwCl [] U ∧ va_D (fun _ => True) [(h0, .inr (7, [.null, .null, .null, .null, .null, .null, .null, .int 0, .int 0, .int 0, .int 0]))] ∧ va_Nw (.methodLinkNest RX6 25 yX5_init "AgreedTalks") U ∧ va_Nw (.methodLinkNest RX6 41 yX1_init "AgreedTalks") U ∧ va_Nw (.methodLinkNest RX6 48 yX0_init "AgreedTalks") U ∧ okAL ze mi (va_A [(h0, .inr (7, [.null, .null, .null, .null, .null, .null, .null, .int 0, .int 0, .int 0, .int 0]))] sz) U U.heap)) (va_Qv (fun (_ : Unit) => True) (fun (_ : Unit) (t : State) => ∃ (a0 : Nat), ∃ (a1 : Nat), ∃ (a2 : Nat), ∃ (a3 : Nat), ∃ (a4 : Nat), ∃ (a5 : Nat), ∃ (a6 : Nat), ∃ (ab : Nat), ∃ (d0 : Nat), ∃ (d1 : Nat), ∃ (d2 : Nat), ∃ (d3 : Nat), ∃ (c0 : Nat), ∃ (c1 : Nat), ∃ (c2 : Nat), ∃ (c3 : Nat), ∃ (cA : ClassId), ∃ (cC : ClassId), ∃ (cB : ClassId), ∃ (cd0 : ClassId), ∃ (cd1 : ClassId), ∃ (cd2 : ClassId), ∃ (cd3 : ClassId), ∃ (cc0 : ClassId), ∃ (cc1 : ClassId), ∃ (cc2 : ClassId), ∃ (cc3 : ClassId), ∃ (fc : Nat → Int32), va_P (dC, dI) vwCl [(h0, .inr (7, [.ref a0, .ref a1, .ref a2, .ref a3, .ref a4, .ref a5, .ref a6, .int 0, .int (-1), .int (-1), .int 0])), (a0, .inl (cA, 30, .inl (fun _ => 0))), (a1, .inl (cC, 30, .inl fc)), (a2, .inr (0, [.int 0, .ref ze, .int 0])), (a3, .inr (6, [.ref ab, .int 0])), (ab, .inl (cB, 300, .inl (fun _ => 0))), (a4, .inr (5, [.ref a3, .int 0, .int 0])), (a5, .inr (2, [.ref d0, .ref d1, .ref d2, .ref d3])), (d0, .inl (cd0, 40, .inl (fun _ => 0))), (d1, .inl (cd1, 40, .inl (fun _ => 0))), (d2, .inl (cd2, 40, .inl (fun _ => 0))), (d3, .inl (cd3, 480, .inl (fun _ => 0))), (a6, .inr (1, [.ref c0, .ref c1, .ref c2, .ref c3, .long 0])), (c0, .inl (cc0, 480, .inl (fun _ => 0))), (c1, .inl (cc1, 480, .inr (.inl (fun _ => 0)))), (c2, .inl (cc2, 480, .inl (fun _ => 0))), (c3, .inl (cc3, 40, .inl (fun _ => 0)))] t.heap ∧ va_K (dC, dI) vwCl [(cA, .int), (cC, .int), (cB, .int), (cd0, .int), (cd1, .int), (cd2, .int), (cd3, .int), (cc0, .int), (cc1, .long), (cc2, .int), (cc3, .int)] t ∧ va_D (va_A [(h0, .inr (7, [.null, .null, .null, .null, .null, .null, .null, .int 0, .int 0, .int 0, .int 0]))] sz) [(h0, .inr (7, [.ref a0, .ref a1, .ref a2, .ref a3, .ref a4, .ref a5, .ref a6, .int 0, .int (-1), .int (-1), .int 0])), (a0, .inl (cA, 30, .inl (fun _ => 0))), (a1, .inl (cC, 30, .inl fc)), (a2, .inr (0, [.int 0, .ref ze, .int 0])), (a3, .inr (6, [.ref ab, .int 0])), (ab, .inl (cB, 300, .inl (fun _ => 0))), (a4, .inr (5, [.ref a3, .int 0, .int 0])), (a5, .inr (2, [.ref d0, .ref d1, .ref d2, .ref d3])), (d0, .inl (cd0, 40, .inl (fun _ => 0))), (d1, .inl (cd1, 40, .inl (fun _ => 0))), (d2, .inl (cd2, 40, .inl (fun _ => 0))), (d3, .inl (cd3, 480, .inl (fun _ => 0))), (a6, .inr (1, [.ref c0, .ref c1, .ref c2, .ref c3, .long 0])), (c0, .inl (cc0, 480, .inl (fun _ => 0))), (c1, .inl (cc1, 480, .inr (.inl (fun _ => 0)))), (c2, .inl (cc2, 480, .inl (fun _ => 0))), (c3, .inl (cc3, 40, .inl (fun _ => 0)))]) (va_A [(h0, .inr (7, [.null, .null, .null, .null, .null, .null, .null, .int 0, .int 0, .int 0, .int 0]))] sz)) 16 2457 (va_A [(h0, .inr (7, [.null, .null, .null, .null, .null, .null, .null, .int 0, .int 0, .int 0, .int 0]))] sz) := by
  refine Met.ofW (cc := cX6_init) (maxL := 1) (ret := none) (by decide) rfl ?_
  intro p e s m args below meth c s₁ B hml hv
  obtain ⟨rfl, hsz, hP, hK, hD0, hn25, hn41, hn48, hAL⟩ := hv
  have hx := B.exec
  have hb := B.bytes
  have hr := B.returns
  have hts := atoms_spec (ws := wp_X6_init) B.pre
  have hown : s.vm.findClass RX6 = some m.cls := findClass_of_methodNamed B.named
  have hlocks := B.notSynchronized
  have hin : meth.name = "<init>" := (name_of_methodNamed B.named B.method).1
  subst hsz
  have hD := hD0.self (sz := s.heap.size)
  generalize hAe : va_A [(h0, .inr (7, [.null, .null, .null, .null, .null, .null, .null, .int 0, .int 0, .int 0, .int 0]))] s.heap.size = A at hD hAL ⊢
  have hA : ∀ q : Nat, s.heap.size ≤ q → A q := fun q h => by rw [← hAe]; exact Or.inr h
  have hS : va_S A s.heap s.heap [] := va_S.rf
  have hP : va_P (dC, dI) vwCl [(h0, .inr (7, [.null, .null, .null, .null, .null, .null, .null, .int 0, .int 0, .int 0, .int 0]))] s.heap := hP
  have hl := lv_entry ([.ref h0]) (n := 1) (Nat.le_of_ble_eq_true rfl)
  rw [lg_entry_eq]
  generalize (lg_sl ([.ref h0]) ++ List.replicate (1 - (lg_sl ([.ref h0])).length) Slot.unset).toArray = ls at hl ⊢
  have hl : lv_has ls 1 [(0, .ref h0)] := hl
  have hinX6 : ∀ w ∈ u_ws RX6 TX6 11, w ∈ wp_X6_init := fun _ h => List.mem_cons_of_mem _ (List.mem_append_left _ (List.mem_append_left _ (List.mem_append_left _ (List.mem_append_left _ (List.mem_append_left _ (List.mem_append_left _ (List.mem_append_left _ (List.mem_append_left _ (List.mem_append_left _ (List.mem_append_left _ (List.mem_append_left _ (List.mem_append_right _ h))))))))))))
  have hinJx4a65c : ∀ w ∈ u_ws RJx4a65c TJx4a65c 3, w ∈ wp_X6_init := fun _ h => List.mem_cons_of_mem _ (List.mem_append_left _ (List.mem_append_left _ (List.mem_append_left _ (List.mem_append_left _ (List.mem_append_left _ (List.mem_append_left _ (List.mem_append_left _ (List.mem_append_left _ (List.mem_append_left _ (List.mem_append_left _ (List.mem_append_right _ h)))))))))))
  have hinX5 : ∀ w ∈ u_ws RX5 TX5 2, w ∈ wp_X6_init := fun _ h => List.mem_cons_of_mem _ (List.mem_append_left _ (List.mem_append_left _ (List.mem_append_left _ (List.mem_append_left _ (List.mem_append_left _ (List.mem_append_left _ (List.mem_append_left _ (List.mem_append_left _ (List.mem_append_left _ (List.mem_append_right _ h))))))))))
  have hinX4 : ∀ w ∈ u_ws RX4 TX4 3, w ∈ wp_X6_init := fun _ h => List.mem_cons_of_mem _ (List.mem_append_left _ (List.mem_append_left _ (List.mem_append_left _ (List.mem_append_left _ (List.mem_append_left _ (List.mem_append_left _ (List.mem_append_left _ (List.mem_append_left _ (List.mem_append_right _ h)))))))))
  have hinX1 : ∀ w ∈ u_ws RX1 TX1 4, w ∈ wp_X6_init := fun _ h => List.mem_cons_of_mem _ (List.mem_append_left _ (List.mem_append_left _ (List.mem_append_left _ (List.mem_append_left _ (List.mem_append_left _ (List.mem_append_left _ (List.mem_append_left _ (List.mem_append_right _ h))))))))
  have hinX0 : ∀ w ∈ u_ws RX0 TX0 5, w ∈ wp_X6_init := fun _ h => List.mem_cons_of_mem _ (List.mem_append_left _ (List.mem_append_left _ (List.mem_append_left _ (List.mem_append_left _ (List.mem_append_left _ (List.mem_append_left _ (List.mem_append_right _ h)))))))
  have hZT : va_T (.object "java/lang/Object") ze 0 (fun _ => .null) A s s.heap ∧ True := ⟨hAL.2.1, trivial⟩
  refine lv_aload_n hx hb dX6_init_0 rfl (lv_at hl 0 rfl) ?_
  refine W.objInit hx hb hown (hts (.methodLink RX6 1 objectInit) (by decide +kernel)) (hts (.instanceMethod objectInit) (by decide +kernel)) (hts _ (List.mem_cons_of_mem _ (List.mem_append_left _ (List.mem_append_left _ (List.mem_append_left _ (List.mem_append_left _ (List.mem_append_left _ (List.mem_append_left _ (List.mem_append_left _ (List.mem_append_left _ (List.mem_append_left _ (List.mem_append_left _ (List.mem_append_left _ (List.mem_append_left _ (List.mem_of_getElem? (i := 2) rfl))))))))))))))) rfl (by rw [hml]; exact hl.1) rfl dX6_init_1 (Nat.le_of_ble_eq_true rfl) (Nat.le_of_ble_eq_true rfl) ?_
  refine W.eq (g2 := F0 m 4 ls []) rfl ?_
  refine lv_aload_n hx hb dX6_init_4 rfl (lv_at hl 0 rfl) ?_
  refine lv_bipush (v := 30) hx hb dX6_init_5 (by decide) ?_
  refine va_newa (atype := .int) (ty := .int) (N' := 30) (a0 := (30, .inl (fun _ => 0))) hx hb (hts (.arrayClass .int) (by decide +kernel)) rfl hK hP hD hS hA (fun _ => rfl) (by decide) (by decide) (by decide) (by decide) (by decide) dX6_init_7 (fun q_1 cy_2 H hK hP hD hS => ?_)
  have hP : va_P (dC, dI) vwCl [(h0, .inr (7, [.null, .null, .null, .null, .null, .null, .null, .int 0, .int 0, .int 0, .int 0])), (q_1, .inl (cy_2, 30, .inl (fun _ => 0)))] H := hP
  have hD : va_D A [(h0, .inr (7, [.null, .null, .null, .null, .null, .null, .null, .int 0, .int 0, .int 0, .int 0])), (q_1, .inl (cy_2, 30, .inl (fun _ => 0)))] := hD
  have hK : va_K (dC, dI) vwCl [(cy_2, .int)] s := hK
  refine W.widen (k := 1) (n := 30) (by omega) (by omega) ?_
  refine va_putF (D := (dC, dI)) (ci := 7) (v := .ref q_1) (ty := .array .int) (C := RX6) (T := TX6) (N := 11) hx hb hts hinX6 tyX6 tyX6_ok nmX6 hown hK hP hD hS 0 rfl rfl 0 (by decide) (hts (.fieldLink RX6 9 "AgreedTalks" "days" "[I") (by decide +kernel)) (fun _ h9 => h9) rfl hin rfl (by decide +kernel) rfl rfl (Nat.le_of_ble_eq_true rfl) dX6_init_9 (fun H locs hP hD hS => ?_)
  have hP : va_P (dC, dI) vwCl [(h0, .inr (7, [.ref q_1, .null, .null, .null, .null, .null, .null, .int 0, .int 0, .int 0, .int 0])), (q_1, .inl (cy_2, 30, .inl (fun _ => 0)))] H := hP
  have hD : va_D A [(h0, .inr (7, [.ref q_1, .null, .null, .null, .null, .null, .null, .int 0, .int 0, .int 0, .int 0])), (q_1, .inl (cy_2, 30, .inl (fun _ => 0)))] := hD
  refine lv_aload_n hx hb dX6_init_12 rfl (lv_at hl 0 rfl) ?_
  refine lv_bipush (v := 30) hx hb dX6_init_13 (by decide) ?_
  refine va_newa (atype := .int) (ty := .int) (N' := 30) (a0 := (30, .inl (fun _ => 0))) hx hb (hts (.arrayClass .int) (by decide +kernel)) rfl hK hP hD hS hA (fun _ => rfl) (by decide) (by decide) (by decide) (by decide) (by decide) dX6_init_15 (fun q_3 cy_4 H hK hP hD hS => ?_)
  have hP : va_P (dC, dI) vwCl [(h0, .inr (7, [.ref q_1, .null, .null, .null, .null, .null, .null, .int 0, .int 0, .int 0, .int 0])), (q_1, .inl (cy_2, 30, .inl (fun _ => 0))), (q_3, .inl (cy_4, 30, .inl (fun _ => 0)))] H := hP
  have hD : va_D A [(h0, .inr (7, [.ref q_1, .null, .null, .null, .null, .null, .null, .int 0, .int 0, .int 0, .int 0])), (q_1, .inl (cy_2, 30, .inl (fun _ => 0))), (q_3, .inl (cy_4, 30, .inl (fun _ => 0)))] := hD
  have hK : va_K (dC, dI) vwCl [(cy_2, .int), (cy_4, .int)] s := hK
  refine W.widen (k := 2) (n := 60) (by omega) (by omega) ?_
  refine va_putF (D := (dC, dI)) (ci := 7) (v := .ref q_3) (ty := .array .int) (C := RX6) (T := TX6) (N := 11) hx hb hts hinX6 tyX6 tyX6_ok nmX6 hown hK hP hD hS 0 rfl rfl 1 (by decide) (hts (.fieldLink RX6 13 "AgreedTalks" "counting" "[I") (by decide +kernel)) (fun _ h9 => h9) rfl hin rfl (by decide +kernel) rfl rfl (Nat.le_of_ble_eq_true rfl) dX6_init_17 (fun H locs hP hD hS => ?_)
  have hP : va_P (dC, dI) vwCl [(h0, .inr (7, [.ref q_1, .ref q_3, .null, .null, .null, .null, .null, .int 0, .int 0, .int 0, .int 0])), (q_1, .inl (cy_2, 30, .inl (fun _ => 0))), (q_3, .inl (cy_4, 30, .inl (fun _ => 0)))] H := hP
  have hD : va_D A [(h0, .inr (7, [.ref q_1, .ref q_3, .null, .null, .null, .null, .null, .int 0, .int 0, .int 0, .int 0])), (q_1, .inl (cy_2, 30, .inl (fun _ => 0))), (q_3, .inl (cy_4, 30, .inl (fun _ => 0)))] := hD
  refine lv_aload_n hx hb dX6_init_20 rfl (lv_at hl 0 rfl) ?_
  refine va_new (ci := 0) (fs := [.int 0, .null, .int 0]) (C := RJx4a65c) (T := TJx4a65c) (N := 3) hx hb hts hinJx4a65c tyJx4a65c tyJx4a65c_ok hown (hts (.classLink RX6 16 RJx4a65c) (by decide +kernel)) (hts (.instantiable RJx4a65c 3) (by decide +kernel)) (hts (.initialized RJx4a65c) (by decide +kernel)) hK hP hD hS hA rfl (fun j hj => by rcases (show j = 0 ∨ j = 1 ∨ j = 2 by omega) with rfl | rfl | rfl <;> rfl) (by decide) (by decide) dX6_init_21 (fun q_5 H hP hD hS => ?_)
  have hP : va_P (dC, dI) vwCl [(h0, .inr (7, [.ref q_1, .ref q_3, .null, .null, .null, .null, .null, .int 0, .int 0, .int 0, .int 0])), (q_1, .inl (cy_2, 30, .inl (fun _ => 0))), (q_3, .inl (cy_4, 30, .inl (fun _ => 0))), (q_5, .inr (0, [.int 0, .null, .int 0]))] H := hP
  have hD : va_D A [(h0, .inr (7, [.ref q_1, .ref q_3, .null, .null, .null, .null, .null, .int 0, .int 0, .int 0, .int 0])), (q_1, .inl (cy_2, 30, .inl (fun _ => 0))), (q_3, .inl (cy_4, 30, .inl (fun _ => 0))), (q_5, .inr (0, [.int 0, .null, .int 0]))] := hD
  refine W.widen (k := 3) (n := 63) (by omega) (by omega) ?_
  refine lv_dup hx hb dX6_init_24 rfl ?_
  have hPc := hP.sub (ws' := [(q_5, .inr (0, [.int 0, .null, .int 0]))]) [3] rfl
  have hDc := hD.sub (ws' := [(q_5, .inr (0, [.int 0, .null, .int 0]))]) [3] (by decide) rfl
  have hKc := hK.sub (tys' := []) [] rfl
  have hFc := va_free (wc := [(q_5, .inr (0, [.int 0, .null, .int 0]))]) hD hS hA [3] rfl
  refine va_callv (va_runI (As := []) (rest := [.ref q_5, .ref h0]) ⟨hx, hb, hml, hown, hts⟩ (c_AL_init l dC dI _ q_5 ze mi) (cwI 0 hts gc_X6_init_AL_init rfl rfl rfl (hts (.initialized RJx4a65c) (by decide +kernel)) (hts (.methodLink RX6 18 yJx4a65c_init_da8c8) (by decide +kernel)) (hts (.instanceMethod yJx4a65c_init_da8c8) (by decide +kernel)) rfl (by decide +kernel) ⟨Nat.le_of_ble_eq_true rfl, Nat.le_of_ble_eq_true rfl⟩) ⟨fun a U g mk q => by obtain ⟨q0, q1, qP, qK, qD, q_hAL⟩ := q; exact ⟨q0, q1, qP, va_K.moved (u := U) (U := U.calling g mk a) (Vm.Alike.refl U.vm) qK, qD, okAL.moved (Vm.Alike.refl U.vm) q_hAL⟩, fun U hU hW => ⟨rfl, by rw [hU], by rw [hU]; exact hPc, va_K.moved hW.alike hKc, hDc.weaken (fun _ _ _ _ => trivial), by rw [hU]; exact okAL.pass hAL hW hS hFc⟩⟩ rfl rfl hl.1 rfl (lv_room (Nat.le_of_ble_eq_true rfl)) dX6_init_25 ⟨by decide, by decide⟩) hS (fun q _ h => hFc q h) hFc (fun u t H1 locs ht hvm hw hB hz1 hk1 hS => ?_)
  obtain ⟨hP1, hK1, hD1⟩ := hB
  rw [ht] at hP1
  obtain ⟨hP, hD⟩ := va_join (wr := [(h0, .inr (7, [.ref q_1, .ref q_3, .null, .null, .null, .null, .null, .int 0, .int 0, .int 0, .int 0])), (q_1, .inl (cy_2, 30, .inl (fun _ => 0))), (q_3, .inl (cy_4, 30, .inl (fun _ => 0)))]) (w1 := [(q_5, .inr (0, [.int 0, .ref ze, .int 0]))]) hP hD [3] [0, 1, 2] rfl rfl (by decide) (by decide) hk1 hFc hP1 hD1
  generalize H1 = H at hP hS ⊢
  have hP : va_P (dC, dI) vwCl [(h0, .inr (7, [.ref q_1, .ref q_3, .null, .null, .null, .null, .null, .int 0, .int 0, .int 0, .int 0])), (q_1, .inl (cy_2, 30, .inl (fun _ => 0))), (q_3, .inl (cy_4, 30, .inl (fun _ => 0))), (q_5, .inr (0, [.int 0, .ref ze, .int 0]))] H := hP
  have hD : va_D A [(h0, .inr (7, [.ref q_1, .ref q_3, .null, .null, .null, .null, .null, .int 0, .int 0, .int 0, .int 0])), (q_1, .inl (cy_2, 30, .inl (fun _ => 0))), (q_3, .inl (cy_4, 30, .inl (fun _ => 0))), (q_5, .inr (0, [.int 0, .ref ze, .int 0]))] := hD
  refine va_putF (D := (dC, dI)) (ci := 7) (v := .ref q_5) (ty := .object "java/util/ArrayList") (C := RX6) (T := TX6) (N := 11) hx hb hts hinX6 tyX6 tyX6_ok nmX6 hown hK hP hD hS 0 rfl rfl 2 (by decide) (hts (.fieldLink RX6 19 "AgreedTalks" "records" "Ljava/util/ArrayList;") (by decide +kernel)) (fun _ h9 => h9) rfl hin rfl (by decide +kernel) rfl rfl (Nat.le_of_ble_eq_true rfl) dX6_init_28 (fun H locs hP hD hS => ?_)
  have hP : va_P (dC, dI) vwCl [(h0, .inr (7, [.ref q_1, .ref q_3, .ref q_5, .null, .null, .null, .null, .int 0, .int 0, .int 0, .int 0])), (q_1, .inl (cy_2, 30, .inl (fun _ => 0))), (q_3, .inl (cy_4, 30, .inl (fun _ => 0))), (q_5, .inr (0, [.int 0, .ref ze, .int 0]))] H := hP
  have hD : va_D A [(h0, .inr (7, [.ref q_1, .ref q_3, .ref q_5, .null, .null, .null, .null, .int 0, .int 0, .int 0, .int 0])), (q_1, .inl (cy_2, 30, .inl (fun _ => 0))), (q_3, .inl (cy_4, 30, .inl (fun _ => 0))), (q_5, .inr (0, [.int 0, .ref ze, .int 0]))] := hD
  refine lv_aload_n hx hb dX6_init_31 rfl (lv_at hl 0 rfl) ?_
  refine va_new (ci := 6) (fs := [.null, .int 0]) (C := RX5) (T := TX5) (N := 2) hx hb hts hinX5 tyX5 tyX5_ok hown (hts (.classLink RX6 23 RX5) (by decide +kernel)) (hts (.instantiable RX5 2) (by decide +kernel)) (hts (.initialized RX5) (by decide +kernel)) hK hP hD hS hA rfl (fun j hj => by rcases (show j = 0 ∨ j = 1 by omega) with rfl | rfl <;> rfl) (by decide) (by decide) dX6_init_32 (fun q_6 H hP hD hS => ?_)
  have hP : va_P (dC, dI) vwCl [(h0, .inr (7, [.ref q_1, .ref q_3, .ref q_5, .null, .null, .null, .null, .int 0, .int 0, .int 0, .int 0])), (q_1, .inl (cy_2, 30, .inl (fun _ => 0))), (q_3, .inl (cy_4, 30, .inl (fun _ => 0))), (q_5, .inr (0, [.int 0, .ref ze, .int 0])), (q_6, .inr (6, [.null, .int 0]))] H := hP
  have hD : va_D A [(h0, .inr (7, [.ref q_1, .ref q_3, .ref q_5, .null, .null, .null, .null, .int 0, .int 0, .int 0, .int 0])), (q_1, .inl (cy_2, 30, .inl (fun _ => 0))), (q_3, .inl (cy_4, 30, .inl (fun _ => 0))), (q_5, .inr (0, [.int 0, .ref ze, .int 0])), (q_6, .inr (6, [.null, .int 0]))] := hD
  refine W.widen (k := 4) (n := 65) (by omega) (by omega) ?_
  refine lv_dup hx hb dX6_init_35 rfl ?_
  have hPc := hP.sub (ws' := [(q_6, .inr (6, [.null, .int 0]))]) [4] rfl
  have hDc := hD.sub (ws' := [(q_6, .inr (6, [.null, .int 0]))]) [4] (by decide) rfl
  have hKc := hK.sub (tys' := []) [] rfl
  have hFc := va_free (wc := [(q_6, .inr (6, [.null, .int 0]))]) hD hS hA [4] rfl
  refine va_callv (va_runIN (As := []) (rest := [.ref q_6, .ref h0]) ⟨hx, hb, hml, hown, hts⟩ (c_Tape_init l dC dI _ q_6) ⟨va_cnB 0 hts gc_X6_init_Tape_init rfl rfl rfl hn25 (hts (.initialized RX5) (by decide +kernel)) (by decide +kernel) ⟨Nat.le_of_ble_eq_true rfl, Nat.le_of_ble_eq_true rfl⟩, rfl, (hts (.instanceMethod yX5_init) (by decide +kernel))⟩ ⟨fun a U g mk q => by obtain ⟨q0, q1, qP, qK, qD⟩ := q; exact ⟨q0, q1, qP, va_K.moved (u := U) (U := U.calling g mk a) (Vm.Alike.refl U.vm) qK, qD⟩, fun U hU hW => ⟨rfl, by rw [hU], by rw [hU]; exact hPc, va_K.moved hW.alike hKc, hDc.weaken (fun _ _ _ _ => trivial)⟩⟩ rfl rfl hl.1 rfl (lv_room (Nat.le_of_ble_eq_true rfl)) dX6_init_36 ⟨by decide, by decide⟩) hS (fun q _ h => hFc q h) hFc (fun u t H1 locs ht hvm hw hB hz1 hk1 hS => ?_)
  obtain ⟨ab_7, cB_8, hP1, hK1, hD1⟩ := hB
  rw [ht] at hP1
  obtain ⟨hP, hD⟩ := va_join (wr := [(h0, .inr (7, [.ref q_1, .ref q_3, .ref q_5, .null, .null, .null, .null, .int 0, .int 0, .int 0, .int 0])), (q_1, .inl (cy_2, 30, .inl (fun _ => 0))), (q_3, .inl (cy_4, 30, .inl (fun _ => 0))), (q_5, .inr (0, [.int 0, .ref ze, .int 0]))]) (w1 := [(q_6, .inr (6, [.ref ab_7, .int 0])), (ab_7, .inl (cB_8, 300, .inl (fun _ => 0)))]) hP hD [4] [0, 1, 2, 3] rfl rfl (by decide) (by decide) hk1 hFc hP1 hD1
  have hK := hK.app (va_K.moved hvm.symm hK1)
  have hK : va_K (dC, dI) vwCl [(cy_2, .int), (cy_4, .int), (cB_8, .int)] s := hK
  generalize H1 = H at hP hS ⊢
  have hP : va_P (dC, dI) vwCl [(h0, .inr (7, [.ref q_1, .ref q_3, .ref q_5, .null, .null, .null, .null, .int 0, .int 0, .int 0, .int 0])), (q_1, .inl (cy_2, 30, .inl (fun _ => 0))), (q_3, .inl (cy_4, 30, .inl (fun _ => 0))), (q_5, .inr (0, [.int 0, .ref ze, .int 0])), (q_6, .inr (6, [.ref ab_7, .int 0])), (ab_7, .inl (cB_8, 300, .inl (fun _ => 0)))] H := hP
  have hD : va_D A [(h0, .inr (7, [.ref q_1, .ref q_3, .ref q_5, .null, .null, .null, .null, .int 0, .int 0, .int 0, .int 0])), (q_1, .inl (cy_2, 30, .inl (fun _ => 0))), (q_3, .inl (cy_4, 30, .inl (fun _ => 0))), (q_5, .inr (0, [.int 0, .ref ze, .int 0])), (q_6, .inr (6, [.ref ab_7, .int 0])), (ab_7, .inl (cB_8, 300, .inl (fun _ => 0)))] := hD
  refine W.widen (k := 5) (n := 365) (by omega) (by omega) ?_
  refine va_putF (D := (dC, dI)) (ci := 7) (v := .ref q_6) (ty := .object "AgreedTalks$Tape") (C := RX6) (T := TX6) (N := 11) hx hb hts hinX6 tyX6 tyX6_ok nmX6 hown hK hP hD hS 0 rfl rfl 3 (by decide) (hts (.fieldLink RX6 26 "AgreedTalks" "tape" "LAgreedTalks$Tape;") (by decide +kernel)) (fun _ h9 => h9) rfl hin rfl (by decide +kernel) rfl rfl (Nat.le_of_ble_eq_true rfl) dX6_init_39 (fun H locs hP hD hS => ?_)
  have hP : va_P (dC, dI) vwCl [(h0, .inr (7, [.ref q_1, .ref q_3, .ref q_5, .ref q_6, .null, .null, .null, .int 0, .int 0, .int 0, .int 0])), (q_1, .inl (cy_2, 30, .inl (fun _ => 0))), (q_3, .inl (cy_4, 30, .inl (fun _ => 0))), (q_5, .inr (0, [.int 0, .ref ze, .int 0])), (q_6, .inr (6, [.ref ab_7, .int 0])), (ab_7, .inl (cB_8, 300, .inl (fun _ => 0)))] H := hP
  have hD : va_D A [(h0, .inr (7, [.ref q_1, .ref q_3, .ref q_5, .ref q_6, .null, .null, .null, .int 0, .int 0, .int 0, .int 0])), (q_1, .inl (cy_2, 30, .inl (fun _ => 0))), (q_3, .inl (cy_4, 30, .inl (fun _ => 0))), (q_5, .inr (0, [.int 0, .ref ze, .int 0])), (q_6, .inr (6, [.ref ab_7, .int 0])), (ab_7, .inl (cB_8, 300, .inl (fun _ => 0)))] := hD
  refine lv_aload_n hx hb dX6_init_42 rfl (lv_at hl 0 rfl) ?_
  refine va_new (ci := 5) (fs := [.null, .int 0, .int 0]) (C := RX4) (T := TX4) (N := 3) hx hb hts hinX4 tyX4 tyX4_ok hown (hts (.classLink RX6 30 RX4) (by decide +kernel)) (hts (.instantiable RX4 3) (by decide +kernel)) (hts (.initialized RX4) (by decide +kernel)) hK hP hD hS hA rfl (fun j hj => by rcases (show j = 0 ∨ j = 1 ∨ j = 2 by omega) with rfl | rfl | rfl <;> rfl) (by decide) (by decide) dX6_init_43 (fun q_9 H hP hD hS => ?_)
  have hP : va_P (dC, dI) vwCl [(h0, .inr (7, [.ref q_1, .ref q_3, .ref q_5, .ref q_6, .null, .null, .null, .int 0, .int 0, .int 0, .int 0])), (q_1, .inl (cy_2, 30, .inl (fun _ => 0))), (q_3, .inl (cy_4, 30, .inl (fun _ => 0))), (q_5, .inr (0, [.int 0, .ref ze, .int 0])), (q_6, .inr (6, [.ref ab_7, .int 0])), (ab_7, .inl (cB_8, 300, .inl (fun _ => 0))), (q_9, .inr (5, [.null, .int 0, .int 0]))] H := hP
  have hD : va_D A [(h0, .inr (7, [.ref q_1, .ref q_3, .ref q_5, .ref q_6, .null, .null, .null, .int 0, .int 0, .int 0, .int 0])), (q_1, .inl (cy_2, 30, .inl (fun _ => 0))), (q_3, .inl (cy_4, 30, .inl (fun _ => 0))), (q_5, .inr (0, [.int 0, .ref ze, .int 0])), (q_6, .inr (6, [.ref ab_7, .int 0])), (ab_7, .inl (cB_8, 300, .inl (fun _ => 0))), (q_9, .inr (5, [.null, .int 0, .int 0]))] := hD
  refine W.widen (k := 6) (n := 368) (by omega) (by omega) ?_
  refine lv_dup hx hb dX6_init_46 rfl ?_
  refine lv_aload_n hx hb dX6_init_47 rfl (lv_at hl 0 rfl) ?_
  refine va_get (D := (dC, dI)) (ci := 7) (v := .ref q_6) (C := RX6) (T := TX6) (N := 11) hx hb hts hinX6 hown hK hP 0 rfl rfl 3 (by decide) (hts (.fieldLink RX6 26 "AgreedTalks" "tape" "LAgreedTalks$Tape;") (by decide +kernel)) (fun _ h9 => h9) rfl dX6_init_48 ?_
  have hPc := hP.sub (ws' := [(q_9, .inr (5, [.null, .int 0, .int 0]))]) [6] rfl
  have hDc := hD.sub (ws' := [(q_9, .inr (5, [.null, .int 0, .int 0]))]) [6] (by decide) rfl
  have hKc := hK.sub (tys' := []) [] rfl
  have hFc := va_free (wc := [(q_9, .inr (5, [.null, .int 0, .int 0]))]) hD hS hA [6] rfl
  refine va_callv (va_runI (As := [.ref q_6]) (rest := [.ref q_9, .ref h0]) ⟨hx, hb, hml, hown, hts⟩ (c_Reader_init l dC dI _ q_9 q_6) (cwI 1 hts gc_X6_init_Reader_init rfl rfl rfl (hts (.initialized RX4) (by decide +kernel)) (hts (.methodLink RX6 32 yX4_init) (by decide +kernel)) (hts (.instanceMethod yX4_init) (by decide +kernel)) rfl (by decide +kernel) ⟨Nat.le_of_ble_eq_true rfl, Nat.le_of_ble_eq_true rfl⟩) ⟨fun a U g mk q => by obtain ⟨q0, q1, qP, qK, qD⟩ := q; exact ⟨q0, q1, qP, va_K.moved (u := U) (U := U.calling g mk a) (Vm.Alike.refl U.vm) qK, qD⟩, fun U hU hW => ⟨rfl, by rw [hU], by rw [hU]; exact hPc, va_K.moved hW.alike hKc, hDc.weaken (fun _ _ _ _ => trivial)⟩⟩ rfl rfl hl.1 rfl (lv_room (Nat.le_of_ble_eq_true rfl)) dX6_init_51 ⟨by decide, by decide⟩) hS (fun q _ h => hFc q h) hFc (fun u t H1 locs ht hvm hw hB hz1 hk1 hS => ?_)
  obtain ⟨hP1, hK1, hD1⟩ := hB
  rw [ht] at hP1
  obtain ⟨hP, hD⟩ := va_join (wr := [(h0, .inr (7, [.ref q_1, .ref q_3, .ref q_5, .ref q_6, .null, .null, .null, .int 0, .int 0, .int 0, .int 0])), (q_1, .inl (cy_2, 30, .inl (fun _ => 0))), (q_3, .inl (cy_4, 30, .inl (fun _ => 0))), (q_5, .inr (0, [.int 0, .ref ze, .int 0])), (q_6, .inr (6, [.ref ab_7, .int 0])), (ab_7, .inl (cB_8, 300, .inl (fun _ => 0)))]) (w1 := [(q_9, .inr (5, [.ref q_6, .int 0, .int 0]))]) hP hD [6] [0, 1, 2, 3, 4, 5] rfl rfl (by decide) (by decide) hk1 hFc hP1 hD1
  generalize H1 = H at hP hS ⊢
  have hP : va_P (dC, dI) vwCl [(h0, .inr (7, [.ref q_1, .ref q_3, .ref q_5, .ref q_6, .null, .null, .null, .int 0, .int 0, .int 0, .int 0])), (q_1, .inl (cy_2, 30, .inl (fun _ => 0))), (q_3, .inl (cy_4, 30, .inl (fun _ => 0))), (q_5, .inr (0, [.int 0, .ref ze, .int 0])), (q_6, .inr (6, [.ref ab_7, .int 0])), (ab_7, .inl (cB_8, 300, .inl (fun _ => 0))), (q_9, .inr (5, [.ref q_6, .int 0, .int 0]))] H := hP
  have hD : va_D A [(h0, .inr (7, [.ref q_1, .ref q_3, .ref q_5, .ref q_6, .null, .null, .null, .int 0, .int 0, .int 0, .int 0])), (q_1, .inl (cy_2, 30, .inl (fun _ => 0))), (q_3, .inl (cy_4, 30, .inl (fun _ => 0))), (q_5, .inr (0, [.int 0, .ref ze, .int 0])), (q_6, .inr (6, [.ref ab_7, .int 0])), (ab_7, .inl (cB_8, 300, .inl (fun _ => 0))), (q_9, .inr (5, [.ref q_6, .int 0, .int 0]))] := hD
  refine va_putF (D := (dC, dI)) (ci := 7) (v := .ref q_9) (ty := .object "AgreedTalks$Reader") (C := RX6) (T := TX6) (N := 11) hx hb hts hinX6 tyX6 tyX6_ok nmX6 hown hK hP hD hS 0 rfl rfl 4 (by decide) (hts (.fieldLink RX6 35 "AgreedTalks" "reader" "LAgreedTalks$Reader;") (by decide +kernel)) (fun _ h9 => h9) rfl hin rfl (by decide +kernel) rfl rfl (Nat.le_of_ble_eq_true rfl) dX6_init_54 (fun H locs hP hD hS => ?_)
  have hP : va_P (dC, dI) vwCl [(h0, .inr (7, [.ref q_1, .ref q_3, .ref q_5, .ref q_6, .ref q_9, .null, .null, .int 0, .int 0, .int 0, .int 0])), (q_1, .inl (cy_2, 30, .inl (fun _ => 0))), (q_3, .inl (cy_4, 30, .inl (fun _ => 0))), (q_5, .inr (0, [.int 0, .ref ze, .int 0])), (q_6, .inr (6, [.ref ab_7, .int 0])), (ab_7, .inl (cB_8, 300, .inl (fun _ => 0))), (q_9, .inr (5, [.ref q_6, .int 0, .int 0]))] H := hP
  have hD : va_D A [(h0, .inr (7, [.ref q_1, .ref q_3, .ref q_5, .ref q_6, .ref q_9, .null, .null, .int 0, .int 0, .int 0, .int 0])), (q_1, .inl (cy_2, 30, .inl (fun _ => 0))), (q_3, .inl (cy_4, 30, .inl (fun _ => 0))), (q_5, .inr (0, [.int 0, .ref ze, .int 0])), (q_6, .inr (6, [.ref ab_7, .int 0])), (ab_7, .inl (cB_8, 300, .inl (fun _ => 0))), (q_9, .inr (5, [.ref q_6, .int 0, .int 0]))] := hD
  refine lv_aload_n hx hb dX6_init_57 rfl (lv_at hl 0 rfl) ?_
  refine va_new (ci := 2) (fs := [.null, .null, .null, .null]) (C := RX1) (T := TX1) (N := 4) hx hb hts hinX1 tyX1 tyX1_ok hown (hts (.classLink RX6 39 RX1) (by decide +kernel)) (hts (.instantiable RX1 4) (by decide +kernel)) (hts (.initialized RX1) (by decide +kernel)) hK hP hD hS hA rfl (fun j hj => by rcases (show j = 0 ∨ j = 1 ∨ j = 2 ∨ j = 3 by omega) with rfl | rfl | rfl | rfl <;> rfl) (by decide) (by decide) dX6_init_58 (fun q_10 H hP hD hS => ?_)
  have hP : va_P (dC, dI) vwCl [(h0, .inr (7, [.ref q_1, .ref q_3, .ref q_5, .ref q_6, .ref q_9, .null, .null, .int 0, .int 0, .int 0, .int 0])), (q_1, .inl (cy_2, 30, .inl (fun _ => 0))), (q_3, .inl (cy_4, 30, .inl (fun _ => 0))), (q_5, .inr (0, [.int 0, .ref ze, .int 0])), (q_6, .inr (6, [.ref ab_7, .int 0])), (ab_7, .inl (cB_8, 300, .inl (fun _ => 0))), (q_9, .inr (5, [.ref q_6, .int 0, .int 0])), (q_10, .inr (2, [.null, .null, .null, .null]))] H := hP
  have hD : va_D A [(h0, .inr (7, [.ref q_1, .ref q_3, .ref q_5, .ref q_6, .ref q_9, .null, .null, .int 0, .int 0, .int 0, .int 0])), (q_1, .inl (cy_2, 30, .inl (fun _ => 0))), (q_3, .inl (cy_4, 30, .inl (fun _ => 0))), (q_5, .inr (0, [.int 0, .ref ze, .int 0])), (q_6, .inr (6, [.ref ab_7, .int 0])), (ab_7, .inl (cB_8, 300, .inl (fun _ => 0))), (q_9, .inr (5, [.ref q_6, .int 0, .int 0])), (q_10, .inr (2, [.null, .null, .null, .null]))] := hD
  refine W.widen (k := 7) (n := 372) (by omega) (by omega) ?_
  refine lv_dup hx hb dX6_init_61 rfl ?_
  have hPc := hP.sub (ws' := [(q_10, .inr (2, [.null, .null, .null, .null]))]) [7] rfl
  have hDc := hD.sub (ws' := [(q_10, .inr (2, [.null, .null, .null, .null]))]) [7] (by decide) rfl
  have hKc := hK.sub (tys' := []) [] rfl
  have hFc := va_free (wc := [(q_10, .inr (2, [.null, .null, .null, .null]))]) hD hS hA [7] rfl
  refine va_callv (va_runIN (As := []) (rest := [.ref q_10, .ref h0]) ⟨hx, hb, hml, hown, hts⟩ (c_Deeds_init l dC dI _ q_10) ⟨va_cnB 0 hts gc_X6_init_Deeds_init rfl rfl rfl hn41 (hts (.initialized RX1) (by decide +kernel)) (by decide +kernel) ⟨Nat.le_of_ble_eq_true rfl, Nat.le_of_ble_eq_true rfl⟩, rfl, (hts (.instanceMethod yX1_init) (by decide +kernel))⟩ ⟨fun a U g mk q => by obtain ⟨q0, q1, qP, qK, qD⟩ := q; exact ⟨q0, q1, qP, va_K.moved (u := U) (U := U.calling g mk a) (Vm.Alike.refl U.vm) qK, qD⟩, fun U hU hW => ⟨rfl, by rw [hU], by rw [hU]; exact hPc, va_K.moved hW.alike hKc, hDc.weaken (fun _ _ _ _ => trivial)⟩⟩ rfl rfl hl.1 rfl (lv_room (Nat.le_of_ble_eq_true rfl)) dX6_init_62 ⟨by decide, by decide⟩) hS (fun q _ h => hFc q h) hFc (fun u t H1 locs ht hvm hw hB hz1 hk1 hS => ?_)
  obtain ⟨d0_11, d1_12, d2_13, d3_14, cd0_15, cd1_16, cd2_17, cd3_18, hP1, hK1, hD1⟩ := hB
  rw [ht] at hP1
  obtain ⟨hP, hD⟩ := va_join (wr := [(h0, .inr (7, [.ref q_1, .ref q_3, .ref q_5, .ref q_6, .ref q_9, .null, .null, .int 0, .int 0, .int 0, .int 0])), (q_1, .inl (cy_2, 30, .inl (fun _ => 0))), (q_3, .inl (cy_4, 30, .inl (fun _ => 0))), (q_5, .inr (0, [.int 0, .ref ze, .int 0])), (q_6, .inr (6, [.ref ab_7, .int 0])), (ab_7, .inl (cB_8, 300, .inl (fun _ => 0))), (q_9, .inr (5, [.ref q_6, .int 0, .int 0]))]) (w1 := [(q_10, .inr (2, [.ref d0_11, .ref d1_12, .ref d2_13, .ref d3_14])), (d0_11, .inl (cd0_15, 40, .inl (fun _ => 0))), (d1_12, .inl (cd1_16, 40, .inl (fun _ => 0))), (d2_13, .inl (cd2_17, 40, .inl (fun _ => 0))), (d3_14, .inl (cd3_18, 480, .inl (fun _ => 0)))]) hP hD [7] [0, 1, 2, 3, 4, 5, 6] rfl rfl (by decide) (by decide) hk1 hFc hP1 hD1
  have hK := hK.app (va_K.moved hvm.symm hK1)
  have hK : va_K (dC, dI) vwCl [(cy_2, .int), (cy_4, .int), (cB_8, .int), (cd0_15, .int), (cd1_16, .int), (cd2_17, .int), (cd3_18, .int)] s := hK
  generalize H1 = H at hP hS ⊢
  have hP : va_P (dC, dI) vwCl [(h0, .inr (7, [.ref q_1, .ref q_3, .ref q_5, .ref q_6, .ref q_9, .null, .null, .int 0, .int 0, .int 0, .int 0])), (q_1, .inl (cy_2, 30, .inl (fun _ => 0))), (q_3, .inl (cy_4, 30, .inl (fun _ => 0))), (q_5, .inr (0, [.int 0, .ref ze, .int 0])), (q_6, .inr (6, [.ref ab_7, .int 0])), (ab_7, .inl (cB_8, 300, .inl (fun _ => 0))), (q_9, .inr (5, [.ref q_6, .int 0, .int 0])), (q_10, .inr (2, [.ref d0_11, .ref d1_12, .ref d2_13, .ref d3_14])), (d0_11, .inl (cd0_15, 40, .inl (fun _ => 0))), (d1_12, .inl (cd1_16, 40, .inl (fun _ => 0))), (d2_13, .inl (cd2_17, 40, .inl (fun _ => 0))), (d3_14, .inl (cd3_18, 480, .inl (fun _ => 0)))] H := hP
  have hD : va_D A [(h0, .inr (7, [.ref q_1, .ref q_3, .ref q_5, .ref q_6, .ref q_9, .null, .null, .int 0, .int 0, .int 0, .int 0])), (q_1, .inl (cy_2, 30, .inl (fun _ => 0))), (q_3, .inl (cy_4, 30, .inl (fun _ => 0))), (q_5, .inr (0, [.int 0, .ref ze, .int 0])), (q_6, .inr (6, [.ref ab_7, .int 0])), (ab_7, .inl (cB_8, 300, .inl (fun _ => 0))), (q_9, .inr (5, [.ref q_6, .int 0, .int 0])), (q_10, .inr (2, [.ref d0_11, .ref d1_12, .ref d2_13, .ref d3_14])), (d0_11, .inl (cd0_15, 40, .inl (fun _ => 0))), (d1_12, .inl (cd1_16, 40, .inl (fun _ => 0))), (d2_13, .inl (cd2_17, 40, .inl (fun _ => 0))), (d3_14, .inl (cd3_18, 480, .inl (fun _ => 0)))] := hD
  refine W.widen (k := 11) (n := 972) (by omega) (by omega) ?_
  refine va_putF (D := (dC, dI)) (ci := 7) (v := .ref q_10) (ty := .object "AgreedTalks$Deeds") (C := RX6) (T := TX6) (N := 11) hx hb hts hinX6 tyX6 tyX6_ok nmX6 hown hK hP hD hS 0 rfl rfl 5 (by decide) (hts (.fieldLink RX6 42 "AgreedTalks" "deeds" "LAgreedTalks$Deeds;") (by decide +kernel)) (fun _ h9 => h9) rfl hin rfl (by decide +kernel) rfl rfl (Nat.le_of_ble_eq_true rfl) dX6_init_65 (fun H locs hP hD hS => ?_)
  have hP : va_P (dC, dI) vwCl [(h0, .inr (7, [.ref q_1, .ref q_3, .ref q_5, .ref q_6, .ref q_9, .ref q_10, .null, .int 0, .int 0, .int 0, .int 0])), (q_1, .inl (cy_2, 30, .inl (fun _ => 0))), (q_3, .inl (cy_4, 30, .inl (fun _ => 0))), (q_5, .inr (0, [.int 0, .ref ze, .int 0])), (q_6, .inr (6, [.ref ab_7, .int 0])), (ab_7, .inl (cB_8, 300, .inl (fun _ => 0))), (q_9, .inr (5, [.ref q_6, .int 0, .int 0])), (q_10, .inr (2, [.ref d0_11, .ref d1_12, .ref d2_13, .ref d3_14])), (d0_11, .inl (cd0_15, 40, .inl (fun _ => 0))), (d1_12, .inl (cd1_16, 40, .inl (fun _ => 0))), (d2_13, .inl (cd2_17, 40, .inl (fun _ => 0))), (d3_14, .inl (cd3_18, 480, .inl (fun _ => 0)))] H := hP
  have hD : va_D A [(h0, .inr (7, [.ref q_1, .ref q_3, .ref q_5, .ref q_6, .ref q_9, .ref q_10, .null, .int 0, .int 0, .int 0, .int 0])), (q_1, .inl (cy_2, 30, .inl (fun _ => 0))), (q_3, .inl (cy_4, 30, .inl (fun _ => 0))), (q_5, .inr (0, [.int 0, .ref ze, .int 0])), (q_6, .inr (6, [.ref ab_7, .int 0])), (ab_7, .inl (cB_8, 300, .inl (fun _ => 0))), (q_9, .inr (5, [.ref q_6, .int 0, .int 0])), (q_10, .inr (2, [.ref d0_11, .ref d1_12, .ref d2_13, .ref d3_14])), (d0_11, .inl (cd0_15, 40, .inl (fun _ => 0))), (d1_12, .inl (cd1_16, 40, .inl (fun _ => 0))), (d2_13, .inl (cd2_17, 40, .inl (fun _ => 0))), (d3_14, .inl (cd3_18, 480, .inl (fun _ => 0)))] := hD
  refine lv_aload_n hx hb dX6_init_68 rfl (lv_at hl 0 rfl) ?_
  refine va_new (ci := 1) (fs := [.null, .null, .null, .null, .long 0]) (C := RX0) (T := TX0) (N := 5) hx hb hts hinX0 tyX0 tyX0_ok hown (hts (.classLink RX6 46 RX0) (by decide +kernel)) (hts (.instantiable RX0 5) (by decide +kernel)) (hts (.initialized RX0) (by decide +kernel)) hK hP hD hS hA rfl (fun j hj => by rcases (show j = 0 ∨ j = 1 ∨ j = 2 ∨ j = 3 ∨ j = 4 by omega) with rfl | rfl | rfl | rfl | rfl <;> rfl) (by decide) (by decide) dX6_init_69 (fun q_19 H hP hD hS => ?_)
  have hP : va_P (dC, dI) vwCl [(h0, .inr (7, [.ref q_1, .ref q_3, .ref q_5, .ref q_6, .ref q_9, .ref q_10, .null, .int 0, .int 0, .int 0, .int 0])), (q_1, .inl (cy_2, 30, .inl (fun _ => 0))), (q_3, .inl (cy_4, 30, .inl (fun _ => 0))), (q_5, .inr (0, [.int 0, .ref ze, .int 0])), (q_6, .inr (6, [.ref ab_7, .int 0])), (ab_7, .inl (cB_8, 300, .inl (fun _ => 0))), (q_9, .inr (5, [.ref q_6, .int 0, .int 0])), (q_10, .inr (2, [.ref d0_11, .ref d1_12, .ref d2_13, .ref d3_14])), (d0_11, .inl (cd0_15, 40, .inl (fun _ => 0))), (d1_12, .inl (cd1_16, 40, .inl (fun _ => 0))), (d2_13, .inl (cd2_17, 40, .inl (fun _ => 0))), (d3_14, .inl (cd3_18, 480, .inl (fun _ => 0))), (q_19, .inr (1, [.null, .null, .null, .null, .long 0]))] H := hP
  have hD : va_D A [(h0, .inr (7, [.ref q_1, .ref q_3, .ref q_5, .ref q_6, .ref q_9, .ref q_10, .null, .int 0, .int 0, .int 0, .int 0])), (q_1, .inl (cy_2, 30, .inl (fun _ => 0))), (q_3, .inl (cy_4, 30, .inl (fun _ => 0))), (q_5, .inr (0, [.int 0, .ref ze, .int 0])), (q_6, .inr (6, [.ref ab_7, .int 0])), (ab_7, .inl (cB_8, 300, .inl (fun _ => 0))), (q_9, .inr (5, [.ref q_6, .int 0, .int 0])), (q_10, .inr (2, [.ref d0_11, .ref d1_12, .ref d2_13, .ref d3_14])), (d0_11, .inl (cd0_15, 40, .inl (fun _ => 0))), (d1_12, .inl (cd1_16, 40, .inl (fun _ => 0))), (d2_13, .inl (cd2_17, 40, .inl (fun _ => 0))), (d3_14, .inl (cd3_18, 480, .inl (fun _ => 0))), (q_19, .inr (1, [.null, .null, .null, .null, .long 0]))] := hD
  refine W.widen (k := 12) (n := 977) (by omega) (by omega) ?_
  refine lv_dup hx hb dX6_init_72 rfl ?_
  have hPc := hP.sub (ws' := [(q_19, .inr (1, [.null, .null, .null, .null, .long 0]))]) [12] rfl
  have hDc := hD.sub (ws' := [(q_19, .inr (1, [.null, .null, .null, .null, .long 0]))]) [12] (by decide) rfl
  have hKc := hK.sub (tys' := []) [] rfl
  have hFc := va_free (wc := [(q_19, .inr (1, [.null, .null, .null, .null, .long 0]))]) hD hS hA [12] rfl
  refine va_callv (va_runIN (As := []) (rest := [.ref q_19, .ref h0]) ⟨hx, hb, hml, hown, hts⟩ (c_Claims_init l dC dI _ q_19) ⟨va_cnB 0 hts gc_X6_init_Claims_init rfl rfl rfl hn48 (hts (.initialized RX0) (by decide +kernel)) (by decide +kernel) ⟨Nat.le_of_ble_eq_true rfl, Nat.le_of_ble_eq_true rfl⟩, rfl, (hts (.instanceMethod yX0_init) (by decide +kernel))⟩ ⟨fun a U g mk q => by obtain ⟨q0, q1, qP, qK, qD⟩ := q; exact ⟨q0, q1, qP, va_K.moved (u := U) (U := U.calling g mk a) (Vm.Alike.refl U.vm) qK, qD⟩, fun U hU hW => ⟨rfl, by rw [hU], by rw [hU]; exact hPc, va_K.moved hW.alike hKc, hDc.weaken (fun _ _ _ _ => trivial)⟩⟩ rfl rfl hl.1 rfl (lv_room (Nat.le_of_ble_eq_true rfl)) dX6_init_73 ⟨by decide, by decide⟩) hS (fun q _ h => hFc q h) hFc (fun u t H1 locs ht hvm hw hB hz1 hk1 hS => ?_)
  obtain ⟨c0_20, c1_21, c2_22, c3_23, cc0_24, cc1_25, cc2_26, cc3_27, hP1, hK1, hD1⟩ := hB
  rw [ht] at hP1
  obtain ⟨hP, hD⟩ := va_join (wr := [(h0, .inr (7, [.ref q_1, .ref q_3, .ref q_5, .ref q_6, .ref q_9, .ref q_10, .null, .int 0, .int 0, .int 0, .int 0])), (q_1, .inl (cy_2, 30, .inl (fun _ => 0))), (q_3, .inl (cy_4, 30, .inl (fun _ => 0))), (q_5, .inr (0, [.int 0, .ref ze, .int 0])), (q_6, .inr (6, [.ref ab_7, .int 0])), (ab_7, .inl (cB_8, 300, .inl (fun _ => 0))), (q_9, .inr (5, [.ref q_6, .int 0, .int 0])), (q_10, .inr (2, [.ref d0_11, .ref d1_12, .ref d2_13, .ref d3_14])), (d0_11, .inl (cd0_15, 40, .inl (fun _ => 0))), (d1_12, .inl (cd1_16, 40, .inl (fun _ => 0))), (d2_13, .inl (cd2_17, 40, .inl (fun _ => 0))), (d3_14, .inl (cd3_18, 480, .inl (fun _ => 0)))]) (w1 := [(q_19, .inr (1, [.ref c0_20, .ref c1_21, .ref c2_22, .ref c3_23, .long 0])), (c0_20, .inl (cc0_24, 480, .inl (fun _ => 0))), (c1_21, .inl (cc1_25, 480, .inr (.inl (fun _ => 0)))), (c2_22, .inl (cc2_26, 480, .inl (fun _ => 0))), (c3_23, .inl (cc3_27, 40, .inl (fun _ => 0)))]) hP hD [12] [0, 1, 2, 3, 4, 5, 6, 7, 8, 9, 10, 11] rfl rfl (by decide) (by decide) hk1 hFc hP1 hD1
  have hK := hK.app (va_K.moved hvm.symm hK1)
  have hK : va_K (dC, dI) vwCl [(cy_2, .int), (cy_4, .int), (cB_8, .int), (cd0_15, .int), (cd1_16, .int), (cd2_17, .int), (cd3_18, .int), (cc0_24, .int), (cc1_25, .long), (cc2_26, .int), (cc3_27, .int)] s := hK
  generalize H1 = H at hP hS ⊢
  have hP : va_P (dC, dI) vwCl [(h0, .inr (7, [.ref q_1, .ref q_3, .ref q_5, .ref q_6, .ref q_9, .ref q_10, .null, .int 0, .int 0, .int 0, .int 0])), (q_1, .inl (cy_2, 30, .inl (fun _ => 0))), (q_3, .inl (cy_4, 30, .inl (fun _ => 0))), (q_5, .inr (0, [.int 0, .ref ze, .int 0])), (q_6, .inr (6, [.ref ab_7, .int 0])), (ab_7, .inl (cB_8, 300, .inl (fun _ => 0))), (q_9, .inr (5, [.ref q_6, .int 0, .int 0])), (q_10, .inr (2, [.ref d0_11, .ref d1_12, .ref d2_13, .ref d3_14])), (d0_11, .inl (cd0_15, 40, .inl (fun _ => 0))), (d1_12, .inl (cd1_16, 40, .inl (fun _ => 0))), (d2_13, .inl (cd2_17, 40, .inl (fun _ => 0))), (d3_14, .inl (cd3_18, 480, .inl (fun _ => 0))), (q_19, .inr (1, [.ref c0_20, .ref c1_21, .ref c2_22, .ref c3_23, .long 0])), (c0_20, .inl (cc0_24, 480, .inl (fun _ => 0))), (c1_21, .inl (cc1_25, 480, .inr (.inl (fun _ => 0)))), (c2_22, .inl (cc2_26, 480, .inl (fun _ => 0))), (c3_23, .inl (cc3_27, 40, .inl (fun _ => 0)))] H := hP
  have hD : va_D A [(h0, .inr (7, [.ref q_1, .ref q_3, .ref q_5, .ref q_6, .ref q_9, .ref q_10, .null, .int 0, .int 0, .int 0, .int 0])), (q_1, .inl (cy_2, 30, .inl (fun _ => 0))), (q_3, .inl (cy_4, 30, .inl (fun _ => 0))), (q_5, .inr (0, [.int 0, .ref ze, .int 0])), (q_6, .inr (6, [.ref ab_7, .int 0])), (ab_7, .inl (cB_8, 300, .inl (fun _ => 0))), (q_9, .inr (5, [.ref q_6, .int 0, .int 0])), (q_10, .inr (2, [.ref d0_11, .ref d1_12, .ref d2_13, .ref d3_14])), (d0_11, .inl (cd0_15, 40, .inl (fun _ => 0))), (d1_12, .inl (cd1_16, 40, .inl (fun _ => 0))), (d2_13, .inl (cd2_17, 40, .inl (fun _ => 0))), (d3_14, .inl (cd3_18, 480, .inl (fun _ => 0))), (q_19, .inr (1, [.ref c0_20, .ref c1_21, .ref c2_22, .ref c3_23, .long 0])), (c0_20, .inl (cc0_24, 480, .inl (fun _ => 0))), (c1_21, .inl (cc1_25, 480, .inr (.inl (fun _ => 0)))), (c2_22, .inl (cc2_26, 480, .inl (fun _ => 0))), (c3_23, .inl (cc3_27, 40, .inl (fun _ => 0)))] := hD
  refine W.widen (k := 16) (n := 2457) (by omega) (by omega) ?_
  refine va_putF (D := (dC, dI)) (ci := 7) (v := .ref q_19) (ty := .object "AgreedTalks$Claims") (C := RX6) (T := TX6) (N := 11) hx hb hts hinX6 tyX6 tyX6_ok nmX6 hown hK hP hD hS 0 rfl rfl 6 (by decide) (hts (.fieldLink RX6 49 "AgreedTalks" "claims" "LAgreedTalks$Claims;") (by decide +kernel)) (fun _ h9 => h9) rfl hin rfl (by decide +kernel) rfl rfl (Nat.le_of_ble_eq_true rfl) dX6_init_76 (fun H locs hP hD hS => ?_)
  have hP : va_P (dC, dI) vwCl [(h0, .inr (7, [.ref q_1, .ref q_3, .ref q_5, .ref q_6, .ref q_9, .ref q_10, .ref q_19, .int 0, .int 0, .int 0, .int 0])), (q_1, .inl (cy_2, 30, .inl (fun _ => 0))), (q_3, .inl (cy_4, 30, .inl (fun _ => 0))), (q_5, .inr (0, [.int 0, .ref ze, .int 0])), (q_6, .inr (6, [.ref ab_7, .int 0])), (ab_7, .inl (cB_8, 300, .inl (fun _ => 0))), (q_9, .inr (5, [.ref q_6, .int 0, .int 0])), (q_10, .inr (2, [.ref d0_11, .ref d1_12, .ref d2_13, .ref d3_14])), (d0_11, .inl (cd0_15, 40, .inl (fun _ => 0))), (d1_12, .inl (cd1_16, 40, .inl (fun _ => 0))), (d2_13, .inl (cd2_17, 40, .inl (fun _ => 0))), (d3_14, .inl (cd3_18, 480, .inl (fun _ => 0))), (q_19, .inr (1, [.ref c0_20, .ref c1_21, .ref c2_22, .ref c3_23, .long 0])), (c0_20, .inl (cc0_24, 480, .inl (fun _ => 0))), (c1_21, .inl (cc1_25, 480, .inr (.inl (fun _ => 0)))), (c2_22, .inl (cc2_26, 480, .inl (fun _ => 0))), (c3_23, .inl (cc3_27, 40, .inl (fun _ => 0)))] H := hP
  have hD : va_D A [(h0, .inr (7, [.ref q_1, .ref q_3, .ref q_5, .ref q_6, .ref q_9, .ref q_10, .ref q_19, .int 0, .int 0, .int 0, .int 0])), (q_1, .inl (cy_2, 30, .inl (fun _ => 0))), (q_3, .inl (cy_4, 30, .inl (fun _ => 0))), (q_5, .inr (0, [.int 0, .ref ze, .int 0])), (q_6, .inr (6, [.ref ab_7, .int 0])), (ab_7, .inl (cB_8, 300, .inl (fun _ => 0))), (q_9, .inr (5, [.ref q_6, .int 0, .int 0])), (q_10, .inr (2, [.ref d0_11, .ref d1_12, .ref d2_13, .ref d3_14])), (d0_11, .inl (cd0_15, 40, .inl (fun _ => 0))), (d1_12, .inl (cd1_16, 40, .inl (fun _ => 0))), (d2_13, .inl (cd2_17, 40, .inl (fun _ => 0))), (d3_14, .inl (cd3_18, 480, .inl (fun _ => 0))), (q_19, .inr (1, [.ref c0_20, .ref c1_21, .ref c2_22, .ref c3_23, .long 0])), (c0_20, .inl (cc0_24, 480, .inl (fun _ => 0))), (c1_21, .inl (cc1_25, 480, .inr (.inl (fun _ => 0)))), (c2_22, .inl (cc2_26, 480, .inl (fun _ => 0))), (c3_23, .inl (cc3_27, 40, .inl (fun _ => 0)))] := hD
  refine lv_aload_n hx hb dX6_init_79 rfl (lv_at hl 0 rfl) ?_
  refine lv_iconst (v := 0) hx hb dX6_init_80 (by decide) ?_
  refine va_put (D := (dC, dI)) (ci := 7) (v := .int 0) (ty := .int) (C := RX6) (T := TX6) (N := 11) hx hb hts hinX6 tyX6 tyX6_ok nmX6 hown hK hP hD hS 0 rfl rfl 7 (by decide) (hts (.fieldLink RX6 53 "AgreedTalks" "meetings" "I") (by decide +kernel)) (fun _ h9 => h9) rfl (by decide +kernel) rfl rfl (Nat.le_of_ble_eq_true rfl) dX6_init_81 (fun H locs hP hD hS => ?_)
  have hP : va_P (dC, dI) vwCl [(h0, .inr (7, [.ref q_1, .ref q_3, .ref q_5, .ref q_6, .ref q_9, .ref q_10, .ref q_19, .int 0, .int 0, .int 0, .int 0])), (q_1, .inl (cy_2, 30, .inl (fun _ => 0))), (q_3, .inl (cy_4, 30, .inl (fun _ => 0))), (q_5, .inr (0, [.int 0, .ref ze, .int 0])), (q_6, .inr (6, [.ref ab_7, .int 0])), (ab_7, .inl (cB_8, 300, .inl (fun _ => 0))), (q_9, .inr (5, [.ref q_6, .int 0, .int 0])), (q_10, .inr (2, [.ref d0_11, .ref d1_12, .ref d2_13, .ref d3_14])), (d0_11, .inl (cd0_15, 40, .inl (fun _ => 0))), (d1_12, .inl (cd1_16, 40, .inl (fun _ => 0))), (d2_13, .inl (cd2_17, 40, .inl (fun _ => 0))), (d3_14, .inl (cd3_18, 480, .inl (fun _ => 0))), (q_19, .inr (1, [.ref c0_20, .ref c1_21, .ref c2_22, .ref c3_23, .long 0])), (c0_20, .inl (cc0_24, 480, .inl (fun _ => 0))), (c1_21, .inl (cc1_25, 480, .inr (.inl (fun _ => 0)))), (c2_22, .inl (cc2_26, 480, .inl (fun _ => 0))), (c3_23, .inl (cc3_27, 40, .inl (fun _ => 0)))] H := hP
  have hD : va_D A [(h0, .inr (7, [.ref q_1, .ref q_3, .ref q_5, .ref q_6, .ref q_9, .ref q_10, .ref q_19, .int 0, .int 0, .int 0, .int 0])), (q_1, .inl (cy_2, 30, .inl (fun _ => 0))), (q_3, .inl (cy_4, 30, .inl (fun _ => 0))), (q_5, .inr (0, [.int 0, .ref ze, .int 0])), (q_6, .inr (6, [.ref ab_7, .int 0])), (ab_7, .inl (cB_8, 300, .inl (fun _ => 0))), (q_9, .inr (5, [.ref q_6, .int 0, .int 0])), (q_10, .inr (2, [.ref d0_11, .ref d1_12, .ref d2_13, .ref d3_14])), (d0_11, .inl (cd0_15, 40, .inl (fun _ => 0))), (d1_12, .inl (cd1_16, 40, .inl (fun _ => 0))), (d2_13, .inl (cd2_17, 40, .inl (fun _ => 0))), (d3_14, .inl (cd3_18, 480, .inl (fun _ => 0))), (q_19, .inr (1, [.ref c0_20, .ref c1_21, .ref c2_22, .ref c3_23, .long 0])), (c0_20, .inl (cc0_24, 480, .inl (fun _ => 0))), (c1_21, .inl (cc1_25, 480, .inr (.inl (fun _ => 0)))), (c2_22, .inl (cc2_26, 480, .inl (fun _ => 0))), (c3_23, .inl (cc3_27, 40, .inl (fun _ => 0)))] := hD
  refine lv_aload_n hx hb dX6_init_84 rfl (lv_at hl 0 rfl) ?_
  refine lv_iconst (v := (-1)) hx hb dX6_init_85 (by decide) ?_
  refine va_put (D := (dC, dI)) (ci := 7) (v := .int (-1)) (ty := .int) (C := RX6) (T := TX6) (N := 11) hx hb hts hinX6 tyX6 tyX6_ok nmX6 hown hK hP hD hS 0 rfl rfl 8 (by decide) (hts (.fieldLink RX6 57 "AgreedTalks" "shown" "I") (by decide +kernel)) (fun _ h9 => h9) rfl (by decide +kernel) rfl rfl (Nat.le_of_ble_eq_true rfl) dX6_init_86 (fun H locs hP hD hS => ?_)
  have hP : va_P (dC, dI) vwCl [(h0, .inr (7, [.ref q_1, .ref q_3, .ref q_5, .ref q_6, .ref q_9, .ref q_10, .ref q_19, .int 0, .int (-1), .int 0, .int 0])), (q_1, .inl (cy_2, 30, .inl (fun _ => 0))), (q_3, .inl (cy_4, 30, .inl (fun _ => 0))), (q_5, .inr (0, [.int 0, .ref ze, .int 0])), (q_6, .inr (6, [.ref ab_7, .int 0])), (ab_7, .inl (cB_8, 300, .inl (fun _ => 0))), (q_9, .inr (5, [.ref q_6, .int 0, .int 0])), (q_10, .inr (2, [.ref d0_11, .ref d1_12, .ref d2_13, .ref d3_14])), (d0_11, .inl (cd0_15, 40, .inl (fun _ => 0))), (d1_12, .inl (cd1_16, 40, .inl (fun _ => 0))), (d2_13, .inl (cd2_17, 40, .inl (fun _ => 0))), (d3_14, .inl (cd3_18, 480, .inl (fun _ => 0))), (q_19, .inr (1, [.ref c0_20, .ref c1_21, .ref c2_22, .ref c3_23, .long 0])), (c0_20, .inl (cc0_24, 480, .inl (fun _ => 0))), (c1_21, .inl (cc1_25, 480, .inr (.inl (fun _ => 0)))), (c2_22, .inl (cc2_26, 480, .inl (fun _ => 0))), (c3_23, .inl (cc3_27, 40, .inl (fun _ => 0)))] H := hP
  have hD : va_D A [(h0, .inr (7, [.ref q_1, .ref q_3, .ref q_5, .ref q_6, .ref q_9, .ref q_10, .ref q_19, .int 0, .int (-1), .int 0, .int 0])), (q_1, .inl (cy_2, 30, .inl (fun _ => 0))), (q_3, .inl (cy_4, 30, .inl (fun _ => 0))), (q_5, .inr (0, [.int 0, .ref ze, .int 0])), (q_6, .inr (6, [.ref ab_7, .int 0])), (ab_7, .inl (cB_8, 300, .inl (fun _ => 0))), (q_9, .inr (5, [.ref q_6, .int 0, .int 0])), (q_10, .inr (2, [.ref d0_11, .ref d1_12, .ref d2_13, .ref d3_14])), (d0_11, .inl (cd0_15, 40, .inl (fun _ => 0))), (d1_12, .inl (cd1_16, 40, .inl (fun _ => 0))), (d2_13, .inl (cd2_17, 40, .inl (fun _ => 0))), (d3_14, .inl (cd3_18, 480, .inl (fun _ => 0))), (q_19, .inr (1, [.ref c0_20, .ref c1_21, .ref c2_22, .ref c3_23, .long 0])), (c0_20, .inl (cc0_24, 480, .inl (fun _ => 0))), (c1_21, .inl (cc1_25, 480, .inr (.inl (fun _ => 0)))), (c2_22, .inl (cc2_26, 480, .inl (fun _ => 0))), (c3_23, .inl (cc3_27, 40, .inl (fun _ => 0)))] := hD
  refine lv_aload_n hx hb dX6_init_89 rfl (lv_at hl 0 rfl) ?_
  refine lv_iconst (v := (-1)) hx hb dX6_init_90 (by decide) ?_
  refine va_put (D := (dC, dI)) (ci := 7) (v := .int (-1)) (ty := .int) (C := RX6) (T := TX6) (N := 11) hx hb hts hinX6 tyX6 tyX6_ok nmX6 hown hK hP hD hS 0 rfl rfl 9 (by decide) (hts (.fieldLink RX6 60 "AgreedTalks" "faultPlace" "I") (by decide +kernel)) (fun _ h9 => h9) rfl (by decide +kernel) rfl rfl (Nat.le_of_ble_eq_true rfl) dX6_init_91 (fun H locs hP hD hS => ?_)
  have hP : va_P (dC, dI) vwCl [(h0, .inr (7, [.ref q_1, .ref q_3, .ref q_5, .ref q_6, .ref q_9, .ref q_10, .ref q_19, .int 0, .int (-1), .int (-1), .int 0])), (q_1, .inl (cy_2, 30, .inl (fun _ => 0))), (q_3, .inl (cy_4, 30, .inl (fun _ => 0))), (q_5, .inr (0, [.int 0, .ref ze, .int 0])), (q_6, .inr (6, [.ref ab_7, .int 0])), (ab_7, .inl (cB_8, 300, .inl (fun _ => 0))), (q_9, .inr (5, [.ref q_6, .int 0, .int 0])), (q_10, .inr (2, [.ref d0_11, .ref d1_12, .ref d2_13, .ref d3_14])), (d0_11, .inl (cd0_15, 40, .inl (fun _ => 0))), (d1_12, .inl (cd1_16, 40, .inl (fun _ => 0))), (d2_13, .inl (cd2_17, 40, .inl (fun _ => 0))), (d3_14, .inl (cd3_18, 480, .inl (fun _ => 0))), (q_19, .inr (1, [.ref c0_20, .ref c1_21, .ref c2_22, .ref c3_23, .long 0])), (c0_20, .inl (cc0_24, 480, .inl (fun _ => 0))), (c1_21, .inl (cc1_25, 480, .inr (.inl (fun _ => 0)))), (c2_22, .inl (cc2_26, 480, .inl (fun _ => 0))), (c3_23, .inl (cc3_27, 40, .inl (fun _ => 0)))] H := hP
  have hD : va_D A [(h0, .inr (7, [.ref q_1, .ref q_3, .ref q_5, .ref q_6, .ref q_9, .ref q_10, .ref q_19, .int 0, .int (-1), .int (-1), .int 0])), (q_1, .inl (cy_2, 30, .inl (fun _ => 0))), (q_3, .inl (cy_4, 30, .inl (fun _ => 0))), (q_5, .inr (0, [.int 0, .ref ze, .int 0])), (q_6, .inr (6, [.ref ab_7, .int 0])), (ab_7, .inl (cB_8, 300, .inl (fun _ => 0))), (q_9, .inr (5, [.ref q_6, .int 0, .int 0])), (q_10, .inr (2, [.ref d0_11, .ref d1_12, .ref d2_13, .ref d3_14])), (d0_11, .inl (cd0_15, 40, .inl (fun _ => 0))), (d1_12, .inl (cd1_16, 40, .inl (fun _ => 0))), (d2_13, .inl (cd2_17, 40, .inl (fun _ => 0))), (d3_14, .inl (cd3_18, 480, .inl (fun _ => 0))), (q_19, .inr (1, [.ref c0_20, .ref c1_21, .ref c2_22, .ref c3_23, .long 0])), (c0_20, .inl (cc0_24, 480, .inl (fun _ => 0))), (c1_21, .inl (cc1_25, 480, .inr (.inl (fun _ => 0)))), (c2_22, .inl (cc2_26, 480, .inl (fun _ => 0))), (c3_23, .inl (cc3_27, 40, .inl (fun _ => 0)))] := hD
  refine lv_aload_n hx hb dX6_init_94 rfl (lv_at hl 0 rfl) ?_
  refine lv_iconst (v := 0) hx hb dX6_init_95 (by decide) ?_
  refine va_put (D := (dC, dI)) (ci := 7) (v := .int 0) (ty := .int) (C := RX6) (T := TX6) (N := 11) hx hb hts hinX6 tyX6 tyX6_ok nmX6 hown hK hP hD hS 0 rfl rfl 10 (by decide) (hts (.fieldLink RX6 63 "AgreedTalks" "refusal" "I") (by decide +kernel)) (fun _ h9 => h9) rfl (by decide +kernel) rfl rfl (Nat.le_of_ble_eq_true rfl) dX6_init_96 (fun H locs hP hD hS => ?_)
  have hP : va_P (dC, dI) vwCl [(h0, .inr (7, [.ref q_1, .ref q_3, .ref q_5, .ref q_6, .ref q_9, .ref q_10, .ref q_19, .int 0, .int (-1), .int (-1), .int 0])), (q_1, .inl (cy_2, 30, .inl (fun _ => 0))), (q_3, .inl (cy_4, 30, .inl (fun _ => 0))), (q_5, .inr (0, [.int 0, .ref ze, .int 0])), (q_6, .inr (6, [.ref ab_7, .int 0])), (ab_7, .inl (cB_8, 300, .inl (fun _ => 0))), (q_9, .inr (5, [.ref q_6, .int 0, .int 0])), (q_10, .inr (2, [.ref d0_11, .ref d1_12, .ref d2_13, .ref d3_14])), (d0_11, .inl (cd0_15, 40, .inl (fun _ => 0))), (d1_12, .inl (cd1_16, 40, .inl (fun _ => 0))), (d2_13, .inl (cd2_17, 40, .inl (fun _ => 0))), (d3_14, .inl (cd3_18, 480, .inl (fun _ => 0))), (q_19, .inr (1, [.ref c0_20, .ref c1_21, .ref c2_22, .ref c3_23, .long 0])), (c0_20, .inl (cc0_24, 480, .inl (fun _ => 0))), (c1_21, .inl (cc1_25, 480, .inr (.inl (fun _ => 0)))), (c2_22, .inl (cc2_26, 480, .inl (fun _ => 0))), (c3_23, .inl (cc3_27, 40, .inl (fun _ => 0)))] H := hP
  have hD : va_D A [(h0, .inr (7, [.ref q_1, .ref q_3, .ref q_5, .ref q_6, .ref q_9, .ref q_10, .ref q_19, .int 0, .int (-1), .int (-1), .int 0])), (q_1, .inl (cy_2, 30, .inl (fun _ => 0))), (q_3, .inl (cy_4, 30, .inl (fun _ => 0))), (q_5, .inr (0, [.int 0, .ref ze, .int 0])), (q_6, .inr (6, [.ref ab_7, .int 0])), (ab_7, .inl (cB_8, 300, .inl (fun _ => 0))), (q_9, .inr (5, [.ref q_6, .int 0, .int 0])), (q_10, .inr (2, [.ref d0_11, .ref d1_12, .ref d2_13, .ref d3_14])), (d0_11, .inl (cd0_15, 40, .inl (fun _ => 0))), (d1_12, .inl (cd1_16, 40, .inl (fun _ => 0))), (d2_13, .inl (cd2_17, 40, .inl (fun _ => 0))), (d3_14, .inl (cd3_18, 480, .inl (fun _ => 0))), (q_19, .inr (1, [.ref c0_20, .ref c1_21, .ref c2_22, .ref c3_23, .long 0])), (c0_20, .inl (cc0_24, 480, .inl (fun _ => 0))), (c1_21, .inl (cc1_25, 480, .inr (.inl (fun _ => 0)))), (c2_22, .inl (cc2_26, 480, .inl (fun _ => 0))), (c3_23, .inl (cc3_27, 40, .inl (fun _ => 0)))] := hD
  refine lv_aload_n hx hb dX6_init_99 rfl (lv_at hl 0 rfl) ?_
  refine va_get (D := (dC, dI)) (ci := 7) (v := .ref q_3) (C := RX6) (T := TX6) (N := 11) hx hb hts hinX6 hown hK hP 0 rfl rfl 1 (by decide) (hts (.fieldLink RX6 13 "AgreedTalks" "counting" "[I") (by decide +kernel)) (fun _ h9 => h9) rfl dX6_init_100 ?_
  refine lv_iconst (v := (-1)) hx hb dX6_init_103 (by decide) ?_
  have hPc := hP.sub (ws' := [(q_3, .inl (cy_4, 30, .inl (fun _ => 0)))]) [2] rfl
  have hDc := hD.sub (ws' := [(q_3, .inl (cy_4, 30, .inl (fun _ => 0)))]) [2] (by decide) rfl
  have hKc := hK.sub (tys' := [(cy_4, .int)]) [1] rfl
  have hFc := va_free (wc := [(q_3, .inl (cy_4, 30, .inl (fun _ => 0)))]) hD hS hA [2] rfl
  refine va_callv (va_runS (As := [.ref q_3, .int (-1)]) (rest := []) ⟨hx, hb, hml, hown, hts⟩ (c_fill l dC dI _ q_3 (-1) cy_4 30 (fun _ => 0) (by decide)) (va_cwS 2 hts gc_X6_init_fill rfl rfl rfl (by decide +kernel) ⟨Nat.le_of_ble_eq_true rfl, Nat.le_of_ble_eq_true rfl⟩) ⟨fun a U g mk q => by obtain ⟨q0, q1, qP, qK, qD⟩ := q; exact ⟨q0, q1, qP, va_K.moved (u := U) (U := U.calling g mk a) (Vm.Alike.refl U.vm) qK, qD⟩, fun U hU hW => ⟨rfl, by rw [hU], by rw [hU]; exact hPc, va_K.moved hW.alike hKc, hDc.weaken (fun _ _ _ _ => trivial)⟩⟩ rfl rfl hl.1 rfl (lv_room (Nat.le_of_ble_eq_true rfl)) dX6_init_104 ⟨by decide, by decide⟩) hS (fun q _ h => hFc q h) hFc (fun u t H1 locs ht hvm hw hB hz1 hk1 hS => ?_)
  obtain ⟨g0_28, hP1, hK1, hD1⟩ := hB
  rw [ht] at hP1
  obtain ⟨hP, hD⟩ := va_join (wr := [(h0, .inr (7, [.ref q_1, .ref q_3, .ref q_5, .ref q_6, .ref q_9, .ref q_10, .ref q_19, .int 0, .int (-1), .int (-1), .int 0])), (q_1, .inl (cy_2, 30, .inl (fun _ => 0))), (q_5, .inr (0, [.int 0, .ref ze, .int 0])), (q_6, .inr (6, [.ref ab_7, .int 0])), (ab_7, .inl (cB_8, 300, .inl (fun _ => 0))), (q_9, .inr (5, [.ref q_6, .int 0, .int 0])), (q_10, .inr (2, [.ref d0_11, .ref d1_12, .ref d2_13, .ref d3_14])), (d0_11, .inl (cd0_15, 40, .inl (fun _ => 0))), (d1_12, .inl (cd1_16, 40, .inl (fun _ => 0))), (d2_13, .inl (cd2_17, 40, .inl (fun _ => 0))), (d3_14, .inl (cd3_18, 480, .inl (fun _ => 0))), (q_19, .inr (1, [.ref c0_20, .ref c1_21, .ref c2_22, .ref c3_23, .long 0])), (c0_20, .inl (cc0_24, 480, .inl (fun _ => 0))), (c1_21, .inl (cc1_25, 480, .inr (.inl (fun _ => 0)))), (c2_22, .inl (cc2_26, 480, .inl (fun _ => 0))), (c3_23, .inl (cc3_27, 40, .inl (fun _ => 0)))]) (w1 := [(q_3, .inl (cy_4, 30, .inl g0_28))]) hP hD [2] [0, 1, 3, 4, 5, 6, 7, 8, 9, 10, 11, 12, 13, 14, 15, 16] rfl rfl (by decide) (by decide) hk1 hFc hP1 hD1
  generalize H1 = H at hP hS ⊢
  have hP : va_P (dC, dI) vwCl [(h0, .inr (7, [.ref q_1, .ref q_3, .ref q_5, .ref q_6, .ref q_9, .ref q_10, .ref q_19, .int 0, .int (-1), .int (-1), .int 0])), (q_1, .inl (cy_2, 30, .inl (fun _ => 0))), (q_5, .inr (0, [.int 0, .ref ze, .int 0])), (q_6, .inr (6, [.ref ab_7, .int 0])), (ab_7, .inl (cB_8, 300, .inl (fun _ => 0))), (q_9, .inr (5, [.ref q_6, .int 0, .int 0])), (q_10, .inr (2, [.ref d0_11, .ref d1_12, .ref d2_13, .ref d3_14])), (d0_11, .inl (cd0_15, 40, .inl (fun _ => 0))), (d1_12, .inl (cd1_16, 40, .inl (fun _ => 0))), (d2_13, .inl (cd2_17, 40, .inl (fun _ => 0))), (d3_14, .inl (cd3_18, 480, .inl (fun _ => 0))), (q_19, .inr (1, [.ref c0_20, .ref c1_21, .ref c2_22, .ref c3_23, .long 0])), (c0_20, .inl (cc0_24, 480, .inl (fun _ => 0))), (c1_21, .inl (cc1_25, 480, .inr (.inl (fun _ => 0)))), (c2_22, .inl (cc2_26, 480, .inl (fun _ => 0))), (c3_23, .inl (cc3_27, 40, .inl (fun _ => 0))), (q_3, .inl (cy_4, 30, .inl g0_28))] H := hP
  have hD : va_D A [(h0, .inr (7, [.ref q_1, .ref q_3, .ref q_5, .ref q_6, .ref q_9, .ref q_10, .ref q_19, .int 0, .int (-1), .int (-1), .int 0])), (q_1, .inl (cy_2, 30, .inl (fun _ => 0))), (q_5, .inr (0, [.int 0, .ref ze, .int 0])), (q_6, .inr (6, [.ref ab_7, .int 0])), (ab_7, .inl (cB_8, 300, .inl (fun _ => 0))), (q_9, .inr (5, [.ref q_6, .int 0, .int 0])), (q_10, .inr (2, [.ref d0_11, .ref d1_12, .ref d2_13, .ref d3_14])), (d0_11, .inl (cd0_15, 40, .inl (fun _ => 0))), (d1_12, .inl (cd1_16, 40, .inl (fun _ => 0))), (d2_13, .inl (cd2_17, 40, .inl (fun _ => 0))), (d3_14, .inl (cd3_18, 480, .inl (fun _ => 0))), (q_19, .inr (1, [.ref c0_20, .ref c1_21, .ref c2_22, .ref c3_23, .long 0])), (c0_20, .inl (cc0_24, 480, .inl (fun _ => 0))), (c1_21, .inl (cc1_25, 480, .inr (.inl (fun _ => 0)))), (c2_22, .inl (cc2_26, 480, .inl (fun _ => 0))), (c3_23, .inl (cc3_27, 40, .inl (fun _ => 0))), (q_3, .inl (cy_4, 30, .inl g0_28))] := hD
  have hP9 := hP.sub (ws' := [(h0, .inr (7, [.ref q_1, .ref q_3, .ref q_5, .ref q_6, .ref q_9, .ref q_10, .ref q_19, .int 0, .int (-1), .int (-1), .int 0])), (q_1, .inl (cy_2, 30, .inl (fun _ => 0))), (q_3, .inl (cy_4, 30, .inl g0_28)), (q_5, .inr (0, [.int 0, .ref ze, .int 0])), (q_6, .inr (6, [.ref ab_7, .int 0])), (ab_7, .inl (cB_8, 300, .inl (fun _ => 0))), (q_9, .inr (5, [.ref q_6, .int 0, .int 0])), (q_10, .inr (2, [.ref d0_11, .ref d1_12, .ref d2_13, .ref d3_14])), (d0_11, .inl (cd0_15, 40, .inl (fun _ => 0))), (d1_12, .inl (cd1_16, 40, .inl (fun _ => 0))), (d2_13, .inl (cd2_17, 40, .inl (fun _ => 0))), (d3_14, .inl (cd3_18, 480, .inl (fun _ => 0))), (q_19, .inr (1, [.ref c0_20, .ref c1_21, .ref c2_22, .ref c3_23, .long 0])), (c0_20, .inl (cc0_24, 480, .inl (fun _ => 0))), (c1_21, .inl (cc1_25, 480, .inr (.inl (fun _ => 0)))), (c2_22, .inl (cc2_26, 480, .inl (fun _ => 0))), (c3_23, .inl (cc3_27, 40, .inl (fun _ => 0)))]) [0, 1, 16, 2, 3, 4, 5, 6, 7, 8, 9, 10, 11, 12, 13, 14, 15] rfl
  have hD9 := hD.sub (ws' := [(h0, .inr (7, [.ref q_1, .ref q_3, .ref q_5, .ref q_6, .ref q_9, .ref q_10, .ref q_19, .int 0, .int (-1), .int (-1), .int 0])), (q_1, .inl (cy_2, 30, .inl (fun _ => 0))), (q_3, .inl (cy_4, 30, .inl g0_28)), (q_5, .inr (0, [.int 0, .ref ze, .int 0])), (q_6, .inr (6, [.ref ab_7, .int 0])), (ab_7, .inl (cB_8, 300, .inl (fun _ => 0))), (q_9, .inr (5, [.ref q_6, .int 0, .int 0])), (q_10, .inr (2, [.ref d0_11, .ref d1_12, .ref d2_13, .ref d3_14])), (d0_11, .inl (cd0_15, 40, .inl (fun _ => 0))), (d1_12, .inl (cd1_16, 40, .inl (fun _ => 0))), (d2_13, .inl (cd2_17, 40, .inl (fun _ => 0))), (d3_14, .inl (cd3_18, 480, .inl (fun _ => 0))), (q_19, .inr (1, [.ref c0_20, .ref c1_21, .ref c2_22, .ref c3_23, .long 0])), (c0_20, .inl (cc0_24, 480, .inl (fun _ => 0))), (c1_21, .inl (cc1_25, 480, .inr (.inl (fun _ => 0)))), (c2_22, .inl (cc2_26, 480, .inl (fun _ => 0))), (c3_23, .inl (cc3_27, 40, .inl (fun _ => 0)))]) [0, 1, 16, 2, 3, 4, 5, 6, 7, 8, 9, 10, 11, 12, 13, 14, 15] (by decide) rfl
  have hK9 := hK.sub (tys' := [(cy_2, .int), (cy_4, .int), (cB_8, .int), (cd0_15, .int), (cd1_16, .int), (cd2_17, .int), (cd3_18, .int), (cc0_24, .int), (cc1_25, .long), (cc2_26, .int), (cc3_27, .int)]) [0, 1, 2, 3, 4, 5, 6, 7, 8, 9, 10] rfl
  refine W.widen (k := 16) (n := 2457) (by omega) (by omega) ?_
  exact W.vret hx hb hr (fun t ht hW => ⟨⟨(), rfl, trivial, q_1, q_3, q_5, q_6, q_9, q_10, q_19, ab_7, d0_11, d1_12, d2_13, d3_14, c0_20, c1_21, c2_22, c3_23, cy_2, cy_4, cB_8, cd0_15, cd1_16, cd2_17, cd3_18, cc0_24, cc1_25, cc2_26, cc3_27, g0_28, by rw [ht]; exact hP9, va_K.moved hW.alike hK9, hD9⟩, hS.F ht⟩) hS.2.2 dX6_init_107
