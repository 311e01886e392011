def wp_Tape_init : List Cond := .code yX5_init cX5_init 1 none :: (([.methodLink RX5 3 objectInit, .instanceMethod objectInit, .code objectInit ⟨#[0xb1]⟩ 1 none, .arrayClass .int, .fieldLink RX5 9 "AgreedTalks$Tape" "bytes" "[I", .fieldLink RX5 15 "AgreedTalks$Tape" "length" "I"] : List Cond) ++ wsX50)
set_option maxRecDepth 20000 in
theorem gi_Tape_init : GoodIn lw_tbl wp_Tape_init := (goodIn_ca (goodIn_r (.code yX5_init cX5_init 1 none :: ([.methodLink RX5 3 objectInit, .instanceMethod objectInit, .code objectInit ⟨#[0xb1]⟩ 1 none, .arrayClass .int, .fieldLink RX5 9 "AgreedTalks$Tape" "bytes" "[I", .fieldLink RX5 15 "AgreedTalks$Tape" "length" "I"] : List Cond)) [107, 108, 74, 75, 102, 109, 111] (by decide +kernel) (by decide +kernel)) wi_wsX5)
set_option maxHeartbeats 4000000 in
set_option maxRecDepth 100000 in
/-- Tape(): 300 zeros, length 0 -/
theorem c_Tape_init (l : Launch) (dC : Nat → ClassId) (dI : Nat → Nat → Nat) (sz : Nat) (h0 : Nat) : Met l yX5_init wp_Tape_init ({ frames := 1, cells := 1, slots := 300, locals := 20 }) (va_Pc [.ref h0] (fun U => U.heap.size = sz ∧ va_P (dC, dI) vwCl [(h0, .inr (6, [.null, .int 0]))] U.heap ∧ va_K (dC, dI) vwCl [] U ∧ va_D (fun _ => True) [(h0, .inr (6, [.null, .int 0]))])) (va_Qv (fun (_ : Unit) => True) (fun (_ : Unit) (t : State) => ∃ (ab : Nat), ∃ (cB : ClassId), va_P (dC, dI) vwCl [(h0, .inr (6, [.ref ab, .int 0])), (ab, .inl (cB, 300, .inl (fun _ => 0)))] t.heap ∧ va_K (dC, dI) vwCl [(cB, .int)] t ∧ va_D (va_A [(h0, .inr (6, [.null, .int 0]))] sz) [(h0, .inr (6, [.ref ab, .int 0])), (ab, .inl (cB, 300, .inl (fun _ => 0)))]) (va_A [(h0, .inr (6, [.null, .int 0]))] sz)) 1 300 (va_A [(h0, .inr (6, [.null, .int 0]))] sz) := by
  refine Met.ofW (cc := cX5_init) (maxL := 1) (ret := none) (by decide) rfl ?_
  intro p e s m args below meth c s₁ B hml hv
  obtain ⟨rfl, hsz, hP, hK, hD0⟩ := hv
  have hx := B.exec
  have hb := B.bytes
  have hr := B.returns
  have hts := atoms_spec (ws := wp_Tape_init) B.pre
  have hown : s.vm.findClass RX5 = some m.cls := findClass_of_methodNamed B.named
  have hlocks := B.notSynchronized
  have hin : meth.name = "<init>" := (name_of_methodNamed B.named B.method).1
  subst hsz
  have hD := hD0.self (sz := s.heap.size)
  generalize hAe : va_A [(h0, .inr (6, [.null, .int 0]))] s.heap.size = A at hD ⊢
  have hA : ∀ q : Nat, s.heap.size ≤ q → A q := fun q h => by rw [← hAe]; exact Or.inr h
  have hS : va_S A s.heap s.heap [] := va_S.rf
  have hP : va_P (dC, dI) vwCl [(h0, .inr (6, [.null, .int 0]))] s.heap := hP
  have hl := lv_entry ([.ref h0]) (n := 1) (Nat.le_of_ble_eq_true rfl)
  rw [lg_entry_eq]
  generalize (lg_sl ([.ref h0]) ++ List.replicate (1 - (lg_sl ([.ref h0])).length) Slot.unset).toArray = ls at hl ⊢
  have hl : lv_has ls 1 [(0, .ref h0)] := hl
  have hinX5 : ∀ w ∈ u_ws RX5 TX5 2, w ∈ wp_Tape_init := fun _ h => List.mem_cons_of_mem _ (List.mem_append_right _ h)
  refine lv_aload_n hx hb dX5_init_0 rfl (lv_at hl 0 rfl) ?_
  refine W.objInit hx hb hown (hts (.methodLink RX5 3 objectInit) (by decide +kernel)) (hts (.instanceMethod objectInit) (by decide +kernel)) (hts _ (List.mem_cons_of_mem _ (List.mem_append_left _ (List.mem_of_getElem? (i := 2) rfl)))) rfl (by rw [hml]; exact hl.1) rfl dX5_init_1 (Nat.le_of_ble_eq_true rfl) (Nat.le_of_ble_eq_true rfl) ?_
  refine W.eq (g2 := F0 m 4 ls []) rfl ?_
  refine lv_aload_n hx hb dX5_init_4 rfl (lv_at hl 0 rfl) ?_
  refine lv_sipush (v := 300) hx hb dX5_init_5 (by decide) ?_
  refine va_newa (atype := .int) (ty := .int) (N' := 300) (a0 := (300, .inl (fun _ => 0))) hx hb (hts (.arrayClass .int) (by decide +kernel)) rfl hK hP hD hS hA (fun _ => rfl) (by decide) (by decide) (by decide) (by decide) (by decide) dX5_init_8 (fun q_1 cy_2 H hK hP hD hS => ?_)
  have hP : va_P (dC, dI) vwCl [(h0, .inr (6, [.null, .int 0])), (q_1, .inl (cy_2, 300, .inl (fun _ => 0)))] H := hP
  have hD : va_D A [(h0, .inr (6, [.null, .int 0])), (q_1, .inl (cy_2, 300, .inl (fun _ => 0)))] := hD
  have hK : va_K (dC, dI) vwCl [(cy_2, .int)] s := hK
  refine W.widen (k := 1) (n := 300) (by omega) (by omega) ?_
  refine va_putF (D := (dC, dI)) (ci := 6) (v := .ref q_1) (ty := .array .int) (C := RX5) (T := TX5) (N := 2) hx hb hts hinX5 tyX5 tyX5_ok nmX5 hown hK hP hD hS 0 rfl rfl 0 (by decide) (hts (.fieldLink RX5 9 "AgreedTalks$Tape" "bytes" "[I") (by decide +kernel)) (fun _ h9 => h9) rfl hin rfl (by decide +kernel) rfl rfl (Nat.le_of_ble_eq_true rfl) dX5_init_10 (fun H locs hP hD hS => ?_)
  have hP : va_P (dC, dI) vwCl [(h0, .inr (6, [.ref q_1, .int 0])), (q_1, .inl (cy_2, 300, .inl (fun _ => 0)))] H := hP
  have hD : va_D A [(h0, .inr (6, [.ref q_1, .int 0])), (q_1, .inl (cy_2, 300, .inl (fun _ => 0)))] := hD
  refine lv_aload_n hx hb dX5_init_13 rfl (lv_at hl 0 rfl) ?_
  refine lv_iconst (v := 0) hx hb dX5_init_14 (by decide) ?_
  refine va_put (D := (dC, dI)) (ci := 6) (v := .int 0) (ty := .int) (C := RX5) (T := TX5) (N := 2) hx hb hts hinX5 tyX5 tyX5_ok nmX5 hown hK hP hD hS 0 rfl rfl 1 (by decide) (hts (.fieldLink RX5 15 "AgreedTalks$Tape" "length" "I") (by decide +kernel)) (fun _ h9 => h9) rfl (by decide +kernel) rfl rfl (Nat.le_of_ble_eq_true rfl) dX5_init_15 (fun H locs hP hD hS => ?_)
  have hP : va_P (dC, dI) vwCl [(h0, .inr (6, [.ref q_1, .int 0])), (q_1, .inl (cy_2, 300, .inl (fun _ => 0)))] H := hP
  have hD : va_D A [(h0, .inr (6, [.ref q_1, .int 0])), (q_1, .inl (cy_2, 300, .inl (fun _ => 0)))] := hD
  have hP9 := hP.sub (ws' := [(h0, .inr (6, [.ref q_1, .int 0])), (q_1, .inl (cy_2, 300, .inl (fun _ => 0)))]) [0, 1] rfl
  have hD9 := hD.sub (ws' := [(h0, .inr (6, [.ref q_1, .int 0])), (q_1, .inl (cy_2, 300, .inl (fun _ => 0)))]) [0, 1] (by decide) rfl
  have hK9 := hK.sub (tys' := [(cy_2, .int)]) [0] rfl
  refine W.widen (k := 1) (n := 300) (by omega) (by omega) ?_
  exact W.vret hx hb hr (fun t ht hW => ⟨⟨(), rfl, trivial, q_1, cy_2, by rw [ht]; exact hP9, va_K.moved hW.alike hK9, hD9⟩, hS.F ht⟩) hS.2.2 dX5_init_18
def wp_Reader_init : List Cond := .code yX4_init cX4_init 2 none :: (([.methodLink RX4 3 objectInit, .instanceMethod objectInit, .code objectInit ⟨#[0xb1]⟩ 1 none, .fieldLink RX4 9 "AgreedTalks$Reader" "start" "I", .fieldLink RX4 15 "AgreedTalks$Reader" "stop" "I", .fieldLink RX4 18 "AgreedTalks$Reader" "tape" "LAgreedTalks$Tape;"] : List Cond) ++ wsX40)
set_option maxRecDepth 20000 in
theorem gi_Reader_init : GoodIn lw_tbl wp_Reader_init := (goodIn_ca (goodIn_r (.code yX4_init cX4_init 2 none :: ([.methodLink RX4 3 objectInit, .instanceMethod objectInit, .code objectInit ⟨#[0xb1]⟩ 1 none, .fieldLink RX4 9 "AgreedTalks$Reader" "start" "I", .fieldLink RX4 15 "AgreedTalks$Reader" "stop" "I", .fieldLink RX4 18 "AgreedTalks$Reader" "tape" "LAgreedTalks$Tape;"] : List Cond)) [123, 124, 74, 75, 126, 128, 125] (by decide +kernel) (by decide +kernel)) wi_wsX4)
set_option maxHeartbeats 4000000 in
set_option maxRecDepth 100000 in
/-- Reader(tape) -/
theorem c_Reader_init (l : Launch) (dC : Nat → ClassId) (dI : Nat → Nat → Nat) (sz : Nat) (h0 : Nat) (p0 : Nat) : Met l yX4_init wp_Reader_init ({ frames := 1, cells := 0, slots := 0, locals := 20 }) (va_Pc [.ref h0, .ref p0] (fun U => U.heap.size = sz ∧ va_P (dC, dI) vwCl [(h0, .inr (5, [.null, .int 0, .int 0]))] U.heap ∧ va_K (dC, dI) vwCl [] U ∧ va_D (fun _ => True) [(h0, .inr (5, [.null, .int 0, .int 0]))])) (va_Qv (fun (_ : Unit) => True) (fun (_ : Unit) (t : State) => va_P (dC, dI) vwCl [] t.heap ∧ va_K (dC, dI) vwCl [] t ∧ va_D (va_A [(h0, .inr (5, [.null, .int 0, .int 0]))] sz) []) (va_A [(h0, .inr (5, [.null, .int 0, .int 0]))] sz)) 0 0 (va_A [(h0, .inr (5, [.null, .int 0, .int 0]))] sz) := by
  refine Met.ofW (cc := cX4_init) (maxL := 2) (ret := none) (by decide) rfl ?_
  intro p e s m args below meth c s₁ B hml hv
  obtain ⟨rfl, hsz, hP, hK, hD0⟩ := hv
  have hx := B.exec
  have hb := B.bytes
  have hr := B.returns
  have hts := atoms_spec (ws := wp_Reader_init) B.pre
  have hown : s.vm.findClass RX4 = some m.cls := findClass_of_methodNamed B.named
  have hlocks := B.notSynchronized
  have hin : meth.name = "<init>" := (name_of_methodNamed B.named B.method).1
  subst hsz
  have hD := hD0.self (sz := s.heap.size)
  generalize hAe : va_A [(h0, .inr (5, [.null, .int 0, .int 0]))] s.heap.size = A at hD ⊢
  have hA : ∀ q : Nat, s.heap.size ≤ q → A q := fun q h => by rw [← hAe]; exact Or.inr h
  have hS : va_S A s.heap s.heap [] := va_S.rf
  have hP : va_P (dC, dI) vwCl [(h0, .inr (5, [.null, .int 0, .int 0]))] s.heap := hP
  have hl := lv_entry ([.ref h0, .ref p0]) (n := 2) (Nat.le_of_ble_eq_true rfl)
  rw [lg_entry_eq]
  generalize (lg_sl ([.ref h0, .ref p0]) ++ List.replicate (2 - (lg_sl ([.ref h0, .ref p0])).length) Slot.unset).toArray = ls at hl ⊢
  have hl : lv_has ls 2 [(0, .ref h0), (1, .ref p0)] := hl
  have hinX4 : ∀ w ∈ u_ws RX4 TX4 3, w ∈ wp_Reader_init := fun _ h => List.mem_cons_of_mem _ (List.mem_append_right _ h)
  refine lv_aload_n hx hb dX4_init_0 rfl (lv_at hl 0 rfl) ?_
  refine W.objInit hx hb hown (hts (.methodLink RX4 3 objectInit) (by decide +kernel)) (hts (.instanceMethod objectInit) (by decide +kernel)) (hts _ (List.mem_cons_of_mem _ (List.mem_append_left _ (List.mem_of_getElem? (i := 2) rfl)))) rfl (by rw [hml]; exact hl.1) rfl dX4_init_1 (Nat.le_of_ble_eq_true rfl) (Nat.le_of_ble_eq_true rfl) ?_
  refine W.eq (g2 := F0 m 4 ls []) rfl ?_
  refine lv_aload_n hx hb dX4_init_4 rfl (lv_at hl 0 rfl) ?_
  refine lv_iconst (v := 0) hx hb dX4_init_5 (by decide) ?_
  refine va_put (D := (dC, dI)) (ci := 5) (v := .int 0) (ty := .int) (C := RX4) (T := TX4) (N := 3) hx hb hts hinX4 tyX4 tyX4_ok nmX4 hown hK hP hD hS 0 rfl rfl 1 (by decide) (hts (.fieldLink RX4 9 "AgreedTalks$Reader" "start" "I") (by decide +kernel)) (fun _ h9 => h9) rfl (by decide +kernel) rfl rfl (Nat.le_of_ble_eq_true rfl) dX4_init_6 (fun H locs hP hD hS => ?_)
  have hP : va_P (dC, dI) vwCl [(h0, .inr (5, [.null, .int 0, .int 0]))] H := hP
  have hD : va_D A [(h0, .inr (5, [.null, .int 0, .int 0]))] := hD
  refine lv_aload_n hx hb dX4_init_9 rfl (lv_at hl 0 rfl) ?_
  refine lv_iconst (v := 0) hx hb dX4_init_10 (by decide) ?_
  refine va_put (D := (dC, dI)) (ci := 5) (v := .int 0) (ty := .int) (C := RX4) (T := TX4) (N := 3) hx hb hts hinX4 tyX4 tyX4_ok nmX4 hown hK hP hD hS 0 rfl rfl 2 (by decide) (hts (.fieldLink RX4 15 "AgreedTalks$Reader" "stop" "I") (by decide +kernel)) (fun _ h9 => h9) rfl (by decide +kernel) rfl rfl (Nat.le_of_ble_eq_true rfl) dX4_init_11 (fun H locs hP hD hS => ?_)
  have hP : va_P (dC, dI) vwCl [(h0, .inr (5, [.null, .int 0, .int 0]))] H := hP
  have hD : va_D A [(h0, .inr (5, [.null, .int 0, .int 0]))] := hD
  refine lv_aload_n hx hb dX4_init_14 rfl (lv_at hl 0 rfl) ?_
  refine lv_aload_n hx hb dX4_init_15 rfl (lv_at hl 1 rfl) ?_
  refine va_putF (D := (dC, dI)) (ci := 5) (v := .ref p0) (ty := .object "AgreedTalks$Tape") (C := RX4) (T := TX4) (N := 3) hx hb hts hinX4 tyX4 tyX4_ok nmX4 hown hK hP hD hS 0 rfl rfl 0 (by decide) (hts (.fieldLink RX4 18 "AgreedTalks$Reader" "tape" "LAgreedTalks$Tape;") (by decide +kernel)) (fun _ h9 => h9) rfl hin rfl (by decide +kernel) rfl rfl (Nat.le_of_ble_eq_true rfl) dX4_init_16 (fun H locs hP hD hS => ?_)
  have hP : va_P (dC, dI) vwCl [(h0, .inr (5, [.ref p0, .int 0, .int 0]))] H := hP
  have hD : va_D A [(h0, .inr (5, [.ref p0, .int 0, .int 0]))] := hD
  have hP9 := hP.sub (ws' := []) [] rfl
  have hD9 := hD.sub (ws' := []) [] (by decide) rfl
  have hK9 := hK.sub (tys' := []) [] rfl
  exact W.vret hx hb hr (fun t ht hW => ⟨⟨(), rfl, trivial, by rw [ht]; exact hP9, va_K.moved hW.alike hK9, hD9⟩, hS.F ht⟩) hS.2.2 dX4_init_19
def wp_Deeds_init : List Cond := .code yX1_init cX1_init 1 none :: (([.methodLink RX1 3 objectInit, .instanceMethod objectInit, .code objectInit ⟨#[0xb1]⟩ 1 none, .arrayClass .int, .fieldLink RX1 9 "AgreedTalks$Deeds" "holders" "[I", .fieldLink RX1 15 "AgreedTalks$Deeds" "dueDays" "[I", .fieldLink RX1 18 "AgreedTalks$Deeds" "finished" "[I", .fieldLink RX1 21 "AgreedTalks$Deeds" "requests" "[I"] : List Cond) ++ wsX10)
set_option maxRecDepth 20000 in
theorem gi_Deeds_init : GoodIn lw_tbl wp_Deeds_init := (goodIn_ca (goodIn_r (.code yX1_init cX1_init 1 none :: ([.methodLink RX1 3 objectInit, .instanceMethod objectInit, .code objectInit ⟨#[0xb1]⟩ 1 none, .arrayClass .int, .fieldLink RX1 9 "AgreedTalks$Deeds" "holders" "[I", .fieldLink RX1 15 "AgreedTalks$Deeds" "dueDays" "[I", .fieldLink RX1 18 "AgreedTalks$Deeds" "finished" "[I", .fieldLink RX1 21 "AgreedTalks$Deeds" "requests" "[I"] : List Cond)) [140, 141, 74, 75, 102, 142, 144, 146, 148] (by decide +kernel) (by decide +kernel)) wi_wsX1)
set_option maxHeartbeats 4000000 in
set_option maxRecDepth 100000 in
/-- Deeds() -/
theorem c_Deeds_init (l : Launch) (dC : Nat → ClassId) (dI : Nat → Nat → Nat) (sz : Nat) (h0 : Nat) : Met l yX1_init wp_Deeds_init ({ frames := 1, cells := 4, slots := 600, locals := 20 }) (va_Pc [.ref h0] (fun U => U.heap.size = sz ∧ va_P (dC, dI) vwCl [(h0, .inr (2, [.null, .null, .null, .null]))] U.heap ∧ va_K (dC, dI) vwCl [] U ∧ va_D (fun _ => True) [(h0, .inr (2, [.null, .null, .null, .null]))])) (va_Qv (fun (_ : Unit) => True) (fun (_ : Unit) (t : State) => va_P (dC, dI) vwCl [] t.heap ∧ va_K (dC, dI) vwCl [] t ∧ va_D (va_A [(h0, .inr (2, [.null, .null, .null, .null]))] sz) []) (va_A [(h0, .inr (2, [.null, .null, .null, .null]))] sz)) 4 600 (va_A [(h0, .inr (2, [.null, .null, .null, .null]))] sz) := by
  refine Met.ofW (cc := cX1_init) (maxL := 1) (ret := none) (by decide) rfl ?_
  intro p e s m args below meth c s₁ B hml hv
  obtain ⟨rfl, hsz, hP, hK, hD0⟩ := hv
  have hx := B.exec
  have hb := B.bytes
  have hr := B.returns
  have hts := atoms_spec (ws := wp_Deeds_init) B.pre
  have hown : s.vm.findClass RX1 = some m.cls := findClass_of_methodNamed B.named
  have hlocks := B.notSynchronized
  have hin : meth.name = "<init>" := (name_of_methodNamed B.named B.method).1
  subst hsz
  have hD := hD0.self (sz := s.heap.size)
  generalize hAe : va_A [(h0, .inr (2, [.null, .null, .null, .null]))] s.heap.size = A at hD ⊢
  have hA : ∀ q : Nat, s.heap.size ≤ q → A q := fun q h => by rw [← hAe]; exact Or.inr h
  have hS : va_S A s.heap s.heap [] := va_S.rf
  have hP : va_P (dC, dI) vwCl [(h0, .inr (2, [.null, .null, .null, .null]))] s.heap := hP
  have hl := lv_entry ([.ref h0]) (n := 1) (Nat.le_of_ble_eq_true rfl)
  rw [lg_entry_eq]
  generalize (lg_sl ([.ref h0]) ++ List.replicate (1 - (lg_sl ([.ref h0])).length) Slot.unset).toArray = ls at hl ⊢
  have hl : lv_has ls 1 [(0, .ref h0)] := hl
  have hinX1 : ∀ w ∈ u_ws RX1 TX1 4, w ∈ wp_Deeds_init := fun _ h => List.mem_cons_of_mem _ (List.mem_append_right _ h)
  refine lv_aload_n hx hb dX1_init_0 rfl (lv_at hl 0 rfl) ?_
  refine W.objInit hx hb hown (hts (.methodLink RX1 3 objectInit) (by decide +kernel)) (hts (.instanceMethod objectInit) (by decide +kernel)) (hts _ (List.mem_cons_of_mem _ (List.mem_append_left _ (List.mem_of_getElem? (i := 2) rfl)))) rfl (by rw [hml]; exact hl.1) rfl dX1_init_1 (Nat.le_of_ble_eq_true rfl) (Nat.le_of_ble_eq_true rfl) ?_
  refine W.eq (g2 := F0 m 4 ls []) rfl ?_
  refine lv_aload_n hx hb dX1_init_4 rfl (lv_at hl 0 rfl) ?_
  refine lv_bipush (v := 40) hx hb dX1_init_5 (by decide) ?_
  refine va_newa (atype := .int) (ty := .int) (N' := 40) (a0 := (40, .inl (fun _ => 0))) hx hb (hts (.arrayClass .int) (by decide +kernel)) rfl hK hP hD hS hA (fun _ => rfl) (by decide) (by decide) (by decide) (by decide) (by decide) dX1_init_7 (fun q_1 cy_2 H hK hP hD hS => ?_)
  have hP : va_P (dC, dI) vwCl [(h0, .inr (2, [.null, .null, .null, .null])), (q_1, .inl (cy_2, 40, .inl (fun _ => 0)))] H := hP
  have hD : va_D A [(h0, .inr (2, [.null, .null, .null, .null])), (q_1, .inl (cy_2, 40, .inl (fun _ => 0)))] := hD
  have hK : va_K (dC, dI) vwCl [(cy_2, .int)] s := hK
  refine W.widen (k := 1) (n := 40) (by omega) (by omega) ?_
  refine va_putF (D := (dC, dI)) (ci := 2) (v := .ref q_1) (ty := .array .int) (C := RX1) (T := TX1) (N := 4) hx hb hts hinX1 tyX1 tyX1_ok nmX1 hown hK hP hD hS 0 rfl rfl 0 (by decide) (hts (.fieldLink RX1 9 "AgreedTalks$Deeds" "holders" "[I") (by decide +kernel)) (fun _ h9 => h9) rfl hin rfl (by decide +kernel) rfl rfl (Nat.le_of_ble_eq_true rfl) dX1_init_9 (fun H locs hP hD hS => ?_)
  have hP : va_P (dC, dI) vwCl [(h0, .inr (2, [.ref q_1, .null, .null, .null])), (q_1, .inl (cy_2, 40, .inl (fun _ => 0)))] H := hP
  have hD : va_D A [(h0, .inr (2, [.ref q_1, .null, .null, .null])), (q_1, .inl (cy_2, 40, .inl (fun _ => 0)))] := hD
  refine lv_aload_n hx hb dX1_init_12 rfl (lv_at hl 0 rfl) ?_
  refine lv_bipush (v := 40) hx hb dX1_init_13 (by decide) ?_
  refine va_newa (atype := .int) (ty := .int) (N' := 40) (a0 := (40, .inl (fun _ => 0))) hx hb (hts (.arrayClass .int) (by decide +kernel)) rfl hK hP hD hS hA (fun _ => rfl) (by decide) (by decide) (by decide) (by decide) (by decide) dX1_init_15 (fun q_3 cy_4 H hK hP hD hS => ?_)
  have hP : va_P (dC, dI) vwCl [(h0, .inr (2, [.ref q_1, .null, .null, .null])), (q_1, .inl (cy_2, 40, .inl (fun _ => 0))), (q_3, .inl (cy_4, 40, .inl (fun _ => 0)))] H := hP
  have hD : va_D A [(h0, .inr (2, [.ref q_1, .null, .null, .null])), (q_1, .inl (cy_2, 40, .inl (fun _ => 0))), (q_3, .inl (cy_4, 40, .inl (fun _ => 0)))] := hD
  have hK : va_K (dC, dI) vwCl [(cy_2, .int), (cy_4, .int)] s := hK
  refine W.widen (k := 2) (n := 80) (by omega) (by omega) ?_
  refine va_putF (D := (dC, dI)) (ci := 2) (v := .ref q_3) (ty := .array .int) (C := RX1) (T := TX1) (N := 4) hx hb hts hinX1 tyX1 tyX1_ok nmX1 hown hK hP hD hS 0 rfl rfl 1 (by decide) (hts (.fieldLink RX1 15 "AgreedTalks$Deeds" "dueDays" "[I") (by decide +kernel)) (fun _ h9 => h9) rfl hin rfl (by decide +kernel) rfl rfl (Nat.le_of_ble_eq_true rfl) dX1_init_17 (fun H locs hP hD hS => ?_)
  have hP : va_P (dC, dI) vwCl [(h0, .inr (2, [.ref q_1, .ref q_3, .null, .null])), (q_1, .inl (cy_2, 40, .inl (fun _ => 0))), (q_3, .inl (cy_4, 40, .inl (fun _ => 0)))] H := hP
  have hD : va_D A [(h0, .inr (2, [.ref q_1, .ref q_3, .null, .null])), (q_1, .inl (cy_2, 40, .inl (fun _ => 0))), (q_3, .inl (cy_4, 40, .inl (fun _ => 0)))] := hD
  refine lv_aload_n hx hb dX1_init_20 rfl (lv_at hl 0 rfl) ?_
  refine lv_bipush (v := 40) hx hb dX1_init_21 (by decide) ?_
  refine va_newa (atype := .int) (ty := .int) (N' := 40) (a0 := (40, .inl (fun _ => 0))) hx hb (hts (.arrayClass .int) (by decide +kernel)) rfl hK hP hD hS hA (fun _ => rfl) (by decide) (by decide) (by decide) (by decide) (by decide) dX1_init_23 (fun q_5 cy_6 H hK hP hD hS => ?_)
  have hP : va_P (dC, dI) vwCl [(h0, .inr (2, [.ref q_1, .ref q_3, .null, .null])), (q_1, .inl (cy_2, 40, .inl (fun _ => 0))), (q_3, .inl (cy_4, 40, .inl (fun _ => 0))), (q_5, .inl (cy_6, 40, .inl (fun _ => 0)))] H := hP
  have hD : va_D A [(h0, .inr (2, [.ref q_1, .ref q_3, .null, .null])), (q_1, .inl (cy_2, 40, .inl (fun _ => 0))), (q_3, .inl (cy_4, 40, .inl (fun _ => 0))), (q_5, .inl (cy_6, 40, .inl (fun _ => 0)))] := hD
  have hK : va_K (dC, dI) vwCl [(cy_2, .int), (cy_4, .int), (cy_6, .int)] s := hK
  refine W.widen (k := 3) (n := 120) (by omega) (by omega) ?_
  refine va_putF (D := (dC, dI)) (ci := 2) (v := .ref q_5) (ty := .array .int) (C := RX1) (T := TX1) (N := 4) hx hb hts hinX1 tyX1 tyX1_ok nmX1 hown hK hP hD hS 0 rfl rfl 2 (by decide) (hts (.fieldLink RX1 18 "AgreedTalks$Deeds" "finished" "[I") (by decide +kernel)) (fun _ h9 => h9) rfl hin rfl (by decide +kernel) rfl rfl (Nat.le_of_ble_eq_true rfl) dX1_init_25 (fun H locs hP hD hS => ?_)
  have hP : va_P (dC, dI) vwCl [(h0, .inr (2, [.ref q_1, .ref q_3, .ref q_5, .null])), (q_1, .inl (cy_2, 40, .inl (fun _ => 0))), (q_3, .inl (cy_4, 40, .inl (fun _ => 0))), (q_5, .inl (cy_6, 40, .inl (fun _ => 0)))] H := hP
  have hD : va_D A [(h0, .inr (2, [.ref q_1, .ref q_3, .ref q_5, .null])), (q_1, .inl (cy_2, 40, .inl (fun _ => 0))), (q_3, .inl (cy_4, 40, .inl (fun _ => 0))), (q_5, .inl (cy_6, 40, .inl (fun _ => 0)))] := hD
  refine lv_aload_n hx hb dX1_init_28 rfl (lv_at hl 0 rfl) ?_
  refine lv_sipush (v := 480) hx hb dX1_init_29 (by decide) ?_
  refine va_newa (atype := .int) (ty := .int) (N' := 480) (a0 := (480, .inl (fun _ => 0))) hx hb (hts (.arrayClass .int) (by decide +kernel)) rfl hK hP hD hS hA (fun _ => rfl) (by decide) (by decide) (by decide) (by decide) (by decide) dX1_init_32 (fun q_7 cy_8 H hK hP hD hS => ?_)
  have hP : va_P (dC, dI) vwCl [(h0, .inr (2, [.ref q_1, .ref q_3, .ref q_5, .null])), (q_1, .inl (cy_2, 40, .inl (fun _ => 0))), (q_3, .inl (cy_4, 40, .inl (fun _ => 0))), (q_5, .inl (cy_6, 40, .inl (fun _ => 0))), (q_7, .inl (cy_8, 480, .inl (fun _ => 0)))] H := hP
  have hD : va_D A [(h0, .inr (2, [.ref q_1, .ref q_3, .ref q_5, .null])), (q_1, .inl (cy_2, 40, .inl (fun _ => 0))), (q_3, .inl (cy_4, 40, .inl (fun _ => 0))), (q_5, .inl (cy_6, 40, .inl (fun _ => 0))), (q_7, .inl (cy_8, 480, .inl (fun _ => 0)))] := hD
  have hK : va_K (dC, dI) vwCl [(cy_2, .int), (cy_4, .int), (cy_6, .int), (cy_8, .int)] s := hK
  refine W.widen (k := 4) (n := 600) (by omega) (by omega) ?_
  refine va_putF (D := (dC, dI)) (ci := 2) (v := .ref q_7) (ty := .array .int) (C := RX1) (T := TX1) (N := 4) hx hb hts hinX1 tyX1 tyX1_ok nmX1 hown hK hP hD hS 0 rfl rfl 3 (by decide) (hts (.fieldLink RX1 21 "AgreedTalks$Deeds" "requests" "[I") (by decide +kernel)) (fun _ h9 => h9) rfl hin rfl (by decide +kernel) rfl rfl (Nat.le_of_ble_eq_true rfl) dX1_init_34 (fun H locs hP hD hS => ?_)
  have hP : va_P (dC, dI) vwCl [(h0, .inr (2, [.ref q_1, .ref q_3, .ref q_5, .ref q_7])), (q_1, .inl (cy_2, 40, .inl (fun _ => 0))), (q_3, .inl (cy_4, 40, .inl (fun _ => 0))), (q_5, .inl (cy_6, 40, .inl (fun _ => 0))), (q_7, .inl (cy_8, 480, .inl (fun _ => 0)))] H := hP
  have hD : va_D A [(h0, .inr (2, [.ref q_1, .ref q_3, .ref q_5, .ref q_7])), (q_1, .inl (cy_2, 40, .inl (fun _ => 0))), (q_3, .inl (cy_4, 40, .inl (fun _ => 0))), (q_5, .inl (cy_6, 40, .inl (fun _ => 0))), (q_7, .inl (cy_8, 480, .inl (fun _ => 0)))] := hD
  have hP9 := hP.sub (ws' := []) [] rfl
  have hD9 := hD.sub (ws' := []) [] (by decide) rfl
  have hK9 := hK.sub (tys' := []) [] rfl
  refine W.widen (k := 4) (n := 600) (by omega) (by omega) ?_
  exact W.vret hx hb hr (fun t ht hW => ⟨⟨(), rfl, trivial, by rw [ht]; exact hP9, va_K.moved hW.alike hK9, hD9⟩, hS.F ht⟩) hS.2.2 dX1_init_37
def wp_Claims_init : List Cond := .code yX0_init cX0_init 1 none :: (([.methodLink RX0 3 objectInit, .instanceMethod objectInit, .code objectInit ⟨#[0xb1]⟩ 1 none, .arrayClass .int, .fieldLink RX0 9 "AgreedTalks$Claims" "words" "[I", .arrayClass .long, .fieldLink RX0 15 "AgreedTalks$Claims" "grounds" "[J", .fieldLink RX0 19 "AgreedTalks$Claims" "turns" "[I", .fieldLink RX0 22 "AgreedTalks$Claims" "marks" "[I", .fieldLink RX0 25 "AgreedTalks$Claims" "standing" "J"] : List Cond) ++ wsX00)
set_option maxRecDepth 20000 in
theorem gi_Claims_init : GoodIn lw_tbl wp_Claims_init := (goodIn_ca (goodIn_r (.code yX0_init cX0_init 1 none :: ([.methodLink RX0 3 objectInit, .instanceMethod objectInit, .code objectInit ⟨#[0xb1]⟩ 1 none, .arrayClass .int, .fieldLink RX0 9 "AgreedTalks$Claims" "words" "[I", .arrayClass .long, .fieldLink RX0 15 "AgreedTalks$Claims" "grounds" "[J", .fieldLink RX0 19 "AgreedTalks$Claims" "turns" "[I", .fieldLink RX0 22 "AgreedTalks$Claims" "marks" "[I", .fieldLink RX0 25 "AgreedTalks$Claims" "standing" "J"] : List Cond)) [163, 164, 74, 75, 102, 165, 185, 167, 168, 170, 172] (by decide +kernel) (by decide +kernel)) wi_wsX0)
set_option maxHeartbeats 4000000 in
set_option maxRecDepth 100000 in
/-- Claims() -/
theorem c_Claims_init (l : Launch) (dC : Nat → ClassId) (dI : Nat → Nat → Nat) (sz : Nat) (h0 : Nat) : Met l yX0_init wp_Claims_init ({ frames := 1, cells := 4, slots := 1480, locals := 20 }) (va_Pc [.ref h0] (fun U => U.heap.size = sz ∧ va_P (dC, dI) vwCl [(h0, .inr (1, [.null, .null, .null, .null, .long 0]))] U.heap ∧ va_K (dC, dI) vwCl [] U ∧ va_D (fun _ => True) [(h0, .inr (1, [.null, .null, .null, .null, .long 0]))])) (va_Qv (fun (_ : Unit) => True) (fun (_ : Unit) (t : State) => va_P (dC, dI) vwCl [] t.heap ∧ va_K (dC, dI) vwCl [] t ∧ va_D (va_A [(h0, .inr (1, [.null, .null, .null, .null, .long 0]))] sz) []) (va_A [(h0, .inr (1, [.null, .null, .null, .null, .long 0]))] sz)) 4 1480 (va_A [(h0, .inr (1, [.null, .null, .null, .null, .long 0]))] sz) := by
  refine Met.ofW (cc := cX0_init) (maxL := 1) (ret := none) (by decide) rfl ?_
  intro p e s m args below meth c s₁ B hml hv
  obtain ⟨rfl, hsz, hP, hK, hD0⟩ := hv
  have hx := B.exec
  have hb := B.bytes
  have hr := B.returns
  have hts := atoms_spec (ws := wp_Claims_init) B.pre
  have hown : s.vm.findClass RX0 = some m.cls := findClass_of_methodNamed B.named
  have hlocks := B.notSynchronized
  have hin : meth.name = "<init>" := (name_of_methodNamed B.named B.method).1
  subst hsz
  have hD := hD0.self (sz := s.heap.size)
  generalize hAe : va_A [(h0, .inr (1, [.null, .null, .null, .null, .long 0]))] s.heap.size = A at hD ⊢
  have hA : ∀ q : Nat, s.heap.size ≤ q → A q := fun q h => by rw [← hAe]; exact Or.inr h
  have hS : va_S A s.heap s.heap [] := va_S.rf
  have hP : va_P (dC, dI) vwCl [(h0, .inr (1, [.null, .null, .null, .null, .long 0]))] s.heap := hP
  have hl := lv_entry ([.ref h0]) (n := 1) (Nat.le_of_ble_eq_true rfl)
  rw [lg_entry_eq]
  generalize (lg_sl ([.ref h0]) ++ List.replicate (1 - (lg_sl ([.ref h0])).length) Slot.unset).toArray = ls at hl ⊢
  have hl : lv_has ls 1 [(0, .ref h0)] := hl
  have hinX0 : ∀ w ∈ u_ws RX0 TX0 5, w ∈ wp_Claims_init := fun _ h => List.mem_cons_of_mem _ (List.mem_append_right _ h)
  refine lv_aload_n hx hb dX0_init_0 rfl (lv_at hl 0 rfl) ?_
  refine W.objInit hx hb hown (hts (.methodLink RX0 3 objectInit) (by decide +kernel)) (hts (.instanceMethod objectInit) (by decide +kernel)) (hts _ (List.mem_cons_of_mem _ (List.mem_append_left _ (List.mem_of_getElem? (i := 2) rfl)))) rfl (by rw [hml]; exact hl.1) rfl dX0_init_1 (Nat.le_of_ble_eq_true rfl) (Nat.le_of_ble_eq_true rfl) ?_
  refine W.eq (g2 := F0 m 4 ls []) rfl ?_
  refine lv_aload_n hx hb dX0_init_4 rfl (lv_at hl 0 rfl) ?_
  refine lv_sipush (v := 480) hx hb dX0_init_5 (by decide) ?_
  refine va_newa (atype := .int) (ty := .int) (N' := 480) (a0 := (480, .inl (fun _ => 0))) hx hb (hts (.arrayClass .int) (by decide +kernel)) rfl hK hP hD hS hA (fun _ => rfl) (by decide) (by decide) (by decide) (by decide) (by decide) dX0_init_8 (fun q_1 cy_2 H hK hP hD hS => ?_)
  have hP : va_P (dC, dI) vwCl [(h0, .inr (1, [.null, .null, .null, .null, .long 0])), (q_1, .inl (cy_2, 480, .inl (fun _ => 0)))] H := hP
  have hD : va_D A [(h0, .inr (1, [.null, .null, .null, .null, .long 0])), (q_1, .inl (cy_2, 480, .inl (fun _ => 0)))] := hD
  have hK : va_K (dC, dI) vwCl [(cy_2, .int)] s := hK
  refine W.widen (k := 1) (n := 480) (by omega) (by omega) ?_
  refine va_putF (D := (dC, dI)) (ci := 1) (v := .ref q_1) (ty := .array .int) (C := RX0) (T := TX0) (N := 5) hx hb hts hinX0 tyX0 tyX0_ok nmX0 hown hK hP hD hS 0 rfl rfl 0 (by decide) (hts (.fieldLink RX0 9 "AgreedTalks$Claims" "words" "[I") (by decide +kernel)) (fun _ h9 => h9) rfl hin rfl (by decide +kernel) rfl rfl (Nat.le_of_ble_eq_true rfl) dX0_init_10 (fun H locs hP hD hS => ?_)
  have hP : va_P (dC, dI) vwCl [(h0, .inr (1, [.ref q_1, .null, .null, .null, .long 0])), (q_1, .inl (cy_2, 480, .inl (fun _ => 0)))] H := hP
  have hD : va_D A [(h0, .inr (1, [.ref q_1, .null, .null, .null, .long 0])), (q_1, .inl (cy_2, 480, .inl (fun _ => 0)))] := hD
  refine lv_aload_n hx hb dX0_init_13 rfl (lv_at hl 0 rfl) ?_
  refine lv_sipush (v := 480) hx hb dX0_init_14 (by decide) ?_
  refine va_newa (atype := .long) (ty := .long) (N' := 480) (a0 := (480, .inr (.inl (fun _ => 0)))) hx hb (hts (.arrayClass .long) (by decide +kernel)) rfl hK hP hD hS hA (fun _ => rfl) (by decide) (by decide) (by decide) (by decide) (by decide) dX0_init_17 (fun q_3 cy_4 H hK hP hD hS => ?_)
  have hP : va_P (dC, dI) vwCl [(h0, .inr (1, [.ref q_1, .null, .null, .null, .long 0])), (q_1, .inl (cy_2, 480, .inl (fun _ => 0))), (q_3, .inl (cy_4, 480, .inr (.inl (fun _ => 0))))] H := hP
  have hD : va_D A [(h0, .inr (1, [.ref q_1, .null, .null, .null, .long 0])), (q_1, .inl (cy_2, 480, .inl (fun _ => 0))), (q_3, .inl (cy_4, 480, .inr (.inl (fun _ => 0))))] := hD
  have hK : va_K (dC, dI) vwCl [(cy_2, .int), (cy_4, .long)] s := hK
  refine W.widen (k := 2) (n := 960) (by omega) (by omega) ?_
  refine va_putF (D := (dC, dI)) (ci := 1) (v := .ref q_3) (ty := .array .long) (C := RX0) (T := TX0) (N := 5) hx hb hts hinX0 tyX0 tyX0_ok nmX0 hown hK hP hD hS 0 rfl rfl 1 (by decide) (hts (.fieldLink RX0 15 "AgreedTalks$Claims" "grounds" "[J") (by decide +kernel)) (fun _ h9 => h9) rfl hin rfl (by decide +kernel) rfl rfl (Nat.le_of_ble_eq_true rfl) dX0_init_19 (fun H locs hP hD hS => ?_)
  have hP : va_P (dC, dI) vwCl [(h0, .inr (1, [.ref q_1, .ref q_3, .null, .null, .long 0])), (q_1, .inl (cy_2, 480, .inl (fun _ => 0))), (q_3, .inl (cy_4, 480, .inr (.inl (fun _ => 0))))] H := hP
  have hD : va_D A [(h0, .inr (1, [.ref q_1, .ref q_3, .null, .null, .long 0])), (q_1, .inl (cy_2, 480, .inl (fun _ => 0))), (q_3, .inl (cy_4, 480, .inr (.inl (fun _ => 0))))] := hD
  refine lv_aload_n hx hb dX0_init_22 rfl (lv_at hl 0 rfl) ?_
  refine lv_sipush (v := 480) hx hb dX0_init_23 (by decide) ?_
  refine va_newa (atype := .int) (ty := .int) (N' := 480) (a0 := (480, .inl (fun _ => 0))) hx hb (hts (.arrayClass .int) (by decide +kernel)) rfl hK hP hD hS hA (fun _ => rfl) (by decide) (by decide) (by decide) (by decide) (by decide) dX0_init_26 (fun q_5 cy_6 H hK hP hD hS => ?_)
  have hP : va_P (dC, dI) vwCl [(h0, .inr (1, [.ref q_1, .ref q_3, .null, .null, .long 0])), (q_1, .inl (cy_2, 480, .inl (fun _ => 0))), (q_3, .inl (cy_4, 480, .inr (.inl (fun _ => 0)))), (q_5, .inl (cy_6, 480, .inl (fun _ => 0)))] H := hP
  have hD : va_D A [(h0, .inr (1, [.ref q_1, .ref q_3, .null, .null, .long 0])), (q_1, .inl (cy_2, 480, .inl (fun _ => 0))), (q_3, .inl (cy_4, 480, .inr (.inl (fun _ => 0)))), (q_5, .inl (cy_6, 480, .inl (fun _ => 0)))] := hD
  have hK : va_K (dC, dI) vwCl [(cy_2, .int), (cy_4, .long), (cy_6, .int)] s := hK
  refine W.widen (k := 3) (n := 1440) (by omega) (by omega) ?_
  refine va_putF (D := (dC, dI)) (ci := 1) (v := .ref q_5) (ty := .array .int) (C := RX0) (T := TX0) (N := 5) hx hb hts hinX0 tyX0 tyX0_ok nmX0 hown hK hP hD hS 0 rfl rfl 2 (by decide) (hts (.fieldLink RX0 19 "AgreedTalks$Claims" "turns" "[I") (by decide +kernel)) (fun _ h9 => h9) rfl hin rfl (by decide +kernel) rfl rfl (Nat.le_of_ble_eq_true rfl) dX0_init_28 (fun H locs hP hD hS => ?_)
  have hP : va_P (dC, dI) vwCl [(h0, .inr (1, [.ref q_1, .ref q_3, .ref q_5, .null, .long 0])), (q_1, .inl (cy_2, 480, .inl (fun _ => 0))), (q_3, .inl (cy_4, 480, .inr (.inl (fun _ => 0)))), (q_5, .inl (cy_6, 480, .inl (fun _ => 0)))] H := hP
  have hD : va_D A [(h0, .inr (1, [.ref q_1, .ref q_3, .ref q_5, .null, .long 0])), (q_1, .inl (cy_2, 480, .inl (fun _ => 0))), (q_3, .inl (cy_4, 480, .inr (.inl (fun _ => 0)))), (q_5, .inl (cy_6, 480, .inl (fun _ => 0)))] := hD
  refine lv_aload_n hx hb dX0_init_31 rfl (lv_at hl 0 rfl) ?_
  refine lv_bipush (v := 40) hx hb dX0_init_32 (by decide) ?_
  refine va_newa (atype := .int) (ty := .int) (N' := 40) (a0 := (40, .inl (fun _ => 0))) hx hb (hts (.arrayClass .int) (by decide +kernel)) rfl hK hP hD hS hA (fun _ => rfl) (by decide) (by decide) (by decide) (by decide) (by decide) dX0_init_34 (fun q_7 cy_8 H hK hP hD hS => ?_)
  have hP : va_P (dC, dI) vwCl [(h0, .inr (1, [.ref q_1, .ref q_3, .ref q_5, .null, .long 0])), (q_1, .inl (cy_2, 480, .inl (fun _ => 0))), (q_3, .inl (cy_4, 480, .inr (.inl (fun _ => 0)))), (q_5, .inl (cy_6, 480, .inl (fun _ => 0))), (q_7, .inl (cy_8, 40, .inl (fun _ => 0)))] H := hP
  have hD : va_D A [(h0, .inr (1, [.ref q_1, .ref q_3, .ref q_5, .null, .long 0])), (q_1, .inl (cy_2, 480, .inl (fun _ => 0))), (q_3, .inl (cy_4, 480, .inr (.inl (fun _ => 0)))), (q_5, .inl (cy_6, 480, .inl (fun _ => 0))), (q_7, .inl (cy_8, 40, .inl (fun _ => 0)))] := hD
  have hK : va_K (dC, dI) vwCl [(cy_2, .int), (cy_4, .long), (cy_6, .int), (cy_8, .int)] s := hK
  refine W.widen (k := 4) (n := 1480) (by omega) (by omega) ?_
  refine va_putF (D := (dC, dI)) (ci := 1) (v := .ref q_7) (ty := .array .int) (C := RX0) (T := TX0) (N := 5) hx hb hts hinX0 tyX0 tyX0_ok nmX0 hown hK hP hD hS 0 rfl rfl 3 (by decide) (hts (.fieldLink RX0 22 "AgreedTalks$Claims" "marks" "[I") (by decide +kernel)) (fun _ h9 => h9) rfl hin rfl (by decide +kernel) rfl rfl (Nat.le_of_ble_eq_true rfl) dX0_init_36 (fun H locs hP hD hS => ?_)
  have hP : va_P (dC, dI) vwCl [(h0, .inr (1, [.ref q_1, .ref q_3, .ref q_5, .ref q_7, .long 0])), (q_1, .inl (cy_2, 480, .inl (fun _ => 0))), (q_3, .inl (cy_4, 480, .inr (.inl (fun _ => 0)))), (q_5, .inl (cy_6, 480, .inl (fun _ => 0))), (q_7, .inl (cy_8, 40, .inl (fun _ => 0)))] H := hP
  have hD : va_D A [(h0, .inr (1, [.ref q_1, .ref q_3, .ref q_5, .ref q_7, .long 0])), (q_1, .inl (cy_2, 480, .inl (fun _ => 0))), (q_3, .inl (cy_4, 480, .inr (.inl (fun _ => 0)))), (q_5, .inl (cy_6, 480, .inl (fun _ => 0))), (q_7, .inl (cy_8, 40, .inl (fun _ => 0)))] := hD
  refine lv_aload_n hx hb dX0_init_39 rfl (lv_at hl 0 rfl) ?_
  refine lv_lconst (v := 0) hx hb dX0_init_40 (by decide) ?_
  refine va_put (D := (dC, dI)) (ci := 1) (v := .long 0) (ty := .long) (C := RX0) (T := TX0) (N := 5) hx hb hts hinX0 tyX0 tyX0_ok nmX0 hown hK hP hD hS 0 rfl rfl 4 (by decide) (hts (.fieldLink RX0 25 "AgreedTalks$Claims" "standing" "J") (by decide +kernel)) (fun _ h9 => h9) rfl (by decide +kernel) rfl rfl (Nat.le_of_ble_eq_true rfl) dX0_init_41 (fun H locs hP hD hS => ?_)
  have hP : va_P (dC, dI) vwCl [(h0, .inr (1, [.ref q_1, .ref q_3, .ref q_5, .ref q_7, .long 0])), (q_1, .inl (cy_2, 480, .inl (fun _ => 0))), (q_3, .inl (cy_4, 480, .inr (.inl (fun _ => 0)))), (q_5, .inl (cy_6, 480, .inl (fun _ => 0))), (q_7, .inl (cy_8, 40, .inl (fun _ => 0)))] H := hP
  have hD : va_D A [(h0, .inr (1, [.ref q_1, .ref q_3, .ref q_5, .ref q_7, .long 0])), (q_1, .inl (cy_2, 480, .inl (fun _ => 0))), (q_3, .inl (cy_4, 480, .inr (.inl (fun _ => 0)))), (q_5, .inl (cy_6, 480, .inl (fun _ => 0))), (q_7, .inl (cy_8, 40, .inl (fun _ => 0)))] := hD
  have hP9 := hP.sub (ws' := []) [] rfl
  have hD9 := hD.sub (ws' := []) [] (by decide) rfl
  have hK9 := hK.sub (tys' := []) [] rfl
  refine W.widen (k := 4) (n := 1480) (by omega) (by omega) ?_
  exact W.vret hx hb hr (fun t ht hW => ⟨⟨(), rfl, trivial, by rw [ht]; exact hP9, va_K.moved hW.alike hK9, hD9⟩, hS.F ht⟩) hS.2.2 dX0_init_44
def wp_append : List Cond := .code yX5_append cX5_append 3 none :: (([.fieldLink RX5 15 "AgreedTalks$Tape" "length" "I", .fieldLink RX5 9 "AgreedTalks$Tape" "bytes" "[I"] : List Cond) ++ wsX50)
set_option maxRecDepth 20000 in
theorem gi_append : GoodIn lw_tbl wp_append := (goodIn_ca (goodIn_r (.code yX5_append cX5_append 3 none :: ([.fieldLink RX5 15 "AgreedTalks$Tape" "length" "I", .fieldLink RX5 9 "AgreedTalks$Tape" "bytes" "[I"] : List Cond)) [242, 111, 109] (by decide +kernel) (by decide +kernel)) wi_wsX5)
set_option maxHeartbeats 4000000 in
set_option maxRecDepth 100000 in
/-- Tape.append(v): four bytes more -/
theorem c_append (l : Launch) (dC : Nat → ClassId) (dI : Nat → Nat → Nat) (sz : Nat) (h0 : Nat) (ab : Nat) (k : Nat) (p0 : Int32) (cB : ClassId) (fb : Nat → Int32) (hk : k ≤ 296) : Met l yX5_append wp_append ({ frames := 0, cells := 0, slots := 0, locals := 0 }) (va_Pc [.ref h0, .int p0] (fun U => U.heap.size = sz ∧ va_P (dC, dI) vwCl [(h0, .inr (6, [.ref ab, .int (nI k)])), (ab, .inl (cB, 300, .inl fb))] U.heap ∧ va_K (dC, dI) vwCl [(cB, .int)] U ∧ va_D (fun _ => True) [(h0, .inr (6, [.ref ab, .int (nI k)])), (ab, .inl (cB, 300, .inl fb))])) (va_Qv (fun (_ : Unit) => True) (fun (_ : Unit) (t : State) => ∃ (gb : Nat → Int32), va_P (dC, dI) vwCl [(h0, .inr (6, [.ref ab, .int (nI (k + 4))])), (ab, .inl (cB, 300, .inl gb))] t.heap ∧ va_K (dC, dI) vwCl [(cB, .int)] t ∧ va_D (va_A [(h0, .inr (6, [.ref ab, .int (nI k)])), (ab, .inl (cB, 300, .inl fb))] sz) [(h0, .inr (6, [.ref ab, .int (nI (k + 4))])), (ab, .inl (cB, 300, .inl gb))]) (va_A [(h0, .inr (6, [.ref ab, .int (nI k)])), (ab, .inl (cB, 300, .inl fb))] sz)) 0 0 (va_A [(h0, .inr (6, [.ref ab, .int (nI k)])), (ab, .inl (cB, 300, .inl fb))] sz) := by
  refine Met.ofW (cc := cX5_append) (maxL := 3) (ret := none) (by decide) rfl ?_
  intro p e s m args below meth c s₁ B hml hv
  obtain ⟨rfl, hsz, hP, hK, hD0⟩ := hv
  have hx := B.exec
  have hb := B.bytes
  have hr := B.returns
  have hts := atoms_spec (ws := wp_append) B.pre
  have hown : s.vm.findClass RX5 = some m.cls := findClass_of_methodNamed B.named
  have hlocks := B.notSynchronized
  subst hsz
  have hD := hD0.self (sz := s.heap.size)
  generalize hAe : va_A [(h0, .inr (6, [.ref ab, .int (nI k)])), (ab, .inl (cB, 300, .inl fb))] s.heap.size = A at hD ⊢
  have hA : ∀ q : Nat, s.heap.size ≤ q → A q := fun q h => by rw [← hAe]; exact Or.inr h
  have hS : va_S A s.heap s.heap [] := va_S.rf
  have hP : va_P (dC, dI) vwCl [(h0, .inr (6, [.ref ab, .int (nI k)])), (ab, .inl (cB, 300, .inl fb))] s.heap := hP
  have hl := lv_entry ([.ref h0, .int p0]) (n := 3) (Nat.le_of_ble_eq_true rfl)
  rw [lg_entry_eq]
  generalize (lg_sl ([.ref h0, .int p0]) ++ List.replicate (3 - (lg_sl ([.ref h0, .int p0])).length) Slot.unset).toArray = ls at hl ⊢
  have hl : lv_has ls 3 [(0, .ref h0), (1, .int p0)] := hl
  have hinX5 : ∀ w ∈ u_ws RX5 TX5 2, w ∈ wp_append := fun _ h => List.mem_cons_of_mem _ (List.mem_append_right _ h)
  refine lv_bipush (v := 24) hx hb dX5_append_0 (by decide) ?_
  refine lv_istore_n (lv' := [(2, .int 24), (0, .ref h0), (1, .int p0)]) hx hb dX5_append_2 rfl hl (by decide) rfl (fun ls hl => ?_)
  refine lv_iload_n hx hb dX5_append_3 rfl (lv_at hl 0 rfl) ?_
  refine lv_if_lt (tgt := 49) hx hb dX5_append_4 (by decide) (fun c_1 => ?_) (fun c_1 => ?_)
  · exact absurd c_1 (by decide)
  · refine lv_aload_n hx hb dX5_append_7 rfl (lv_at hl 1 rfl) ?_
    refine va_get (D := (dC, dI)) (ci := 6) (v := .int (nI k)) (C := RX5) (T := TX5) (N := 2) hx hb hts hinX5 hown hK hP 0 rfl rfl 1 (by decide) (hts (.fieldLink RX5 15 "AgreedTalks$Tape" "length" "I") (by decide +kernel)) (fun _ h9 => h9) rfl dX5_append_8 ?_
    refine lv_sipush (v := 300) hx hb dX5_append_11 (by decide) ?_
    refine lv_icmp_ge (tgt := 49) hx hb dX5_append_14 (by decide) (fun c_2 => ?_) (fun c_2 => ?_)
    · exact absurd c_2 (show ¬ (300 : Int32) ≤ _ from nI_ge (b := 300) (by omega) (by decide))
    · refine lv_aload_n hx hb dX5_append_17 rfl (lv_at hl 1 rfl) ?_
      refine va_get (D := (dC, dI)) (ci := 6) (v := .ref ab) (C := RX5) (T := TX5) (N := 2) hx hb hts hinX5 hown hK hP 0 rfl rfl 0 (by decide) (hts (.fieldLink RX5 9 "AgreedTalks$Tape" "bytes" "[I") (by decide +kernel)) (fun _ h9 => h9) rfl dX5_append_18 ?_
      refine lv_aload_n hx hb dX5_append_21 rfl (lv_at hl 1 rfl) ?_
      refine va_get (D := (dC, dI)) (ci := 6) (v := .int (nI k)) (C := RX5) (T := TX5) (N := 2) hx hb hts hinX5 hown hK hP 0 rfl rfl 1 (by decide) (hts (.fieldLink RX5 15 "AgreedTalks$Tape" "length" "I") (by decide +kernel)) (fun _ h9 => h9) rfl dX5_append_22 ?_
      refine lv_iload_n hx hb dX5_append_25 rfl (lv_at hl 2 rfl) ?_
      refine lv_iload_n hx hb dX5_append_26 rfl (lv_at hl 0 rfl) ?_
      refine lv_iushr hx hb dX5_append_27 rfl ?_
      refine lv_topi (fun x_3 ex_3 => ?_)
      refine lv_sipush (v := 255) hx hb dX5_append_28 (by decide) ?_
      refine lv_iand hx hb dX5_append_31 ?_
      refine lv_topi (fun x_4 ex_4 => ?_)
      refine va_iast hx hb hK hP hD hS 1 0 rfl rfl (vp_in_nI (by omega) (by decide)) dX5_append_32 (fun H locs hP hD hS => ?_)
      have hP : va_P (dC, dI) vwCl [(h0, .inr (6, [.ref ab, .int (nI k)])), (ab, .inl (cB, 300, .inl (upd fb (Int32.toNatClampNeg (nI k)) x_4)))] H := hP
      have hD : va_D A [(h0, .inr (6, [.ref ab, .int (nI k)])), (ab, .inl (cB, 300, .inl (upd fb (Int32.toNatClampNeg (nI k)) x_4)))] := hD
      generalize ef_5 : upd fb (Int32.toNatClampNeg (nI k)) x_4 = f_5 at hP hD
      refine lv_aload_n hx hb dX5_append_33 rfl (lv_at hl 1 rfl) ?_
      refine lv_dup hx hb dX5_append_34 rfl ?_
      refine va_get (D := (dC, dI)) (ci := 6) (v := .int (nI k)) (C := RX5) (T := TX5) (N := 2) hx hb hts hinX5 hown hK hP 0 rfl rfl 1 (by decide) (hts (.fieldLink RX5 15 "AgreedTalks$Tape" "length" "I") (by decide +kernel)) (fun _ h9 => h9) rfl dX5_append_35 ?_
      refine lv_iconst (v := 1) hx hb dX5_append_38 (by decide) ?_
      refine lv_iadd hx hb dX5_append_39 ?_
      refine lv_topi (fun x_6 ex_6 => ?_)
      obtain rfl : x_6 = (nI (k + 1)) := by rw [ex_6]; exact nI_1 _
      refine va_put (D := (dC, dI)) (ci := 6) (v := .int (nI (k + 1))) (ty := .int) (C := RX5) (T := TX5) (N := 2) hx hb hts hinX5 tyX5 tyX5_ok nmX5 hown hK hP hD hS 0 rfl rfl 1 (by decide) (hts (.fieldLink RX5 15 "AgreedTalks$Tape" "length" "I") (by decide +kernel)) (fun _ h9 => h9) rfl (by decide +kernel) rfl rfl (Nat.le_of_ble_eq_true rfl) dX5_append_40 (fun H locs hP hD hS => ?_)
      have hP : va_P (dC, dI) vwCl [(h0, .inr (6, [.ref ab, .int (nI (k + 1))])), (ab, .inl (cB, 300, .inl f_5))] H := hP
      have hD : va_D A [(h0, .inr (6, [.ref ab, .int (nI (k + 1))])), (ab, .inl (cB, 300, .inl f_5))] := hD
      refine lv_iinc (v := 16) (lv' := [(2, .int 16), (0, .ref h0), (1, .int p0)]) hx hb dX5_append_43 hl (k := 0) rfl (by decide) (by decide) rfl (fun ls hl => ?_)
      refine lv_goto (tgt := 3) hx hb dX5_append_46 (by decide) ?_
      refine lv_iload_n hx hb dX5_append_3 rfl (lv_at hl 0 rfl) ?_
      refine lv_if_lt (tgt := 49) hx hb dX5_append_4 (by decide) (fun c_7 => ?_) (fun c_7 => ?_)
      · exact absurd c_7 (by decide)
      · refine lv_aload_n hx hb dX5_append_7 rfl (lv_at hl 1 rfl) ?_
        refine va_get (D := (dC, dI)) (ci := 6) (v := .int (nI (k + 1))) (C := RX5) (T := TX5) (N := 2) hx hb hts hinX5 hown hK hP 0 rfl rfl 1 (by decide) (hts (.fieldLink RX5 15 "AgreedTalks$Tape" "length" "I") (by decide +kernel)) (fun _ h9 => h9) rfl dX5_append_8 ?_
        refine lv_sipush (v := 300) hx hb dX5_append_11 (by decide) ?_
        refine lv_icmp_ge (tgt := 49) hx hb dX5_append_14 (by decide) (fun c_8 => ?_) (fun c_8 => ?_)
        · exact absurd c_8 (show ¬ (300 : Int32) ≤ _ from nI_ge (b := 300) (by omega) (by decide))
        · refine lv_aload_n hx hb dX5_append_17 rfl (lv_at hl 1 rfl) ?_
          refine va_get (D := (dC, dI)) (ci := 6) (v := .ref ab) (C := RX5) (T := TX5) (N := 2) hx hb hts hinX5 hown hK hP 0 rfl rfl 0 (by decide) (hts (.fieldLink RX5 9 "AgreedTalks$Tape" "bytes" "[I") (by decide +kernel)) (fun _ h9 => h9) rfl dX5_append_18 ?_
          refine lv_aload_n hx hb dX5_append_21 rfl (lv_at hl 1 rfl) ?_
          refine va_get (D := (dC, dI)) (ci := 6) (v := .int (nI (k + 1))) (C := RX5) (T := TX5) (N := 2) hx hb hts hinX5 hown hK hP 0 rfl rfl 1 (by decide) (hts (.fieldLink RX5 15 "AgreedTalks$Tape" "length" "I") (by decide +kernel)) (fun _ h9 => h9) rfl dX5_append_22 ?_
          refine lv_iload_n hx hb dX5_append_25 rfl (lv_at hl 2 rfl) ?_
          refine lv_iload_n hx hb dX5_append_26 rfl (lv_at hl 0 rfl) ?_
          refine lv_iushr hx hb dX5_append_27 rfl ?_
          refine lv_topi (fun x_9 ex_9 => ?_)
          refine lv_sipush (v := 255) hx hb dX5_append_28 (by decide) ?_
          refine lv_iand hx hb dX5_append_31 ?_
          refine lv_topi (fun x_10 ex_10 => ?_)
          refine va_iast hx hb hK hP hD hS 1 0 rfl rfl (vp_in_nI (by omega) (by decide)) dX5_append_32 (fun H locs hP hD hS => ?_)
          have hP : va_P (dC, dI) vwCl [(h0, .inr (6, [.ref ab, .int (nI (k + 1))])), (ab, .inl (cB, 300, .inl (upd f_5 (Int32.toNatClampNeg (nI (k + 1))) x_10)))] H := hP
          have hD : va_D A [(h0, .inr (6, [.ref ab, .int (nI (k + 1))])), (ab, .inl (cB, 300, .inl (upd f_5 (Int32.toNatClampNeg (nI (k + 1))) x_10)))] := hD
          generalize ef_11 : upd f_5 (Int32.toNatClampNeg (nI (k + 1))) x_10 = f_11 at hP hD
          refine lv_aload_n hx hb dX5_append_33 rfl (lv_at hl 1 rfl) ?_
          refine lv_dup hx hb dX5_append_34 rfl ?_
          refine va_get (D := (dC, dI)) (ci := 6) (v := .int (nI (k + 1))) (C := RX5) (T := TX5) (N := 2) hx hb hts hinX5 hown hK hP 0 rfl rfl 1 (by decide) (hts (.fieldLink RX5 15 "AgreedTalks$Tape" "length" "I") (by decide +kernel)) (fun _ h9 => h9) rfl dX5_append_35 ?_
          refine lv_iconst (v := 1) hx hb dX5_append_38 (by decide) ?_
          refine lv_iadd hx hb dX5_append_39 ?_
          refine lv_topi (fun x_12 ex_12 => ?_)
          obtain rfl : x_12 = (nI (k + 2)) := by rw [ex_12]; exact nI_1 _
          refine va_put (D := (dC, dI)) (ci := 6) (v := .int (nI (k + 2))) (ty := .int) (C := RX5) (T := TX5) (N := 2) hx hb hts hinX5 tyX5 tyX5_ok nmX5 hown hK hP hD hS 0 rfl rfl 1 (by decide) (hts (.fieldLink RX5 15 "AgreedTalks$Tape" "length" "I") (by decide +kernel)) (fun _ h9 => h9) rfl (by decide +kernel) rfl rfl (Nat.le_of_ble_eq_true rfl) dX5_append_40 (fun H locs hP hD hS => ?_)
          have hP : va_P (dC, dI) vwCl [(h0, .inr (6, [.ref ab, .int (nI (k + 2))])), (ab, .inl (cB, 300, .inl f_11))] H := hP
          have hD : va_D A [(h0, .inr (6, [.ref ab, .int (nI (k + 2))])), (ab, .inl (cB, 300, .inl f_11))] := hD
          refine lv_iinc (v := 8) (lv' := [(2, .int 8), (0, .ref h0), (1, .int p0)]) hx hb dX5_append_43 hl (k := 0) rfl (by decide) (by decide) rfl (fun ls hl => ?_)
          refine lv_goto (tgt := 3) hx hb dX5_append_46 (by decide) ?_
          refine lv_iload_n hx hb dX5_append_3 rfl (lv_at hl 0 rfl) ?_
          refine lv_if_lt (tgt := 49) hx hb dX5_append_4 (by decide) (fun c_13 => ?_) (fun c_13 => ?_)
          · exact absurd c_13 (by decide)
          · refine lv_aload_n hx hb dX5_append_7 rfl (lv_at hl 1 rfl) ?_
            refine va_get (D := (dC, dI)) (ci := 6) (v := .int (nI (k + 2))) (C := RX5) (T := TX5) (N := 2) hx hb hts hinX5 hown hK hP 0 rfl rfl 1 (by decide) (hts (.fieldLink RX5 15 "AgreedTalks$Tape" "length" "I") (by decide +kernel)) (fun _ h9 => h9) rfl dX5_append_8 ?_
            refine lv_sipush (v := 300) hx hb dX5_append_11 (by decide) ?_
            refine lv_icmp_ge (tgt := 49) hx hb dX5_append_14 (by decide) (fun c_14 => ?_) (fun c_14 => ?_)
            · exact absurd c_14 (show ¬ (300 : Int32) ≤ _ from nI_ge (b := 300) (by omega) (by decide))
            · refine lv_aload_n hx hb dX5_append_17 rfl (lv_at hl 1 rfl) ?_
              refine va_get (D := (dC, dI)) (ci := 6) (v := .ref ab) (C := RX5) (T := TX5) (N := 2) hx hb hts hinX5 hown hK hP 0 rfl rfl 0 (by decide) (hts (.fieldLink RX5 9 "AgreedTalks$Tape" "bytes" "[I") (by decide +kernel)) (fun _ h9 => h9) rfl dX5_append_18 ?_
              refine lv_aload_n hx hb dX5_append_21 rfl (lv_at hl 1 rfl) ?_
              refine va_get (D := (dC, dI)) (ci := 6) (v := .int (nI (k + 2))) (C := RX5) (T := TX5) (N := 2) hx hb hts hinX5 hown hK hP 0 rfl rfl 1 (by decide) (hts (.fieldLink RX5 15 "AgreedTalks$Tape" "length" "I") (by decide +kernel)) (fun _ h9 => h9) rfl dX5_append_22 ?_
              refine lv_iload_n hx hb dX5_append_25 rfl (lv_at hl 2 rfl) ?_
              refine lv_iload_n hx hb dX5_append_26 rfl (lv_at hl 0 rfl) ?_
              refine lv_iushr hx hb dX5_append_27 rfl ?_
              refine lv_topi (fun x_15 ex_15 => ?_)
              refine lv_sipush (v := 255) hx hb dX5_append_28 (by decide) ?_
              refine lv_iand hx hb dX5_append_31 ?_
              refine lv_topi (fun x_16 ex_16 => ?_)
              refine va_iast hx hb hK hP hD hS 1 0 rfl rfl (vp_in_nI (by omega) (by decide)) dX5_append_32 (fun H locs hP hD hS => ?_)
              have hP : va_P (dC, dI) vwCl [(h0, .inr (6, [.ref ab, .int (nI (k + 2))])), (ab, .inl (cB, 300, .inl (upd f_11 (Int32.toNatClampNeg (nI (k + 2))) x_16)))] H := hP
              have hD : va_D A [(h0, .inr (6, [.ref ab, .int (nI (k + 2))])), (ab, .inl (cB, 300, .inl (upd f_11 (Int32.toNatClampNeg (nI (k + 2))) x_16)))] := hD
              generalize ef_17 : upd f_11 (Int32.toNatClampNeg (nI (k + 2))) x_16 = f_17 at hP hD
              refine lv_aload_n hx hb dX5_append_33 rfl (lv_at hl 1 rfl) ?_
              refine lv_dup hx hb dX5_append_34 rfl ?_
              refine va_get (D := (dC, dI)) (ci := 6) (v := .int (nI (k + 2))) (C := RX5) (T := TX5) (N := 2) hx hb hts hinX5 hown hK hP 0 rfl rfl 1 (by decide) (hts (.fieldLink RX5 15 "AgreedTalks$Tape" "length" "I") (by decide +kernel)) (fun _ h9 => h9) rfl dX5_append_35 ?_
              refine lv_iconst (v := 1) hx hb dX5_append_38 (by decide) ?_
              refine lv_iadd hx hb dX5_append_39 ?_
              refine lv_topi (fun x_18 ex_18 => ?_)
              obtain rfl : x_18 = (nI (k + 3)) := by rw [ex_18]; exact nI_1 _
              refine va_put (D := (dC, dI)) (ci := 6) (v := .int (nI (k + 3))) (ty := .int) (C := RX5) (T := TX5) (N := 2) hx hb hts hinX5 tyX5 tyX5_ok nmX5 hown hK hP hD hS 0 rfl rfl 1 (by decide) (hts (.fieldLink RX5 15 "AgreedTalks$Tape" "length" "I") (by decide +kernel)) (fun _ h9 => h9) rfl (by decide +kernel) rfl rfl (Nat.le_of_ble_eq_true rfl) dX5_append_40 (fun H locs hP hD hS => ?_)
              have hP : va_P (dC, dI) vwCl [(h0, .inr (6, [.ref ab, .int (nI (k + 3))])), (ab, .inl (cB, 300, .inl f_17))] H := hP
              have hD : va_D A [(h0, .inr (6, [.ref ab, .int (nI (k + 3))])), (ab, .inl (cB, 300, .inl f_17))] := hD
              refine lv_iinc (v := 0) (lv' := [(2, .int 0), (0, .ref h0), (1, .int p0)]) hx hb dX5_append_43 hl (k := 0) rfl (by decide) (by decide) rfl (fun ls hl => ?_)
              refine lv_goto (tgt := 3) hx hb dX5_append_46 (by decide) ?_
              refine lv_iload_n hx hb dX5_append_3 rfl (lv_at hl 0 rfl) ?_
              refine lv_if_lt (tgt := 49) hx hb dX5_append_4 (by decide) (fun c_19 => ?_) (fun c_19 => ?_)
              · exact absurd c_19 (by decide)
              · refine lv_aload_n hx hb dX5_append_7 rfl (lv_at hl 1 rfl) ?_
                refine va_get (D := (dC, dI)) (ci := 6) (v := .int (nI (k + 3))) (C := RX5) (T := TX5) (N := 2) hx hb hts hinX5 hown hK hP 0 rfl rfl 1 (by decide) (hts (.fieldLink RX5 15 "AgreedTalks$Tape" "length" "I") (by decide +kernel)) (fun _ h9 => h9) rfl dX5_append_8 ?_
                refine lv_sipush (v := 300) hx hb dX5_append_11 (by decide) ?_
                refine lv_icmp_ge (tgt := 49) hx hb dX5_append_14 (by decide) (fun c_20 => ?_) (fun c_20 => ?_)
                · exact absurd c_20 (show ¬ (300 : Int32) ≤ _ from nI_ge (b := 300) (by omega) (by decide))
                · refine lv_aload_n hx hb dX5_append_17 rfl (lv_at hl 1 rfl) ?_
                  refine va_get (D := (dC, dI)) (ci := 6) (v := .ref ab) (C := RX5) (T := TX5) (N := 2) hx hb hts hinX5 hown hK hP 0 rfl rfl 0 (by decide) (hts (.fieldLink RX5 9 "AgreedTalks$Tape" "bytes" "[I") (by decide +kernel)) (fun _ h9 => h9) rfl dX5_append_18 ?_
                  refine lv_aload_n hx hb dX5_append_21 rfl (lv_at hl 1 rfl) ?_
                  refine va_get (D := (dC, dI)) (ci := 6) (v := .int (nI (k + 3))) (C := RX5) (T := TX5) (N := 2) hx hb hts hinX5 hown hK hP 0 rfl rfl 1 (by decide) (hts (.fieldLink RX5 15 "AgreedTalks$Tape" "length" "I") (by decide +kernel)) (fun _ h9 => h9) rfl dX5_append_22 ?_
                  refine lv_iload_n hx hb dX5_append_25 rfl (lv_at hl 2 rfl) ?_
                  refine lv_iload_n hx hb dX5_append_26 rfl (lv_at hl 0 rfl) ?_
                  refine lv_iushr hx hb dX5_append_27 rfl ?_
                  refine lv_topi (fun x_21 ex_21 => ?_)
                  refine lv_sipush (v := 255) hx hb dX5_append_28 (by decide) ?_
                  refine lv_iand hx hb dX5_append_31 ?_
                  refine lv_topi (fun x_22 ex_22 => ?_)
                  refine va_iast hx hb hK hP hD hS 1 0 rfl rfl (vp_in_nI (by omega) (by decide)) dX5_append_32 (fun H locs hP hD hS => ?_)
                  have hP : va_P (dC, dI) vwCl [(h0, .inr (6, [.ref ab, .int (nI (k + 3))])), (ab, .inl (cB, 300, .inl (upd f_17 (Int32.toNatClampNeg (nI (k + 3))) x_22)))] H := hP
                  have hD : va_D A [(h0, .inr (6, [.ref ab, .int (nI (k + 3))])), (ab, .inl (cB, 300, .inl (upd f_17 (Int32.toNatClampNeg (nI (k + 3))) x_22)))] := hD
                  generalize ef_23 : upd f_17 (Int32.toNatClampNeg (nI (k + 3))) x_22 = f_23 at hP hD
                  refine lv_aload_n hx hb dX5_append_33 rfl (lv_at hl 1 rfl) ?_
                  refine lv_dup hx hb dX5_append_34 rfl ?_
                  refine va_get (D := (dC, dI)) (ci := 6) (v := .int (nI (k + 3))) (C := RX5) (T := TX5) (N := 2) hx hb hts hinX5 hown hK hP 0 rfl rfl 1 (by decide) (hts (.fieldLink RX5 15 "AgreedTalks$Tape" "length" "I") (by decide +kernel)) (fun _ h9 => h9) rfl dX5_append_35 ?_
                  refine lv_iconst (v := 1) hx hb dX5_append_38 (by decide) ?_
                  refine lv_iadd hx hb dX5_append_39 ?_
                  refine lv_topi (fun x_24 ex_24 => ?_)
                  obtain rfl : x_24 = (nI (k + 4)) := by rw [ex_24]; exact nI_1 _
                  refine va_put (D := (dC, dI)) (ci := 6) (v := .int (nI (k + 4))) (ty := .int) (C := RX5) (T := TX5) (N := 2) hx hb hts hinX5 tyX5 tyX5_ok nmX5 hown hK hP hD hS 0 rfl rfl 1 (by decide) (hts (.fieldLink RX5 15 "AgreedTalks$Tape" "length" "I") (by decide +kernel)) (fun _ h9 => h9) rfl (by decide +kernel) rfl rfl (Nat.le_of_ble_eq_true rfl) dX5_append_40 (fun H locs hP hD hS => ?_)
                  have hP : va_P (dC, dI) vwCl [(h0, .inr (6, [.ref ab, .int (nI (k + 4))])), (ab, .inl (cB, 300, .inl f_23))] H := hP
                  have hD : va_D A [(h0, .inr (6, [.ref ab, .int (nI (k + 4))])), (ab, .inl (cB, 300, .inl f_23))] := hD
                  refine lv_iinc (v := (-8)) (lv' := [(2, .int (-8)), (0, .ref h0), (1, .int p0)]) hx hb dX5_append_43 hl (k := 0) rfl (by decide) (by decide) rfl (fun ls hl => ?_)
                  refine lv_goto (tgt := 3) hx hb dX5_append_46 (by decide) ?_
                  refine lv_iload_n hx hb dX5_append_3 rfl (lv_at hl 0 rfl) ?_
                  refine lv_if_lt (tgt := 49) hx hb dX5_append_4 (by decide) (fun c_25 => ?_) (fun c_25 => ?_)
                  · have hP9 := hP.sub (ws' := [(h0, .inr (6, [.ref ab, .int (nI (k + 4))])), (ab, .inl (cB, 300, .inl f_23))]) [0, 1] rfl
                    have hD9 := hD.sub (ws' := [(h0, .inr (6, [.ref ab, .int (nI (k + 4))])), (ab, .inl (cB, 300, .inl f_23))]) [0, 1] (by decide) rfl
                    have hK9 := hK.sub (tys' := [(cB, .int)]) [0] rfl
                    exact W.vret hx hb hr (fun t ht hW => ⟨⟨(), rfl, trivial, f_23, by rw [ht]; exact hP9, va_K.moved hW.alike hK9, hD9⟩, hS.F ht⟩) hS.2.2 dX5_append_49
                  · exact absurd c_25 (by decide)
def wp_X6_refuse : List Cond := .code yX6_refuse cX6_refuse 2 (some .int) :: (([.fieldLink RX6 63 "AgreedTalks" "refusal" "I"] : List Cond) ++ wsX60)
set_option maxRecDepth 20000 in
theorem gi_X6_refuse : GoodIn lw_tbl wp_X6_refuse := (goodIn_ca (goodIn_r (.code yX6_refuse cX6_refuse 2 (some .int) :: ([.fieldLink RX6 63 "AgreedTalks" "refusal" "I"] : List Cond)) [234, 199] (by decide +kernel) (by decide +kernel)) wi_wsX6)
set_option maxHeartbeats 4000000 in
set_option maxRecDepth 100000 in
/-- refuse(v): the refusal is v, the answer v -/
theorem c_X6_refuse (l : Launch) (dC : Nat → ClassId) (dI : Nat → Nat → Nat) (sz : Nat) (h0 : Nat) (a0 : Nat) (a1 : Nat) (a2 : Nat) (a3 : Nat) (a4 : Nat) (a5 : Nat) (a6 : Nat) (mt : Int32) (sh : Int32) (fp : Int32) (rf : Int32) (p0 : Int32) : Met l yX6_refuse wp_X6_refuse ({ frames := 0, cells := 0, slots := 0, locals := 0 }) (va_Pc [.ref h0, .int p0] (fun U => U.heap.size = sz ∧ va_P (dC, dI) vwCl [(h0, .inr (7, [.ref a0, .ref a1, .ref a2, .ref a3, .ref a4, .ref a5, .ref a6, .int mt, .int sh, .int fp, .int rf]))] U.heap ∧ va_K (dC, dI) vwCl [] U ∧ va_D (fun _ => True) [(h0, .inr (7, [.ref a0, .ref a1, .ref a2, .ref a3, .ref a4, .ref a5, .ref a6, .int mt, .int sh, .int fp, .int rf]))])) (va_Qi (fun (r : Int32) (_ : Unit) => r = p0) (fun (_ : Unit) (t : State) => va_P (dC, dI) vwCl [(h0, .inr (7, [.ref a0, .ref a1, .ref a2, .ref a3, .ref a4, .ref a5, .ref a6, .int mt, .int sh, .int fp, .int p0]))] t.heap ∧ va_K (dC, dI) vwCl [] t ∧ va_D (va_A [(h0, .inr (7, [.ref a0, .ref a1, .ref a2, .ref a3, .ref a4, .ref a5, .ref a6, .int mt, .int sh, .int fp, .int rf]))] sz) [(h0, .inr (7, [.ref a0, .ref a1, .ref a2, .ref a3, .ref a4, .ref a5, .ref a6, .int mt, .int sh, .int fp, .int p0]))]) (va_A [(h0, .inr (7, [.ref a0, .ref a1, .ref a2, .ref a3, .ref a4, .ref a5, .ref a6, .int mt, .int sh, .int fp, .int rf]))] sz)) 0 0 (va_A [(h0, .inr (7, [.ref a0, .ref a1, .ref a2, .ref a3, .ref a4, .ref a5, .ref a6, .int mt, .int sh, .int fp, .int rf]))] sz) := by
  refine Met.ofW (cc := cX6_refuse) (maxL := 2) (ret := (some .int)) (by decide) rfl ?_
  intro p e s m args below meth c s₁ B hml hv
  obtain ⟨rfl, hsz, hP, hK, hD0⟩ := hv
  have hx := B.exec
  have hb := B.bytes
  have hr := B.returns
  have hts := atoms_spec (ws := wp_X6_refuse) B.pre
  have hown : s.vm.findClass RX6 = some m.cls := findClass_of_methodNamed B.named
  have hlocks := B.notSynchronized
  subst hsz
  have hD := hD0.self (sz := s.heap.size)
  generalize hAe : va_A [(h0, .inr (7, [.ref a0, .ref a1, .ref a2, .ref a3, .ref a4, .ref a5, .ref a6, .int mt, .int sh, .int fp, .int rf]))] s.heap.size = A at hD ⊢
  have hA : ∀ q : Nat, s.heap.size ≤ q → A q := fun q h => by rw [← hAe]; exact Or.inr h
  have hS : va_S A s.heap s.heap [] := va_S.rf
  have hP : va_P (dC, dI) vwCl [(h0, .inr (7, [.ref a0, .ref a1, .ref a2, .ref a3, .ref a4, .ref a5, .ref a6, .int mt, .int sh, .int fp, .int rf]))] s.heap := hP
  have hl := lv_entry ([.ref h0, .int p0]) (n := 2) (Nat.le_of_ble_eq_true rfl)
  rw [lg_entry_eq]
  generalize (lg_sl ([.ref h0, .int p0]) ++ List.replicate (2 - (lg_sl ([.ref h0, .int p0])).length) Slot.unset).toArray = ls at hl ⊢
  have hl : lv_has ls 2 [(0, .ref h0), (1, .int p0)] := hl
  have hinX6 : ∀ w ∈ u_ws RX6 TX6 11, w ∈ wp_X6_refuse := fun _ h => List.mem_cons_of_mem _ (List.mem_append_right _ h)
  refine lv_aload_n hx hb dX6_refuse_0 rfl (lv_at hl 0 rfl) ?_
  refine lv_iload_n hx hb dX6_refuse_1 rfl (lv_at hl 1 rfl) ?_
  refine va_put (D := (dC, dI)) (ci := 7) (v := .int p0) (ty := .int) (C := RX6) (T := TX6) (N := 11) hx hb hts hinX6 tyX6 tyX6_ok nmX6 hown hK hP hD hS 0 rfl rfl 10 (by decide) (hts (.fieldLink RX6 63 "AgreedTalks" "refusal" "I") (by decide +kernel)) (fun _ h9 => h9) rfl (by decide +kernel) rfl rfl (Nat.le_of_ble_eq_true rfl) dX6_refuse_2 (fun H locs hP hD hS => ?_)
  have hP : va_P (dC, dI) vwCl [(h0, .inr (7, [.ref a0, .ref a1, .ref a2, .ref a3, .ref a4, .ref a5, .ref a6, .int mt, .int sh, .int fp, .int p0]))] H := hP
  have hD : va_D A [(h0, .inr (7, [.ref a0, .ref a1, .ref a2, .ref a3, .ref a4, .ref a5, .ref a6, .int mt, .int sh, .int fp, .int p0]))] := hD
  refine lv_iload_n hx hb dX6_refuse_5 rfl (lv_at hl 1 rfl) ?_
  have hP9 := hP.sub (ws' := [(h0, .inr (7, [.ref a0, .ref a1, .ref a2, .ref a3, .ref a4, .ref a5, .ref a6, .int mt, .int sh, .int fp, .int p0]))]) [0] rfl
  have hD9 := hD.sub (ws' := [(h0, .inr (7, [.ref a0, .ref a1, .ref a2, .ref a3, .ref a4, .ref a5, .ref a6, .int mt, .int sh, .int fp, .int p0]))]) [0] (by decide) rfl
  have hK9 := hK.sub (tys' := []) [] rfl
  exact W.iret (v := p0) hx hb hr (fun t ht hW => ⟨⟨p0, (), rfl, rfl, by rw [ht]; exact hP9, va_K.moved hW.alike hK9, hD9⟩, hS.F ht⟩) hS.2.2 dX6_refuse_6
def wp_X6_lastDay : List Cond := .code yX6_lastDay cX6_lastDay 1 (some .int) :: (([.fieldLink RX6 53 "AgreedTalks" "meetings" "I"] : List Cond) ++ wsX60)
set_option maxRecDepth 20000 in
theorem gi_X6_lastDay : GoodIn lw_tbl wp_X6_lastDay := (goodIn_ca (goodIn_r (.code yX6_lastDay cX6_lastDay 1 (some .int) :: ([.fieldLink RX6 53 "AgreedTalks" "meetings" "I"] : List Cond)) [230, 196] (by decide +kernel) (by decide +kernel)) wi_wsX6)
set_option maxHeartbeats 4000000 in
set_option maxRecDepth 100000 in
/-- lastDay() without a meeting -/
theorem c_X6_lastDay (l : Launch) (dC : Nat → ClassId) (dI : Nat → Nat → Nat) (sz : Nat) (h0 : Nat) (a0 : Nat) (a1 : Nat) (a2 : Nat) (a3 : Nat) (a4 : Nat) (a5 : Nat) (a6 : Nat) (sh : Int32) (fp : Int32) (rf : Int32) : Met l yX6_lastDay wp_X6_lastDay ({ frames := 0, cells := 0, slots := 0, locals := 0 }) (va_Pc [.ref h0] (fun U => U.heap.size = sz ∧ va_P (dC, dI) vwCl [(h0, .inr (7, [.ref a0, .ref a1, .ref a2, .ref a3, .ref a4, .ref a5, .ref a6, .int 0, .int sh, .int fp, .int rf]))] U.heap ∧ va_K (dC, dI) vwCl [] U ∧ va_D (fun _ => True) [(h0, .inr (7, [.ref a0, .ref a1, .ref a2, .ref a3, .ref a4, .ref a5, .ref a6, .int 0, .int sh, .int fp, .int rf]))])) (va_Qi (fun (r : Int32) (_ : Unit) => r = 0) (fun (_ : Unit) (t : State) => va_P (dC, dI) vwCl [(h0, .inr (7, [.ref a0, .ref a1, .ref a2, .ref a3, .ref a4, .ref a5, .ref a6, .int 0, .int sh, .int fp, .int rf]))] t.heap ∧ va_K (dC, dI) vwCl [] t ∧ va_D (va_A [(h0, .inr (7, [.ref a0, .ref a1, .ref a2, .ref a3, .ref a4, .ref a5, .ref a6, .int 0, .int sh, .int fp, .int rf]))] sz) [(h0, .inr (7, [.ref a0, .ref a1, .ref a2, .ref a3, .ref a4, .ref a5, .ref a6, .int 0, .int sh, .int fp, .int rf]))]) (va_A [(h0, .inr (7, [.ref a0, .ref a1, .ref a2, .ref a3, .ref a4, .ref a5, .ref a6, .int 0, .int sh, .int fp, .int rf]))] sz)) 0 0 (va_A [(h0, .inr (7, [.ref a0, .ref a1, .ref a2, .ref a3, .ref a4, .ref a5, .ref a6, .int 0, .int sh, .int fp, .int rf]))] sz) := by
  refine Met.ofW (cc := cX6_lastDay) (maxL := 1) (ret := (some .int)) (by decide) rfl ?_
  intro p e s m args below meth c s₁ B hml hv
  obtain ⟨rfl, hsz, hP, hK, hD0⟩ := hv
  have hx := B.exec
  have hb := B.bytes
  have hr := B.returns
  have hts := atoms_spec (ws := wp_X6_lastDay) B.pre
  have hown : s.vm.findClass RX6 = some m.cls := findClass_of_methodNamed B.named
  have hlocks := B.notSynchronized
  subst hsz
  have hD := hD0.self (sz := s.heap.size)
  generalize hAe : va_A [(h0, .inr (7, [.ref a0, .ref a1, .ref a2, .ref a3, .ref a4, .ref a5, .ref a6, .int 0, .int sh, .int fp, .int rf]))] s.heap.size = A at hD ⊢
  have hA : ∀ q : Nat, s.heap.size ≤ q → A q := fun q h => by rw [← hAe]; exact Or.inr h
  have hS : va_S A s.heap s.heap [] := va_S.rf
  have hP : va_P (dC, dI) vwCl [(h0, .inr (7, [.ref a0, .ref a1, .ref a2, .ref a3, .ref a4, .ref a5, .ref a6, .int 0, .int sh, .int fp, .int rf]))] s.heap := hP
  have hl := lv_entry ([.ref h0]) (n := 1) (Nat.le_of_ble_eq_true rfl)
  rw [lg_entry_eq]
  generalize (lg_sl ([.ref h0]) ++ List.replicate (1 - (lg_sl ([.ref h0])).length) Slot.unset).toArray = ls at hl ⊢
  have hl : lv_has ls 1 [(0, .ref h0)] := hl
  have hinX6 : ∀ w ∈ u_ws RX6 TX6 11, w ∈ wp_X6_lastDay := fun _ h => List.mem_cons_of_mem _ (List.mem_append_right _ h)
  refine lv_aload_n hx hb dX6_lastDay_0 rfl (lv_at hl 0 rfl) ?_
  refine va_get (D := (dC, dI)) (ci := 7) (v := .int 0) (C := RX6) (T := TX6) (N := 11) hx hb hts hinX6 hown hK hP 0 rfl rfl 7 (by decide) (hts (.fieldLink RX6 53 "AgreedTalks" "meetings" "I") (by decide +kernel)) (fun _ h9 => h9) rfl dX6_lastDay_1 ?_
  refine lv_if_ne (tgt := 11) hx hb dX6_lastDay_4 (by decide) (fun c_1 => ?_) (fun c_1 => ?_)
  · exact absurd c_1 (by decide)
  · refine lv_iconst (v := 0) hx hb dX6_lastDay_7 (by decide) ?_
    refine lv_goto (tgt := 22) hx hb dX6_lastDay_8 (by decide) ?_
    have hP9 := hP.sub (ws' := [(h0, .inr (7, [.ref a0, .ref a1, .ref a2, .ref a3, .ref a4, .ref a5, .ref a6, .int 0, .int sh, .int fp, .int rf]))]) [0] rfl
    have hD9 := hD.sub (ws' := [(h0, .inr (7, [.ref a0, .ref a1, .ref a2, .ref a3, .ref a4, .ref a5, .ref a6, .int 0, .int sh, .int fp, .int rf]))]) [0] (by decide) rfl
    have hK9 := hK.sub (tys' := []) [] rfl
    exact W.iret (v := 0) hx hb hr (fun t ht hW => ⟨⟨0, (), rfl, rfl, by rw [ht]; exact hP9, va_K.moved hW.alike hK9, hD9⟩, hS.F ht⟩) hS.2.2 dX6_lastDay_22
def wp_X6_isMeeting : List Cond := .code yX6_isMeeting cX6_isMeeting 2 (some .boolean) :: (([.fieldLink RX6 53 "AgreedTalks" "meetings" "I"] : List Cond) ++ wsX60)
set_option maxRecDepth 20000 in
theorem gi_X6_isMeeting : GoodIn lw_tbl wp_X6_isMeeting := (goodIn_ca (goodIn_r (.code yX6_isMeeting cX6_isMeeting 2 (some .boolean) :: ([.fieldLink RX6 53 "AgreedTalks" "meetings" "I"] : List Cond)) [254, 196] (by decide +kernel) (by decide +kernel)) wi_wsX6)
set_option maxHeartbeats 4000000 in
set_option maxRecDepth 100000 in
/-- isMeeting(m) without a meeting -/
theorem c_X6_isMeeting (l : Launch) (dC : Nat → ClassId) (dI : Nat → Nat → Nat) (sz : Nat) (h0 : Nat) (a0 : Nat) (a1 : Nat) (a2 : Nat) (a3 : Nat) (a4 : Nat) (a5 : Nat) (a6 : Nat) (sh : Int32) (fp : Int32) (rf : Int32) (p0 : Int32) : Met l yX6_isMeeting wp_X6_isMeeting ({ frames := 0, cells := 0, slots := 0, locals := 0 }) (va_Pc [.ref h0, .int p0] (fun U => U.heap.size = sz ∧ va_P (dC, dI) vwCl [(h0, .inr (7, [.ref a0, .ref a1, .ref a2, .ref a3, .ref a4, .ref a5, .ref a6, .int 0, .int sh, .int fp, .int rf]))] U.heap ∧ va_K (dC, dI) vwCl [] U ∧ va_D (fun _ => True) [(h0, .inr (7, [.ref a0, .ref a1, .ref a2, .ref a3, .ref a4, .ref a5, .ref a6, .int 0, .int sh, .int fp, .int rf]))])) (va_Qi (fun (r : Int32) (_ : Unit) => r = 0) (fun (_ : Unit) (t : State) => va_P (dC, dI) vwCl [(h0, .inr (7, [.ref a0, .ref a1, .ref a2, .ref a3, .ref a4, .ref a5, .ref a6, .int 0, .int sh, .int fp, .int rf]))] t.heap ∧ va_K (dC, dI) vwCl [] t ∧ va_D (va_A [(h0, .inr (7, [.ref a0, .ref a1, .ref a2, .ref a3, .ref a4, .ref a5, .ref a6, .int 0, .int sh, .int fp, .int rf]))] sz) [(h0, .inr (7, [.ref a0, .ref a1, .ref a2, .ref a3, .ref a4, .ref a5, .ref a6, .int 0, .int sh, .int fp, .int rf]))]) (va_A [(h0, .inr (7, [.ref a0, .ref a1, .ref a2, .ref a3, .ref a4, .ref a5, .ref a6, .int 0, .int sh, .int fp, .int rf]))] sz)) 0 0 (va_A [(h0, .inr (7, [.ref a0, .ref a1, .ref a2, .ref a3, .ref a4, .ref a5, .ref a6, .int 0, .int sh, .int fp, .int rf]))] sz) := by
  refine Met.ofW (cc := cX6_isMeeting) (maxL := 2) (ret := (some .boolean)) (by decide) rfl ?_
  intro p e s m args below meth c s₁ B hml hv
  obtain ⟨rfl, hsz, hP, hK, hD0⟩ := hv
  have hx := B.exec
  have hb := B.bytes
  have hr := B.returns
  have hts := atoms_spec (ws := wp_X6_isMeeting) B.pre
  have hown : s.vm.findClass RX6 = some m.cls := findClass_of_methodNamed B.named
  have hlocks := B.notSynchronized
  subst hsz
  have hD := hD0.self (sz := s.heap.size)
  generalize hAe : va_A [(h0, .inr (7, [.ref a0, .ref a1, .ref a2, .ref a3, .ref a4, .ref a5, .ref a6, .int 0, .int sh, .int fp, .int rf]))] s.heap.size = A at hD ⊢
  have hA : ∀ q : Nat, s.heap.size ≤ q → A q := fun q h => by rw [← hAe]; exact Or.inr h
  have hS : va_S A s.heap s.heap [] := va_S.rf
  have hP : va_P (dC, dI) vwCl [(h0, .inr (7, [.ref a0, .ref a1, .ref a2, .ref a3, .ref a4, .ref a5, .ref a6, .int 0, .int sh, .int fp, .int rf]))] s.heap := hP
  have hl := lv_entry ([.ref h0, .int p0]) (n := 2) (Nat.le_of_ble_eq_true rfl)
  rw [lg_entry_eq]
  generalize (lg_sl ([.ref h0, .int p0]) ++ List.replicate (2 - (lg_sl ([.ref h0, .int p0])).length) Slot.unset).toArray = ls at hl ⊢
  have hl : lv_has ls 2 [(0, .ref h0), (1, .int p0)] := hl
  have hinX6 : ∀ w ∈ u_ws RX6 TX6 11, w ∈ wp_X6_isMeeting := fun _ h => List.mem_cons_of_mem _ (List.mem_append_right _ h)
  refine lv_iload_n hx hb dX6_isMeeting_0 rfl (lv_at hl 1 rfl) ?_
  refine lv_if_lt (tgt := 16) hx hb dX6_isMeeting_1 (by decide) (fun c_1 => ?_) (fun c_1 => ?_)
  · refine lv_iconst (v := 0) hx hb dX6_isMeeting_16 (by decide) ?_
    have hP9 := hP.sub (ws' := [(h0, .inr (7, [.ref a0, .ref a1, .ref a2, .ref a3, .ref a4, .ref a5, .ref a6, .int 0, .int sh, .int fp, .int rf]))]) [0] rfl
    have hD9 := hD.sub (ws' := [(h0, .inr (7, [.ref a0, .ref a1, .ref a2, .ref a3, .ref a4, .ref a5, .ref a6, .int 0, .int sh, .int fp, .int rf]))]) [0] (by decide) rfl
    have hK9 := hK.sub (tys' := []) [] rfl
    exact W.zret (v := 0) (ty := .boolean) hx hb hr rfl (fun t ht hW => ⟨⟨0, (), rfl, rfl, by rw [ht]; exact hP9, va_K.moved hW.alike hK9, hD9⟩, hS.F ht⟩) hS.2.2 dX6_isMeeting_17
  · refine lv_iload_n hx hb dX6_isMeeting_4 rfl (lv_at hl 1 rfl) ?_
    refine lv_aload_n hx hb dX6_isMeeting_5 rfl (lv_at hl 0 rfl) ?_
    refine va_get (D := (dC, dI)) (ci := 7) (v := .int 0) (C := RX6) (T := TX6) (N := 11) hx hb hts hinX6 hown hK hP 0 rfl rfl 7 (by decide) (hts (.fieldLink RX6 53 "AgreedTalks" "meetings" "I") (by decide +kernel)) (fun _ h9 => h9) rfl dX6_isMeeting_6 ?_
    refine lv_icmp_ge (tgt := 16) hx hb dX6_isMeeting_9 (by decide) (fun c_2 => ?_) (fun c_2 => ?_)
    · refine lv_iconst (v := 0) hx hb dX6_isMeeting_16 (by decide) ?_
      have hP9 := hP.sub (ws' := [(h0, .inr (7, [.ref a0, .ref a1, .ref a2, .ref a3, .ref a4, .ref a5, .ref a6, .int 0, .int sh, .int fp, .int rf]))]) [0] rfl
      have hD9 := hD.sub (ws' := [(h0, .inr (7, [.ref a0, .ref a1, .ref a2, .ref a3, .ref a4, .ref a5, .ref a6, .int 0, .int sh, .int fp, .int rf]))]) [0] (by decide) rfl
      have hK9 := hK.sub (tys' := []) [] rfl
      exact W.zret (v := 0) (ty := .boolean) hx hb hr rfl (fun t ht hW => ⟨⟨0, (), rfl, rfl, by rw [ht]; exact hP9, va_K.moved hW.alike hK9, hD9⟩, hS.F ht⟩) hS.2.2 dX6_isMeeting_17
    · exact absurd (Int32.not_lt.mp c_1) c_2
def wp_X6_isRecord : List Cond := .code yX6_isRecord cX6_isRecord 2 (some .boolean) :: (([.fieldLink RX6 19 "AgreedTalks" "records" "Ljava/util/ArrayList;"] : List Cond) ++ wsX60 ++ (wsV RX6 91 RJx4a65c yJx4a65c_size_8abf5 wp_AL_size))
theorem gc_X6_isRecord_AL_size : GoodIn wp_X6_isRecord (wsV RX6 91 RJx4a65c yJx4a65c_size_8abf5 wp_AL_size) := goodIn_sub (fun _ h => List.mem_cons_of_mem _ (List.mem_append_right _ h)) (by decide +kernel)
set_option maxRecDepth 20000 in
theorem gi_X6_isRecord : GoodIn lw_tbl wp_X6_isRecord := (goodIn_ca (goodIn_ca (goodIn_r (.code yX6_isRecord cX6_isRecord 2 (some .boolean) :: ([.fieldLink RX6 19 "AgreedTalks" "records" "Ljava/util/ArrayList;"] : List Cond)) [493, 191] (by decide +kernel) (by decide +kernel)) wi_wsX6) (goodIn_app (goodIn_r _ [255, 256, 257, 51] (by decide +kernel) (by decide +kernel)) gi_AL_size))
set_option maxHeartbeats 4000000 in
set_option maxRecDepth 100000 in
/-- isRecord(r) without a record -/
theorem c_X6_isRecord (l : Launch) (dC : Nat → ClassId) (dI : Nat → Nat → Nat) (sz : Nat) (h0 : Nat) (a0 : Nat) (a1 : Nat) (a2 : Nat) (a3 : Nat) (a4 : Nat) (a5 : Nat) (a6 : Nat) (mt : Int32) (sh : Int32) (fp : Int32) (rf : Int32) (p0 : Int32) (ve : Value) : Met l yX6_isRecord wp_X6_isRecord ({ frames := 1, cells := 0, slots := 0, locals := 20 }) (va_Pc [.ref h0, .int p0] (fun U => U.heap.size = sz ∧ va_P (dC, dI) vwCl [(h0, .inr (7, [.ref a0, .ref a1, .ref a2, .ref a3, .ref a4, .ref a5, .ref a6, .int mt, .int sh, .int fp, .int rf])), (a2, .inr (0, [.int 0, ve, .int 0]))] U.heap ∧ va_K (dC, dI) vwCl [] U ∧ va_D (fun _ => True) [(h0, .inr (7, [.ref a0, .ref a1, .ref a2, .ref a3, .ref a4, .ref a5, .ref a6, .int mt, .int sh, .int fp, .int rf])), (a2, .inr (0, [.int 0, ve, .int 0]))])) (va_Qi (fun (r : Int32) (_ : Unit) => r = 0) (fun (_ : Unit) (t : State) => va_P (dC, dI) vwCl [(h0, .inr (7, [.ref a0, .ref a1, .ref a2, .ref a3, .ref a4, .ref a5, .ref a6, .int mt, .int sh, .int fp, .int rf])), (a2, .inr (0, [.int 0, ve, .int 0]))] t.heap ∧ va_K (dC, dI) vwCl [] t ∧ va_D (va_A [(h0, .inr (7, [.ref a0, .ref a1, .ref a2, .ref a3, .ref a4, .ref a5, .ref a6, .int mt, .int sh, .int fp, .int rf])), (a2, .inr (0, [.int 0, ve, .int 0]))] sz) [(h0, .inr (7, [.ref a0, .ref a1, .ref a2, .ref a3, .ref a4, .ref a5, .ref a6, .int mt, .int sh, .int fp, .int rf])), (a2, .inr (0, [.int 0, ve, .int 0]))]) (va_A [(h0, .inr (7, [.ref a0, .ref a1, .ref a2, .ref a3, .ref a4, .ref a5, .ref a6, .int mt, .int sh, .int fp, .int rf])), (a2, .inr (0, [.int 0, ve, .int 0]))] sz)) 0 0 (va_A [(h0, .inr (7, [.ref a0, .ref a1, .ref a2, .ref a3, .ref a4, .ref a5, .ref a6, .int mt, .int sh, .int fp, .int rf])), (a2, .inr (0, [.int 0, ve, .int 0]))] sz) := by
  refine Met.ofW (cc := cX6_isRecord) (maxL := 2) (ret := (some .boolean)) (by decide) rfl ?_
  intro p e s m args below meth c s₁ B hml hv
  obtain ⟨rfl, hsz, hP, hK, hD0⟩ := hv
  have hx := B.exec
  have hb := B.bytes
  have hr := B.returns
  have hts := atoms_spec (ws := wp_X6_isRecord) B.pre
  have hown : s.vm.findClass RX6 = some m.cls := findClass_of_methodNamed B.named
  have hlocks := B.notSynchronized
  subst hsz
  have hD := hD0.self (sz := s.heap.size)
  generalize hAe : va_A [(h0, .inr (7, [.ref a0, .ref a1, .ref a2, .ref a3, .ref a4, .ref a5, .ref a6, .int mt, .int sh, .int fp, .int rf])), (a2, .inr (0, [.int 0, ve, .int 0]))] s.heap.size = A at hD ⊢
  have hA : ∀ q : Nat, s.heap.size ≤ q → A q := fun q h => by rw [← hAe]; exact Or.inr h
  have hS : va_S A s.heap s.heap [] := va_S.rf
  have hP : va_P (dC, dI) vwCl [(h0, .inr (7, [.ref a0, .ref a1, .ref a2, .ref a3, .ref a4, .ref a5, .ref a6, .int mt, .int sh, .int fp, .int rf])), (a2, .inr (0, [.int 0, ve, .int 0]))] s.heap := hP
  have hl := lv_entry ([.ref h0, .int p0]) (n := 2) (Nat.le_of_ble_eq_true rfl)
  rw [lg_entry_eq]
  generalize (lg_sl ([.ref h0, .int p0]) ++ List.replicate (2 - (lg_sl ([.ref h0, .int p0])).length) Slot.unset).toArray = ls at hl ⊢
  have hl : lv_has ls 2 [(0, .ref h0), (1, .int p0)] := hl
  have hinX6 : ∀ w ∈ u_ws RX6 TX6 11, w ∈ wp_X6_isRecord := fun _ h => List.mem_cons_of_mem _ (List.mem_append_left _ (List.mem_append_right _ h))
  refine lv_iload_n hx hb dX6_isRecord_0 rfl (lv_at hl 1 rfl) ?_
  refine lv_if_lt (tgt := 19) hx hb dX6_isRecord_1 (by decide) (fun c_1 => ?_) (fun c_1 => ?_)
  · refine lv_iconst (v := 0) hx hb dX6_isRecord_19 (by decide) ?_
    have hP9 := hP.sub (ws' := [(h0, .inr (7, [.ref a0, .ref a1, .ref a2, .ref a3, .ref a4, .ref a5, .ref a6, .int mt, .int sh, .int fp, .int rf])), (a2, .inr (0, [.int 0, ve, .int 0]))]) [0, 1] rfl
    have hD9 := hD.sub (ws' := [(h0, .inr (7, [.ref a0, .ref a1, .ref a2, .ref a3, .ref a4, .ref a5, .ref a6, .int mt, .int sh, .int fp, .int rf])), (a2, .inr (0, [.int 0, ve, .int 0]))]) [0, 1] (by decide) rfl
    have hK9 := hK.sub (tys' := []) [] rfl
    exact W.zret (v := 0) (ty := .boolean) hx hb hr rfl (fun t ht hW => ⟨⟨0, (), rfl, rfl, by rw [ht]; exact hP9, va_K.moved hW.alike hK9, hD9⟩, hS.F ht⟩) hS.2.2 dX6_isRecord_20
  · refine lv_iload_n hx hb dX6_isRecord_4 rfl (lv_at hl 1 rfl) ?_
    refine lv_aload_n hx hb dX6_isRecord_5 rfl (lv_at hl 0 rfl) ?_
    refine va_get (D := (dC, dI)) (ci := 7) (v := .ref a2) (C := RX6) (T := TX6) (N := 11) hx hb hts hinX6 hown hK hP 0 rfl rfl 2 (by decide) (hts (.fieldLink RX6 19 "AgreedTalks" "records" "Ljava/util/ArrayList;") (by decide +kernel)) (fun _ h9 => h9) rfl dX6_isRecord_6 ?_
    have hPc := hP.sub (ws' := [(a2, .inr (0, [.int 0, ve, .int 0]))]) [1] rfl
    have hDc := hD.sub (ws' := [(a2, .inr (0, [.int 0, ve, .int 0]))]) [1] (by decide) rfl
    have hKc := hK.sub (tys' := []) [] rfl
    have hFc := va_free (wc := [(a2, .inr (0, [.int 0, ve, .int 0]))]) hD hS hA [1] rfl
    refine va_calli (va_runV (As := []) (rest := [.int p0]) ⟨hx, hb, hml, hown, hts⟩ (c_AL_size l dC dI _ a2 0 ve 0) (cwV 0 hts gc_X6_isRecord_AL_size rfl rfl rfl (by decide +kernel) ⟨Nat.le_of_ble_eq_true rfl, Nat.le_of_ble_eq_true rfl⟩) ⟨fun a U g mk q => by obtain ⟨q0, q1, qP, qK, qD⟩ := q; exact ⟨q0, q1, qP, va_K.moved (u := U) (U := U.calling g mk a) (Vm.Alike.refl U.vm) qK, qD⟩, va_recv hKc hPc (ci := 0) (q0 := 0) rfl rfl, fun U hU hW => ⟨rfl, by rw [hU], by rw [hU]; exact hPc, va_K.moved hW.alike hKc, hDc.weaken (fun _ _ _ _ => trivial)⟩⟩ rfl rfl hl.1 rfl (lv_room (Nat.le_of_ble_eq_true rfl)) dX6_isRecord_9 ⟨Nat.zero_le _, Nat.zero_le _⟩) hS (fun q _ h => hFc q h) hFc (fun r_2 u t H1 locs ht hvm hw hB hz1 hk1 hS => ?_)
    obtain ⟨hP1, hK1, hD1⟩ := hB
    rw [ht] at hP1
    obtain ⟨hP, hD⟩ := va_join (wr := [(h0, .inr (7, [.ref a0, .ref a1, .ref a2, .ref a3, .ref a4, .ref a5, .ref a6, .int mt, .int sh, .int fp, .int rf]))]) (w1 := [(a2, .inr (0, [.int 0, ve, .int 0]))]) hP hD [1] [0] rfl rfl (by decide) (by decide) hk1 hFc hP1 hD1
    generalize H1 = H at hP hS ⊢
    have hP : va_P (dC, dI) vwCl [(h0, .inr (7, [.ref a0, .ref a1, .ref a2, .ref a3, .ref a4, .ref a5, .ref a6, .int mt, .int sh, .int fp, .int rf])), (a2, .inr (0, [.int 0, ve, .int 0]))] H := hP
    have hD : va_D A [(h0, .inr (7, [.ref a0, .ref a1, .ref a2, .ref a3, .ref a4, .ref a5, .ref a6, .int mt, .int sh, .int fp, .int rf])), (a2, .inr (0, [.int 0, ve, .int 0]))] := hD
    obtain rfl : r_2 = 0 := hw
    refine lv_icmp_ge (tgt := 19) hx hb dX6_isRecord_12 (by decide) (fun c_3 => ?_) (fun c_3 => ?_)
    · refine lv_iconst (v := 0) hx hb dX6_isRecord_19 (by decide) ?_
      have hP9 := hP.sub (ws' := [(h0, .inr (7, [.ref a0, .ref a1, .ref a2, .ref a3, .ref a4, .ref a5, .ref a6, .int mt, .int sh, .int fp, .int rf])), (a2, .inr (0, [.int 0, ve, .int 0]))]) [0, 1] rfl
      have hD9 := hD.sub (ws' := [(h0, .inr (7, [.ref a0, .ref a1, .ref a2, .ref a3, .ref a4, .ref a5, .ref a6, .int mt, .int sh, .int fp, .int rf])), (a2, .inr (0, [.int 0, ve, .int 0]))]) [0, 1] (by decide) rfl
      have hK9 := hK.sub (tys' := []) [] rfl
      exact W.zret (v := 0) (ty := .boolean) hx hb hr rfl (fun t ht hW => ⟨⟨0, (), rfl, rfl, by rw [ht]; exact hP9, va_K.moved hW.alike hK9, hD9⟩, hS.F ht⟩) hS.2.2 dX6_isRecord_20
    · exact absurd (Int32.not_lt.mp c_1) c_3
def wp_X6_isPerson : List Cond := .code yX6_isPerson cX6_isPerson 1 (some .boolean) :: (([] : List Cond))
set_option maxRecDepth 20000 in
theorem gi_X6_isPerson : GoodIn lw_tbl wp_X6_isPerson := (goodIn_r (.code yX6_isPerson cX6_isPerson 1 (some .boolean) :: ([] : List Cond)) [380] (by decide +kernel) (by decide +kernel))
set_option maxHeartbeats 4000000 in
set_option maxRecDepth 100000 in
/-- isPerson -/
theorem c_X6_isPerson (l : Launch) (dC : Nat → ClassId) (dI : Nat → Nat → Nat) (sz : Nat) (p0 : Int32) : Met l yX6_isPerson wp_X6_isPerson ({ frames := 0, cells := 0, slots := 0, locals := 0 }) (va_Pc [.int p0] (fun U => U.heap.size = sz ∧ va_P (dC, dI) vwCl [] U.heap ∧ va_K (dC, dI) vwCl [] U ∧ va_D (fun _ => True) [])) (va_Qi (fun (r : Int32) (_ : Unit) => r = (if p0 < 0 ∨ 12 ≤ p0 then 0 else 1)) (fun (_ : Unit) (t : State) => va_P (dC, dI) vwCl [] t.heap ∧ va_K (dC, dI) vwCl [] t ∧ va_D (va_A [] sz) []) (va_A [] sz)) 0 0 (va_A [] sz) := by
  refine Met.ofW (cc := cX6_isPerson) (maxL := 1) (ret := (some .boolean)) (by decide) rfl ?_
  intro p e s m args below meth c s₁ B hml hv
  obtain ⟨rfl, hsz, hP, hK, hD0⟩ := hv
  have hx := B.exec
  have hb := B.bytes
  have hr := B.returns
  have hts := atoms_spec (ws := wp_X6_isPerson) B.pre
  have hown : s.vm.findClass RX6 = some m.cls := findClass_of_methodNamed B.named
  have hlocks := B.notSynchronized
  subst hsz
  have hD := hD0.self (sz := s.heap.size)
  generalize hAe : va_A [] s.heap.size = A at hD ⊢
  have hA : ∀ q : Nat, s.heap.size ≤ q → A q := fun q h => by rw [← hAe]; exact Or.inr h
  have hS : va_S A s.heap s.heap [] := va_S.rf
  have hP : va_P (dC, dI) vwCl [] s.heap := hP
  have hl := lv_entry ([.int p0]) (n := 1) (Nat.le_of_ble_eq_true rfl)
  rw [lg_entry_eq]
  generalize (lg_sl ([.int p0]) ++ List.replicate (1 - (lg_sl ([.int p0])).length) Slot.unset).toArray = ls at hl ⊢
  have hl : lv_has ls 1 [(0, .int p0)] := hl
  refine lv_iload_n hx hb dX6_isPerson_0 rfl (lv_at hl 0 rfl) ?_
  refine lv_if_lt (tgt := 14) hx hb dX6_isPerson_1 (by decide) (fun c_1 => ?_) (fun c_1 => ?_)
  · refine lv_iconst (v := 0) hx hb dX6_isPerson_14 (by decide) ?_
    have hP9 := hP.sub (ws' := []) [] rfl
    have hD9 := hD.sub (ws' := []) [] (by decide) rfl
    have hK9 := hK.sub (tys' := []) [] rfl
    exact W.zret (v := 0) (ty := .boolean) hx hb hr rfl (fun t ht hW => ⟨⟨0, (), rfl, by simp [c_1], by rw [ht]; exact hP9, va_K.moved hW.alike hK9, hD9⟩, hS.F ht⟩) hS.2.2 dX6_isPerson_15
  · refine lv_iload_n hx hb dX6_isPerson_4 rfl (lv_at hl 0 rfl) ?_
    refine lv_bipush (v := 12) hx hb dX6_isPerson_5 (by decide) ?_
    refine lv_icmp_ge (tgt := 14) hx hb dX6_isPerson_7 (by decide) (fun c_2 => ?_) (fun c_2 => ?_)
    · refine lv_iconst (v := 0) hx hb dX6_isPerson_14 (by decide) ?_
      have hP9 := hP.sub (ws' := []) [] rfl
      have hD9 := hD.sub (ws' := []) [] (by decide) rfl
      have hK9 := hK.sub (tys' := []) [] rfl
      exact W.zret (v := 0) (ty := .boolean) hx hb hr rfl (fun t ht hW => ⟨⟨0, (), rfl, by simp [c_1, c_2], by rw [ht]; exact hP9, va_K.moved hW.alike hK9, hD9⟩, hS.F ht⟩) hS.2.2 dX6_isPerson_15
    · refine lv_iconst (v := 1) hx hb dX6_isPerson_10 (by decide) ?_
      refine lv_goto (tgt := 15) hx hb dX6_isPerson_11 (by decide) ?_
      have hP9 := hP.sub (ws' := []) [] rfl
      have hD9 := hD.sub (ws' := []) [] (by decide) rfl
      have hK9 := hK.sub (tys' := []) [] rfl
      exact W.zret (v := 1) (ty := .boolean) hx hb hr rfl (fun t ht hW => ⟨⟨1, (), rfl, by simp [c_1, c_2], by rw [ht]; exact hP9, va_K.moved hW.alike hK9, hD9⟩, hS.F ht⟩) hS.2.2 dX6_isPerson_15
def wp_X6_isThing : List Cond := .code yX6_isThing cX6_isThing 1 (some .boolean) :: (([] : List Cond))
set_option maxRecDepth 20000 in
theorem gi_X6_isThing : GoodIn lw_tbl wp_X6_isThing := (goodIn_r (.code yX6_isThing cX6_isThing 1 (some .boolean) :: ([] : List Cond)) [512] (by decide +kernel) (by decide +kernel))
set_option maxHeartbeats 4000000 in
set_option maxRecDepth 100000 in
/-- isThing -/
theorem c_X6_isThing (l : Launch) (dC : Nat → ClassId) (dI : Nat → Nat → Nat) (sz : Nat) (p0 : Int32) : Met l yX6_isThing wp_X6_isThing ({ frames := 0, cells := 0, slots := 0, locals := 0 }) (va_Pc [.int p0] (fun U => U.heap.size = sz ∧ va_P (dC, dI) vwCl [] U.heap ∧ va_K (dC, dI) vwCl [] U ∧ va_D (fun _ => True) [])) (va_Qi (fun (r : Int32) (_ : Unit) => r = (if p0 < 0 ∨ 40 ≤ p0 then 0 else 1)) (fun (_ : Unit) (t : State) => va_P (dC, dI) vwCl [] t.heap ∧ va_K (dC, dI) vwCl [] t ∧ va_D (va_A [] sz) []) (va_A [] sz)) 0 0 (va_A [] sz) := by
  refine Met.ofW (cc := cX6_isThing) (maxL := 1) (ret := (some .boolean)) (by decide) rfl ?_
  intro p e s m args below meth c s₁ B hml hv
  obtain ⟨rfl, hsz, hP, hK, hD0⟩ := hv
  have hx := B.exec
  have hb := B.bytes
  have hr := B.returns
  have hts := atoms_spec (ws := wp_X6_isThing) B.pre
  have hown : s.vm.findClass RX6 = some m.cls := findClass_of_methodNamed B.named
  have hlocks := B.notSynchronized
  subst hsz
  have hD := hD0.self (sz := s.heap.size)
  generalize hAe : va_A [] s.heap.size = A at hD ⊢
  have hA : ∀ q : Nat, s.heap.size ≤ q → A q := fun q h => by rw [← hAe]; exact Or.inr h
  have hS : va_S A s.heap s.heap [] := va_S.rf
  have hP : va_P (dC, dI) vwCl [] s.heap := hP
  have hl := lv_entry ([.int p0]) (n := 1) (Nat.le_of_ble_eq_true rfl)
  rw [lg_entry_eq]
  generalize (lg_sl ([.int p0]) ++ List.replicate (1 - (lg_sl ([.int p0])).length) Slot.unset).toArray = ls at hl ⊢
  have hl : lv_has ls 1 [(0, .int p0)] := hl
  refine lv_iload_n hx hb dX6_isThing_0 rfl (lv_at hl 0 rfl) ?_
  refine lv_if_lt (tgt := 14) hx hb dX6_isThing_1 (by decide) (fun c_1 => ?_) (fun c_1 => ?_)
  · refine lv_iconst (v := 0) hx hb dX6_isThing_14 (by decide) ?_
    have hP9 := hP.sub (ws' := []) [] rfl
    have hD9 := hD.sub (ws' := []) [] (by decide) rfl
    have hK9 := hK.sub (tys' := []) [] rfl
    exact W.zret (v := 0) (ty := .boolean) hx hb hr rfl (fun t ht hW => ⟨⟨0, (), rfl, by simp [c_1], by rw [ht]; exact hP9, va_K.moved hW.alike hK9, hD9⟩, hS.F ht⟩) hS.2.2 dX6_isThing_15
  · refine lv_iload_n hx hb dX6_isThing_4 rfl (lv_at hl 0 rfl) ?_
    refine lv_bipush (v := 40) hx hb dX6_isThing_5 (by decide) ?_
    refine lv_icmp_ge (tgt := 14) hx hb dX6_isThing_7 (by decide) (fun c_2 => ?_) (fun c_2 => ?_)
    · refine lv_iconst (v := 0) hx hb dX6_isThing_14 (by decide) ?_
      have hP9 := hP.sub (ws' := []) [] rfl
      have hD9 := hD.sub (ws' := []) [] (by decide) rfl
      have hK9 := hK.sub (tys' := []) [] rfl
      exact W.zret (v := 0) (ty := .boolean) hx hb hr rfl (fun t ht hW => ⟨⟨0, (), rfl, by simp [c_1, c_2], by rw [ht]; exact hP9, va_K.moved hW.alike hK9, hD9⟩, hS.F ht⟩) hS.2.2 dX6_isThing_15
    · refine lv_iconst (v := 1) hx hb dX6_isThing_10 (by decide) ?_
      refine lv_goto (tgt := 15) hx hb dX6_isThing_11 (by decide) ?_
      have hP9 := hP.sub (ws' := []) [] rfl
      have hD9 := hD.sub (ws' := []) [] (by decide) rfl
      have hK9 := hK.sub (tys' := []) [] rfl
      exact W.zret (v := 1) (ty := .boolean) hx hb hr rfl (fun t ht hW => ⟨⟨1, (), rfl, by simp [c_1, c_2], by rw [ht]; exact hP9, va_K.moved hW.alike hK9, hD9⟩, hS.F ht⟩) hS.2.2 dX6_isThing_15
def wp_X6_countingLines : List Cond := .code yX6_countingLines cX6_countingLines 3 (some .int) :: (([.fieldLink RX6 53 "AgreedTalks" "meetings" "I"] : List Cond) ++ wsX60)
set_option maxRecDepth 20000 in
theorem gi_X6_countingLines : GoodIn lw_tbl wp_X6_countingLines := (goodIn_ca (goodIn_r (.code yX6_countingLines cX6_countingLines 3 (some .int) :: ([.fieldLink RX6 53 "AgreedTalks" "meetings" "I"] : List Cond)) [662, 196] (by decide +kernel) (by decide +kernel)) wi_wsX6)
set_option maxHeartbeats 4000000 in
set_option maxRecDepth 100000 in
/-- countingLines() without a meeting -/
theorem c_X6_countingLines (l : Launch) (dC : Nat → ClassId) (dI : Nat → Nat → Nat) (sz : Nat) (h0 : Nat) (a0 : Nat) (a1 : Nat) (a2 : Nat) (a3 : Nat) (a4 : Nat) (a5 : Nat) (a6 : Nat) (sh : Int32) (fp : Int32) (rf : Int32) : Met l yX6_countingLines wp_X6_countingLines ({ frames := 0, cells := 0, slots := 0, locals := 0 }) (va_Pc [.ref h0] (fun U => U.heap.size = sz ∧ va_P (dC, dI) vwCl [(h0, .inr (7, [.ref a0, .ref a1, .ref a2, .ref a3, .ref a4, .ref a5, .ref a6, .int 0, .int sh, .int fp, .int rf]))] U.heap ∧ va_K (dC, dI) vwCl [] U ∧ va_D (fun _ => True) [(h0, .inr (7, [.ref a0, .ref a1, .ref a2, .ref a3, .ref a4, .ref a5, .ref a6, .int 0, .int sh, .int fp, .int rf]))])) (va_Qi (fun (r : Int32) (_ : Unit) => r = 0) (fun (_ : Unit) (t : State) => va_P (dC, dI) vwCl [(h0, .inr (7, [.ref a0, .ref a1, .ref a2, .ref a3, .ref a4, .ref a5, .ref a6, .int 0, .int sh, .int fp, .int rf]))] t.heap ∧ va_K (dC, dI) vwCl [] t ∧ va_D (va_A [(h0, .inr (7, [.ref a0, .ref a1, .ref a2, .ref a3, .ref a4, .ref a5, .ref a6, .int 0, .int sh, .int fp, .int rf]))] sz) [(h0, .inr (7, [.ref a0, .ref a1, .ref a2, .ref a3, .ref a4, .ref a5, .ref a6, .int 0, .int sh, .int fp, .int rf]))]) (va_A [(h0, .inr (7, [.ref a0, .ref a1, .ref a2, .ref a3, .ref a4, .ref a5, .ref a6, .int 0, .int sh, .int fp, .int rf]))] sz)) 0 0 (va_A [(h0, .inr (7, [.ref a0, .ref a1, .ref a2, .ref a3, .ref a4, .ref a5, .ref a6, .int 0, .int sh, .int fp, .int rf]))] sz) := by
  refine Met.ofW (cc := cX6_countingLines) (maxL := 3) (ret := (some .int)) (by decide) rfl ?_
  intro p e s m args below meth c s₁ B hml hv
  obtain ⟨rfl, hsz, hP, hK, hD0⟩ := hv
  have hx := B.exec
  have hb := B.bytes
  have hr := B.returns
  have hts := atoms_spec (ws := wp_X6_countingLines) B.pre
  have hown : s.vm.findClass RX6 = some m.cls := findClass_of_methodNamed B.named
  have hlocks := B.notSynchronized
  subst hsz
  have hD := hD0.self (sz := s.heap.size)
  generalize hAe : va_A [(h0, .inr (7, [.ref a0, .ref a1, .ref a2, .ref a3, .ref a4, .ref a5, .ref a6, .int 0, .int sh, .int fp, .int rf]))] s.heap.size = A at hD ⊢
  have hA : ∀ q : Nat, s.heap.size ≤ q → A q := fun q h => by rw [← hAe]; exact Or.inr h
  have hS : va_S A s.heap s.heap [] := va_S.rf
  have hP : va_P (dC, dI) vwCl [(h0, .inr (7, [.ref a0, .ref a1, .ref a2, .ref a3, .ref a4, .ref a5, .ref a6, .int 0, .int sh, .int fp, .int rf]))] s.heap := hP
  have hl := lv_entry ([.ref h0]) (n := 3) (Nat.le_of_ble_eq_true rfl)
  rw [lg_entry_eq]
  generalize (lg_sl ([.ref h0]) ++ List.replicate (3 - (lg_sl ([.ref h0])).length) Slot.unset).toArray = ls at hl ⊢
  have hl : lv_has ls 3 [(0, .ref h0)] := hl
  have hinX6 : ∀ w ∈ u_ws RX6 TX6 11, w ∈ wp_X6_countingLines := fun _ h => List.mem_cons_of_mem _ (List.mem_append_right _ h)
  refine lv_iconst (v := 0) hx hb dX6_countingLines_0 (by decide) ?_
  refine lv_istore_n (lv' := [(1, .int 0), (0, .ref h0)]) hx hb dX6_countingLines_1 rfl hl (by decide) rfl (fun ls hl => ?_)
  refine lv_iconst (v := 0) hx hb dX6_countingLines_2 (by decide) ?_
  refine lv_istore_n (lv' := [(2, .int 0), (1, .int 0), (0, .ref h0)]) hx hb dX6_countingLines_3 rfl hl (by decide) rfl (fun ls hl => ?_)
  refine lv_iload_n hx hb dX6_countingLines_4 rfl (lv_at hl 0 rfl) ?_
  refine lv_aload_n hx hb dX6_countingLines_5 rfl (lv_at hl 2 rfl) ?_
  refine va_get (D := (dC, dI)) (ci := 7) (v := .int 0) (C := RX6) (T := TX6) (N := 11) hx hb hts hinX6 hown hK hP 0 rfl rfl 7 (by decide) (hts (.fieldLink RX6 53 "AgreedTalks" "meetings" "I") (by decide +kernel)) (fun _ h9 => h9) rfl dX6_countingLines_6 ?_
  refine lv_icmp_ge (tgt := 56) hx hb dX6_countingLines_9 (by decide) (fun c_1 => ?_) (fun c_1 => ?_)
  · refine lv_iload_n hx hb dX6_countingLines_56 rfl (lv_at hl 1 rfl) ?_
    have hP9 := hP.sub (ws' := [(h0, .inr (7, [.ref a0, .ref a1, .ref a2, .ref a3, .ref a4, .ref a5, .ref a6, .int 0, .int sh, .int fp, .int rf]))]) [0] rfl
    have hD9 := hD.sub (ws' := [(h0, .inr (7, [.ref a0, .ref a1, .ref a2, .ref a3, .ref a4, .ref a5, .ref a6, .int 0, .int sh, .int fp, .int rf]))]) [0] (by decide) rfl
    have hK9 := hK.sub (tys' := []) [] rfl
    exact W.iret (v := 0) hx hb hr (fun t ht hW => ⟨⟨0, (), rfl, rfl, by rw [ht]; exact hP9, va_K.moved hW.alike hK9, hD9⟩, hS.F ht⟩) hS.2.2 dX6_countingLines_57
  · exact absurd c_1 (by decide)
def wp_X6_meeting : List Cond := .code yX6_meeting cX6_meeting 2 (some .int) :: (([.fieldLink RX6 53 "AgreedTalks" "meetings" "I", .fieldLink RX6 9 "AgreedTalks" "days" "[I", .fieldLink RX6 63 "AgreedTalks" "refusal" "I"] : List Cond) ++ wsX60 ++ (wsV RX6 76 RX6 yX6_refuse wp_X6_refuse) ++ (wsV RX6 72 RX6 yX6_lastDay wp_X6_lastDay))
theorem gc_X6_meeting_X6_refuse : GoodIn wp_X6_meeting (wsV RX6 76 RX6 yX6_refuse wp_X6_refuse) := goodIn_sub (fun _ h => List.mem_cons_of_mem _ (List.mem_append_left _ (List.mem_append_right _ h))) (by decide +kernel)
theorem gc_X6_meeting_X6_lastDay : GoodIn wp_X6_meeting (wsV RX6 72 RX6 yX6_lastDay wp_X6_lastDay) := goodIn_sub (fun _ h => List.mem_cons_of_mem _ (List.mem_append_right _ h)) (by decide +kernel)
set_option maxRecDepth 20000 in
theorem gi_X6_meeting : GoodIn lw_tbl wp_X6_meeting := (goodIn_ca (goodIn_ca (goodIn_ca (goodIn_r (.code yX6_meeting cX6_meeting 2 (some .int) :: ([.fieldLink RX6 53 "AgreedTalks" "meetings" "I", .fieldLink RX6 9 "AgreedTalks" "days" "[I", .fieldLink RX6 63 "AgreedTalks" "refusal" "I"] : List Cond)) [226, 196, 189, 199] (by decide +kernel) (by decide +kernel)) wi_wsX6) (goodIn_app (goodIn_r _ [231, 233, 1, 48] (by decide +kernel) (by decide +kernel)) gi_X6_refuse)) (goodIn_app (goodIn_r _ [227, 229, 0, 48] (by decide +kernel) (by decide +kernel)) gi_X6_lastDay))
set_option maxHeartbeats 4000000 in
set_option maxRecDepth 100000 in
/-- meeting on a fresh object -/
theorem c_X6_meeting (l : Launch) (dC : Nat → ClassId) (dI : Nat → Nat → Nat) (sz : Nat) (h0 : Nat) (a0 : Nat) (a1 : Nat) (a2 : Nat) (a3 : Nat) (a4 : Nat) (a5 : Nat) (a6 : Nat) (p0 : Int32) (cA : ClassId) (fa : Nat → Int32) : Met l yX6_meeting wp_X6_meeting ({ frames := 1, cells := 0, slots := 0, locals := 40 }) (va_Pc [.ref h0, .int p0] (fun U => U.heap.size = sz ∧ va_P (dC, dI) vwCl [(h0, .inr (7, [.ref a0, .ref a1, .ref a2, .ref a3, .ref a4, .ref a5, .ref a6, .int 0, .int (-1), .int (-1), .int 0])), (a0, .inl (cA, 30, .inl fa))] U.heap ∧ va_K (dC, dI) vwCl [(cA, .int)] U ∧ va_D (fun _ => True) [(h0, .inr (7, [.ref a0, .ref a1, .ref a2, .ref a3, .ref a4, .ref a5, .ref a6, .int 0, .int (-1), .int (-1), .int 0])), (a0, .inl (cA, 30, .inl fa))])) (va_Qi (fun (r : Int32) (_ : Unit) => r = (if p0 < 0 ∨ 1000 ≤ p0 then (-1) else 0)) (fun (_ : Unit) (t : State) => va_P (dC, dI) vwCl [] t.heap ∧ va_K (dC, dI) vwCl [] t ∧ va_D (va_A [(h0, .inr (7, [.ref a0, .ref a1, .ref a2, .ref a3, .ref a4, .ref a5, .ref a6, .int 0, .int (-1), .int (-1), .int 0])), (a0, .inl (cA, 30, .inl fa))] sz) []) (va_A [(h0, .inr (7, [.ref a0, .ref a1, .ref a2, .ref a3, .ref a4, .ref a5, .ref a6, .int 0, .int (-1), .int (-1), .int 0])), (a0, .inl (cA, 30, .inl fa))] sz)) 0 0 (va_A [(h0, .inr (7, [.ref a0, .ref a1, .ref a2, .ref a3, .ref a4, .ref a5, .ref a6, .int 0, .int (-1), .int (-1), .int 0])), (a0, .inl (cA, 30, .inl fa))] sz) := by
  refine Met.ofW (cc := cX6_meeting) (maxL := 2) (ret := (some .int)) (by decide) rfl ?_
  intro p e s m args below meth c s₁ B hml hv
  obtain ⟨rfl, hsz, hP, hK, hD0⟩ := hv
  have hx := B.exec
  have hb := B.bytes
  have hr := B.returns
  have hts := atoms_spec (ws := wp_X6_meeting) B.pre
  have hown : s.vm.findClass RX6 = some m.cls := findClass_of_methodNamed B.named
  have hlocks := B.notSynchronized
  subst hsz
  have hD := hD0.self (sz := s.heap.size)
  generalize hAe : va_A [(h0, .inr (7, [.ref a0, .ref a1, .ref a2, .ref a3, .ref a4, .ref a5, .ref a6, .int 0, .int (-1), .int (-1), .int 0])), (a0, .inl (cA, 30, .inl fa))] s.heap.size = A at hD ⊢
  have hA : ∀ q : Nat, s.heap.size ≤ q → A q := fun q h => by rw [← hAe]; exact Or.inr h
  have hS : va_S A s.heap s.heap [] := va_S.rf
  have hP : va_P (dC, dI) vwCl [(h0, .inr (7, [.ref a0, .ref a1, .ref a2, .ref a3, .ref a4, .ref a5, .ref a6, .int 0, .int (-1), .int (-1), .int 0])), (a0, .inl (cA, 30, .inl fa))] s.heap := hP
  have hl := lv_entry ([.ref h0, .int p0]) (n := 2) (Nat.le_of_ble_eq_true rfl)
  rw [lg_entry_eq]
  generalize (lg_sl ([.ref h0, .int p0]) ++ List.replicate (2 - (lg_sl ([.ref h0, .int p0])).length) Slot.unset).toArray = ls at hl ⊢
  have hl : lv_has ls 2 [(0, .ref h0), (1, .int p0)] := hl
  have hinX6 : ∀ w ∈ u_ws RX6 TX6 11, w ∈ wp_X6_meeting := fun _ h => List.mem_cons_of_mem _ (List.mem_append_left _ (List.mem_append_left _ (List.mem_append_right _ h)))
  refine lv_iload_n hx hb dX6_meeting_0 rfl (lv_at hl 1 rfl) ?_
  refine lv_if_lt (tgt := 19) hx hb dX6_meeting_1 (by decide) (fun c_1 => ?_) (fun c_1 => ?_)
  · refine lv_aload_n hx hb dX6_meeting_19 rfl (lv_at hl 0 rfl) ?_
    refine lv_iconst (v := (-1)) hx hb dX6_meeting_20 (by decide) ?_
    have hPc := hP.sub (ws' := [(h0, .inr (7, [.ref a0, .ref a1, .ref a2, .ref a3, .ref a4, .ref a5, .ref a6, .int 0, .int (-1), .int (-1), .int 0]))]) [0] rfl
    have hDc := hD.sub (ws' := [(h0, .inr (7, [.ref a0, .ref a1, .ref a2, .ref a3, .ref a4, .ref a5, .ref a6, .int 0, .int (-1), .int (-1), .int 0]))]) [0] (by decide) rfl
    have hKc := hK.sub (tys' := []) [] rfl
    have hFc := va_free (wc := [(h0, .inr (7, [.ref a0, .ref a1, .ref a2, .ref a3, .ref a4, .ref a5, .ref a6, .int 0, .int (-1), .int (-1), .int 0]))]) hD hS hA [0] rfl
    refine va_calli (va_runV (As := [.int (-1)]) (rest := []) ⟨hx, hb, hml, hown, hts⟩ (c_X6_refuse l dC dI _ h0 a0 a1 a2 a3 a4 a5 a6 0 (-1) (-1) 0 (-1)) (cwV 1 hts gc_X6_meeting_X6_refuse rfl rfl rfl (by decide +kernel) ⟨Nat.le_of_ble_eq_true rfl, Nat.le_of_ble_eq_true rfl⟩) ⟨fun a U g mk q => by obtain ⟨q0, q1, qP, qK, qD⟩ := q; exact ⟨q0, q1, qP, va_K.moved (u := U) (U := U.calling g mk a) (Vm.Alike.refl U.vm) qK, qD⟩, va_recv hKc hPc (ci := 7) (q0 := 0) rfl rfl, fun U hU hW => ⟨rfl, by rw [hU], by rw [hU]; exact hPc, va_K.moved hW.alike hKc, hDc.weaken (fun _ _ _ _ => trivial)⟩⟩ rfl rfl hl.1 rfl (lv_room (Nat.le_of_ble_eq_true rfl)) dX6_meeting_21 ⟨Nat.zero_le _, Nat.zero_le _⟩) hS (fun q _ h => hFc q h) hFc (fun r_2 u t H1 locs ht hvm hw hB hz1 hk1 hS => ?_)
    obtain ⟨hP1, hK1, hD1⟩ := hB
    rw [ht] at hP1
    obtain ⟨hP, hD⟩ := va_join (wr := [(a0, .inl (cA, 30, .inl fa))]) (w1 := [(h0, .inr (7, [.ref a0, .ref a1, .ref a2, .ref a3, .ref a4, .ref a5, .ref a6, .int 0, .int (-1), .int (-1), .int (-1)]))]) hP hD [0] [1] rfl rfl (by decide) (by decide) hk1 hFc hP1 hD1
    generalize H1 = H at hP hS ⊢
    have hP : va_P (dC, dI) vwCl [(a0, .inl (cA, 30, .inl fa)), (h0, .inr (7, [.ref a0, .ref a1, .ref a2, .ref a3, .ref a4, .ref a5, .ref a6, .int 0, .int (-1), .int (-1), .int (-1)]))] H := hP
    have hD : va_D A [(a0, .inl (cA, 30, .inl fa)), (h0, .inr (7, [.ref a0, .ref a1, .ref a2, .ref a3, .ref a4, .ref a5, .ref a6, .int 0, .int (-1), .int (-1), .int (-1)]))] := hD
    obtain rfl : r_2 = (-1) := hw
    have hP9 := hP.sub (ws' := []) [] rfl
    have hD9 := hD.sub (ws' := []) [] (by decide) rfl
    have hK9 := hK.sub (tys' := []) [] rfl
    exact W.iret (v := (-1)) hx hb hr (fun t ht hW => ⟨⟨(-1), (), rfl, by simp [c_1], by rw [ht]; exact hP9, va_K.moved hW.alike hK9, hD9⟩, hS.F ht⟩) hS.2.2 dX6_meeting_24
  · refine lv_iload_n hx hb dX6_meeting_4 rfl (lv_at hl 1 rfl) ?_
    refine lv_sipush (v := 1000) hx hb dX6_meeting_5 (by decide) ?_
    refine lv_icmp_ge (tgt := 19) hx hb dX6_meeting_8 (by decide) (fun c_3 => ?_) (fun c_3 => ?_)
    · refine lv_aload_n hx hb dX6_meeting_19 rfl (lv_at hl 0 rfl) ?_
      refine lv_iconst (v := (-1)) hx hb dX6_meeting_20 (by decide) ?_
      have hPc := hP.sub (ws' := [(h0, .inr (7, [.ref a0, .ref a1, .ref a2, .ref a3, .ref a4, .ref a5, .ref a6, .int 0, .int (-1), .int (-1), .int 0]))]) [0] rfl
      have hDc := hD.sub (ws' := [(h0, .inr (7, [.ref a0, .ref a1, .ref a2, .ref a3, .ref a4, .ref a5, .ref a6, .int 0, .int (-1), .int (-1), .int 0]))]) [0] (by decide) rfl
      have hKc := hK.sub (tys' := []) [] rfl
      have hFc := va_free (wc := [(h0, .inr (7, [.ref a0, .ref a1, .ref a2, .ref a3, .ref a4, .ref a5, .ref a6, .int 0, .int (-1), .int (-1), .int 0]))]) hD hS hA [0] rfl
      refine va_calli (va_runV (As := [.int (-1)]) (rest := []) ⟨hx, hb, hml, hown, hts⟩ (c_X6_refuse l dC dI _ h0 a0 a1 a2 a3 a4 a5 a6 0 (-1) (-1) 0 (-1)) (cwV 1 hts gc_X6_meeting_X6_refuse rfl rfl rfl (by decide +kernel) ⟨Nat.le_of_ble_eq_true rfl, Nat.le_of_ble_eq_true rfl⟩) ⟨fun a U g mk q => by obtain ⟨q0, q1, qP, qK, qD⟩ := q; exact ⟨q0, q1, qP, va_K.moved (u := U) (U := U.calling g mk a) (Vm.Alike.refl U.vm) qK, qD⟩, va_recv hKc hPc (ci := 7) (q0 := 0) rfl rfl, fun U hU hW => ⟨rfl, by rw [hU], by rw [hU]; exact hPc, va_K.moved hW.alike hKc, hDc.weaken (fun _ _ _ _ => trivial)⟩⟩ rfl rfl hl.1 rfl (lv_room (Nat.le_of_ble_eq_true rfl)) dX6_meeting_21 ⟨Nat.zero_le _, Nat.zero_le _⟩) hS (fun q _ h => hFc q h) hFc (fun r_4 u t H1 locs ht hvm hw hB hz1 hk1 hS => ?_)
      obtain ⟨hP1, hK1, hD1⟩ := hB
      rw [ht] at hP1
      obtain ⟨hP, hD⟩ := va_join (wr := [(a0, .inl (cA, 30, .inl fa))]) (w1 := [(h0, .inr (7, [.ref a0, .ref a1, .ref a2, .ref a3, .ref a4, .ref a5, .ref a6, .int 0, .int (-1), .int (-1), .int (-1)]))]) hP hD [0] [1] rfl rfl (by decide) (by decide) hk1 hFc hP1 hD1
      generalize H1 = H at hP hS ⊢
      have hP : va_P (dC, dI) vwCl [(a0, .inl (cA, 30, .inl fa)), (h0, .inr (7, [.ref a0, .ref a1, .ref a2, .ref a3, .ref a4, .ref a5, .ref a6, .int 0, .int (-1), .int (-1), .int (-1)]))] H := hP
      have hD : va_D A [(a0, .inl (cA, 30, .inl fa)), (h0, .inr (7, [.ref a0, .ref a1, .ref a2, .ref a3, .ref a4, .ref a5, .ref a6, .int 0, .int (-1), .int (-1), .int (-1)]))] := hD
      obtain rfl : r_4 = (-1) := hw
      have hP9 := hP.sub (ws' := []) [] rfl
      have hD9 := hD.sub (ws' := []) [] (by decide) rfl
      have hK9 := hK.sub (tys' := []) [] rfl
      exact W.iret (v := (-1)) hx hb hr (fun t ht hW => ⟨⟨(-1), (), rfl, by simp [c_1, c_3], by rw [ht]; exact hP9, va_K.moved hW.alike hK9, hD9⟩, hS.F ht⟩) hS.2.2 dX6_meeting_24
    · refine lv_iload_n hx hb dX6_meeting_11 rfl (lv_at hl 1 rfl) ?_
      refine lv_aload_n hx hb dX6_meeting_12 rfl (lv_at hl 0 rfl) ?_
      have hPc := hP.sub (ws' := [(h0, .inr (7, [.ref a0, .ref a1, .ref a2, .ref a3, .ref a4, .ref a5, .ref a6, .int 0, .int (-1), .int (-1), .int 0]))]) [0] rfl
      have hDc := hD.sub (ws' := [(h0, .inr (7, [.ref a0, .ref a1, .ref a2, .ref a3, .ref a4, .ref a5, .ref a6, .int 0, .int (-1), .int (-1), .int 0]))]) [0] (by decide) rfl
      have hKc := hK.sub (tys' := []) [] rfl
      have hFc := va_free (wc := [(h0, .inr (7, [.ref a0, .ref a1, .ref a2, .ref a3, .ref a4, .ref a5, .ref a6, .int 0, .int (-1), .int (-1), .int 0]))]) hD hS hA [0] rfl
      refine va_calli (va_runV (As := []) (rest := [.int p0]) ⟨hx, hb, hml, hown, hts⟩ (c_X6_lastDay l dC dI _ h0 a0 a1 a2 a3 a4 a5 a6 (-1) (-1) 0) (cwV 0 hts gc_X6_meeting_X6_lastDay rfl rfl rfl (by decide +kernel) ⟨Nat.le_of_ble_eq_true rfl, Nat.le_of_ble_eq_true rfl⟩) ⟨fun a U g mk q => by obtain ⟨q0, q1, qP, qK, qD⟩ := q; exact ⟨q0, q1, qP, va_K.moved (u := U) (U := U.calling g mk a) (Vm.Alike.refl U.vm) qK, qD⟩, va_recv hKc hPc (ci := 7) (q0 := 0) rfl rfl, fun U hU hW => ⟨rfl, by rw [hU], by rw [hU]; exact hPc, va_K.moved hW.alike hKc, hDc.weaken (fun _ _ _ _ => trivial)⟩⟩ rfl rfl hl.1 rfl (lv_room (Nat.le_of_ble_eq_true rfl)) dX6_meeting_13 ⟨Nat.zero_le _, Nat.zero_le _⟩) hS (fun q _ h => hFc q h) hFc (fun r_5 u t H1 locs ht hvm hw hB hz1 hk1 hS => ?_)
      obtain ⟨hP1, hK1, hD1⟩ := hB
      rw [ht] at hP1
      obtain ⟨hP, hD⟩ := va_join (wr := [(a0, .inl (cA, 30, .inl fa))]) (w1 := [(h0, .inr (7, [.ref a0, .ref a1, .ref a2, .ref a3, .ref a4, .ref a5, .ref a6, .int 0, .int (-1), .int (-1), .int 0]))]) hP hD [0] [1] rfl rfl (by decide) (by decide) hk1 hFc hP1 hD1
      generalize H1 = H at hP hS ⊢
      have hP : va_P (dC, dI) vwCl [(a0, .inl (cA, 30, .inl fa)), (h0, .inr (7, [.ref a0, .ref a1, .ref a2, .ref a3, .ref a4, .ref a5, .ref a6, .int 0, .int (-1), .int (-1), .int 0]))] H := hP
      have hD : va_D A [(a0, .inl (cA, 30, .inl fa)), (h0, .inr (7, [.ref a0, .ref a1, .ref a2, .ref a3, .ref a4, .ref a5, .ref a6, .int 0, .int (-1), .int (-1), .int 0]))] := hD
      obtain rfl : r_5 = 0 := hw
      refine lv_icmp_ge (tgt := 25) hx hb dX6_meeting_16 (by decide) (fun c_6 => ?_) (fun c_6 => ?_)
      · refine lv_aload_n hx hb dX6_meeting_25 rfl (lv_at hl 0 rfl) ?_
        refine va_get (D := (dC, dI)) (ci := 7) (v := .int 0) (C := RX6) (T := TX6) (N := 11) hx hb hts hinX6 hown hK hP 1 rfl rfl 7 (by decide) (hts (.fieldLink RX6 53 "AgreedTalks" "meetings" "I") (by decide +kernel)) (fun _ h9 => h9) rfl dX6_meeting_26 ?_
        refine lv_bipush (v := 30) hx hb dX6_meeting_29 (by decide) ?_
        refine lv_icmp_lt (tgt := 41) hx hb dX6_meeting_31 (by decide) (fun c_7 => ?_) (fun c_7 => ?_)
        · refine lv_aload_n hx hb dX6_meeting_41 rfl (lv_at hl 0 rfl) ?_
          refine va_get (D := (dC, dI)) (ci := 7) (v := .ref a0) (C := RX6) (T := TX6) (N := 11) hx hb hts hinX6 hown hK hP 1 rfl rfl 0 (by decide) (hts (.fieldLink RX6 9 "AgreedTalks" "days" "[I") (by decide +kernel)) (fun _ h9 => h9) rfl dX6_meeting_42 ?_
          refine lv_aload_n hx hb dX6_meeting_45 rfl (lv_at hl 0 rfl) ?_
          refine va_get (D := (dC, dI)) (ci := 7) (v := .int 0) (C := RX6) (T := TX6) (N := 11) hx hb hts hinX6 hown hK hP 1 rfl rfl 7 (by decide) (hts (.fieldLink RX6 53 "AgreedTalks" "meetings" "I") (by decide +kernel)) (fun _ h9 => h9) rfl dX6_meeting_46 ?_
          refine lv_iload_n hx hb dX6_meeting_49 rfl (lv_at hl 1 rfl) ?_
          refine va_iast hx hb hK hP hD hS 0 0 rfl rfl (show vp_in (nI 0) 30 from vp_in_nI (by decide) (by decide)) dX6_meeting_50 (fun H locs hP hD hS => ?_)
          have hP : va_P (dC, dI) vwCl [(a0, .inl (cA, 30, .inl (upd fa (Int32.toNatClampNeg 0) p0))), (h0, .inr (7, [.ref a0, .ref a1, .ref a2, .ref a3, .ref a4, .ref a5, .ref a6, .int 0, .int (-1), .int (-1), .int 0]))] H := hP
          have hD : va_D A [(a0, .inl (cA, 30, .inl (upd fa (Int32.toNatClampNeg 0) p0))), (h0, .inr (7, [.ref a0, .ref a1, .ref a2, .ref a3, .ref a4, .ref a5, .ref a6, .int 0, .int (-1), .int (-1), .int 0]))] := hD
          generalize ef_8 : upd fa (Int32.toNatClampNeg 0) p0 = f_8 at hP hD
          refine lv_aload_n hx hb dX6_meeting_51 rfl (lv_at hl 0 rfl) ?_
          refine lv_dup hx hb dX6_meeting_52 rfl ?_
          refine va_get (D := (dC, dI)) (ci := 7) (v := .int 0) (C := RX6) (T := TX6) (N := 11) hx hb hts hinX6 hown hK hP 1 rfl rfl 7 (by decide) (hts (.fieldLink RX6 53 "AgreedTalks" "meetings" "I") (by decide +kernel)) (fun _ h9 => h9) rfl dX6_meeting_53 ?_
          refine lv_iconst (v := 1) hx hb dX6_meeting_56 (by decide) ?_
          refine lv_iadd hx hb dX6_meeting_57 ?_
          refine lv_topi (fun x_9 ex_9 => ?_)
          obtain rfl : x_9 = 1 := by rw [ex_9]; decide
          refine va_put (D := (dC, dI)) (ci := 7) (v := .int 1) (ty := .int) (C := RX6) (T := TX6) (N := 11) hx hb hts hinX6 tyX6 tyX6_ok nmX6 hown hK hP hD hS 1 rfl rfl 7 (by decide) (hts (.fieldLink RX6 53 "AgreedTalks" "meetings" "I") (by decide +kernel)) (fun _ h9 => h9) rfl (by decide +kernel) rfl rfl (Nat.le_of_ble_eq_true rfl) dX6_meeting_58 (fun H locs hP hD hS => ?_)
          have hP : va_P (dC, dI) vwCl [(a0, .inl (cA, 30, .inl f_8)), (h0, .inr (7, [.ref a0, .ref a1, .ref a2, .ref a3, .ref a4, .ref a5, .ref a6, .int 1, .int (-1), .int (-1), .int 0]))] H := hP
          have hD : va_D A [(a0, .inl (cA, 30, .inl f_8)), (h0, .inr (7, [.ref a0, .ref a1, .ref a2, .ref a3, .ref a4, .ref a5, .ref a6, .int 1, .int (-1), .int (-1), .int 0]))] := hD
          refine lv_aload_n hx hb dX6_meeting_61 rfl (lv_at hl 0 rfl) ?_
          refine lv_iconst (v := 0) hx hb dX6_meeting_62 (by decide) ?_
          refine va_put (D := (dC, dI)) (ci := 7) (v := .int 0) (ty := .int) (C := RX6) (T := TX6) (N := 11) hx hb hts hinX6 tyX6 tyX6_ok nmX6 hown hK hP hD hS 1 rfl rfl 10 (by decide) (hts (.fieldLink RX6 63 "AgreedTalks" "refusal" "I") (by decide +kernel)) (fun _ h9 => h9) rfl (by decide +kernel) rfl rfl (Nat.le_of_ble_eq_true rfl) dX6_meeting_63 (fun H locs hP hD hS => ?_)
          have hP : va_P (dC, dI) vwCl [(a0, .inl (cA, 30, .inl f_8)), (h0, .inr (7, [.ref a0, .ref a1, .ref a2, .ref a3, .ref a4, .ref a5, .ref a6, .int 1, .int (-1), .int (-1), .int 0]))] H := hP
          have hD : va_D A [(a0, .inl (cA, 30, .inl f_8)), (h0, .inr (7, [.ref a0, .ref a1, .ref a2, .ref a3, .ref a4, .ref a5, .ref a6, .int 1, .int (-1), .int (-1), .int 0]))] := hD
          refine lv_aload_n hx hb dX6_meeting_66 rfl (lv_at hl 0 rfl) ?_
          refine va_get (D := (dC, dI)) (ci := 7) (v := .int 1) (C := RX6) (T := TX6) (N := 11) hx hb hts hinX6 hown hK hP 1 rfl rfl 7 (by decide) (hts (.fieldLink RX6 53 "AgreedTalks" "meetings" "I") (by decide +kernel)) (fun _ h9 => h9) rfl dX6_meeting_67 ?_
          refine lv_iconst (v := 1) hx hb dX6_meeting_70 (by decide) ?_
          refine lv_isub hx hb dX6_meeting_71 ?_
          refine lv_topi (fun x_10 ex_10 => ?_)
          obtain rfl : x_10 = 0 := by rw [ex_10]; decide
          have hP9 := hP.sub (ws' := []) [] rfl
          have hD9 := hD.sub (ws' := []) [] (by decide) rfl
          have hK9 := hK.sub (tys' := []) [] rfl
          exact W.iret (v := 0) hx hb hr (fun t ht hW => ⟨⟨0, (), rfl, by simp [c_1, c_3, c_6], by rw [ht]; exact hP9, va_K.moved hW.alike hK9, hD9⟩, hS.F ht⟩) hS.2.2 dX6_meeting_72
        · exact absurd c_7 (by decide)
      · exact absurd (Int32.not_lt.mp c_1) c_6
def wp_X6_feed : List Cond := .code yX6_feed cX6_feed 6 (some .int) :: (([.fieldLink RX6 26 "AgreedTalks" "tape" "LAgreedTalks$Tape;", .fieldLink RX6 80 "AgreedTalks$Tape" "length" "I"] : List Cond) ++ wsX60 ++ wsX50 ++ (wsV RX6 83 RX5 yX5_append wp_append))
theorem gc_X6_feed_append : GoodIn wp_X6_feed (wsV RX6 83 RX5 yX5_append wp_append) := goodIn_sub (fun _ h => List.mem_cons_of_mem _ (List.mem_append_right _ h)) (by decide +kernel)
set_option maxRecDepth 20000 in
theorem gi_X6_feed : GoodIn lw_tbl wp_X6_feed := (goodIn_ca (goodIn_ca (goodIn_ca (goodIn_r (.code yX6_feed cX6_feed 6 (some .int) :: ([.fieldLink RX6 26 "AgreedTalks" "tape" "LAgreedTalks$Tape;", .fieldLink RX6 80 "AgreedTalks$Tape" "length" "I"] : List Cond)) [238, 192, 113] (by decide +kernel) (by decide +kernel)) wi_wsX6) wi_wsX5) (goodIn_app (goodIn_r _ [239, 240, 241, 52] (by decide +kernel) (by decide +kernel)) gi_append))
set_option maxHeartbeats 4000000 in
set_option maxRecDepth 100000 in
/-- feed on a fresh object -/
theorem c_X6_feed (l : Launch) (dC : Nat → ClassId) (dI : Nat → Nat → Nat) (sz : Nat) (h0 : Nat) (a0 : Nat) (a1 : Nat) (a2 : Nat) (a3 : Nat) (a4 : Nat) (a5 : Nat) (a6 : Nat) (p0 : Int32) (p1 : Int32) (p2 : Int32) (p3 : Int32) (p4 : Int32) (ab : Nat) (cB : ClassId) (fb : Nat → Int32) : Met l yX6_feed wp_X6_feed ({ frames := 1, cells := 0, slots := 0, locals := 40 }) (va_Pc [.ref h0, .int p0, .int p1, .int p2, .int p3, .int p4] (fun U => U.heap.size = sz ∧ va_P (dC, dI) vwCl [(h0, .inr (7, [.ref a0, .ref a1, .ref a2, .ref a3, .ref a4, .ref a5, .ref a6, .int 0, .int (-1), .int (-1), .int 0])), (a3, .inr (6, [.ref ab, .int 0])), (ab, .inl (cB, 300, .inl fb))] U.heap ∧ va_K (dC, dI) vwCl [(cB, .int)] U ∧ va_D (fun _ => True) [(h0, .inr (7, [.ref a0, .ref a1, .ref a2, .ref a3, .ref a4, .ref a5, .ref a6, .int 0, .int (-1), .int (-1), .int 0])), (a3, .inr (6, [.ref ab, .int 0])), (ab, .inl (cB, 300, .inl fb))])) (va_Qi (fun (r : Int32) (_ : Unit) => r = 20) (fun (_ : Unit) (t : State) => va_P (dC, dI) vwCl [] t.heap ∧ va_K (dC, dI) vwCl [] t ∧ va_D (va_A [(h0, .inr (7, [.ref a0, .ref a1, .ref a2, .ref a3, .ref a4, .ref a5, .ref a6, .int 0, .int (-1), .int (-1), .int 0])), (a3, .inr (6, [.ref ab, .int 0])), (ab, .inl (cB, 300, .inl fb))] sz) []) (va_A [(h0, .inr (7, [.ref a0, .ref a1, .ref a2, .ref a3, .ref a4, .ref a5, .ref a6, .int 0, .int (-1), .int (-1), .int 0])), (a3, .inr (6, [.ref ab, .int 0])), (ab, .inl (cB, 300, .inl fb))] sz)) 0 0 (va_A [(h0, .inr (7, [.ref a0, .ref a1, .ref a2, .ref a3, .ref a4, .ref a5, .ref a6, .int 0, .int (-1), .int (-1), .int 0])), (a3, .inr (6, [.ref ab, .int 0])), (ab, .inl (cB, 300, .inl fb))] sz) := by
  refine Met.ofW (cc := cX6_feed) (maxL := 6) (ret := (some .int)) (by decide) rfl ?_
  intro p e s m args below meth c s₁ B hml hv
  obtain ⟨rfl, hsz, hP, hK, hD0⟩ := hv
  have hx := B.exec
  have hb := B.bytes
  have hr := B.returns
  have hts := atoms_spec (ws := wp_X6_feed) B.pre
  have hown : s.vm.findClass RX6 = some m.cls := findClass_of_methodNamed B.named
  have hlocks := B.notSynchronized
  subst hsz
  have hD := hD0.self (sz := s.heap.size)
  generalize hAe : va_A [(h0, .inr (7, [.ref a0, .ref a1, .ref a2, .ref a3, .ref a4, .ref a5, .ref a6, .int 0, .int (-1), .int (-1), .int 0])), (a3, .inr (6, [.ref ab, .int 0])), (ab, .inl (cB, 300, .inl fb))] s.heap.size = A at hD ⊢
  have hA : ∀ q : Nat, s.heap.size ≤ q → A q := fun q h => by rw [← hAe]; exact Or.inr h
  have hS : va_S A s.heap s.heap [] := va_S.rf
  have hP : va_P (dC, dI) vwCl [(h0, .inr (7, [.ref a0, .ref a1, .ref a2, .ref a3, .ref a4, .ref a5, .ref a6, .int 0, .int (-1), .int (-1), .int 0])), (a3, .inr (6, [.ref ab, .int 0])), (ab, .inl (cB, 300, .inl fb))] s.heap := hP
  have hl := lv_entry ([.ref h0, .int p0, .int p1, .int p2, .int p3, .int p4]) (n := 6) (Nat.le_of_ble_eq_true rfl)
  rw [lg_entry_eq]
  generalize (lg_sl ([.ref h0, .int p0, .int p1, .int p2, .int p3, .int p4]) ++ List.replicate (6 - (lg_sl ([.ref h0, .int p0, .int p1, .int p2, .int p3, .int p4])).length) Slot.unset).toArray = ls at hl ⊢
  have hl : lv_has ls 6 [(0, .ref h0), (1, .int p0), (2, .int p1), (3, .int p2), (4, .int p3), (5, .int p4)] := hl
  have hinX6 : ∀ w ∈ u_ws RX6 TX6 11, w ∈ wp_X6_feed := fun _ h => List.mem_cons_of_mem _ (List.mem_append_left _ (List.mem_append_left _ (List.mem_append_right _ h)))
  have hinX5 : ∀ w ∈ u_ws RX5 TX5 2, w ∈ wp_X6_feed := fun _ h => List.mem_cons_of_mem _ (List.mem_append_left _ (List.mem_append_right _ h))
  refine lv_aload_n hx hb dX6_feed_0 rfl (lv_at hl 0 rfl) ?_
  refine va_get (D := (dC, dI)) (ci := 7) (v := .ref a3) (C := RX6) (T := TX6) (N := 11) hx hb hts hinX6 hown hK hP 0 rfl rfl 3 (by decide) (hts (.fieldLink RX6 26 "AgreedTalks" "tape" "LAgreedTalks$Tape;") (by decide +kernel)) (fun _ h9 => h9) rfl dX6_feed_1 ?_
  refine va_get (D := (dC, dI)) (ci := 6) (v := .int 0) (C := RX5) (T := TX5) (N := 2) hx hb hts hinX5 hown hK hP 1 rfl rfl 1 (by decide) (hts (.fieldLink RX6 80 "AgreedTalks$Tape" "length" "I") (by decide +kernel)) (fun _ h9 => h9) rfl dX6_feed_4 ?_
  refine lv_bipush (v := 20) hx hb dX6_feed_7 (by decide) ?_
  refine lv_iadd hx hb dX6_feed_9 ?_
  refine lv_topi (fun x_1 ex_1 => ?_)
  obtain rfl : x_1 = 20 := by rw [ex_1]; decide
  refine lv_sipush (v := 300) hx hb dX6_feed_10 (by decide) ?_
  refine lv_icmp_le (tgt := 18) hx hb dX6_feed_13 (by decide) (fun c_2 => ?_) (fun c_2 => ?_)
  · refine lv_aload_n hx hb dX6_feed_18 rfl (lv_at hl 0 rfl) ?_
    refine va_get (D := (dC, dI)) (ci := 7) (v := .ref a3) (C := RX6) (T := TX6) (N := 11) hx hb hts hinX6 hown hK hP 0 rfl rfl 3 (by decide) (hts (.fieldLink RX6 26 "AgreedTalks" "tape" "LAgreedTalks$Tape;") (by decide +kernel)) (fun _ h9 => h9) rfl dX6_feed_19 ?_
    refine lv_iload_n hx hb dX6_feed_22 rfl (lv_at hl 1 rfl) ?_
    have hPc := hP.sub (ws' := [(a3, .inr (6, [.ref ab, .int 0])), (ab, .inl (cB, 300, .inl fb))]) [1, 2] rfl
    have hDc := hD.sub (ws' := [(a3, .inr (6, [.ref ab, .int 0])), (ab, .inl (cB, 300, .inl fb))]) [1, 2] (by decide) rfl
    have hKc := hK.sub (tys' := [(cB, .int)]) [0] rfl
    have hFc := va_free (wc := [(a3, .inr (6, [.ref ab, .int 0])), (ab, .inl (cB, 300, .inl fb))]) hD hS hA [1, 2] rfl
    refine va_callv (va_runV (As := [.int p0]) (rest := []) ⟨hx, hb, hml, hown, hts⟩ (c_append l dC dI _ a3 ab 0 p0 cB fb (by decide)) (cwV 1 hts gc_X6_feed_append rfl rfl rfl (by decide +kernel) ⟨Nat.le_of_ble_eq_true rfl, Nat.le_of_ble_eq_true rfl⟩) ⟨fun a U g mk q => by obtain ⟨q0, q1, qP, qK, qD⟩ := q; exact ⟨q0, q1, qP, va_K.moved (u := U) (U := U.calling g mk a) (Vm.Alike.refl U.vm) qK, qD⟩, va_recv hKc hPc (ci := 6) (q0 := 0) rfl rfl, fun U hU hW => ⟨rfl, by rw [hU], by rw [hU]; exact hPc, va_K.moved hW.alike hKc, hDc.weaken (fun _ _ _ _ => trivial)⟩⟩ rfl rfl hl.1 rfl (lv_room (Nat.le_of_ble_eq_true rfl)) dX6_feed_23 ⟨Nat.zero_le _, Nat.zero_le _⟩) hS (fun q _ h => hFc q h) hFc (fun u t H1 locs ht hvm hw hB hz1 hk1 hS => ?_)
    obtain ⟨gb_3, hP1, hK1, hD1⟩ := hB
    rw [ht] at hP1
    obtain ⟨hP, hD⟩ := va_join (wr := [(h0, .inr (7, [.ref a0, .ref a1, .ref a2, .ref a3, .ref a4, .ref a5, .ref a6, .int 0, .int (-1), .int (-1), .int 0]))]) (w1 := [(a3, .inr (6, [.ref ab, .int 4])), (ab, .inl (cB, 300, .inl gb_3))]) hP hD [1, 2] [0] rfl rfl (by decide) (by decide) hk1 hFc hP1 hD1
    generalize H1 = H at hP hS ⊢
    have hP : va_P (dC, dI) vwCl [(h0, .inr (7, [.ref a0, .ref a1, .ref a2, .ref a3, .ref a4, .ref a5, .ref a6, .int 0, .int (-1), .int (-1), .int 0])), (a3, .inr (6, [.ref ab, .int 4])), (ab, .inl (cB, 300, .inl gb_3))] H := hP
    have hD : va_D A [(h0, .inr (7, [.ref a0, .ref a1, .ref a2, .ref a3, .ref a4, .ref a5, .ref a6, .int 0, .int (-1), .int (-1), .int 0])), (a3, .inr (6, [.ref ab, .int 4])), (ab, .inl (cB, 300, .inl gb_3))] := hD
    refine lv_aload_n hx hb dX6_feed_26 rfl (lv_at hl 0 rfl) ?_
    refine va_get (D := (dC, dI)) (ci := 7) (v := .ref a3) (C := RX6) (T := TX6) (N := 11) hx hb hts hinX6 hown hK hP 0 rfl rfl 3 (by decide) (hts (.fieldLink RX6 26 "AgreedTalks" "tape" "LAgreedTalks$Tape;") (by decide +kernel)) (fun _ h9 => h9) rfl dX6_feed_27 ?_
    refine lv_iload_n hx hb dX6_feed_30 rfl (lv_at hl 2 rfl) ?_
    have hPc := hP.sub (ws' := [(a3, .inr (6, [.ref ab, .int 4])), (ab, .inl (cB, 300, .inl gb_3))]) [1, 2] rfl
    have hDc := hD.sub (ws' := [(a3, .inr (6, [.ref ab, .int 4])), (ab, .inl (cB, 300, .inl gb_3))]) [1, 2] (by decide) rfl
    have hKc := hK.sub (tys' := [(cB, .int)]) [0] rfl
    have hFc := va_free (wc := [(a3, .inr (6, [.ref ab, .int 4])), (ab, .inl (cB, 300, .inl gb_3))]) hD hS hA [1, 2] rfl
    refine va_callv (va_runV (As := [.int p1]) (rest := []) ⟨hx, hb, hml, hown, hts⟩ (c_append l dC dI _ a3 ab 4 p1 cB gb_3 (by decide)) (cwV 1 hts gc_X6_feed_append rfl rfl rfl (by decide +kernel) ⟨Nat.le_of_ble_eq_true rfl, Nat.le_of_ble_eq_true rfl⟩) ⟨fun a U g mk q => by obtain ⟨q0, q1, qP, qK, qD⟩ := q; exact ⟨q0, q1, qP, va_K.moved (u := U) (U := U.calling g mk a) (Vm.Alike.refl U.vm) qK, qD⟩, va_recv hKc hPc (ci := 6) (q0 := 0) rfl rfl, fun U hU hW => ⟨rfl, by rw [hU], by rw [hU]; exact hPc, va_K.moved hW.alike hKc, hDc.weaken (fun _ _ _ _ => trivial)⟩⟩ rfl rfl hl.1 rfl (lv_room (Nat.le_of_ble_eq_true rfl)) dX6_feed_31 ⟨Nat.zero_le _, Nat.zero_le _⟩) hS (fun q _ h => hFc q h) hFc (fun u t H1 locs ht hvm hw hB hz1 hk1 hS => ?_)
    obtain ⟨gb_4, hP1, hK1, hD1⟩ := hB
    rw [ht] at hP1
    obtain ⟨hP, hD⟩ := va_join (wr := [(h0, .inr (7, [.ref a0, .ref a1, .ref a2, .ref a3, .ref a4, .ref a5, .ref a6, .int 0, .int (-1), .int (-1), .int 0]))]) (w1 := [(a3, .inr (6, [.ref ab, .int 8])), (ab, .inl (cB, 300, .inl gb_4))]) hP hD [1, 2] [0] rfl rfl (by decide) (by decide) hk1 hFc hP1 hD1
    generalize H1 = H at hP hS ⊢
    have hP : va_P (dC, dI) vwCl [(h0, .inr (7, [.ref a0, .ref a1, .ref a2, .ref a3, .ref a4, .ref a5, .ref a6, .int 0, .int (-1), .int (-1), .int 0])), (a3, .inr (6, [.ref ab, .int 8])), (ab, .inl (cB, 300, .inl gb_4))] H := hP
    have hD : va_D A [(h0, .inr (7, [.ref a0, .ref a1, .ref a2, .ref a3, .ref a4, .ref a5, .ref a6, .int 0, .int (-1), .int (-1), .int 0])), (a3, .inr (6, [.ref ab, .int 8])), (ab, .inl (cB, 300, .inl gb_4))] := hD
    refine lv_aload_n hx hb dX6_feed_34 rfl (lv_at hl 0 rfl) ?_
    refine va_get (D := (dC, dI)) (ci := 7) (v := .ref a3) (C := RX6) (T := TX6) (N := 11) hx hb hts hinX6 hown hK hP 0 rfl rfl 3 (by decide) (hts (.fieldLink RX6 26 "AgreedTalks" "tape" "LAgreedTalks$Tape;") (by decide +kernel)) (fun _ h9 => h9) rfl dX6_feed_35 ?_
    refine lv_iload_n hx hb dX6_feed_38 rfl (lv_at hl 3 rfl) ?_
    have hPc := hP.sub (ws' := [(a3, .inr (6, [.ref ab, .int 8])), (ab, .inl (cB, 300, .inl gb_4))]) [1, 2] rfl
    have hDc := hD.sub (ws' := [(a3, .inr (6, [.ref ab, .int 8])), (ab, .inl (cB, 300, .inl gb_4))]) [1, 2] (by decide) rfl
    have hKc := hK.sub (tys' := [(cB, .int)]) [0] rfl
    have hFc := va_free (wc := [(a3, .inr (6, [.ref ab, .int 8])), (ab, .inl (cB, 300, .inl gb_4))]) hD hS hA [1, 2] rfl
    refine va_callv (va_runV (As := [.int p2]) (rest := []) ⟨hx, hb, hml, hown, hts⟩ (c_append l dC dI _ a3 ab 8 p2 cB gb_4 (by decide)) (cwV 1 hts gc_X6_feed_append rfl rfl rfl (by decide +kernel) ⟨Nat.le_of_ble_eq_true rfl, Nat.le_of_ble_eq_true rfl⟩) ⟨fun a U g mk q => by obtain ⟨q0, q1, qP, qK, qD⟩ := q; exact ⟨q0, q1, qP, va_K.moved (u := U) (U := U.calling g mk a) (Vm.Alike.refl U.vm) qK, qD⟩, va_recv hKc hPc (ci := 6) (q0 := 0) rfl rfl, fun U hU hW => ⟨rfl, by rw [hU], by rw [hU]; exact hPc, va_K.moved hW.alike hKc, hDc.weaken (fun _ _ _ _ => trivial)⟩⟩ rfl rfl hl.1 rfl (lv_room (Nat.le_of_ble_eq_true rfl)) dX6_feed_39 ⟨Nat.zero_le _, Nat.zero_le _⟩) hS (fun q _ h => hFc q h) hFc (fun u t H1 locs ht hvm hw hB hz1 hk1 hS => ?_)
    obtain ⟨gb_5, hP1, hK1, hD1⟩ := hB
    rw [ht] at hP1
    obtain ⟨hP, hD⟩ := va_join (wr := [(h0, .inr (7, [.ref a0, .ref a1, .ref a2, .ref a3, .ref a4, .ref a5, .ref a6, .int 0, .int (-1), .int (-1), .int 0]))]) (w1 := [(a3, .inr (6, [.ref ab, .int 12])), (ab, .inl (cB, 300, .inl gb_5))]) hP hD [1, 2] [0] rfl rfl (by decide) (by decide) hk1 hFc hP1 hD1
    generalize H1 = H at hP hS ⊢
    have hP : va_P (dC, dI) vwCl [(h0, .inr (7, [.ref a0, .ref a1, .ref a2, .ref a3, .ref a4, .ref a5, .ref a6, .int 0, .int (-1), .int (-1), .int 0])), (a3, .inr (6, [.ref ab, .int 12])), (ab, .inl (cB, 300, .inl gb_5))] H := hP
    have hD : va_D A [(h0, .inr (7, [.ref a0, .ref a1, .ref a2, .ref a3, .ref a4, .ref a5, .ref a6, .int 0, .int (-1), .int (-1), .int 0])), (a3, .inr (6, [.ref ab, .int 12])), (ab, .inl (cB, 300, .inl gb_5))] := hD
    refine lv_aload_n hx hb dX6_feed_42 rfl (lv_at hl 0 rfl) ?_
    refine va_get (D := (dC, dI)) (ci := 7) (v := .ref a3) (C := RX6) (T := TX6) (N := 11) hx hb hts hinX6 hown hK hP 0 rfl rfl 3 (by decide) (hts (.fieldLink RX6 26 "AgreedTalks" "tape" "LAgreedTalks$Tape;") (by decide +kernel)) (fun _ h9 => h9) rfl dX6_feed_43 ?_
    refine lv_iload hx hb dX6_feed_46 (lv_at hl 4 rfl) ?_
    have hPc := hP.sub (ws' := [(a3, .inr (6, [.ref ab, .int 12])), (ab, .inl (cB, 300, .inl gb_5))]) [1, 2] rfl
    have hDc := hD.sub (ws' := [(a3, .inr (6, [.ref ab, .int 12])), (ab, .inl (cB, 300, .inl gb_5))]) [1, 2] (by decide) rfl
    have hKc := hK.sub (tys' := [(cB, .int)]) [0] rfl
    have hFc := va_free (wc := [(a3, .inr (6, [.ref ab, .int 12])), (ab, .inl (cB, 300, .inl gb_5))]) hD hS hA [1, 2] rfl
    refine va_callv (va_runV (As := [.int p3]) (rest := []) ⟨hx, hb, hml, hown, hts⟩ (c_append l dC dI _ a3 ab 12 p3 cB gb_5 (by decide)) (cwV 1 hts gc_X6_feed_append rfl rfl rfl (by decide +kernel) ⟨Nat.le_of_ble_eq_true rfl, Nat.le_of_ble_eq_true rfl⟩) ⟨fun a U g mk q => by obtain ⟨q0, q1, qP, qK, qD⟩ := q; exact ⟨q0, q1, qP, va_K.moved (u := U) (U := U.calling g mk a) (Vm.Alike.refl U.vm) qK, qD⟩, va_recv hKc hPc (ci := 6) (q0 := 0) rfl rfl, fun U hU hW => ⟨rfl, by rw [hU], by rw [hU]; exact hPc, va_K.moved hW.alike hKc, hDc.weaken (fun _ _ _ _ => trivial)⟩⟩ rfl rfl hl.1 rfl (lv_room (Nat.le_of_ble_eq_true rfl)) dX6_feed_48 ⟨Nat.zero_le _, Nat.zero_le _⟩) hS (fun q _ h => hFc q h) hFc (fun u t H1 locs ht hvm hw hB hz1 hk1 hS => ?_)
    obtain ⟨gb_6, hP1, hK1, hD1⟩ := hB
    rw [ht] at hP1
    obtain ⟨hP, hD⟩ := va_join (wr := [(h0, .inr (7, [.ref a0, .ref a1, .ref a2, .ref a3, .ref a4, .ref a5, .ref a6, .int 0, .int (-1), .int (-1), .int 0]))]) (w1 := [(a3, .inr (6, [.ref ab, .int 16])), (ab, .inl (cB, 300, .inl gb_6))]) hP hD [1, 2] [0] rfl rfl (by decide) (by decide) hk1 hFc hP1 hD1
    generalize H1 = H at hP hS ⊢
    have hP : va_P (dC, dI) vwCl [(h0, .inr (7, [.ref a0, .ref a1, .ref a2, .ref a3, .ref a4, .ref a5, .ref a6, .int 0, .int (-1), .int (-1), .int 0])), (a3, .inr (6, [.ref ab, .int 16])), (ab, .inl (cB, 300, .inl gb_6))] H := hP
    have hD : va_D A [(h0, .inr (7, [.ref a0, .ref a1, .ref a2, .ref a3, .ref a4, .ref a5, .ref a6, .int 0, .int (-1), .int (-1), .int 0])), (a3, .inr (6, [.ref ab, .int 16])), (ab, .inl (cB, 300, .inl gb_6))] := hD
    refine lv_aload_n hx hb dX6_feed_51 rfl (lv_at hl 0 rfl) ?_
    refine va_get (D := (dC, dI)) (ci := 7) (v := .ref a3) (C := RX6) (T := TX6) (N := 11) hx hb hts hinX6 hown hK hP 0 rfl rfl 3 (by decide) (hts (.fieldLink RX6 26 "AgreedTalks" "tape" "LAgreedTalks$Tape;") (by decide +kernel)) (fun _ h9 => h9) rfl dX6_feed_52 ?_
    refine lv_iload hx hb dX6_feed_55 (lv_at hl 5 rfl) ?_
    have hPc := hP.sub (ws' := [(a3, .inr (6, [.ref ab, .int 16])), (ab, .inl (cB, 300, .inl gb_6))]) [1, 2] rfl
    have hDc := hD.sub (ws' := [(a3, .inr (6, [.ref ab, .int 16])), (ab, .inl (cB, 300, .inl gb_6))]) [1, 2] (by decide) rfl
    have hKc := hK.sub (tys' := [(cB, .int)]) [0] rfl
    have hFc := va_free (wc := [(a3, .inr (6, [.ref ab, .int 16])), (ab, .inl (cB, 300, .inl gb_6))]) hD hS hA [1, 2] rfl
    refine va_callv (va_runV (As := [.int p4]) (rest := []) ⟨hx, hb, hml, hown, hts⟩ (c_append l dC dI _ a3 ab 16 p4 cB gb_6 (by decide)) (cwV 1 hts gc_X6_feed_append rfl rfl rfl (by decide +kernel) ⟨Nat.le_of_ble_eq_true rfl, Nat.le_of_ble_eq_true rfl⟩) ⟨fun a U g mk q => by obtain ⟨q0, q1, qP, qK, qD⟩ := q; exact ⟨q0, q1, qP, va_K.moved (u := U) (U := U.calling g mk a) (Vm.Alike.refl U.vm) qK, qD⟩, va_recv hKc hPc (ci := 6) (q0 := 0) rfl rfl, fun U hU hW => ⟨rfl, by rw [hU], by rw [hU]; exact hPc, va_K.moved hW.alike hKc, hDc.weaken (fun _ _ _ _ => trivial)⟩⟩ rfl rfl hl.1 rfl (lv_room (Nat.le_of_ble_eq_true rfl)) dX6_feed_57 ⟨Nat.zero_le _, Nat.zero_le _⟩) hS (fun q _ h => hFc q h) hFc (fun u t H1 locs ht hvm hw hB hz1 hk1 hS => ?_)
    obtain ⟨gb_7, hP1, hK1, hD1⟩ := hB
    rw [ht] at hP1
    obtain ⟨hP, hD⟩ := va_join (wr := [(h0, .inr (7, [.ref a0, .ref a1, .ref a2, .ref a3, .ref a4, .ref a5, .ref a6, .int 0, .int (-1), .int (-1), .int 0]))]) (w1 := [(a3, .inr (6, [.ref ab, .int 20])), (ab, .inl (cB, 300, .inl gb_7))]) hP hD [1, 2] [0] rfl rfl (by decide) (by decide) hk1 hFc hP1 hD1
    generalize H1 = H at hP hS ⊢
    have hP : va_P (dC, dI) vwCl [(h0, .inr (7, [.ref a0, .ref a1, .ref a2, .ref a3, .ref a4, .ref a5, .ref a6, .int 0, .int (-1), .int (-1), .int 0])), (a3, .inr (6, [.ref ab, .int 20])), (ab, .inl (cB, 300, .inl gb_7))] H := hP
    have hD : va_D A [(h0, .inr (7, [.ref a0, .ref a1, .ref a2, .ref a3, .ref a4, .ref a5, .ref a6, .int 0, .int (-1), .int (-1), .int 0])), (a3, .inr (6, [.ref ab, .int 20])), (ab, .inl (cB, 300, .inl gb_7))] := hD
    refine lv_aload_n hx hb dX6_feed_60 rfl (lv_at hl 0 rfl) ?_
    refine va_get (D := (dC, dI)) (ci := 7) (v := .ref a3) (C := RX6) (T := TX6) (N := 11) hx hb hts hinX6 hown hK hP 0 rfl rfl 3 (by decide) (hts (.fieldLink RX6 26 "AgreedTalks" "tape" "LAgreedTalks$Tape;") (by decide +kernel)) (fun _ h9 => h9) rfl dX6_feed_61 ?_
    refine va_get (D := (dC, dI)) (ci := 6) (v := .int 20) (C := RX5) (T := TX5) (N := 2) hx hb hts hinX5 hown hK hP 1 rfl rfl 1 (by decide) (hts (.fieldLink RX6 80 "AgreedTalks$Tape" "length" "I") (by decide +kernel)) (fun _ h9 => h9) rfl dX6_feed_64 ?_
    have hP9 := hP.sub (ws' := []) [] rfl
    have hD9 := hD.sub (ws' := []) [] (by decide) rfl
    have hK9 := hK.sub (tys' := []) [] rfl
    exact W.iret (v := 20) hx hb hr (fun t ht hW => ⟨⟨20, (), rfl, rfl, by rw [ht]; exact hP9, va_K.moved hW.alike hK9, hD9⟩, hS.F ht⟩) hS.2.2 dX6_feed_67
  · exact absurd c_2 (by decide)
def wp_X6_end : List Cond := .code yX6_end cX6_end 2 (some .int) :: (([.fieldLink RX6 26 "AgreedTalks" "tape" "LAgreedTalks$Tape;", .fieldLink RX6 80 "AgreedTalks$Tape" "length" "I"] : List Cond) ++ wsX60 ++ wsX50)
set_option maxRecDepth 20000 in
theorem gi_X6_end : GoodIn lw_tbl wp_X6_end := (goodIn_ca (goodIn_ca (goodIn_r (.code yX6_end cX6_end 2 (some .int) :: ([.fieldLink RX6 26 "AgreedTalks" "tape" "LAgreedTalks$Tape;", .fieldLink RX6 80 "AgreedTalks$Tape" "length" "I"] : List Cond)) [246, 192, 113] (by decide +kernel) (by decide +kernel)) wi_wsX6) wi_wsX5)
set_option maxHeartbeats 4000000 in
set_option maxRecDepth 100000 in
/-- end on a fresh object -/
theorem c_X6_end (l : Launch) (dC : Nat → ClassId) (dI : Nat → Nat → Nat) (sz : Nat) (h0 : Nat) (a0 : Nat) (a1 : Nat) (a2 : Nat) (a3 : Nat) (a4 : Nat) (a5 : Nat) (a6 : Nat) (p0 : Int32) (ab : Nat) : Met l yX6_end wp_X6_end ({ frames := 1, cells := 0, slots := 0, locals := 40 }) (va_Pc [.ref h0, .int p0] (fun U => U.heap.size = sz ∧ va_P (dC, dI) vwCl [(h0, .inr (7, [.ref a0, .ref a1, .ref a2, .ref a3, .ref a4, .ref a5, .ref a6, .int 0, .int (-1), .int (-1), .int 0])), (a3, .inr (6, [.ref ab, .int 0]))] U.heap ∧ va_K (dC, dI) vwCl [] U ∧ va_D (fun _ => True) [(h0, .inr (7, [.ref a0, .ref a1, .ref a2, .ref a3, .ref a4, .ref a5, .ref a6, .int 0, .int (-1), .int (-1), .int 0])), (a3, .inr (6, [.ref ab, .int 0]))])) (va_Qi (fun (r : Int32) (_ : Unit) => r = (if p0 = 0 then 0 else (-1))) (fun (_ : Unit) (t : State) => va_P (dC, dI) vwCl [] t.heap ∧ va_K (dC, dI) vwCl [] t ∧ va_D (va_A [(h0, .inr (7, [.ref a0, .ref a1, .ref a2, .ref a3, .ref a4, .ref a5, .ref a6, .int 0, .int (-1), .int (-1), .int 0])), (a3, .inr (6, [.ref ab, .int 0]))] sz) []) (va_A [(h0, .inr (7, [.ref a0, .ref a1, .ref a2, .ref a3, .ref a4, .ref a5, .ref a6, .int 0, .int (-1), .int (-1), .int 0])), (a3, .inr (6, [.ref ab, .int 0]))] sz)) 0 0 (va_A [(h0, .inr (7, [.ref a0, .ref a1, .ref a2, .ref a3, .ref a4, .ref a5, .ref a6, .int 0, .int (-1), .int (-1), .int 0])), (a3, .inr (6, [.ref ab, .int 0]))] sz) := by
  refine Met.ofW (cc := cX6_end) (maxL := 2) (ret := (some .int)) (by decide) rfl ?_
  intro p e s m args below meth c s₁ B hml hv
  obtain ⟨rfl, hsz, hP, hK, hD0⟩ := hv
  have hx := B.exec
  have hb := B.bytes
  have hr := B.returns
  have hts := atoms_spec (ws := wp_X6_end) B.pre
  have hown : s.vm.findClass RX6 = some m.cls := findClass_of_methodNamed B.named
  have hlocks := B.notSynchronized
  subst hsz
  have hD := hD0.self (sz := s.heap.size)
  generalize hAe : va_A [(h0, .inr (7, [.ref a0, .ref a1, .ref a2, .ref a3, .ref a4, .ref a5, .ref a6, .int 0, .int (-1), .int (-1), .int 0])), (a3, .inr (6, [.ref ab, .int 0]))] s.heap.size = A at hD ⊢
  have hA : ∀ q : Nat, s.heap.size ≤ q → A q := fun q h => by rw [← hAe]; exact Or.inr h
  have hS : va_S A s.heap s.heap [] := va_S.rf
  have hP : va_P (dC, dI) vwCl [(h0, .inr (7, [.ref a0, .ref a1, .ref a2, .ref a3, .ref a4, .ref a5, .ref a6, .int 0, .int (-1), .int (-1), .int 0])), (a3, .inr (6, [.ref ab, .int 0]))] s.heap := hP
  have hl := lv_entry ([.ref h0, .int p0]) (n := 2) (Nat.le_of_ble_eq_true rfl)
  rw [lg_entry_eq]
  generalize (lg_sl ([.ref h0, .int p0]) ++ List.replicate (2 - (lg_sl ([.ref h0, .int p0])).length) Slot.unset).toArray = ls at hl ⊢
  have hl : lv_has ls 2 [(0, .ref h0), (1, .int p0)] := hl
  have hinX6 : ∀ w ∈ u_ws RX6 TX6 11, w ∈ wp_X6_end := fun _ h => List.mem_cons_of_mem _ (List.mem_append_left _ (List.mem_append_right _ h))
  have hinX5 : ∀ w ∈ u_ws RX5 TX5 2, w ∈ wp_X6_end := fun _ h => List.mem_cons_of_mem _ (List.mem_append_right _ h)
  refine lv_iload_n hx hb dX6_end_0 rfl (lv_at hl 1 rfl) ?_
  refine lv_if_lt (tgt := 15) hx hb dX6_end_1 (by decide) (fun c_1 => ?_) (fun c_1 => ?_)
  · refine lv_iconst (v := (-1)) hx hb dX6_end_15 (by decide) ?_
    have hP9 := hP.sub (ws' := []) [] rfl
    have hD9 := hD.sub (ws' := []) [] (by decide) rfl
    have hK9 := hK.sub (tys' := []) [] rfl
    exact W.iret (v := (-1)) hx hb hr (fun t ht hW => ⟨⟨(-1), (), rfl, lk_end1 c_1, by rw [ht]; exact hP9, va_K.moved hW.alike hK9, hD9⟩, hS.F ht⟩) hS.2.2 dX6_end_16
  · refine lv_iload_n hx hb dX6_end_4 rfl (lv_at hl 1 rfl) ?_
    refine lv_aload_n hx hb dX6_end_5 rfl (lv_at hl 0 rfl) ?_
    refine va_get (D := (dC, dI)) (ci := 7) (v := .ref a3) (C := RX6) (T := TX6) (N := 11) hx hb hts hinX6 hown hK hP 0 rfl rfl 3 (by decide) (hts (.fieldLink RX6 26 "AgreedTalks" "tape" "LAgreedTalks$Tape;") (by decide +kernel)) (fun _ h9 => h9) rfl dX6_end_6 ?_
    refine va_get (D := (dC, dI)) (ci := 6) (v := .int 0) (C := RX5) (T := TX5) (N := 2) hx hb hts hinX5 hown hK hP 1 rfl rfl 1 (by decide) (hts (.fieldLink RX6 80 "AgreedTalks$Tape" "length" "I") (by decide +kernel)) (fun _ h9 => h9) rfl dX6_end_9 ?_
    refine lv_icmp_le (tgt := 17) hx hb dX6_end_12 (by decide) (fun c_2 => ?_) (fun c_2 => ?_)
    · refine lv_aload_n hx hb dX6_end_17 rfl (lv_at hl 0 rfl) ?_
      refine va_get (D := (dC, dI)) (ci := 7) (v := .ref a3) (C := RX6) (T := TX6) (N := 11) hx hb hts hinX6 hown hK hP 0 rfl rfl 3 (by decide) (hts (.fieldLink RX6 26 "AgreedTalks" "tape" "LAgreedTalks$Tape;") (by decide +kernel)) (fun _ h9 => h9) rfl dX6_end_18 ?_
      refine lv_iload_n hx hb dX6_end_21 rfl (lv_at hl 1 rfl) ?_
      refine va_put (D := (dC, dI)) (ci := 6) (v := .int p0) (ty := .int) (C := RX5) (T := TX5) (N := 2) hx hb hts hinX5 tyX5 tyX5_ok nmX5 hown hK hP hD hS 1 rfl rfl 1 (by decide) (hts (.fieldLink RX6 80 "AgreedTalks$Tape" "length" "I") (by decide +kernel)) (fun _ h9 => h9) rfl (by decide +kernel) rfl rfl (Nat.le_of_ble_eq_true rfl) dX6_end_22 (fun H locs hP hD hS => ?_)
      have hP : va_P (dC, dI) vwCl [(h0, .inr (7, [.ref a0, .ref a1, .ref a2, .ref a3, .ref a4, .ref a5, .ref a6, .int 0, .int (-1), .int (-1), .int 0])), (a3, .inr (6, [.ref ab, .int p0]))] H := hP
      have hD : va_D A [(h0, .inr (7, [.ref a0, .ref a1, .ref a2, .ref a3, .ref a4, .ref a5, .ref a6, .int 0, .int (-1), .int (-1), .int 0])), (a3, .inr (6, [.ref ab, .int p0]))] := hD
      refine lv_iload_n hx hb dX6_end_25 rfl (lv_at hl 1 rfl) ?_
      have hP9 := hP.sub (ws' := []) [] rfl
      have hD9 := hD.sub (ws' := []) [] (by decide) rfl
      have hK9 := hK.sub (tys' := []) [] rfl
      exact W.iret (v := p0) hx hb hr (fun t ht hW => ⟨⟨p0, (), rfl, lk_end3 c_1 c_2, by rw [ht]; exact hP9, va_K.moved hW.alike hK9, hD9⟩, hS.F ht⟩) hS.2.2 dX6_end_26
    · refine lv_iconst (v := (-1)) hx hb dX6_end_15 (by decide) ?_
      have hP9 := hP.sub (ws' := []) [] rfl
      have hD9 := hD.sub (ws' := []) [] (by decide) rfl
      have hK9 := hK.sub (tys' := []) [] rfl
      exact W.iret (v := (-1)) hx hb hr (fun t ht hW => ⟨⟨(-1), (), rfl, lk_end2 c_1 c_2, by rw [ht]; exact hP9, va_K.moved hW.alike hK9, hD9⟩, hS.F ht⟩) hS.2.2 dX6_end_16
def wp_X6_record : List Cond := .code yX6_record cX6_record 4 (some .int) :: (([] : List Cond) ++ (wsV RX6 87 RX6 yX6_isMeeting wp_X6_isMeeting) ++ (wsV RX6 76 RX6 yX6_refuse wp_X6_refuse))
theorem gc_X6_record_X6_isMeeting : GoodIn wp_X6_record (wsV RX6 87 RX6 yX6_isMeeting wp_X6_isMeeting) := goodIn_sub (fun _ h => List.mem_cons_of_mem _ (List.mem_append_left _ (List.mem_append_right _ h))) (by decide +kernel)
theorem gc_X6_record_X6_refuse : GoodIn wp_X6_record (wsV RX6 76 RX6 yX6_refuse wp_X6_refuse) := goodIn_sub (fun _ h => List.mem_cons_of_mem _ (List.mem_append_right _ h)) (by decide +kernel)
set_option maxRecDepth 20000 in
theorem gi_X6_record : GoodIn lw_tbl wp_X6_record := (goodIn_ca (goodIn_ca (goodIn_r (.code yX6_record cX6_record 4 (some .int) :: ([] : List Cond)) [250] (by decide +kernel) (by decide +kernel)) (goodIn_app (goodIn_r _ [251, 253, 2, 48] (by decide +kernel) (by decide +kernel)) gi_X6_isMeeting)) (goodIn_app (goodIn_r _ [231, 233, 1, 48] (by decide +kernel) (by decide +kernel)) gi_X6_refuse))
set_option maxHeartbeats 4000000 in
set_option maxRecDepth 100000 in
/-- record on a fresh object -/
theorem c_X6_record (l : Launch) (dC : Nat → ClassId) (dI : Nat → Nat → Nat) (sz : Nat) (h0 : Nat) (a0 : Nat) (a1 : Nat) (a2 : Nat) (a3 : Nat) (a4 : Nat) (a5 : Nat) (a6 : Nat) (p0 : Int32) : Met l yX6_record wp_X6_record ({ frames := 1, cells := 0, slots := 0, locals := 40 }) (va_Pc [.ref h0, .int p0] (fun U => U.heap.size = sz ∧ va_P (dC, dI) vwCl [(h0, .inr (7, [.ref a0, .ref a1, .ref a2, .ref a3, .ref a4, .ref a5, .ref a6, .int 0, .int (-1), .int (-1), .int 0]))] U.heap ∧ va_K (dC, dI) vwCl [] U ∧ va_D (fun _ => True) [(h0, .inr (7, [.ref a0, .ref a1, .ref a2, .ref a3, .ref a4, .ref a5, .ref a6, .int 0, .int (-1), .int (-1), .int 0]))])) (va_Qi (fun (r : Int32) (_ : Unit) => r = (-2)) (fun (_ : Unit) (t : State) => va_P (dC, dI) vwCl [] t.heap ∧ va_K (dC, dI) vwCl [] t ∧ va_D (va_A [(h0, .inr (7, [.ref a0, .ref a1, .ref a2, .ref a3, .ref a4, .ref a5, .ref a6, .int 0, .int (-1), .int (-1), .int 0]))] sz) []) (va_A [(h0, .inr (7, [.ref a0, .ref a1, .ref a2, .ref a3, .ref a4, .ref a5, .ref a6, .int 0, .int (-1), .int (-1), .int 0]))] sz)) 0 0 (va_A [(h0, .inr (7, [.ref a0, .ref a1, .ref a2, .ref a3, .ref a4, .ref a5, .ref a6, .int 0, .int (-1), .int (-1), .int 0]))] sz) := by
  refine Met.ofW (cc := cX6_record) (maxL := 4) (ret := (some .int)) (by decide) rfl ?_
  intro p e s m args below meth c s₁ B hml hv
  obtain ⟨rfl, hsz, hP, hK, hD0⟩ := hv
  have hx := B.exec
  have hb := B.bytes
  have hr := B.returns
  have hts := atoms_spec (ws := wp_X6_record) B.pre
  have hown : s.vm.findClass RX6 = some m.cls := findClass_of_methodNamed B.named
  have hlocks := B.notSynchronized
  subst hsz
  have hD := hD0.self (sz := s.heap.size)
  generalize hAe : va_A [(h0, .inr (7, [.ref a0, .ref a1, .ref a2, .ref a3, .ref a4, .ref a5, .ref a6, .int 0, .int (-1), .int (-1), .int 0]))] s.heap.size = A at hD ⊢
  have hA : ∀ q : Nat, s.heap.size ≤ q → A q := fun q h => by rw [← hAe]; exact Or.inr h
  have hS : va_S A s.heap s.heap [] := va_S.rf
  have hP : va_P (dC, dI) vwCl [(h0, .inr (7, [.ref a0, .ref a1, .ref a2, .ref a3, .ref a4, .ref a5, .ref a6, .int 0, .int (-1), .int (-1), .int 0]))] s.heap := hP
  have hl := lv_entry ([.ref h0, .int p0]) (n := 4) (Nat.le_of_ble_eq_true rfl)
  rw [lg_entry_eq]
  generalize (lg_sl ([.ref h0, .int p0]) ++ List.replicate (4 - (lg_sl ([.ref h0, .int p0])).length) Slot.unset).toArray = ls at hl ⊢
  have hl : lv_has ls 4 [(0, .ref h0), (1, .int p0)] := hl
  refine lv_aload_n hx hb dX6_record_0 rfl (lv_at hl 0 rfl) ?_
  refine lv_iload_n hx hb dX6_record_1 rfl (lv_at hl 1 rfl) ?_
  have hPc := hP.sub (ws' := [(h0, .inr (7, [.ref a0, .ref a1, .ref a2, .ref a3, .ref a4, .ref a5, .ref a6, .int 0, .int (-1), .int (-1), .int 0]))]) [0] rfl
  have hDc := hD.sub (ws' := [(h0, .inr (7, [.ref a0, .ref a1, .ref a2, .ref a3, .ref a4, .ref a5, .ref a6, .int 0, .int (-1), .int (-1), .int 0]))]) [0] (by decide) rfl
  have hKc := hK.sub (tys' := []) [] rfl
  have hFc := va_free (wc := [(h0, .inr (7, [.ref a0, .ref a1, .ref a2, .ref a3, .ref a4, .ref a5, .ref a6, .int 0, .int (-1), .int (-1), .int 0]))]) hD hS hA [0] rfl
  refine va_calli (va_runV (As := [.int p0]) (rest := []) ⟨hx, hb, hml, hown, hts⟩ (c_X6_isMeeting l dC dI _ h0 a0 a1 a2 a3 a4 a5 a6 (-1) (-1) 0 p0) (cwV 1 hts gc_X6_record_X6_isMeeting rfl rfl rfl (by decide +kernel) ⟨Nat.le_of_ble_eq_true rfl, Nat.le_of_ble_eq_true rfl⟩) ⟨fun a U g mk q => by obtain ⟨q0, q1, qP, qK, qD⟩ := q; exact ⟨q0, q1, qP, va_K.moved (u := U) (U := U.calling g mk a) (Vm.Alike.refl U.vm) qK, qD⟩, va_recv hKc hPc (ci := 7) (q0 := 0) rfl rfl, fun U hU hW => ⟨rfl, by rw [hU], by rw [hU]; exact hPc, va_K.moved hW.alike hKc, hDc.weaken (fun _ _ _ _ => trivial)⟩⟩ rfl rfl hl.1 rfl (lv_room (Nat.le_of_ble_eq_true rfl)) dX6_record_2 ⟨Nat.zero_le _, Nat.zero_le _⟩) hS (fun q _ h => hFc q h) hFc (fun r_1 u t H1 locs ht hvm hw hB hz1 hk1 hS => ?_)
  obtain ⟨hP1, hK1, hD1⟩ := hB
  rw [ht] at hP1
  obtain ⟨hP, hD⟩ := va_join (wr := []) (w1 := [(h0, .inr (7, [.ref a0, .ref a1, .ref a2, .ref a3, .ref a4, .ref a5, .ref a6, .int 0, .int (-1), .int (-1), .int 0]))]) hP hD [0] [] rfl rfl (by decide) (by decide) hk1 hFc hP1 hD1
  generalize H1 = H at hP hS ⊢
  have hP : va_P (dC, dI) vwCl [(h0, .inr (7, [.ref a0, .ref a1, .ref a2, .ref a3, .ref a4, .ref a5, .ref a6, .int 0, .int (-1), .int (-1), .int 0]))] H := hP
  have hD : va_D A [(h0, .inr (7, [.ref a0, .ref a1, .ref a2, .ref a3, .ref a4, .ref a5, .ref a6, .int 0, .int (-1), .int (-1), .int 0]))] := hD
  obtain rfl : r_1 = 0 := hw
  refine lv_if_ne (tgt := 15) hx hb dX6_record_5 (by decide) (fun c_2 => ?_) (fun c_2 => ?_)
  · exact absurd c_2 (by decide)
  · refine lv_aload_n hx hb dX6_record_8 rfl (lv_at hl 0 rfl) ?_
    refine lv_bipush (v := (-2)) hx hb dX6_record_9 (by decide) ?_
    have hPc := hP.sub (ws' := [(h0, .inr (7, [.ref a0, .ref a1, .ref a2, .ref a3, .ref a4, .ref a5, .ref a6, .int 0, .int (-1), .int (-1), .int 0]))]) [0] rfl
    have hDc := hD.sub (ws' := [(h0, .inr (7, [.ref a0, .ref a1, .ref a2, .ref a3, .ref a4, .ref a5, .ref a6, .int 0, .int (-1), .int (-1), .int 0]))]) [0] (by decide) rfl
    have hKc := hK.sub (tys' := []) [] rfl
    have hFc := va_free (wc := [(h0, .inr (7, [.ref a0, .ref a1, .ref a2, .ref a3, .ref a4, .ref a5, .ref a6, .int 0, .int (-1), .int (-1), .int 0]))]) hD hS hA [0] rfl
    refine va_calli (va_runV (As := [.int (-2)]) (rest := []) ⟨hx, hb, hml, hown, hts⟩ (c_X6_refuse l dC dI _ h0 a0 a1 a2 a3 a4 a5 a6 0 (-1) (-1) 0 (-2)) (cwV 1 hts gc_X6_record_X6_refuse rfl rfl rfl (by decide +kernel) ⟨Nat.le_of_ble_eq_true rfl, Nat.le_of_ble_eq_true rfl⟩) ⟨fun a U g mk q => by obtain ⟨q0, q1, qP, qK, qD⟩ := q; exact ⟨q0, q1, qP, va_K.moved (u := U) (U := U.calling g mk a) (Vm.Alike.refl U.vm) qK, qD⟩, va_recv hKc hPc (ci := 7) (q0 := 0) rfl rfl, fun U hU hW => ⟨rfl, by rw [hU], by rw [hU]; exact hPc, va_K.moved hW.alike hKc, hDc.weaken (fun _ _ _ _ => trivial)⟩⟩ rfl rfl hl.1 rfl (lv_room (Nat.le_of_ble_eq_true rfl)) dX6_record_11 ⟨Nat.zero_le _, Nat.zero_le _⟩) hS (fun q _ h => hFc q h) hFc (fun r_3 u t H1 locs ht hvm hw hB hz1 hk1 hS => ?_)
    obtain ⟨hP1, hK1, hD1⟩ := hB
    rw [ht] at hP1
    obtain ⟨hP, hD⟩ := va_join (wr := []) (w1 := [(h0, .inr (7, [.ref a0, .ref a1, .ref a2, .ref a3, .ref a4, .ref a5, .ref a6, .int 0, .int (-1), .int (-1), .int (-2)]))]) hP hD [0] [] rfl rfl (by decide) (by decide) hk1 hFc hP1 hD1
    generalize H1 = H at hP hS ⊢
    have hP : va_P (dC, dI) vwCl [(h0, .inr (7, [.ref a0, .ref a1, .ref a2, .ref a3, .ref a4, .ref a5, .ref a6, .int 0, .int (-1), .int (-1), .int (-2)]))] H := hP
    have hD : va_D A [(h0, .inr (7, [.ref a0, .ref a1, .ref a2, .ref a3, .ref a4, .ref a5, .ref a6, .int 0, .int (-1), .int (-1), .int (-2)]))] := hD
    obtain rfl : r_3 = (-2) := hw
    have hP9 := hP.sub (ws' := []) [] rfl
    have hD9 := hD.sub (ws' := []) [] (by decide) rfl
    have hK9 := hK.sub (tys' := []) [] rfl
    exact W.iret (v := (-2)) hx hb hr (fun t ht hW => ⟨⟨(-2), (), rfl, rfl, by rw [ht]; exact hP9, va_K.moved hW.alike hK9, hD9⟩, hS.F ht⟩) hS.2.2 dX6_record_14
