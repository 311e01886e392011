theorem dJxa1e45_init_da8c8_0 : decode cJxa1e45_init_da8c8 0 = .ok (.aload_n 0, 1) := by decide +kernel
theorem dJxa1e45_init_da8c8_1 : decode cJxa1e45_init_da8c8 1 = .ok (.invokespecial 1, 3) := by decide +kernel
theorem dJxa1e45_init_da8c8_4 : decode cJxa1e45_init_da8c8 4 = .ok (.return_, 1) := by decide +kernel
theorem dJxc12de_init_da8c8_0 : decode cJxc12de_init_da8c8 0 = .ok (.aload_n 0, 1) := by decide +kernel
theorem dJxc12de_init_da8c8_1 : decode cJxc12de_init_da8c8 1 = .ok (.invokespecial 1, 3) := by decide +kernel
theorem dJxc12de_init_da8c8_4 : decode cJxc12de_init_da8c8 4 = .ok (.aload_n 0, 1) := by decide +kernel
theorem dJxc12de_init_da8c8_5 : decode cJxc12de_init_da8c8 5 = .ok (.iconst 0, 1) := by decide +kernel
theorem dJxc12de_init_da8c8_6 : decode cJxc12de_init_da8c8 6 = .ok (.putfield 7, 3) := by decide +kernel
theorem dJxc12de_init_da8c8_9 : decode cJxc12de_init_da8c8 9 = .ok (.return_, 1) := by decide +kernel
theorem dJx4a65c_init_da8c8_0 : decode cJx4a65c_init_da8c8 0 = .ok (.aload_n 0, 1) := by decide +kernel
theorem dJx4a65c_init_da8c8_1 : decode cJx4a65c_init_da8c8 1 = .ok (.invokespecial 1, 3) := by decide +kernel
theorem dJx4a65c_init_da8c8_4 : decode cJx4a65c_init_da8c8 4 = .ok (.aload_n 0, 1) := by decide +kernel
theorem dJx4a65c_init_da8c8_5 : decode cJx4a65c_init_da8c8 5 = .ok (.getstatic 39, 3) := by decide +kernel
theorem dJx4a65c_init_da8c8_8 : decode cJx4a65c_init_da8c8 8 = .ok (.putfield 9, 3) := by decide +kernel
theorem dJx4a65c_init_da8c8_11 : decode cJx4a65c_init_da8c8 11 = .ok (.return_, 1) := by decide +kernel
theorem dX6_keep_0 : decode cX6_keep 0 = .ok (.aload_n 0, 1) := by decide +kernel
theorem dX6_keep_1 : decode cX6_keep 1 = .ok (.getfield 19, 3) := by decide +kernel
theorem dX6_keep_4 : decode cX6_keep 4 = .ok (.invokevirtual 91, 3) := by decide +kernel
theorem dX6_keep_7 : decode cX6_keep 7 = .ok (.istore_n 3, 1) := by decide +kernel
theorem dX6_keep_8 : decode cX6_keep 8 = .ok (.aload_n 0, 1) := by decide +kernel
theorem dX6_keep_9 : decode cX6_keep 9 = .ok (.getfield 19, 3) := by decide +kernel
theorem dX6_keep_12 : decode cX6_keep 12 = .ok (.new 112, 3) := by decide +kernel
theorem dX6_keep_15 : decode cX6_keep 15 = .ok (.dup, 1) := by decide +kernel
theorem dX6_keep_16 : decode cX6_keep 16 = .ok (.iload_n 1, 1) := by decide +kernel
theorem dX6_keep_17 : decode cX6_keep 17 = .ok (.aload_n 2, 1) := by decide +kernel
theorem dX6_keep_18 : decode cX6_keep 18 = .ok (.invokespecial 186, 3) := by decide +kernel
theorem dX6_keep_21 : decode cX6_keep 21 = .ok (.invokevirtual 189, 3) := by decide +kernel
theorem dX6_keep_24 : decode cX6_keep 24 = .ok (.pop, 1) := by decide +kernel
theorem dX6_keep_25 : decode cX6_keep 25 = .ok (.aload_n 0, 1) := by decide +kernel
theorem dX6_keep_26 : decode cX6_keep 26 = .ok (.getfield 13, 3) := by decide +kernel
theorem dX6_keep_29 : decode cX6_keep 29 = .ok (.iload_n 1, 1) := by decide +kernel
theorem dX6_keep_30 : decode cX6_keep 30 = .ok (.iaload, 1) := by decide +kernel
theorem dX6_keep_31 : decode cX6_keep 31 = .ok (.iconst (-1), 1) := by decide +kernel
theorem dX6_keep_32 : decode cX6_keep 32 = .ok (.if_icmp .ne 15, 3) := by decide +kernel
theorem dX6_keep_47 : decode cX6_keep 47 = .ok (.iload_n 3, 1) := by decide +kernel
theorem dX6_keep_48 : decode cX6_keep 48 = .ok (.ireturn, 1) := by decide +kernel
theorem dX6_keep_35 : decode cX6_keep 35 = .ok (.aload_n 0, 1) := by decide +kernel
theorem dX6_keep_36 : decode cX6_keep 36 = .ok (.getfield 13, 3) := by decide +kernel
theorem dX6_keep_39 : decode cX6_keep 39 = .ok (.iload_n 1, 1) := by decide +kernel
theorem dX6_keep_40 : decode cX6_keep 40 = .ok (.iload_n 3, 1) := by decide +kernel
theorem dX6_keep_41 : decode cX6_keep 41 = .ok (.iastore, 1) := by decide +kernel
theorem dX6_keep_42 : decode cX6_keep 42 = .ok (.aload_n 0, 1) := by decide +kernel
theorem dX6_keep_43 : decode cX6_keep 43 = .ok (.iconst (-1), 1) := by decide +kernel
theorem dX6_keep_44 : decode cX6_keep 44 = .ok (.putfield 57, 3) := by decide +kernel
def wp_AC_init : List Cond := .code yJxa1e45_init_da8c8 cJxa1e45_init_da8c8 1 none :: (([.methodLink RJxa1e45 1 objectInit, .instanceMethod objectInit, .code objectInit ⟨#[0xb1]⟩ 1 none] : List Cond))
set_option maxRecDepth 20000 in
theorem gi_AC_init : GoodIn lw_tbl wp_AC_init := (goodIn_r (.code yJxa1e45_init_da8c8 cJxa1e45_init_da8c8 1 none :: ([.methodLink RJxa1e45 1 objectInit, .instanceMethod objectInit, .code objectInit ⟨#[0xb1]⟩ 1 none] : List Cond)) [86, 87, 74, 75] (by decide +kernel) (by decide +kernel))
set_option maxHeartbeats 4000000 in
set_option maxRecDepth 100000 in
/-- AbstractCollection() -/
theorem c_AC_init (l : Launch) (dC : Nat → ClassId) (dI : Nat → Nat → Nat) (sz : Nat) (h0 : Nat) : Met l yJxa1e45_init_da8c8 wp_AC_init ({ frames := 1, cells := 0, slots := 0, locals := 20 }) (va_Pc [.ref h0] (fun U => U.heap.size = sz ∧ va_P (dC, dI) vwCl [(h0, .inr (0, [.int 0, .null, .int 0]))] U.heap ∧ va_K (dC, dI) vwCl [] U ∧ va_D (fun _ => True) [(h0, .inr (0, [.int 0, .null, .int 0]))])) (va_Qv (fun (_ : Unit) => True) (fun (_ : Unit) (t : State) => va_P (dC, dI) vwCl [(h0, .inr (0, [.int 0, .null, .int 0]))] t.heap ∧ va_K (dC, dI) vwCl [] t ∧ va_D (va_A [(h0, .inr (0, [.int 0, .null, .int 0]))] sz) [(h0, .inr (0, [.int 0, .null, .int 0]))]) (va_A [(h0, .inr (0, [.int 0, .null, .int 0]))] sz)) 0 0 (va_A [(h0, .inr (0, [.int 0, .null, .int 0]))] sz) := by
  refine Met.ofW (cc := cJxa1e45_init_da8c8) (maxL := 1) (ret := none) (by decide) rfl ?_
  intro p e s m args below meth c s₁ B hml hv
  obtain ⟨rfl, hsz, hP, hK, hD0⟩ := hv
  have hx := B.exec
  have hb := B.bytes
  have hr := B.returns
  have hts := atoms_spec (ws := wp_AC_init) B.pre
  have hown : s.vm.findClass RJxa1e45 = some m.cls := findClass_of_methodNamed B.named
  have hlocks := B.notSynchronized
  have hin : meth.name = "<init>" := (name_of_methodNamed B.named B.method).1
  subst hsz
  have hD := hD0.self (sz := s.heap.size)
  generalize hAe : va_A [(h0, .inr (0, [.int 0, .null, .int 0]))] s.heap.size = A at hD ⊢
  have hA : ∀ q : Nat, s.heap.size ≤ q → A q := fun q h => by rw [← hAe]; exact Or.inr h
  have hS : va_S A s.heap s.heap [] := va_S.rf
  have hP : va_P (dC, dI) vwCl [(h0, .inr (0, [.int 0, .null, .int 0]))] s.heap := hP
  have hl := lv_entry ([.ref h0]) (n := 1) (Nat.le_of_ble_eq_true rfl)
  rw [lg_entry_eq]
  generalize (lg_sl ([.ref h0]) ++ List.replicate (1 - (lg_sl ([.ref h0])).length) Slot.unset).toArray = ls at hl ⊢
  have hl : lv_has ls 1 [(0, .ref h0)] := hl
  refine lv_aload_n hx hb dJxa1e45_init_da8c8_0 rfl (lv_at hl 0 rfl) ?_
  refine W.objInit hx hb hown (hts (.methodLink RJxa1e45 1 objectInit) (by decide +kernel)) (hts (.instanceMethod objectInit) (by decide +kernel)) (hts _ (List.mem_cons_of_mem _ (List.mem_of_getElem? (i := 2) rfl))) rfl (by rw [hml]; exact hl.1) rfl dJxa1e45_init_da8c8_1 (Nat.le_of_ble_eq_true rfl) (Nat.le_of_ble_eq_true rfl) ?_
  refine W.eq (g2 := F0 m 4 ls []) rfl ?_
  have hP9 := hP.sub (ws' := [(h0, .inr (0, [.int 0, .null, .int 0]))]) [0] rfl
  have hD9 := hD.sub (ws' := [(h0, .inr (0, [.int 0, .null, .int 0]))]) [0] (by decide) rfl
  have hK9 := hK.sub (tys' := []) [] rfl
  exact W.vret hx hb hr (fun t ht hW => ⟨⟨(), rfl, trivial, by rw [ht]; exact hP9, va_K.moved hW.alike hK9, hD9⟩, hS.F ht⟩) hS.2.2 dJxa1e45_init_da8c8_4
def wp_AL0_init : List Cond := .code yJxc12de_init_da8c8 cJxc12de_init_da8c8 1 none :: (([.initialized RJxa1e45, .methodLink RJxc12de 1 yJxa1e45_init_da8c8, .instanceMethod yJxa1e45_init_da8c8, .fieldLink RJxc12de 7 "java/util/AbstractList" "modCount" "I"] : List Cond) ++ wsJx4a65c0 ++ wp_AC_init)
theorem gc_AL0_init_AC_init : GoodIn wp_AL0_init wp_AC_init := goodIn_sub (fun _ h => List.mem_cons_of_mem _ (List.mem_append_right _ h)) (by decide +kernel)
set_option maxRecDepth 20000 in
theorem gi_AL0_init : GoodIn lw_tbl wp_AL0_init := (goodIn_ca (goodIn_ca (goodIn_r (.code yJxc12de_init_da8c8 cJxc12de_init_da8c8 1 none :: ([.initialized RJxa1e45, .methodLink RJxc12de 1 yJxa1e45_init_da8c8, .instanceMethod yJxa1e45_init_da8c8, .fieldLink RJxc12de 7 "java/util/AbstractList" "modCount" "I"] : List Cond)) [83, 49, 84, 85, 92] (by decide +kernel) (by decide +kernel)) wi_wsJx4a65c) gi_AC_init)
set_option maxHeartbeats 4000000 in
set_option maxRecDepth 100000 in
/-- AbstractList() -/
theorem c_AL0_init (l : Launch) (dC : Nat → ClassId) (dI : Nat → Nat → Nat) (sz : Nat) (h0 : Nat) : Met l yJxc12de_init_da8c8 wp_AL0_init ({ frames := 2, cells := 0, slots := 0, locals := 40 }) (va_Pc [.ref h0] (fun U => U.heap.size = sz ∧ va_P (dC, dI) vwCl [(h0, .inr (0, [.int 0, .null, .int 0]))] U.heap ∧ va_K (dC, dI) vwCl [] U ∧ va_D (fun _ => True) [(h0, .inr (0, [.int 0, .null, .int 0]))])) (va_Qv (fun (_ : Unit) => True) (fun (_ : Unit) (t : State) => va_P (dC, dI) vwCl [(h0, .inr (0, [.int 0, .null, .int 0]))] t.heap ∧ va_K (dC, dI) vwCl [] t ∧ va_D (va_A [(h0, .inr (0, [.int 0, .null, .int 0]))] sz) [(h0, .inr (0, [.int 0, .null, .int 0]))]) (va_A [(h0, .inr (0, [.int 0, .null, .int 0]))] sz)) 0 0 (va_A [(h0, .inr (0, [.int 0, .null, .int 0]))] sz) := by
  refine Met.ofW (cc := cJxc12de_init_da8c8) (maxL := 1) (ret := none) (by decide) rfl ?_
  intro p e s m args below meth c s₁ B hml hv
  obtain ⟨rfl, hsz, hP, hK, hD0⟩ := hv
  have hx := B.exec
  have hb := B.bytes
  have hr := B.returns
  have hts := atoms_spec (ws := wp_AL0_init) B.pre
  have hown : s.vm.findClass RJxc12de = some m.cls := findClass_of_methodNamed B.named
  have hlocks := B.notSynchronized
  have hin : meth.name = "<init>" := (name_of_methodNamed B.named B.method).1
  subst hsz
  have hD := hD0.self (sz := s.heap.size)
  generalize hAe : va_A [(h0, .inr (0, [.int 0, .null, .int 0]))] s.heap.size = A at hD ⊢
  have hA : ∀ q : Nat, s.heap.size ≤ q → A q := fun q h => by rw [← hAe]; exact Or.inr h
  have hS : va_S A s.heap s.heap [] := va_S.rf
  have hP : va_P (dC, dI) vwCl [(h0, .inr (0, [.int 0, .null, .int 0]))] s.heap := hP
  have hl := lv_entry ([.ref h0]) (n := 1) (Nat.le_of_ble_eq_true rfl)
  rw [lg_entry_eq]
  generalize (lg_sl ([.ref h0]) ++ List.replicate (1 - (lg_sl ([.ref h0])).length) Slot.unset).toArray = ls at hl ⊢
  have hl : lv_has ls 1 [(0, .ref h0)] := hl
  have hinJx4a65c : ∀ w ∈ u_ws RJx4a65c TJx4a65c 3, w ∈ wp_AL0_init := fun _ h => List.mem_cons_of_mem _ (List.mem_append_left _ (List.mem_append_right _ h))
  refine lv_aload_n hx hb dJxc12de_init_da8c8_0 rfl (lv_at hl 0 rfl) ?_
  have hPc := hP.sub (ws' := [(h0, .inr (0, [.int 0, .null, .int 0]))]) [0] rfl
  have hDc := hD.sub (ws' := [(h0, .inr (0, [.int 0, .null, .int 0]))]) [0] (by decide) rfl
  have hKc := hK.sub (tys' := []) [] rfl
  have hFc := va_free (wc := [(h0, .inr (0, [.int 0, .null, .int 0]))]) hD hS hA [0] rfl
  refine va_callv (va_runI (As := []) (rest := []) ⟨hx, hb, hml, hown, hts⟩ (c_AC_init l dC dI _ h0) (cwI 0 hts gc_AL0_init_AC_init rfl rfl rfl (hts (.initialized RJxa1e45) (by decide +kernel)) (hts (.methodLink RJxc12de 1 yJxa1e45_init_da8c8) (by decide +kernel)) (hts (.instanceMethod yJxa1e45_init_da8c8) (by decide +kernel)) rfl (by decide +kernel) ⟨Nat.le_of_ble_eq_true rfl, Nat.le_of_ble_eq_true rfl⟩) ⟨fun a U g mk q => by obtain ⟨q0, q1, qP, qK, qD⟩ := q; exact ⟨q0, q1, qP, va_K.moved (u := U) (U := U.calling g mk a) (Vm.Alike.refl U.vm) qK, qD⟩, fun U hU hW => ⟨rfl, by rw [hU], by rw [hU]; exact hPc, va_K.moved hW.alike hKc, hDc.weaken (fun _ _ _ _ => trivial)⟩⟩ rfl rfl hl.1 rfl (lv_room (Nat.le_of_ble_eq_true rfl)) dJxc12de_init_da8c8_1 ⟨Nat.zero_le _, Nat.zero_le _⟩) hS (fun q _ h => hFc q h) hFc (fun u t H1 locs ht hvm hw hB hz1 hk1 hS => ?_)
  obtain ⟨hP1, hK1, hD1⟩ := hB
  rw [ht] at hP1
  obtain ⟨hP, hD⟩ := va_join (wr := []) (w1 := [(h0, .inr (0, [.int 0, .null, .int 0]))]) hP hD [0] [] rfl rfl (by decide) (by decide) hk1 hFc hP1 hD1
  generalize H1 = H at hP hS ⊢
  have hP : va_P (dC, dI) vwCl [(h0, .inr (0, [.int 0, .null, .int 0]))] H := hP
  have hD : va_D A [(h0, .inr (0, [.int 0, .null, .int 0]))] := hD
  refine lv_aload_n hx hb dJxc12de_init_da8c8_4 rfl (lv_at hl 0 rfl) ?_
  refine lv_iconst (v := 0) hx hb dJxc12de_init_da8c8_5 (by decide) ?_
  refine va_put (D := (dC, dI)) (ci := 0) (v := .int 0) (ty := .int) (C := RJx4a65c) (T := TJx4a65c) (N := 3) hx hb hts hinJx4a65c tyJx4a65c tyJx4a65c_ok nmJx4a65c hown hK hP hD hS 0 rfl rfl 0 (by decide) (hts (.fieldLink RJxc12de 7 "java/util/AbstractList" "modCount" "I") (by decide +kernel)) (fun _ h9 => h9) rfl (by decide +kernel) rfl rfl (Nat.le_of_ble_eq_true rfl) dJxc12de_init_da8c8_6 (fun H locs hP hD hS => ?_)
  have hP : va_P (dC, dI) vwCl [(h0, .inr (0, [.int 0, .null, .int 0]))] H := hP
  have hD : va_D A [(h0, .inr (0, [.int 0, .null, .int 0]))] := hD
  have hP9 := hP.sub (ws' := [(h0, .inr (0, [.int 0, .null, .int 0]))]) [0] rfl
  have hD9 := hD.sub (ws' := [(h0, .inr (0, [.int 0, .null, .int 0]))]) [0] (by decide) rfl
  have hK9 := hK.sub (tys' := []) [] rfl
  exact W.vret hx hb hr (fun t ht hW => ⟨⟨(), rfl, trivial, by rw [ht]; exact hP9, va_K.moved hW.alike hK9, hD9⟩, hS.F ht⟩) hS.2.2 dJxc12de_init_da8c8_9
def wp_AL_init : List Cond := .code yJx4a65c_init_da8c8 cJx4a65c_init_da8c8 1 none :: (([.initialized RJxc12de, .methodLink RJx4a65c 1 yJxc12de_init_da8c8, .instanceMethod yJxc12de_init_da8c8, .fieldLink RJx4a65c 39 "java/util/ArrayList" "DEFAULTCAPACITY_EMPTY_ELEMENTDATA" "[Ljava/lang/Object;", .fieldLink RJx4a65c 9 "java/util/ArrayList" "elementData" "[Ljava/lang/Object;"] : List Cond) ++ wsJx4a65c0 ++ wp_AL0_init)
theorem gc_AL_init_AL0_init : GoodIn wp_AL_init wp_AL0_init := goodIn_sub (fun _ h => List.mem_cons_of_mem _ (List.mem_append_right _ h)) (by decide +kernel)
set_option maxRecDepth 20000 in
theorem gi_AL_init : GoodIn lw_tbl wp_AL_init := (goodIn_ca (goodIn_ca (goodIn_r (.code yJx4a65c_init_da8c8 cJx4a65c_init_da8c8 1 none :: ([.initialized RJxc12de, .methodLink RJx4a65c 1 yJxc12de_init_da8c8, .instanceMethod yJxc12de_init_da8c8, .fieldLink RJx4a65c 39 "java/util/ArrayList" "DEFAULTCAPACITY_EMPTY_ELEMENTDATA" "[Ljava/lang/Object;", .fieldLink RJx4a65c 9 "java/util/ArrayList" "elementData" "[Ljava/lang/Object;"] : List Cond)) [80, 50, 81, 82, 88, 90] (by decide +kernel) (by decide +kernel)) wi_wsJx4a65c) gi_AL0_init)
set_option maxHeartbeats 4000000 in
set_option maxRecDepth 100000 in
/-- ArrayList() -/
theorem c_AL_init (l : Launch) (dC : Nat → ClassId) (dI : Nat → Nat → Nat) (sz : Nat) (h0 : Nat) (ze : Nat) (mi : Nat) : Met l yJx4a65c_init_da8c8 wp_AL_init ({ frames := 3, cells := 0, slots := 0, locals := 60 }) (va_Pc [.ref h0] (fun U => U.heap.size = sz ∧ va_P (dC, dI) vwCl [(h0, .inr (0, [.int 0, .null, .int 0]))] U.heap ∧ va_K (dC, dI) vwCl [] U ∧ va_D (fun _ => True) [(h0, .inr (0, [.int 0, .null, .int 0]))] ∧ okAL ze mi (va_A [(h0, .inr (0, [.int 0, .null, .int 0]))] sz) U U.heap)) (va_Qv (fun (_ : Unit) => True) (fun (_ : Unit) (t : State) => va_P (dC, dI) vwCl [(h0, .inr (0, [.int 0, .ref ze, .int 0]))] t.heap ∧ va_K (dC, dI) vwCl [] t ∧ va_D (va_A [(h0, .inr (0, [.int 0, .null, .int 0]))] sz) [(h0, .inr (0, [.int 0, .ref ze, .int 0]))]) (va_A [(h0, .inr (0, [.int 0, .null, .int 0]))] sz)) 0 0 (va_A [(h0, .inr (0, [.int 0, .null, .int 0]))] sz) := by
  refine Met.ofW (cc := cJx4a65c_init_da8c8) (maxL := 1) (ret := none) (by decide) rfl ?_
  intro p e s m args below meth c s₁ B hml hv
  obtain ⟨rfl, hsz, hP, hK, hD0, hAL⟩ := hv
  have hx := B.exec
  have hb := B.bytes
  have hr := B.returns
  have hts := atoms_spec (ws := wp_AL_init) B.pre
  have hown : s.vm.findClass RJx4a65c = some m.cls := findClass_of_methodNamed B.named
  have hlocks := B.notSynchronized
  have hin : meth.name = "<init>" := (name_of_methodNamed B.named B.method).1
  subst hsz
  have hD := hD0.self (sz := s.heap.size)
  generalize hAe : va_A [(h0, .inr (0, [.int 0, .null, .int 0]))] s.heap.size = A at hD hAL ⊢
  have hA : ∀ q : Nat, s.heap.size ≤ q → A q := fun q h => by rw [← hAe]; exact Or.inr h
  have hS : va_S A s.heap s.heap [] := va_S.rf
  have hP : va_P (dC, dI) vwCl [(h0, .inr (0, [.int 0, .null, .int 0]))] s.heap := hP
  have hl := lv_entry ([.ref h0]) (n := 1) (Nat.le_of_ble_eq_true rfl)
  rw [lg_entry_eq]
  generalize (lg_sl ([.ref h0]) ++ List.replicate (1 - (lg_sl ([.ref h0])).length) Slot.unset).toArray = ls at hl ⊢
  have hl : lv_has ls 1 [(0, .ref h0)] := hl
  have hinJx4a65c : ∀ w ∈ u_ws RJx4a65c TJx4a65c 3, w ∈ wp_AL_init := fun _ h => List.mem_cons_of_mem _ (List.mem_append_left _ (List.mem_append_right _ h))
  have hZT : va_T (.object "java/lang/Object") ze 0 (fun _ => .null) A s s.heap ∧ True := ⟨hAL.2.1, trivial⟩
  refine lv_aload_n hx hb dJx4a65c_init_da8c8_0 rfl (lv_at hl 0 rfl) ?_
  have hPc := hP.sub (ws' := [(h0, .inr (0, [.int 0, .null, .int 0]))]) [0] rfl
  have hDc := hD.sub (ws' := [(h0, .inr (0, [.int 0, .null, .int 0]))]) [0] (by decide) rfl
  have hKc := hK.sub (tys' := []) [] rfl
  have hFc := va_free (wc := [(h0, .inr (0, [.int 0, .null, .int 0]))]) hD hS hA [0] rfl
  refine va_callv (va_runI (As := []) (rest := []) ⟨hx, hb, hml, hown, hts⟩ (c_AL0_init l dC dI _ h0) (cwI 0 hts gc_AL_init_AL0_init rfl rfl rfl (hts (.initialized RJxc12de) (by decide +kernel)) (hts (.methodLink RJx4a65c 1 yJxc12de_init_da8c8) (by decide +kernel)) (hts (.instanceMethod yJxc12de_init_da8c8) (by decide +kernel)) rfl (by decide +kernel) ⟨Nat.le_of_ble_eq_true rfl, Nat.le_of_ble_eq_true rfl⟩) ⟨fun a U g mk q => by obtain ⟨q0, q1, qP, qK, qD⟩ := q; exact ⟨q0, q1, qP, va_K.moved (u := U) (U := U.calling g mk a) (Vm.Alike.refl U.vm) qK, qD⟩, fun U hU hW => ⟨rfl, by rw [hU], by rw [hU]; exact hPc, va_K.moved hW.alike hKc, hDc.weaken (fun _ _ _ _ => trivial)⟩⟩ rfl rfl hl.1 rfl (lv_room (Nat.le_of_ble_eq_true rfl)) dJx4a65c_init_da8c8_1 ⟨Nat.zero_le _, Nat.zero_le _⟩) hS (fun q _ h => hFc q h) hFc (fun u t H1 locs ht hvm hw hB hz1 hk1 hS => ?_)
  obtain ⟨hP1, hK1, hD1⟩ := hB
  rw [ht] at hP1
  obtain ⟨hP, hD⟩ := va_join (wr := []) (w1 := [(h0, .inr (0, [.int 0, .null, .int 0]))]) hP hD [0] [] rfl rfl (by decide) (by decide) hk1 hFc hP1 hD1
  generalize H1 = H at hP hS ⊢
  have hP : va_P (dC, dI) vwCl [(h0, .inr (0, [.int 0, .null, .int 0]))] H := hP
  have hD : va_D A [(h0, .inr (0, [.int 0, .null, .int 0]))] := hD
  refine lv_aload_n hx hb dJx4a65c_init_da8c8_4 rfl (lv_at hl 0 rfl) ?_
  refine va_gets hx hb hAL.1 hS hown (hts (.fieldLink RJx4a65c 39 "java/util/ArrayList" "DEFAULTCAPACITY_EMPTY_ELEMENTDATA" "[Ljava/lang/Object;") (by decide +kernel)) (fun _ h9 => h9) dJx4a65c_init_da8c8_5 ?_
  refine va_put (D := (dC, dI)) (ci := 0) (v := .ref ze) (ty := .array (.object "java/lang/Object")) (C := RJx4a65c) (T := TJx4a65c) (N := 3) hx hb hts hinJx4a65c tyJx4a65c tyJx4a65c_ok nmJx4a65c hown hK hP hD hS 0 rfl rfl 1 (by decide) (hts (.fieldLink RJx4a65c 9 "java/util/ArrayList" "elementData" "[Ljava/lang/Object;") (by decide +kernel)) (fun _ h9 => h9) rfl (by decide +kernel) rfl rfl (Nat.le_of_ble_eq_true rfl) dJx4a65c_init_da8c8_8 (fun H locs hP hD hS => ?_)
  have hP : va_P (dC, dI) vwCl [(h0, .inr (0, [.int 0, .ref ze, .int 0]))] H := hP
  have hD : va_D A [(h0, .inr (0, [.int 0, .ref ze, .int 0]))] := hD
  have hP9 := hP.sub (ws' := [(h0, .inr (0, [.int 0, .ref ze, .int 0]))]) [0] rfl
  have hD9 := hD.sub (ws' := [(h0, .inr (0, [.int 0, .ref ze, .int 0]))]) [0] (by decide) rfl
  have hK9 := hK.sub (tys' := []) [] rfl
  exact W.vret hx hb hr (fun t ht hW => ⟨⟨(), rfl, trivial, by rw [ht]; exact hP9, va_K.moved hW.alike hK9, hD9⟩, hS.F ht⟩) hS.2.2 dJx4a65c_init_da8c8_11
def wp_X6_keepE : List Cond := .code yX6_keep cX6_keep 4 (some .int) :: (([.fieldLink RX6 19 "AgreedTalks" "records" "Ljava/util/ArrayList;", .classLink RX6 112 RX3, .instantiable RX3 2, .initialized RX3, .methodLink RX6 186 yX3_init, .instanceMethod yX3_init, .fieldLink RX6 13 "AgreedTalks" "counting" "[I", .fieldLink RX6 57 "AgreedTalks" "shown" "I"] : List Cond) ++ wsX60 ++ wsX30 ++ (wsV RX6 91 RJx4a65c yJx4a65c_size_8abf5 wp_AL_size) ++ wp_Min_init ++ (wsV RX6 189 RJx4a65c yJx4a65c_add_9ea2d wp_AL_addE))
theorem gc_X6_keepE_AL_size : GoodIn wp_X6_keepE (wsV RX6 91 RJx4a65c yJx4a65c_size_8abf5 wp_AL_size) := goodIn_sub (fun _ h => List.mem_cons_of_mem _ (List.mem_append_left _ (List.mem_append_left _ (List.mem_append_right _ h)))) (by decide +kernel)
theorem gc_X6_keepE_Min_init : GoodIn wp_X6_keepE wp_Min_init := goodIn_sub (fun _ h => List.mem_cons_of_mem _ (List.mem_append_left _ (List.mem_append_right _ h))) (by decide +kernel)
theorem gc_X6_keepE_AL_addE : GoodIn wp_X6_keepE (wsV RX6 189 RJx4a65c yJx4a65c_add_9ea2d wp_AL_addE) := goodIn_sub (fun _ h => List.mem_cons_of_mem _ (List.mem_append_right _ h)) (by decide +kernel)
set_option maxRecDepth 20000 in
theorem gi_X6_keepE : GoodIn lw_tbl wp_X6_keepE := (goodIn_ca (goodIn_ca (goodIn_ca (goodIn_ca (goodIn_ca (goodIn_r (.code yX6_keep cX6_keep 4 (some .int) :: ([.fieldLink RX6 19 "AgreedTalks" "records" "Ljava/util/ArrayList;", .classLink RX6 112 RX3, .instantiable RX3 2, .initialized RX3, .methodLink RX6 186 yX3_init, .instanceMethod yX3_init, .fieldLink RX6 13 "AgreedTalks" "counting" "[I", .fieldLink RX6 57 "AgreedTalks" "shown" "I"] : List Cond)) [465, 191, 466, 467, 66, 468, 469, 190, 197] (by decide +kernel) (by decide +kernel)) wi_wsX6) wi_wsX3) (goodIn_app (goodIn_r _ [255, 256, 257, 51] (by decide +kernel) (by decide +kernel)) gi_AL_size)) gi_Min_init) (goodIn_app (goodIn_r _ [481, 408, 409, 51] (by decide +kernel) (by decide +kernel)) gi_AL_addE))
set_option maxHeartbeats 4000000 in
set_option maxRecDepth 100000 in
/-- keep -/
theorem c_X6_keepE (l : Launch) (dC : Nat → ClassId) (dI : Nat → Nat → Nat) (sz : Nat) (h0 : Nat) (a0 : Nat) (a1 : Nat) (a2 : Nat) (a3 : Nat) (a4 : Nat) (a5 : Nat) (a6 : Nat) (mk : Nat) (sh : Int32) (fp : Int32) (rf : Int32) (mm : Nat) (lp : Nat) (cC : ClassId) (fc : Nat → Int32) (mc : Int32) (cO : ClassId) (ze : Nat) (mi : Nat) (qmm : mm < 30) : Met l yX6_keep wp_X6_keepE ({ frames := 7, cells := 2, slots := 66, locals := 280 }) (va_Pc [.ref h0, .int (nI mm), .ref lp] (fun U => U.heap.size = sz ∧ va_P (dC, dI) vwCl [(h0, .inr (7, [.ref a0, .ref a1, .ref a2, .ref a3, .ref a4, .ref a5, .ref a6, .int (nI mk), .int sh, .int fp, .int rf])), (a1, .inl (cC, 30, .inl fc)), (a2, .inr (0, [.int mc, .ref ze, .int 0]))] U.heap ∧ va_K (dC, dI) vwCl [(cC, .int), (cO, .object "java/lang/Object")] U ∧ va_D (fun _ => True) [(h0, .inr (7, [.ref a0, .ref a1, .ref a2, .ref a3, .ref a4, .ref a5, .ref a6, .int (nI mk), .int sh, .int fp, .int rf])), (a1, .inl (cC, 30, .inl fc)), (a2, .inr (0, [.int mc, .ref ze, .int 0]))] ∧ okAL ze mi (va_A [(h0, .inr (7, [.ref a0, .ref a1, .ref a2, .ref a3, .ref a4, .ref a5, .ref a6, .int (nI mk), .int sh, .int fp, .int rf])), (a1, .inl (cC, 30, .inl fc)), (a2, .inr (0, [.int mc, .ref ze, .int 0]))] sz) U U.heap)) (va_Qi (fun (r : Int32) (_ : Unit) => True) (fun (_ : Unit) (t : State) => ∃ (sh2 : Int32), ∃ (fc2 : Nat → Int32), ∃ (ad2 : Nat), ∃ (cap2 : Nat), ∃ (g1 : Nat → Option Nat), ∃ (mc2 : Int32), ∃ (qm : Nat), (1 ≤ cap2) ∧ (cap2 ≤ 64) ∧ (g1 0 = some qm) ∧ (sz ≤ ad2) ∧ (sz ≤ qm) ∧ va_P (dC, dI) vwCl [(h0, .inr (7, [.ref a0, .ref a1, .ref a2, .ref a3, .ref a4, .ref a5, .ref a6, .int (nI mk), .int sh2, .int fp, .int rf])), (a1, .inl (cC, 30, .inl fc2)), (a2, .inr (0, [.int mc2, .ref ad2, .int 1])), (ad2, .inl (cO, cap2, .inr (.inr (.inr (.inr g1))))), (qm, .inr (4, [.int (nI mm), .ref lp]))] t.heap ∧ va_K (dC, dI) vwCl [(cC, .int), (cO, .object "java/lang/Object")] t ∧ va_D (va_A [(h0, .inr (7, [.ref a0, .ref a1, .ref a2, .ref a3, .ref a4, .ref a5, .ref a6, .int (nI mk), .int sh, .int fp, .int rf])), (a1, .inl (cC, 30, .inl fc)), (a2, .inr (0, [.int mc, .ref ze, .int 0]))] sz) [(h0, .inr (7, [.ref a0, .ref a1, .ref a2, .ref a3, .ref a4, .ref a5, .ref a6, .int (nI mk), .int sh2, .int fp, .int rf])), (a1, .inl (cC, 30, .inl fc2)), (a2, .inr (0, [.int mc2, .ref ad2, .int 1])), (ad2, .inl (cO, cap2, .inr (.inr (.inr (.inr g1))))), (qm, .inr (4, [.int (nI mm), .ref lp]))]) (va_A [(h0, .inr (7, [.ref a0, .ref a1, .ref a2, .ref a3, .ref a4, .ref a5, .ref a6, .int (nI mk), .int sh, .int fp, .int rf])), (a1, .inl (cC, 30, .inl fc)), (a2, .inr (0, [.int mc, .ref ze, .int 0]))] sz)) 2 66 (va_A [(h0, .inr (7, [.ref a0, .ref a1, .ref a2, .ref a3, .ref a4, .ref a5, .ref a6, .int (nI mk), .int sh, .int fp, .int rf])), (a1, .inl (cC, 30, .inl fc)), (a2, .inr (0, [.int mc, .ref ze, .int 0]))] sz) := by
  refine Met.ofW (cc := cX6_keep) (maxL := 4) (ret := (some .int)) (by decide) rfl ?_
  intro p e s m args below meth c s₁ B hml hv
  obtain ⟨rfl, hsz, hP, hK, hD0, hAL⟩ := hv
  have hx := B.exec
  have hb := B.bytes
  have hr := B.returns
  have hts := atoms_spec (ws := wp_X6_keepE) B.pre
  have hown : s.vm.findClass RX6 = some m.cls := findClass_of_methodNamed B.named
  have hlocks := B.notSynchronized
  subst hsz
  have hD := hD0.self (sz := s.heap.size)
  generalize hAe : va_A [(h0, .inr (7, [.ref a0, .ref a1, .ref a2, .ref a3, .ref a4, .ref a5, .ref a6, .int (nI mk), .int sh, .int fp, .int rf])), (a1, .inl (cC, 30, .inl fc)), (a2, .inr (0, [.int mc, .ref ze, .int 0]))] s.heap.size = A at hD hAL ⊢
  have hA : ∀ q : Nat, s.heap.size ≤ q → A q := fun q h => by rw [← hAe]; exact Or.inr h
  have hS : va_S A s.heap s.heap [] := va_S.rf
  have hP : va_P (dC, dI) vwCl [(h0, .inr (7, [.ref a0, .ref a1, .ref a2, .ref a3, .ref a4, .ref a5, .ref a6, .int (nI mk), .int sh, .int fp, .int rf])), (a1, .inl (cC, 30, .inl fc)), (a2, .inr (0, [.int mc, .ref ze, .int 0]))] s.heap := hP
  have hl := lv_entry ([.ref h0, .int (nI mm), .ref lp]) (n := 4) (Nat.le_of_ble_eq_true rfl)
  rw [lg_entry_eq]
  generalize (lg_sl ([.ref h0, .int (nI mm), .ref lp]) ++ List.replicate (4 - (lg_sl ([.ref h0, .int (nI mm), .ref lp])).length) Slot.unset).toArray = ls at hl ⊢
  have hl : lv_has ls 4 [(0, .ref h0), (1, .int (nI mm)), (2, .ref lp)] := hl
  have hinX6 : ∀ w ∈ u_ws RX6 TX6 11, w ∈ wp_X6_keepE := fun _ h => List.mem_cons_of_mem _ (List.mem_append_left _ (List.mem_append_left _ (List.mem_append_left _ (List.mem_append_left _ (List.mem_append_right _ h)))))
  have hinX3 : ∀ w ∈ u_ws RX3 TX3 2, w ∈ wp_X6_keepE := fun _ h => List.mem_cons_of_mem _ (List.mem_append_left _ (List.mem_append_left _ (List.mem_append_left _ (List.mem_append_right _ h))))
  have hZT : va_T (.object "java/lang/Object") ze 0 (fun _ => .null) A s s.heap ∧ True := ⟨hAL.2.1, trivial⟩
  refine lv_aload_n hx hb dX6_keep_0 rfl (lv_at hl 0 rfl) ?_
  refine va_get (D := (dC, dI)) (ci := 7) (v := .ref a2) (C := RX6) (T := TX6) (N := 11) hx hb hts hinX6 hown hK hP 0 rfl rfl 2 (by decide) (hts (.fieldLink RX6 19 "AgreedTalks" "records" "Ljava/util/ArrayList;") (by decide +kernel)) (fun _ h9 => h9) rfl dX6_keep_1 ?_
  have hPc := hP.sub (ws' := [(a2, .inr (0, [.int mc, .ref ze, .int 0]))]) [2] rfl
  have hDc := hD.sub (ws' := [(a2, .inr (0, [.int mc, .ref ze, .int 0]))]) [2] (by decide) rfl
  have hKc := hK.sub (tys' := []) [] rfl
  have hFc := va_free (wc := [(a2, .inr (0, [.int mc, .ref ze, .int 0]))]) hD hS hA [2] rfl
  refine va_calli (va_runV (As := []) (rest := []) ⟨hx, hb, hml, hown, hts⟩ (c_AL_size l dC dI _ a2 mc (.ref ze) 0) (cwV 0 hts gc_X6_keepE_AL_size rfl rfl rfl (by decide +kernel) ⟨Nat.le_of_ble_eq_true rfl, Nat.le_of_ble_eq_true rfl⟩) ⟨fun a U g mk q => by obtain ⟨q0, q1, qP, qK, qD⟩ := q; exact ⟨q0, q1, qP, va_K.moved (u := U) (U := U.calling g mk a) (Vm.Alike.refl U.vm) qK, qD⟩, va_recv hKc hPc (ci := 0) (q0 := 0) rfl rfl, fun U hU hW => ⟨rfl, by rw [hU], by rw [hU]; exact hPc, va_K.moved hW.alike hKc, hDc.weaken (fun _ _ _ _ => trivial)⟩⟩ rfl rfl hl.1 rfl (lv_room (Nat.le_of_ble_eq_true rfl)) dX6_keep_4 ⟨Nat.zero_le _, Nat.zero_le _⟩) hS (fun q _ h => hFc q h) hFc (fun r_1 u t H1 locs ht hvm hw hB hz1 hk1 hS => ?_)
  obtain ⟨hP1, hK1, hD1⟩ := hB
  rw [ht] at hP1
  obtain ⟨hP, hD⟩ := va_join (wr := [(h0, .inr (7, [.ref a0, .ref a1, .ref a2, .ref a3, .ref a4, .ref a5, .ref a6, .int (nI mk), .int sh, .int fp, .int rf])), (a1, .inl (cC, 30, .inl fc))]) (w1 := [(a2, .inr (0, [.int mc, .ref ze, .int 0]))]) hP hD [2] [0, 1] rfl rfl (by decide) (by decide) hk1 hFc hP1 hD1
  generalize H1 = H at hP hS ⊢
  have hP : va_P (dC, dI) vwCl [(h0, .inr (7, [.ref a0, .ref a1, .ref a2, .ref a3, .ref a4, .ref a5, .ref a6, .int (nI mk), .int sh, .int fp, .int rf])), (a1, .inl (cC, 30, .inl fc)), (a2, .inr (0, [.int mc, .ref ze, .int 0]))] H := hP
  have hD : va_D A [(h0, .inr (7, [.ref a0, .ref a1, .ref a2, .ref a3, .ref a4, .ref a5, .ref a6, .int (nI mk), .int sh, .int fp, .int rf])), (a1, .inl (cC, 30, .inl fc)), (a2, .inr (0, [.int mc, .ref ze, .int 0]))] := hD
  obtain rfl : r_1 = 0 := hw
  refine lv_istore_n (lv' := [(3, .int 0), (0, .ref h0), (1, .int (nI mm)), (2, .ref lp)]) hx hb dX6_keep_7 rfl hl (by decide) rfl (fun ls hl => ?_)
  refine lv_aload_n hx hb dX6_keep_8 rfl (lv_at hl 1 rfl) ?_
  refine va_get (D := (dC, dI)) (ci := 7) (v := .ref a2) (C := RX6) (T := TX6) (N := 11) hx hb hts hinX6 hown hK hP 0 rfl rfl 2 (by decide) (hts (.fieldLink RX6 19 "AgreedTalks" "records" "Ljava/util/ArrayList;") (by decide +kernel)) (fun _ h9 => h9) rfl dX6_keep_9 ?_
  refine va_new (ci := 4) (fs := [.int 0, .null]) (C := RX3) (T := TX3) (N := 2) hx hb hts hinX3 tyX3 tyX3_ok hown (hts (.classLink RX6 112 RX3) (by decide +kernel)) (hts (.instantiable RX3 2) (by decide +kernel)) (hts (.initialized RX3) (by decide +kernel)) hK hP hD hS hA rfl (fun j hj => by rcases (show j = 0 ∨ j = 1 by omega) with rfl | rfl <;> rfl) (by decide) (by decide) dX6_keep_12 (fun q_2 H hP hD hS => ?_)
  have hP : va_P (dC, dI) vwCl [(h0, .inr (7, [.ref a0, .ref a1, .ref a2, .ref a3, .ref a4, .ref a5, .ref a6, .int (nI mk), .int sh, .int fp, .int rf])), (a1, .inl (cC, 30, .inl fc)), (a2, .inr (0, [.int mc, .ref ze, .int 0])), (q_2, .inr (4, [.int 0, .null]))] H := hP
  have hD : va_D A [(h0, .inr (7, [.ref a0, .ref a1, .ref a2, .ref a3, .ref a4, .ref a5, .ref a6, .int (nI mk), .int sh, .int fp, .int rf])), (a1, .inl (cC, 30, .inl fc)), (a2, .inr (0, [.int mc, .ref ze, .int 0])), (q_2, .inr (4, [.int 0, .null]))] := hD
  refine W.widen (k := 1) (n := 2) (by omega) (by omega) ?_
  have hnq := (okNew hAe hD 3 rfl [0, 1, 2] rfl (by decide))
  refine lv_dup hx hb dX6_keep_15 rfl ?_
  refine lv_iload_n hx hb dX6_keep_16 rfl (lv_at hl 2 rfl) ?_
  refine lv_aload_n hx hb dX6_keep_17 rfl (lv_at hl 3 rfl) ?_
  have hPc := hP.sub (ws' := [(q_2, .inr (4, [.int 0, .null]))]) [3] rfl
  have hDc := hD.sub (ws' := [(q_2, .inr (4, [.int 0, .null]))]) [3] (by decide) rfl
  have hKc := hK.sub (tys' := []) [] rfl
  have hFc := va_free (wc := [(q_2, .inr (4, [.int 0, .null]))]) hD hS hA [3] rfl
  refine va_callv (va_runI (As := [.int (nI mm), .ref lp]) (rest := [.ref q_2, .ref a2]) ⟨hx, hb, hml, hown, hts⟩ (c_Min_init l dC dI _ q_2 (nI mm) lp) (cwI 2 hts gc_X6_keepE_Min_init rfl rfl rfl (hts (.initialized RX3) (by decide +kernel)) (hts (.methodLink RX6 186 yX3_init) (by decide +kernel)) (hts (.instanceMethod yX3_init) (by decide +kernel)) rfl (by decide +kernel) ⟨Nat.le_of_ble_eq_true rfl, Nat.le_of_ble_eq_true rfl⟩) ⟨fun a U g mk q => by obtain ⟨q0, q1, qP, qK, qD⟩ := q; exact ⟨q0, q1, qP, va_K.moved (u := U) (U := U.calling g mk a) (Vm.Alike.refl U.vm) qK, qD⟩, fun U hU hW => ⟨rfl, by rw [hU], by rw [hU]; exact hPc, va_K.moved hW.alike hKc, hDc.weaken (fun _ _ _ _ => trivial)⟩⟩ rfl rfl hl.1 rfl (lv_room (Nat.le_of_ble_eq_true rfl)) dX6_keep_18 ⟨by decide, by decide⟩) hS (fun q _ h => hFc q h) hFc (fun u t H1 locs ht hvm hw hB hz1 hk1 hS => ?_)
  obtain ⟨hP1, hK1, hD1⟩ := hB
  rw [ht] at hP1
  obtain ⟨hP, hD⟩ := va_join (wr := [(h0, .inr (7, [.ref a0, .ref a1, .ref a2, .ref a3, .ref a4, .ref a5, .ref a6, .int (nI mk), .int sh, .int fp, .int rf])), (a1, .inl (cC, 30, .inl fc)), (a2, .inr (0, [.int mc, .ref ze, .int 0]))]) (w1 := [(q_2, .inr (4, [.int (nI mm), .ref lp]))]) hP hD [3] [0, 1, 2] rfl rfl (by decide) (by decide) hk1 hFc hP1 hD1
  generalize H1 = H at hP hS ⊢
  have hP : va_P (dC, dI) vwCl [(h0, .inr (7, [.ref a0, .ref a1, .ref a2, .ref a3, .ref a4, .ref a5, .ref a6, .int (nI mk), .int sh, .int fp, .int rf])), (a1, .inl (cC, 30, .inl fc)), (a2, .inr (0, [.int mc, .ref ze, .int 0])), (q_2, .inr (4, [.int (nI mm), .ref lp]))] H := hP
  have hD : va_D A [(h0, .inr (7, [.ref a0, .ref a1, .ref a2, .ref a3, .ref a4, .ref a5, .ref a6, .int (nI mk), .int sh, .int fp, .int rf])), (a1, .inl (cC, 30, .inl fc)), (a2, .inr (0, [.int mc, .ref ze, .int 0])), (q_2, .inr (4, [.int (nI mm), .ref lp]))] := hD
  have hPc := hP.sub (ws' := [(a2, .inr (0, [.int mc, .ref ze, .int 0]))]) [2] rfl
  have hDc := hD.sub (ws' := [(a2, .inr (0, [.int mc, .ref ze, .int 0]))]) [2] (by decide) rfl
  have hKc := hK.sub (tys' := [(cO, .object "java/lang/Object")]) [1] rfl
  have hFc := va_free (wc := [(a2, .inr (0, [.int mc, .ref ze, .int 0]))]) hD hS hA [2] rfl
  have hz_4 := hS.1
  refine va_calli (va_runV (As := [.ref q_2]) (rest := []) ⟨hx, hb, hml, hown, hts⟩ (c_AL_addE l dC dI _ a2 mc q_2 cO ze mi) (cwV 1 hts gc_X6_keepE_AL_addE rfl rfl rfl (by decide +kernel) ⟨Nat.le_of_ble_eq_true rfl, Nat.le_of_ble_eq_true rfl⟩) ⟨fun a U g mk q => by obtain ⟨q0, q1, qP, qK, qD, q_hAL, q_hAn⟩ := q; exact ⟨q0, q1, qP, va_K.moved (u := U) (U := U.calling g mk a) (Vm.Alike.refl U.vm) qK, qD, okAL.moved (Vm.Alike.refl U.vm) q_hAL, q_hAn⟩, va_recv hKc hPc (ci := 0) (q0 := 0) rfl rfl, fun U hU hW => ⟨rfl, by rw [hU], by rw [hU]; exact hPc, va_K.moved hW.alike hKc, hDc.weaken (fun _ _ _ _ => trivial), by rw [hU]; exact okAL.pass hAL hW hS hFc, by rw [hU]; exact ⟨4, _, Or.inr rfl, okF.of hP hD 3 rfl [2] rfl (by decide)⟩⟩⟩ rfl rfl hl.1 rfl (lv_room (Nat.le_of_ble_eq_true rfl)) dX6_keep_21 ⟨by decide, by decide⟩) hS (fun q _ h => hFc q h) hFc (fun r_3 u t H1 locs ht hvm hw hB hz1 hk1 hS => ?_)
  obtain ⟨ad2_5, cap2_6, g1_7, mc2_8, hf_9, hf_10, hf_11, hf_12, hP1, hK1, hD1⟩ := hB
  rw [ht] at hP1
  obtain ⟨hP, hD⟩ := va_join (wr := [(h0, .inr (7, [.ref a0, .ref a1, .ref a2, .ref a3, .ref a4, .ref a5, .ref a6, .int (nI mk), .int sh, .int fp, .int rf])), (a1, .inl (cC, 30, .inl fc)), (q_2, .inr (4, [.int (nI mm), .ref lp]))]) (w1 := [(a2, .inr (0, [.int mc2_8, .ref ad2_5, .int 1])), (ad2_5, .inl (cO, cap2_6, .inr (.inr (.inr (.inr g1_7)))))]) hP hD [2] [0, 1, 3] rfl rfl (by decide) (by decide) hk1 hFc hP1 hD1
  generalize H1 = H at hP hS ⊢
  have hP : va_P (dC, dI) vwCl [(h0, .inr (7, [.ref a0, .ref a1, .ref a2, .ref a3, .ref a4, .ref a5, .ref a6, .int (nI mk), .int sh, .int fp, .int rf])), (a1, .inl (cC, 30, .inl fc)), (q_2, .inr (4, [.int (nI mm), .ref lp])), (a2, .inr (0, [.int mc2_8, .ref ad2_5, .int 1])), (ad2_5, .inl (cO, cap2_6, .inr (.inr (.inr (.inr g1_7)))))] H := hP
  have hD : va_D A [(h0, .inr (7, [.ref a0, .ref a1, .ref a2, .ref a3, .ref a4, .ref a5, .ref a6, .int (nI mk), .int sh, .int fp, .int rf])), (a1, .inl (cC, 30, .inl fc)), (q_2, .inr (4, [.int (nI mm), .ref lp])), (a2, .inr (0, [.int mc2_8, .ref ad2_5, .int 1])), (ad2_5, .inl (cO, cap2_6, .inr (.inr (.inr (.inr g1_7)))))] := hD
  refine W.widen (k := 2) (n := 66) (by omega) (by omega) ?_
  obtain rfl : r_3 = 1 := hw
  refine lv_pop hx hb dX6_keep_24 rfl ?_
  refine lv_aload_n hx hb dX6_keep_25 rfl (lv_at hl 1 rfl) ?_
  refine va_get (D := (dC, dI)) (ci := 7) (v := .ref a1) (C := RX6) (T := TX6) (N := 11) hx hb hts hinX6 hown hK hP 0 rfl rfl 1 (by decide) (hts (.fieldLink RX6 13 "AgreedTalks" "counting" "[I") (by decide +kernel)) (fun _ h9 => h9) rfl dX6_keep_26 ?_
  refine lv_iload_n hx hb dX6_keep_29 rfl (lv_at hl 2 rfl) ?_
  refine va_iald hx hb hK hP 1 0 rfl rfl (vp_in_nI (by omega) (by omega)) dX6_keep_30 ?_
  refine lv_topi (fun x_13 ex_13 => ?_)
  rw [show (Int32.toNatClampNeg (nI mm)) = mm from nI_clamp (by omega)] at ex_13
  refine lv_iconst (v := (-1)) hx hb dX6_keep_31 (by decide) ?_
  refine lv_icmp_ne (tgt := 47) hx hb dX6_keep_32 (by decide) (fun c_14 => ?_) (fun c_14 => ?_)
  · refine lv_iload_n hx hb dX6_keep_47 rfl (lv_at hl 0 rfl) ?_
    have hP9 := hP.sub (ws' := [(h0, .inr (7, [.ref a0, .ref a1, .ref a2, .ref a3, .ref a4, .ref a5, .ref a6, .int (nI mk), .int sh, .int fp, .int rf])), (a1, .inl (cC, 30, .inl fc)), (a2, .inr (0, [.int mc2_8, .ref ad2_5, .int 1])), (ad2_5, .inl (cO, cap2_6, .inr (.inr (.inr (.inr g1_7))))), (q_2, .inr (4, [.int (nI mm), .ref lp]))]) [0, 1, 3, 4, 2] rfl
    have hD9 := hD.sub (ws' := [(h0, .inr (7, [.ref a0, .ref a1, .ref a2, .ref a3, .ref a4, .ref a5, .ref a6, .int (nI mk), .int sh, .int fp, .int rf])), (a1, .inl (cC, 30, .inl fc)), (a2, .inr (0, [.int mc2_8, .ref ad2_5, .int 1])), (ad2_5, .inl (cO, cap2_6, .inr (.inr (.inr (.inr g1_7))))), (q_2, .inr (4, [.int (nI mm), .ref lp]))]) [0, 1, 3, 4, 2] (by decide) rfl
    have hK9 := hK.sub (tys' := [(cC, .int), (cO, .object "java/lang/Object")]) [0, 1] rfl
    refine W.widen (k := 2) (n := 66) (by omega) (by omega) ?_
    exact W.iret (v := 0) hx hb hr (fun t ht hW => ⟨⟨0, (), rfl, trivial, sh, fc, ad2_5, cap2_6, g1_7, mc2_8, q_2, (by omega), (by omega), hf_11, (Nat.le_trans hz_4 hf_12), hnq, by rw [ht]; exact hP9, va_K.moved hW.alike hK9, hD9⟩, hS.F ht⟩) hS.2.2 dX6_keep_48
  · refine lv_aload_n hx hb dX6_keep_35 rfl (lv_at hl 1 rfl) ?_
    refine va_get (D := (dC, dI)) (ci := 7) (v := .ref a1) (C := RX6) (T := TX6) (N := 11) hx hb hts hinX6 hown hK hP 0 rfl rfl 1 (by decide) (hts (.fieldLink RX6 13 "AgreedTalks" "counting" "[I") (by decide +kernel)) (fun _ h9 => h9) rfl dX6_keep_36 ?_
    refine lv_iload_n hx hb dX6_keep_39 rfl (lv_at hl 2 rfl) ?_
    refine lv_iload_n hx hb dX6_keep_40 rfl (lv_at hl 0 rfl) ?_
    refine va_iast hx hb hK hP hD hS 1 0 rfl rfl (vp_in_nI (by omega) (by omega)) dX6_keep_41 (fun H locs hP hD hS => ?_)
    have hP : va_P (dC, dI) vwCl [(h0, .inr (7, [.ref a0, .ref a1, .ref a2, .ref a3, .ref a4, .ref a5, .ref a6, .int (nI mk), .int sh, .int fp, .int rf])), (a1, .inl (cC, 30, .inl (upd fc (Int32.toNatClampNeg (nI mm)) 0))), (q_2, .inr (4, [.int (nI mm), .ref lp])), (a2, .inr (0, [.int mc2_8, .ref ad2_5, .int 1])), (ad2_5, .inl (cO, cap2_6, .inr (.inr (.inr (.inr g1_7)))))] H := hP
    have hD : va_D A [(h0, .inr (7, [.ref a0, .ref a1, .ref a2, .ref a3, .ref a4, .ref a5, .ref a6, .int (nI mk), .int sh, .int fp, .int rf])), (a1, .inl (cC, 30, .inl (upd fc (Int32.toNatClampNeg (nI mm)) 0))), (q_2, .inr (4, [.int (nI mm), .ref lp])), (a2, .inr (0, [.int mc2_8, .ref ad2_5, .int 1])), (ad2_5, .inl (cO, cap2_6, .inr (.inr (.inr (.inr g1_7)))))] := hD
    generalize ef_15 : upd fc (Int32.toNatClampNeg (nI mm)) 0 = f_15 at hP hD
    rw [show Int32.toNatClampNeg (nI mm) = mm from nI_clamp (by omega)] at ef_15
    refine lv_aload_n hx hb dX6_keep_42 rfl (lv_at hl 1 rfl) ?_
    refine lv_iconst (v := (-1)) hx hb dX6_keep_43 (by decide) ?_
    refine va_put (D := (dC, dI)) (ci := 7) (v := .int (-1)) (ty := .int) (C := RX6) (T := TX6) (N := 11) hx hb hts hinX6 tyX6 tyX6_ok nmX6 hown hK hP hD hS 0 rfl rfl 8 (by decide) (hts (.fieldLink RX6 57 "AgreedTalks" "shown" "I") (by decide +kernel)) (fun _ h9 => h9) rfl (by decide +kernel) rfl rfl (Nat.le_of_ble_eq_true rfl) dX6_keep_44 (fun H locs hP hD hS => ?_)
    have hP : va_P (dC, dI) vwCl [(h0, .inr (7, [.ref a0, .ref a1, .ref a2, .ref a3, .ref a4, .ref a5, .ref a6, .int (nI mk), .int (-1), .int fp, .int rf])), (a1, .inl (cC, 30, .inl f_15)), (q_2, .inr (4, [.int (nI mm), .ref lp])), (a2, .inr (0, [.int mc2_8, .ref ad2_5, .int 1])), (ad2_5, .inl (cO, cap2_6, .inr (.inr (.inr (.inr g1_7)))))] H := hP
    have hD : va_D A [(h0, .inr (7, [.ref a0, .ref a1, .ref a2, .ref a3, .ref a4, .ref a5, .ref a6, .int (nI mk), .int (-1), .int fp, .int rf])), (a1, .inl (cC, 30, .inl f_15)), (q_2, .inr (4, [.int (nI mm), .ref lp])), (a2, .inr (0, [.int mc2_8, .ref ad2_5, .int 1])), (ad2_5, .inl (cO, cap2_6, .inr (.inr (.inr (.inr g1_7)))))] := hD
    refine lv_iload_n hx hb dX6_keep_47 rfl (lv_at hl 0 rfl) ?_
    have hP9 := hP.sub (ws' := [(h0, .inr (7, [.ref a0, .ref a1, .ref a2, .ref a3, .ref a4, .ref a5, .ref a6, .int (nI mk), .int (-1), .int fp, .int rf])), (a1, .inl (cC, 30, .inl f_15)), (a2, .inr (0, [.int mc2_8, .ref ad2_5, .int 1])), (ad2_5, .inl (cO, cap2_6, .inr (.inr (.inr (.inr g1_7))))), (q_2, .inr (4, [.int (nI mm), .ref lp]))]) [0, 1, 3, 4, 2] rfl
    have hD9 := hD.sub (ws' := [(h0, .inr (7, [.ref a0, .ref a1, .ref a2, .ref a3, .ref a4, .ref a5, .ref a6, .int (nI mk), .int (-1), .int fp, .int rf])), (a1, .inl (cC, 30, .inl f_15)), (a2, .inr (0, [.int mc2_8, .ref ad2_5, .int 1])), (ad2_5, .inl (cO, cap2_6, .inr (.inr (.inr (.inr g1_7))))), (q_2, .inr (4, [.int (nI mm), .ref lp]))]) [0, 1, 3, 4, 2] (by decide) rfl
    have hK9 := hK.sub (tys' := [(cC, .int), (cO, .object "java/lang/Object")]) [0, 1] rfl
    refine W.widen (k := 2) (n := 66) (by omega) (by omega) ?_
    exact W.iret (v := 0) hx hb hr (fun t ht hW => ⟨⟨0, (), rfl, trivial, (-1), f_15, ad2_5, cap2_6, g1_7, mc2_8, q_2, (by omega), (by omega), hf_11, (Nat.le_trans hz_4 hf_12), hnq, by rw [ht]; exact hP9, va_K.moved hW.alike hK9, hD9⟩, hS.F ht⟩) hS.2.2 dX6_keep_48
def wp_X6_keepF : List Cond := .code yX6_keep cX6_keep 4 (some .int) :: (([.fieldLink RX6 19 "AgreedTalks" "records" "Ljava/util/ArrayList;", .classLink RX6 112 RX3, .instantiable RX3 2, .initialized RX3, .methodLink RX6 186 yX3_init, .instanceMethod yX3_init, .fieldLink RX6 13 "AgreedTalks" "counting" "[I", .fieldLink RX6 57 "AgreedTalks" "shown" "I"] : List Cond) ++ wsX60 ++ wsX30 ++ (wsV RX6 91 RJx4a65c yJx4a65c_size_8abf5 wp_AL_size) ++ wp_Min_init ++ (wsV RX6 189 RJx4a65c yJx4a65c_add_9ea2d wp_AL_addF))
theorem gc_X6_keepF_AL_size : GoodIn wp_X6_keepF (wsV RX6 91 RJx4a65c yJx4a65c_size_8abf5 wp_AL_size) := goodIn_sub (fun _ h => List.mem_cons_of_mem _ (List.mem_append_left _ (List.mem_append_left _ (List.mem_append_right _ h)))) (by decide +kernel)
theorem gc_X6_keepF_Min_init : GoodIn wp_X6_keepF wp_Min_init := goodIn_sub (fun _ h => List.mem_cons_of_mem _ (List.mem_append_left _ (List.mem_append_right _ h))) (by decide +kernel)
theorem gc_X6_keepF_AL_addF : GoodIn wp_X6_keepF (wsV RX6 189 RJx4a65c yJx4a65c_add_9ea2d wp_AL_addF) := goodIn_sub (fun _ h => List.mem_cons_of_mem _ (List.mem_append_right _ h)) (by decide +kernel)
set_option maxRecDepth 20000 in
theorem gi_X6_keepF : GoodIn lw_tbl wp_X6_keepF := (goodIn_ca (goodIn_ca (goodIn_ca (goodIn_ca (goodIn_ca (goodIn_r (.code yX6_keep cX6_keep 4 (some .int) :: ([.fieldLink RX6 19 "AgreedTalks" "records" "Ljava/util/ArrayList;", .classLink RX6 112 RX3, .instantiable RX3 2, .initialized RX3, .methodLink RX6 186 yX3_init, .instanceMethod yX3_init, .fieldLink RX6 13 "AgreedTalks" "counting" "[I", .fieldLink RX6 57 "AgreedTalks" "shown" "I"] : List Cond)) [465, 191, 466, 467, 66, 468, 469, 190, 197] (by decide +kernel) (by decide +kernel)) wi_wsX6) wi_wsX3) (goodIn_app (goodIn_r _ [255, 256, 257, 51] (by decide +kernel) (by decide +kernel)) gi_AL_size)) gi_Min_init) (goodIn_app (goodIn_r _ [481, 408, 409, 51] (by decide +kernel) (by decide +kernel)) gi_AL_addF))
set_option maxHeartbeats 4000000 in
set_option maxRecDepth 100000 in
/-- keep -/
theorem c_X6_keepF (l : Launch) (dC : Nat → ClassId) (dI : Nat → Nat → Nat) (sz : Nat) (h0 : Nat) (a0 : Nat) (a1 : Nat) (a2 : Nat) (a3 : Nat) (a4 : Nat) (a5 : Nat) (a6 : Nat) (mk : Nat) (sh : Int32) (fp : Int32) (rf : Int32) (mm : Nat) (lp : Nat) (cC : ClassId) (fc : Nat → Int32) (mc : Int32) (ad : Nat) (nr : Nat) (cap : Nat) (cO : ClassId) (g : Nat → Option Nat) (ze : Nat) (mi : Nat) (qmm : mm < 30) (q0 : 0 < nr) (q1 : nr ≤ 40) (q2 : nr ≤ cap) (q3 : cap ≤ 64) : Met l yX6_keep wp_X6_keepF ({ frames := 7, cells := 2, slots := 66, locals := 280 }) (va_Pc [.ref h0, .int (nI mm), .ref lp] (fun U => U.heap.size = sz ∧ va_P (dC, dI) vwCl [(h0, .inr (7, [.ref a0, .ref a1, .ref a2, .ref a3, .ref a4, .ref a5, .ref a6, .int (nI mk), .int sh, .int fp, .int rf])), (a1, .inl (cC, 30, .inl fc)), (a2, .inr (0, [.int mc, .ref ad, .int (nI nr)])), (ad, .inl (cO, cap, .inr (.inr (.inr (.inr g)))))] U.heap ∧ va_K (dC, dI) vwCl [(cC, .int), (cO, .object "java/lang/Object")] U ∧ va_D (fun _ => True) [(h0, .inr (7, [.ref a0, .ref a1, .ref a2, .ref a3, .ref a4, .ref a5, .ref a6, .int (nI mk), .int sh, .int fp, .int rf])), (a1, .inl (cC, 30, .inl fc)), (a2, .inr (0, [.int mc, .ref ad, .int (nI nr)])), (ad, .inl (cO, cap, .inr (.inr (.inr (.inr g)))))] ∧ okAL ze mi (va_A [(h0, .inr (7, [.ref a0, .ref a1, .ref a2, .ref a3, .ref a4, .ref a5, .ref a6, .int (nI mk), .int sh, .int fp, .int rf])), (a1, .inl (cC, 30, .inl fc)), (a2, .inr (0, [.int mc, .ref ad, .int (nI nr)])), (ad, .inl (cO, cap, .inr (.inr (.inr (.inr g)))))] sz) U U.heap ∧ okAns (dC, dI) vwCl g nr (va_A [(h0, .inr (7, [.ref a0, .ref a1, .ref a2, .ref a3, .ref a4, .ref a5, .ref a6, .int (nI mk), .int sh, .int fp, .int rf])), (a1, .inl (cC, 30, .inl fc)), (a2, .inr (0, [.int mc, .ref ad, .int (nI nr)])), (ad, .inl (cO, cap, .inr (.inr (.inr (.inr g)))))] sz) U.heap)) (va_Qi (fun (r : Int32) (_ : Unit) => True) (fun (_ : Unit) (t : State) => ∃ (sh2 : Int32), ∃ (fc2 : Nat → Int32), ∃ (ad2 : Nat), ∃ (cap2 : Nat), ∃ (g1 : Nat → Option Nat), ∃ (mc2 : Int32), ∃ (qm : Nat), (nr + 1 ≤ cap2) ∧ (cap2 ≤ 64) ∧ (g1 nr = some qm) ∧ (∀ j, j < nr → g1 j = g j) ∧ (ad2 = ad ∨ sz ≤ ad2) ∧ (sz ≤ qm) ∧ va_P (dC, dI) vwCl [(h0, .inr (7, [.ref a0, .ref a1, .ref a2, .ref a3, .ref a4, .ref a5, .ref a6, .int (nI mk), .int sh2, .int fp, .int rf])), (a1, .inl (cC, 30, .inl fc2)), (a2, .inr (0, [.int mc2, .ref ad2, .int (nI (nr + 1))])), (ad2, .inl (cO, cap2, .inr (.inr (.inr (.inr g1))))), (qm, .inr (4, [.int (nI mm), .ref lp]))] t.heap ∧ va_K (dC, dI) vwCl [(cC, .int), (cO, .object "java/lang/Object")] t ∧ va_D (va_A [(h0, .inr (7, [.ref a0, .ref a1, .ref a2, .ref a3, .ref a4, .ref a5, .ref a6, .int (nI mk), .int sh, .int fp, .int rf])), (a1, .inl (cC, 30, .inl fc)), (a2, .inr (0, [.int mc, .ref ad, .int (nI nr)])), (ad, .inl (cO, cap, .inr (.inr (.inr (.inr g)))))] sz) [(h0, .inr (7, [.ref a0, .ref a1, .ref a2, .ref a3, .ref a4, .ref a5, .ref a6, .int (nI mk), .int sh2, .int fp, .int rf])), (a1, .inl (cC, 30, .inl fc2)), (a2, .inr (0, [.int mc2, .ref ad2, .int (nI (nr + 1))])), (ad2, .inl (cO, cap2, .inr (.inr (.inr (.inr g1))))), (qm, .inr (4, [.int (nI mm), .ref lp]))]) (va_A [(h0, .inr (7, [.ref a0, .ref a1, .ref a2, .ref a3, .ref a4, .ref a5, .ref a6, .int (nI mk), .int sh, .int fp, .int rf])), (a1, .inl (cC, 30, .inl fc)), (a2, .inr (0, [.int mc, .ref ad, .int (nI nr)])), (ad, .inl (cO, cap, .inr (.inr (.inr (.inr g)))))] sz)) 2 66 (va_A [(h0, .inr (7, [.ref a0, .ref a1, .ref a2, .ref a3, .ref a4, .ref a5, .ref a6, .int (nI mk), .int sh, .int fp, .int rf])), (a1, .inl (cC, 30, .inl fc)), (a2, .inr (0, [.int mc, .ref ad, .int (nI nr)])), (ad, .inl (cO, cap, .inr (.inr (.inr (.inr g)))))] sz) := by
  refine Met.ofW (cc := cX6_keep) (maxL := 4) (ret := (some .int)) (by decide) rfl ?_
  intro p e s m args below meth c s₁ B hml hv
  obtain ⟨rfl, hsz, hP, hK, hD0, hAL, hAs⟩ := hv
  have hx := B.exec
  have hb := B.bytes
  have hr := B.returns
  have hts := atoms_spec (ws := wp_X6_keepF) B.pre
  have hown : s.vm.findClass RX6 = some m.cls := findClass_of_methodNamed B.named
  have hlocks := B.notSynchronized
  subst hsz
  have hD := hD0.self (sz := s.heap.size)
  generalize hAe : va_A [(h0, .inr (7, [.ref a0, .ref a1, .ref a2, .ref a3, .ref a4, .ref a5, .ref a6, .int (nI mk), .int sh, .int fp, .int rf])), (a1, .inl (cC, 30, .inl fc)), (a2, .inr (0, [.int mc, .ref ad, .int (nI nr)])), (ad, .inl (cO, cap, .inr (.inr (.inr (.inr g)))))] s.heap.size = A at hD hAL hAs ⊢
  have hA : ∀ q : Nat, s.heap.size ≤ q → A q := fun q h => by rw [← hAe]; exact Or.inr h
  have hS : va_S A s.heap s.heap [] := va_S.rf
  have hP : va_P (dC, dI) vwCl [(h0, .inr (7, [.ref a0, .ref a1, .ref a2, .ref a3, .ref a4, .ref a5, .ref a6, .int (nI mk), .int sh, .int fp, .int rf])), (a1, .inl (cC, 30, .inl fc)), (a2, .inr (0, [.int mc, .ref ad, .int (nI nr)])), (ad, .inl (cO, cap, .inr (.inr (.inr (.inr g)))))] s.heap := hP
  have hl := lv_entry ([.ref h0, .int (nI mm), .ref lp]) (n := 4) (Nat.le_of_ble_eq_true rfl)
  rw [lg_entry_eq]
  generalize (lg_sl ([.ref h0, .int (nI mm), .ref lp]) ++ List.replicate (4 - (lg_sl ([.ref h0, .int (nI mm), .ref lp])).length) Slot.unset).toArray = ls at hl ⊢
  have hl : lv_has ls 4 [(0, .ref h0), (1, .int (nI mm)), (2, .ref lp)] := hl
  have hinX6 : ∀ w ∈ u_ws RX6 TX6 11, w ∈ wp_X6_keepF := fun _ h => List.mem_cons_of_mem _ (List.mem_append_left _ (List.mem_append_left _ (List.mem_append_left _ (List.mem_append_left _ (List.mem_append_right _ h)))))
  have hinX3 : ∀ w ∈ u_ws RX3 TX3 2, w ∈ wp_X6_keepF := fun _ h => List.mem_cons_of_mem _ (List.mem_append_left _ (List.mem_append_left _ (List.mem_append_left _ (List.mem_append_right _ h))))
  have hZT : va_T (.object "java/lang/Object") ze 0 (fun _ => .null) A s s.heap ∧ True := ⟨hAL.2.1, trivial⟩
  refine lv_aload_n hx hb dX6_keep_0 rfl (lv_at hl 0 rfl) ?_
  refine va_get (D := (dC, dI)) (ci := 7) (v := .ref a2) (C := RX6) (T := TX6) (N := 11) hx hb hts hinX6 hown hK hP 0 rfl rfl 2 (by decide) (hts (.fieldLink RX6 19 "AgreedTalks" "records" "Ljava/util/ArrayList;") (by decide +kernel)) (fun _ h9 => h9) rfl dX6_keep_1 ?_
  have hPc := hP.sub (ws' := [(a2, .inr (0, [.int mc, .ref ad, .int (nI nr)]))]) [2] rfl
  have hDc := hD.sub (ws' := [(a2, .inr (0, [.int mc, .ref ad, .int (nI nr)]))]) [2] (by decide) rfl
  have hKc := hK.sub (tys' := []) [] rfl
  have hFc := va_free (wc := [(a2, .inr (0, [.int mc, .ref ad, .int (nI nr)]))]) hD hS hA [2] rfl
  refine va_calli (va_runV (As := []) (rest := []) ⟨hx, hb, hml, hown, hts⟩ (c_AL_size l dC dI _ a2 mc (.ref ad) nr) (cwV 0 hts gc_X6_keepF_AL_size rfl rfl rfl (by decide +kernel) ⟨Nat.le_of_ble_eq_true rfl, Nat.le_of_ble_eq_true rfl⟩) ⟨fun a U g mk q => by obtain ⟨q0, q1, qP, qK, qD⟩ := q; exact ⟨q0, q1, qP, va_K.moved (u := U) (U := U.calling g mk a) (Vm.Alike.refl U.vm) qK, qD⟩, va_recv hKc hPc (ci := 0) (q0 := 0) rfl rfl, fun U hU hW => ⟨rfl, by rw [hU], by rw [hU]; exact hPc, va_K.moved hW.alike hKc, hDc.weaken (fun _ _ _ _ => trivial)⟩⟩ rfl rfl hl.1 rfl (lv_room (Nat.le_of_ble_eq_true rfl)) dX6_keep_4 ⟨Nat.zero_le _, Nat.zero_le _⟩) hS (fun q _ h => hFc q h) hFc (fun r_1 u t H1 locs ht hvm hw hB hz1 hk1 hS => ?_)
  obtain ⟨hP1, hK1, hD1⟩ := hB
  rw [ht] at hP1
  obtain ⟨hP, hD⟩ := va_join (wr := [(h0, .inr (7, [.ref a0, .ref a1, .ref a2, .ref a3, .ref a4, .ref a5, .ref a6, .int (nI mk), .int sh, .int fp, .int rf])), (a1, .inl (cC, 30, .inl fc)), (ad, .inl (cO, cap, .inr (.inr (.inr (.inr g)))))]) (w1 := [(a2, .inr (0, [.int mc, .ref ad, .int (nI nr)]))]) hP hD [2] [0, 1, 3] rfl rfl (by decide) (by decide) hk1 hFc hP1 hD1
  generalize H1 = H at hP hS ⊢
  have hP : va_P (dC, dI) vwCl [(h0, .inr (7, [.ref a0, .ref a1, .ref a2, .ref a3, .ref a4, .ref a5, .ref a6, .int (nI mk), .int sh, .int fp, .int rf])), (a1, .inl (cC, 30, .inl fc)), (ad, .inl (cO, cap, .inr (.inr (.inr (.inr g))))), (a2, .inr (0, [.int mc, .ref ad, .int (nI nr)]))] H := hP
  have hD : va_D A [(h0, .inr (7, [.ref a0, .ref a1, .ref a2, .ref a3, .ref a4, .ref a5, .ref a6, .int (nI mk), .int sh, .int fp, .int rf])), (a1, .inl (cC, 30, .inl fc)), (ad, .inl (cO, cap, .inr (.inr (.inr (.inr g))))), (a2, .inr (0, [.int mc, .ref ad, .int (nI nr)]))] := hD
  obtain rfl : r_1 = (nI nr) := hw
  refine lv_istore_n (lv' := [(3, .int (nI nr)), (0, .ref h0), (1, .int (nI mm)), (2, .ref lp)]) hx hb dX6_keep_7 rfl hl (by decide) rfl (fun ls hl => ?_)
  refine lv_aload_n hx hb dX6_keep_8 rfl (lv_at hl 1 rfl) ?_
  refine va_get (D := (dC, dI)) (ci := 7) (v := .ref a2) (C := RX6) (T := TX6) (N := 11) hx hb hts hinX6 hown hK hP 0 rfl rfl 2 (by decide) (hts (.fieldLink RX6 19 "AgreedTalks" "records" "Ljava/util/ArrayList;") (by decide +kernel)) (fun _ h9 => h9) rfl dX6_keep_9 ?_
  refine va_new (ci := 4) (fs := [.int 0, .null]) (C := RX3) (T := TX3) (N := 2) hx hb hts hinX3 tyX3 tyX3_ok hown (hts (.classLink RX6 112 RX3) (by decide +kernel)) (hts (.instantiable RX3 2) (by decide +kernel)) (hts (.initialized RX3) (by decide +kernel)) hK hP hD hS hA rfl (fun j hj => by rcases (show j = 0 ∨ j = 1 by omega) with rfl | rfl <;> rfl) (by decide) (by decide) dX6_keep_12 (fun q_2 H hP hD hS => ?_)
  have hP : va_P (dC, dI) vwCl [(h0, .inr (7, [.ref a0, .ref a1, .ref a2, .ref a3, .ref a4, .ref a5, .ref a6, .int (nI mk), .int sh, .int fp, .int rf])), (a1, .inl (cC, 30, .inl fc)), (ad, .inl (cO, cap, .inr (.inr (.inr (.inr g))))), (a2, .inr (0, [.int mc, .ref ad, .int (nI nr)])), (q_2, .inr (4, [.int 0, .null]))] H := hP
  have hD : va_D A [(h0, .inr (7, [.ref a0, .ref a1, .ref a2, .ref a3, .ref a4, .ref a5, .ref a6, .int (nI mk), .int sh, .int fp, .int rf])), (a1, .inl (cC, 30, .inl fc)), (ad, .inl (cO, cap, .inr (.inr (.inr (.inr g))))), (a2, .inr (0, [.int mc, .ref ad, .int (nI nr)])), (q_2, .inr (4, [.int 0, .null]))] := hD
  refine W.widen (k := 1) (n := 2) (by omega) (by omega) ?_
  have hnq := (okNew hAe hD 4 rfl [0, 1, 3, 2] rfl (by decide))
  refine lv_dup hx hb dX6_keep_15 rfl ?_
  refine lv_iload_n hx hb dX6_keep_16 rfl (lv_at hl 2 rfl) ?_
  refine lv_aload_n hx hb dX6_keep_17 rfl (lv_at hl 3 rfl) ?_
  have hPc := hP.sub (ws' := [(q_2, .inr (4, [.int 0, .null]))]) [4] rfl
  have hDc := hD.sub (ws' := [(q_2, .inr (4, [.int 0, .null]))]) [4] (by decide) rfl
  have hKc := hK.sub (tys' := []) [] rfl
  have hFc := va_free (wc := [(q_2, .inr (4, [.int 0, .null]))]) hD hS hA [4] rfl
  refine va_callv (va_runI (As := [.int (nI mm), .ref lp]) (rest := [.ref q_2, .ref a2]) ⟨hx, hb, hml, hown, hts⟩ (c_Min_init l dC dI _ q_2 (nI mm) lp) (cwI 2 hts gc_X6_keepF_Min_init rfl rfl rfl (hts (.initialized RX3) (by decide +kernel)) (hts (.methodLink RX6 186 yX3_init) (by decide +kernel)) (hts (.instanceMethod yX3_init) (by decide +kernel)) rfl (by decide +kernel) ⟨Nat.le_of_ble_eq_true rfl, Nat.le_of_ble_eq_true rfl⟩) ⟨fun a U g mk q => by obtain ⟨q0, q1, qP, qK, qD⟩ := q; exact ⟨q0, q1, qP, va_K.moved (u := U) (U := U.calling g mk a) (Vm.Alike.refl U.vm) qK, qD⟩, fun U hU hW => ⟨rfl, by rw [hU], by rw [hU]; exact hPc, va_K.moved hW.alike hKc, hDc.weaken (fun _ _ _ _ => trivial)⟩⟩ rfl rfl hl.1 rfl (lv_room (Nat.le_of_ble_eq_true rfl)) dX6_keep_18 ⟨by decide, by decide⟩) hS (fun q _ h => hFc q h) hFc (fun u t H1 locs ht hvm hw hB hz1 hk1 hS => ?_)
  obtain ⟨hP1, hK1, hD1⟩ := hB
  rw [ht] at hP1
  obtain ⟨hP, hD⟩ := va_join (wr := [(h0, .inr (7, [.ref a0, .ref a1, .ref a2, .ref a3, .ref a4, .ref a5, .ref a6, .int (nI mk), .int sh, .int fp, .int rf])), (a1, .inl (cC, 30, .inl fc)), (ad, .inl (cO, cap, .inr (.inr (.inr (.inr g))))), (a2, .inr (0, [.int mc, .ref ad, .int (nI nr)]))]) (w1 := [(q_2, .inr (4, [.int (nI mm), .ref lp]))]) hP hD [4] [0, 1, 2, 3] rfl rfl (by decide) (by decide) hk1 hFc hP1 hD1
  generalize H1 = H at hP hS ⊢
  have hP : va_P (dC, dI) vwCl [(h0, .inr (7, [.ref a0, .ref a1, .ref a2, .ref a3, .ref a4, .ref a5, .ref a6, .int (nI mk), .int sh, .int fp, .int rf])), (a1, .inl (cC, 30, .inl fc)), (ad, .inl (cO, cap, .inr (.inr (.inr (.inr g))))), (a2, .inr (0, [.int mc, .ref ad, .int (nI nr)])), (q_2, .inr (4, [.int (nI mm), .ref lp]))] H := hP
  have hD : va_D A [(h0, .inr (7, [.ref a0, .ref a1, .ref a2, .ref a3, .ref a4, .ref a5, .ref a6, .int (nI mk), .int sh, .int fp, .int rf])), (a1, .inl (cC, 30, .inl fc)), (ad, .inl (cO, cap, .inr (.inr (.inr (.inr g))))), (a2, .inr (0, [.int mc, .ref ad, .int (nI nr)])), (q_2, .inr (4, [.int (nI mm), .ref lp]))] := hD
  have hPc := hP.sub (ws' := [(a2, .inr (0, [.int mc, .ref ad, .int (nI nr)])), (ad, .inl (cO, cap, .inr (.inr (.inr (.inr g)))))]) [3, 2] rfl
  have hDc := hD.sub (ws' := [(a2, .inr (0, [.int mc, .ref ad, .int (nI nr)])), (ad, .inl (cO, cap, .inr (.inr (.inr (.inr g)))))]) [3, 2] (by decide) rfl
  have hKc := hK.sub (tys' := [(cO, .object "java/lang/Object")]) [1] rfl
  have hFc := va_free (wc := [(a2, .inr (0, [.int mc, .ref ad, .int (nI nr)])), (ad, .inl (cO, cap, .inr (.inr (.inr (.inr g)))))]) hD hS hA [3, 2] rfl
  have hz_4 := hS.1
  refine va_calli (va_runV (As := [.ref q_2]) (rest := []) ⟨hx, hb, hml, hown, hts⟩ (c_AL_addF l dC dI _ a2 mc q_2 ad nr cap cO g ze mi (by omega) (by omega) (by omega) (by omega)) (cwV 1 hts gc_X6_keepF_AL_addF rfl rfl rfl (by decide +kernel) ⟨Nat.le_of_ble_eq_true rfl, Nat.le_of_ble_eq_true rfl⟩) ⟨fun a U g mk q => by obtain ⟨q0, q1, qP, qK, qD, q_hAL, q_hAn, q_hAs⟩ := q; exact ⟨q0, q1, qP, va_K.moved (u := U) (U := U.calling g mk a) (Vm.Alike.refl U.vm) qK, qD, okAL.moved (Vm.Alike.refl U.vm) q_hAL, q_hAn, q_hAs⟩, va_recv hKc hPc (ci := 0) (q0 := 0) rfl rfl, fun U hU hW => ⟨rfl, by rw [hU], by rw [hU]; exact hPc, va_K.moved hW.alike hKc, hDc.weaken (fun _ _ _ _ => trivial), by rw [hU]; exact okAL.pass hAL hW hS hFc, by rw [hU]; exact ⟨4, _, Or.inr rfl, okF.of hP hD 4 rfl [3, 2] rfl (by decide)⟩, by rw [hU]; exact okAns.pass hAs hS hFc⟩⟩ rfl rfl hl.1 rfl (lv_room (Nat.le_of_ble_eq_true rfl)) dX6_keep_21 ⟨by decide, by decide⟩) hS (fun q _ h => hFc q h) hFc (fun r_3 u t H1 locs ht hvm hw hB hz1 hk1 hS => ?_)
  obtain ⟨ad2_5, cap2_6, g1_7, mc2_8, hf_9, hf_10, hf_11, hf_12, hf_13, hP1, hK1, hD1⟩ := hB
  rw [ht] at hP1
  obtain ⟨hP, hD⟩ := va_join (wr := [(h0, .inr (7, [.ref a0, .ref a1, .ref a2, .ref a3, .ref a4, .ref a5, .ref a6, .int (nI mk), .int sh, .int fp, .int rf])), (a1, .inl (cC, 30, .inl fc)), (q_2, .inr (4, [.int (nI mm), .ref lp]))]) (w1 := [(a2, .inr (0, [.int mc2_8, .ref ad2_5, .int (nI (nr + 1))])), (ad2_5, .inl (cO, cap2_6, .inr (.inr (.inr (.inr g1_7)))))]) hP hD [3, 2] [0, 1, 4] rfl rfl (by decide) (by decide) hk1 hFc hP1 hD1
  generalize H1 = H at hP hS ⊢
  have hP : va_P (dC, dI) vwCl [(h0, .inr (7, [.ref a0, .ref a1, .ref a2, .ref a3, .ref a4, .ref a5, .ref a6, .int (nI mk), .int sh, .int fp, .int rf])), (a1, .inl (cC, 30, .inl fc)), (q_2, .inr (4, [.int (nI mm), .ref lp])), (a2, .inr (0, [.int mc2_8, .ref ad2_5, .int (nI (nr + 1))])), (ad2_5, .inl (cO, cap2_6, .inr (.inr (.inr (.inr g1_7)))))] H := hP
  have hD : va_D A [(h0, .inr (7, [.ref a0, .ref a1, .ref a2, .ref a3, .ref a4, .ref a5, .ref a6, .int (nI mk), .int sh, .int fp, .int rf])), (a1, .inl (cC, 30, .inl fc)), (q_2, .inr (4, [.int (nI mm), .ref lp])), (a2, .inr (0, [.int mc2_8, .ref ad2_5, .int (nI (nr + 1))])), (ad2_5, .inl (cO, cap2_6, .inr (.inr (.inr (.inr g1_7)))))] := hD
  refine W.widen (k := 2) (n := 66) (by omega) (by omega) ?_
  obtain rfl : r_3 = 1 := hw
  refine lv_pop hx hb dX6_keep_24 rfl ?_
  refine lv_aload_n hx hb dX6_keep_25 rfl (lv_at hl 1 rfl) ?_
  refine va_get (D := (dC, dI)) (ci := 7) (v := .ref a1) (C := RX6) (T := TX6) (N := 11) hx hb hts hinX6 hown hK hP 0 rfl rfl 1 (by decide) (hts (.fieldLink RX6 13 "AgreedTalks" "counting" "[I") (by decide +kernel)) (fun _ h9 => h9) rfl dX6_keep_26 ?_
  refine lv_iload_n hx hb dX6_keep_29 rfl (lv_at hl 2 rfl) ?_
  refine va_iald hx hb hK hP 1 0 rfl rfl (vp_in_nI (by omega) (by omega)) dX6_keep_30 ?_
  refine lv_topi (fun x_14 ex_14 => ?_)
  rw [show (Int32.toNatClampNeg (nI mm)) = mm from nI_clamp (by omega)] at ex_14
  refine lv_iconst (v := (-1)) hx hb dX6_keep_31 (by decide) ?_
  refine lv_icmp_ne (tgt := 47) hx hb dX6_keep_32 (by decide) (fun c_15 => ?_) (fun c_15 => ?_)
  · refine lv_iload_n hx hb dX6_keep_47 rfl (lv_at hl 0 rfl) ?_
    have hP9 := hP.sub (ws' := [(h0, .inr (7, [.ref a0, .ref a1, .ref a2, .ref a3, .ref a4, .ref a5, .ref a6, .int (nI mk), .int sh, .int fp, .int rf])), (a1, .inl (cC, 30, .inl fc)), (a2, .inr (0, [.int mc2_8, .ref ad2_5, .int (nI (nr + 1))])), (ad2_5, .inl (cO, cap2_6, .inr (.inr (.inr (.inr g1_7))))), (q_2, .inr (4, [.int (nI mm), .ref lp]))]) [0, 1, 3, 4, 2] rfl
    have hD9 := hD.sub (ws' := [(h0, .inr (7, [.ref a0, .ref a1, .ref a2, .ref a3, .ref a4, .ref a5, .ref a6, .int (nI mk), .int sh, .int fp, .int rf])), (a1, .inl (cC, 30, .inl fc)), (a2, .inr (0, [.int mc2_8, .ref ad2_5, .int (nI (nr + 1))])), (ad2_5, .inl (cO, cap2_6, .inr (.inr (.inr (.inr g1_7))))), (q_2, .inr (4, [.int (nI mm), .ref lp]))]) [0, 1, 3, 4, 2] (by decide) rfl
    have hK9 := hK.sub (tys' := [(cC, .int), (cO, .object "java/lang/Object")]) [0, 1] rfl
    refine W.widen (k := 2) (n := 66) (by omega) (by omega) ?_
    exact W.iret (v := (nI nr)) hx hb hr (fun t ht hW => ⟨⟨(nI nr), (), rfl, trivial, sh, fc, ad2_5, cap2_6, g1_7, mc2_8, q_2, (by omega), (by omega), hf_11, hf_12, (hf_13.imp id (Nat.le_trans hz_4)), hnq, by rw [ht]; exact hP9, va_K.moved hW.alike hK9, hD9⟩, hS.F ht⟩) hS.2.2 dX6_keep_48
  · refine lv_aload_n hx hb dX6_keep_35 rfl (lv_at hl 1 rfl) ?_
    refine va_get (D := (dC, dI)) (ci := 7) (v := .ref a1) (C := RX6) (T := TX6) (N := 11) hx hb hts hinX6 hown hK hP 0 rfl rfl 1 (by decide) (hts (.fieldLink RX6 13 "AgreedTalks" "counting" "[I") (by decide +kernel)) (fun _ h9 => h9) rfl dX6_keep_36 ?_
    refine lv_iload_n hx hb dX6_keep_39 rfl (lv_at hl 2 rfl) ?_
    refine lv_iload_n hx hb dX6_keep_40 rfl (lv_at hl 0 rfl) ?_
    refine va_iast hx hb hK hP hD hS 1 0 rfl rfl (vp_in_nI (by omega) (by omega)) dX6_keep_41 (fun H locs hP hD hS => ?_)
    have hP : va_P (dC, dI) vwCl [(h0, .inr (7, [.ref a0, .ref a1, .ref a2, .ref a3, .ref a4, .ref a5, .ref a6, .int (nI mk), .int sh, .int fp, .int rf])), (a1, .inl (cC, 30, .inl (upd fc (Int32.toNatClampNeg (nI mm)) (nI nr)))), (q_2, .inr (4, [.int (nI mm), .ref lp])), (a2, .inr (0, [.int mc2_8, .ref ad2_5, .int (nI (nr + 1))])), (ad2_5, .inl (cO, cap2_6, .inr (.inr (.inr (.inr g1_7)))))] H := hP
    have hD : va_D A [(h0, .inr (7, [.ref a0, .ref a1, .ref a2, .ref a3, .ref a4, .ref a5, .ref a6, .int (nI mk), .int sh, .int fp, .int rf])), (a1, .inl (cC, 30, .inl (upd fc (Int32.toNatClampNeg (nI mm)) (nI nr)))), (q_2, .inr (4, [.int (nI mm), .ref lp])), (a2, .inr (0, [.int mc2_8, .ref ad2_5, .int (nI (nr + 1))])), (ad2_5, .inl (cO, cap2_6, .inr (.inr (.inr (.inr g1_7)))))] := hD
    generalize ef_16 : upd fc (Int32.toNatClampNeg (nI mm)) (nI nr) = f_16 at hP hD
    rw [show Int32.toNatClampNeg (nI mm) = mm from nI_clamp (by omega)] at ef_16
    refine lv_aload_n hx hb dX6_keep_42 rfl (lv_at hl 1 rfl) ?_
    refine lv_iconst (v := (-1)) hx hb dX6_keep_43 (by decide) ?_
    refine va_put (D := (dC, dI)) (ci := 7) (v := .int (-1)) (ty := .int) (C := RX6) (T := TX6) (N := 11) hx hb hts hinX6 tyX6 tyX6_ok nmX6 hown hK hP hD hS 0 rfl rfl 8 (by decide) (hts (.fieldLink RX6 57 "AgreedTalks" "shown" "I") (by decide +kernel)) (fun _ h9 => h9) rfl (by decide +kernel) rfl rfl (Nat.le_of_ble_eq_true rfl) dX6_keep_44 (fun H locs hP hD hS => ?_)
    have hP : va_P (dC, dI) vwCl [(h0, .inr (7, [.ref a0, .ref a1, .ref a2, .ref a3, .ref a4, .ref a5, .ref a6, .int (nI mk), .int (-1), .int fp, .int rf])), (a1, .inl (cC, 30, .inl f_16)), (q_2, .inr (4, [.int (nI mm), .ref lp])), (a2, .inr (0, [.int mc2_8, .ref ad2_5, .int (nI (nr + 1))])), (ad2_5, .inl (cO, cap2_6, .inr (.inr (.inr (.inr g1_7)))))] H := hP
    have hD : va_D A [(h0, .inr (7, [.ref a0, .ref a1, .ref a2, .ref a3, .ref a4, .ref a5, .ref a6, .int (nI mk), .int (-1), .int fp, .int rf])), (a1, .inl (cC, 30, .inl f_16)), (q_2, .inr (4, [.int (nI mm), .ref lp])), (a2, .inr (0, [.int mc2_8, .ref ad2_5, .int (nI (nr + 1))])), (ad2_5, .inl (cO, cap2_6, .inr (.inr (.inr (.inr g1_7)))))] := hD
    refine lv_iload_n hx hb dX6_keep_47 rfl (lv_at hl 0 rfl) ?_
    have hP9 := hP.sub (ws' := [(h0, .inr (7, [.ref a0, .ref a1, .ref a2, .ref a3, .ref a4, .ref a5, .ref a6, .int (nI mk), .int (-1), .int fp, .int rf])), (a1, .inl (cC, 30, .inl f_16)), (a2, .inr (0, [.int mc2_8, .ref ad2_5, .int (nI (nr + 1))])), (ad2_5, .inl (cO, cap2_6, .inr (.inr (.inr (.inr g1_7))))), (q_2, .inr (4, [.int (nI mm), .ref lp]))]) [0, 1, 3, 4, 2] rfl
    have hD9 := hD.sub (ws' := [(h0, .inr (7, [.ref a0, .ref a1, .ref a2, .ref a3, .ref a4, .ref a5, .ref a6, .int (nI mk), .int (-1), .int fp, .int rf])), (a1, .inl (cC, 30, .inl f_16)), (a2, .inr (0, [.int mc2_8, .ref ad2_5, .int (nI (nr + 1))])), (ad2_5, .inl (cO, cap2_6, .inr (.inr (.inr (.inr g1_7))))), (q_2, .inr (4, [.int (nI mm), .ref lp]))]) [0, 1, 3, 4, 2] (by decide) rfl
    have hK9 := hK.sub (tys' := [(cC, .int), (cO, .object "java/lang/Object")]) [0, 1] rfl
    refine W.widen (k := 2) (n := 66) (by omega) (by omega) ?_
    exact W.iret (v := (nI nr)) hx hb hr (fun t ht hW => ⟨⟨(nI nr), (), rfl, trivial, (-1), f_16, ad2_5, cap2_6, g1_7, mc2_8, q_2, (by omega), (by omega), hf_11, hf_12, (hf_13.imp id (Nat.le_trans hz_4)), hnq, by rw [ht]; exact hP9, va_K.moved hW.alike hK9, hD9⟩, hS.F ht⟩) hS.2.2 dX6_keep_48
