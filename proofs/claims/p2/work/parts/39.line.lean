theorem dX2_init_0 : decode cX2_init 0 = .ok (.aload_n 0, 1) := by decide +kernel
theorem dX2_init_1 : decode cX2_init 1 = .ok (.invokespecial 1, 3) := by decide +kernel
theorem dX2_init_4 : decode cX2_init 4 = .ok (.aload_n 0, 1) := by decide +kernel
theorem dX2_init_5 : decode cX2_init 5 = .ok (.iload_n 1, 1) := by decide +kernel
theorem dX2_init_6 : decode cX2_init 6 = .ok (.putfield 7, 3) := by decide +kernel
theorem dX2_init_9 : decode cX2_init 9 = .ok (.aload_n 0, 1) := by decide +kernel
theorem dX2_init_10 : decode cX2_init 10 = .ok (.iload_n 2, 1) := by decide +kernel
theorem dX2_init_11 : decode cX2_init 11 = .ok (.putfield 13, 3) := by decide +kernel
theorem dX2_init_14 : decode cX2_init 14 = .ok (.aload_n 0, 1) := by decide +kernel
theorem dX2_init_15 : decode cX2_init 15 = .ok (.iload_n 3, 1) := by decide +kernel
theorem dX2_init_16 : decode cX2_init 16 = .ok (.putfield 16, 3) := by decide +kernel
theorem dX2_init_19 : decode cX2_init 19 = .ok (.aload_n 0, 1) := by decide +kernel
theorem dX2_init_20 : decode cX2_init 20 = .ok (.iload 4, 2) := by decide +kernel
theorem dX2_init_22 : decode cX2_init 22 = .ok (.putfield 19, 3) := by decide +kernel
theorem dX2_init_25 : decode cX2_init 25 = .ok (.aload_n 0, 1) := by decide +kernel
theorem dX2_init_26 : decode cX2_init 26 = .ok (.iload 5, 2) := by decide +kernel
theorem dX2_init_28 : decode cX2_init 28 = .ok (.putfield 22, 3) := by decide +kernel
theorem dX2_init_31 : decode cX2_init 31 = .ok (.aload_n 0, 1) := by decide +kernel
theorem dX2_init_32 : decode cX2_init 32 = .ok (.lload 6, 2) := by decide +kernel
theorem dX2_init_34 : decode cX2_init 34 = .ok (.putfield 25, 3) := by decide +kernel
theorem dX2_init_37 : decode cX2_init 37 = .ok (.return_, 1) := by decide +kernel
theorem dX3_init_0 : decode cX3_init 0 = .ok (.aload_n 0, 1) := by decide +kernel
theorem dX3_init_1 : decode cX3_init 1 = .ok (.invokespecial 3, 3) := by decide +kernel
theorem dX3_init_4 : decode cX3_init 4 = .ok (.aload_n 0, 1) := by decide +kernel
theorem dX3_init_5 : decode cX3_init 5 = .ok (.iload_n 1, 1) := by decide +kernel
theorem dX3_init_6 : decode cX3_init 6 = .ok (.putfield 9, 3) := by decide +kernel
theorem dX3_init_9 : decode cX3_init 9 = .ok (.aload_n 0, 1) := by decide +kernel
theorem dX3_init_10 : decode cX3_init 10 = .ok (.aload_n 2, 1) := by decide +kernel
theorem dX3_init_11 : decode cX3_init 11 = .ok (.putfield 15, 3) := by decide +kernel
theorem dX3_init_14 : decode cX3_init 14 = .ok (.return_, 1) := by decide +kernel
theorem dX2_isLike_0 : decode cX2_isLike 0 = .ok (.aload_n 0, 1) := by decide +kernel
theorem dX2_isLike_1 : decode cX2_isLike 1 = .ok (.getfield 7, 3) := by decide +kernel
theorem dX2_isLike_4 : decode cX2_isLike 4 = .ok (.aload_n 1, 1) := by decide +kernel
theorem dX2_isLike_5 : decode cX2_isLike 5 = .ok (.getfield 7, 3) := by decide +kernel
theorem dX2_isLike_8 : decode cX2_isLike 8 = .ok (.if_icmp .ne 63, 3) := by decide +kernel
theorem dX2_isLike_71 : decode cX2_isLike 71 = .ok (.iconst 0, 1) := by decide +kernel
theorem dX2_isLike_72 : decode cX2_isLike 72 = .ok (.ireturn, 1) := by decide +kernel
theorem dX2_isLike_11 : decode cX2_isLike 11 = .ok (.aload_n 0, 1) := by decide +kernel
theorem dX2_isLike_12 : decode cX2_isLike 12 = .ok (.getfield 13, 3) := by decide +kernel
theorem dX2_isLike_15 : decode cX2_isLike 15 = .ok (.aload_n 1, 1) := by decide +kernel
theorem dX2_isLike_16 : decode cX2_isLike 16 = .ok (.getfield 13, 3) := by decide +kernel
theorem dX2_isLike_19 : decode cX2_isLike 19 = .ok (.if_icmp .ne 52, 3) := by decide +kernel
theorem dX2_isLike_22 : decode cX2_isLike 22 = .ok (.aload_n 0, 1) := by decide +kernel
theorem dX2_isLike_23 : decode cX2_isLike 23 = .ok (.getfield 16, 3) := by decide +kernel
theorem dX2_isLike_26 : decode cX2_isLike 26 = .ok (.aload_n 1, 1) := by decide +kernel
theorem dX2_isLike_27 : decode cX2_isLike 27 = .ok (.getfield 16, 3) := by decide +kernel
theorem dX2_isLike_30 : decode cX2_isLike 30 = .ok (.if_icmp .ne 41, 3) := by decide +kernel
theorem dX2_isLike_33 : decode cX2_isLike 33 = .ok (.aload_n 0, 1) := by decide +kernel
theorem dX2_isLike_34 : decode cX2_isLike 34 = .ok (.getfield 19, 3) := by decide +kernel
theorem dX2_isLike_37 : decode cX2_isLike 37 = .ok (.aload_n 1, 1) := by decide +kernel
theorem dX2_isLike_38 : decode cX2_isLike 38 = .ok (.getfield 19, 3) := by decide +kernel
theorem dX2_isLike_41 : decode cX2_isLike 41 = .ok (.if_icmp .ne 30, 3) := by decide +kernel
theorem dX2_isLike_44 : decode cX2_isLike 44 = .ok (.aload_n 0, 1) := by decide +kernel
theorem dX2_isLike_45 : decode cX2_isLike 45 = .ok (.getfield 22, 3) := by decide +kernel
theorem dX2_isLike_48 : decode cX2_isLike 48 = .ok (.aload_n 1, 1) := by decide +kernel
theorem dX2_isLike_49 : decode cX2_isLike 49 = .ok (.getfield 22, 3) := by decide +kernel
theorem dX2_isLike_52 : decode cX2_isLike 52 = .ok (.if_icmp .ne 19, 3) := by decide +kernel
theorem dX2_isLike_55 : decode cX2_isLike 55 = .ok (.aload_n 0, 1) := by decide +kernel
theorem dX2_isLike_56 : decode cX2_isLike 56 = .ok (.getfield 25, 3) := by decide +kernel
theorem dX2_isLike_59 : decode cX2_isLike 59 = .ok (.aload_n 1, 1) := by decide +kernel
theorem dX2_isLike_60 : decode cX2_isLike 60 = .ok (.getfield 25, 3) := by decide +kernel
theorem dX2_isLike_63 : decode cX2_isLike 63 = .ok (.lcmp, 1) := by decide +kernel
theorem dX2_isLike_64 : decode cX2_isLike 64 = .ok (.ifCond .ne 7, 3) := by decide +kernel
theorem dX2_isLike_67 : decode cX2_isLike 67 = .ok (.iconst 1, 1) := by decide +kernel
theorem dX2_isLike_68 : decode cX2_isLike 68 = .ok (.goto 4, 3) := by decide +kernel
def wp_Line_init : List Cond := .code yX2_init cX2_init 8 none :: (([.methodLink RX2 1 objectInit, .instanceMethod objectInit, .code objectInit ⟨#[0xb1]⟩ 1 none, .fieldLink RX2 7 "AgreedTalks$Line" "kind" "I", .fieldLink RX2 13 "AgreedTalks$Line" "person" "I", .fieldLink RX2 16 "AgreedTalks$Line" "other" "I", .fieldLink RX2 19 "AgreedTalks$Line" "thing" "I", .fieldLink RX2 22 "AgreedTalks$Line" "day" "I", .fieldLink RX2 25 "AgreedTalks$Line" "grounds" "J"] : List Cond) ++ wsX20)
set_option maxRecDepth 20000 in
theorem gi_Line_init : GoodIn lw_tbl wp_Line_init := (goodIn_ca (goodIn_r (.code yX2_init cX2_init 8 none :: ([.methodLink RX2 1 objectInit, .instanceMethod objectInit, .code objectInit ⟨#[0xb1]⟩ 1 none, .fieldLink RX2 7 "AgreedTalks$Line" "kind" "I", .fieldLink RX2 13 "AgreedTalks$Line" "person" "I", .fieldLink RX2 16 "AgreedTalks$Line" "other" "I", .fieldLink RX2 19 "AgreedTalks$Line" "thing" "I", .fieldLink RX2 22 "AgreedTalks$Line" "day" "I", .fieldLink RX2 25 "AgreedTalks$Line" "grounds" "J"] : List Cond)) [342, 343, 74, 75, 344, 347, 350, 352, 355, 357] (by decide +kernel) (by decide +kernel)) wi_wsX2)
set_option maxHeartbeats 4000000 in
set_option maxRecDepth 100000 in
/-- Line() -/
theorem c_Line_init (l : Launch) (dC : Nat → ClassId) (dI : Nat → Nat → Nat) (sz : Nat) (h0 : Nat) (p0 : Int32) (p1 : Int32) (p2 : Int32) (p3 : Int32) (p4 : Int32) (p5 : Int64) : Met l yX2_init wp_Line_init ({ frames := 1, cells := 0, slots := 0, locals := 20 }) (va_Pc [.ref h0, .int p0, .int p1, .int p2, .int p3, .int p4, .long p5] (fun U => U.heap.size = sz ∧ va_P (dC, dI) vwCl [(h0, .inr (3, [.int 0, .int 0, .int 0, .int 0, .int 0, .long 0]))] U.heap ∧ va_K (dC, dI) vwCl [] U ∧ va_D (fun _ => True) [(h0, .inr (3, [.int 0, .int 0, .int 0, .int 0, .int 0, .long 0]))])) (va_Qv (fun (_ : Unit) => True) (fun (_ : Unit) (t : State) => va_P (dC, dI) vwCl [(h0, .inr (3, [.int p0, .int p1, .int p2, .int p3, .int p4, .long p5]))] t.heap ∧ va_K (dC, dI) vwCl [] t ∧ va_D (va_A [(h0, .inr (3, [.int 0, .int 0, .int 0, .int 0, .int 0, .long 0]))] sz) [(h0, .inr (3, [.int p0, .int p1, .int p2, .int p3, .int p4, .long p5]))]) (va_A [(h0, .inr (3, [.int 0, .int 0, .int 0, .int 0, .int 0, .long 0]))] sz)) 0 0 (va_A [(h0, .inr (3, [.int 0, .int 0, .int 0, .int 0, .int 0, .long 0]))] sz) := by
  refine Met.ofW (cc := cX2_init) (maxL := 8) (ret := none) (by decide) rfl ?_
  intro p e s m args below meth c s₁ B hml hv
  obtain ⟨rfl, hsz, hP, hK, hD0⟩ := hv
  have hx := B.exec
  have hb := B.bytes
  have hr := B.returns
  have hts := atoms_spec (ws := wp_Line_init) B.pre
  have hown : s.vm.findClass RX2 = some m.cls := findClass_of_methodNamed B.named
  have hlocks := B.notSynchronized
  have hin : meth.name = "<init>" := (name_of_methodNamed B.named B.method).1
  subst hsz
  have hD := hD0.self (sz := s.heap.size)
  generalize hAe : va_A [(h0, .inr (3, [.int 0, .int 0, .int 0, .int 0, .int 0, .long 0]))] s.heap.size = A at hD ⊢
  have hA : ∀ q : Nat, s.heap.size ≤ q → A q := fun q h => by rw [← hAe]; exact Or.inr h
  have hS : va_S A s.heap s.heap [] := va_S.rf
  have hP : va_P (dC, dI) vwCl [(h0, .inr (3, [.int 0, .int 0, .int 0, .int 0, .int 0, .long 0]))] s.heap := hP
  have hl := lv_entry ([.ref h0, .int p0, .int p1, .int p2, .int p3, .int p4, .long p5]) (n := 8) (Nat.le_of_ble_eq_true rfl)
  rw [lg_entry_eq]
  generalize (lg_sl ([.ref h0, .int p0, .int p1, .int p2, .int p3, .int p4, .long p5]) ++ List.replicate (8 - (lg_sl ([.ref h0, .int p0, .int p1, .int p2, .int p3, .int p4, .long p5])).length) Slot.unset).toArray = ls at hl ⊢
  have hl : lv_has ls 8 [(0, .ref h0), (1, .int p0), (2, .int p1), (3, .int p2), (4, .int p3), (5, .int p4), (6, .long p5)] := hl
  have hinX2 : ∀ w ∈ u_ws RX2 TX2 6, w ∈ wp_Line_init := fun _ h => List.mem_cons_of_mem _ (List.mem_append_right _ h)
  refine lv_aload_n hx hb dX2_init_0 rfl (lv_at hl 0 rfl) ?_
  refine W.objInit hx hb hown (hts (.methodLink RX2 1 objectInit) (by decide +kernel)) (hts (.instanceMethod objectInit) (by decide +kernel)) (hts _ (List.mem_cons_of_mem _ (List.mem_append_left _ (List.mem_of_getElem? (i := 2) rfl)))) rfl (by rw [hml]; exact hl.1) rfl dX2_init_1 (Nat.le_of_ble_eq_true rfl) (Nat.le_of_ble_eq_true rfl) ?_
  refine W.eq (g2 := F0 m 4 ls []) rfl ?_
  refine lv_aload_n hx hb dX2_init_4 rfl (lv_at hl 0 rfl) ?_
  refine lv_iload_n hx hb dX2_init_5 rfl (lv_at hl 1 rfl) ?_
  refine va_putF (D := (dC, dI)) (ci := 3) (v := .int p0) (ty := .int) (C := RX2) (T := TX2) (N := 6) hx hb hts hinX2 tyX2 tyX2_ok nmX2 hown hK hP hD hS 0 rfl rfl 0 (by decide) (hts (.fieldLink RX2 7 "AgreedTalks$Line" "kind" "I") (by decide +kernel)) (fun _ h9 => h9) rfl hin rfl (by decide +kernel) rfl rfl (Nat.le_of_ble_eq_true rfl) dX2_init_6 (fun H locs hP hD hS => ?_)
  have hP : va_P (dC, dI) vwCl [(h0, .inr (3, [.int p0, .int 0, .int 0, .int 0, .int 0, .long 0]))] H := hP
  have hD : va_D A [(h0, .inr (3, [.int p0, .int 0, .int 0, .int 0, .int 0, .long 0]))] := hD
  refine lv_aload_n hx hb dX2_init_9 rfl (lv_at hl 0 rfl) ?_
  refine lv_iload_n hx hb dX2_init_10 rfl (lv_at hl 2 rfl) ?_
  refine va_putF (D := (dC, dI)) (ci := 3) (v := .int p1) (ty := .int) (C := RX2) (T := TX2) (N := 6) hx hb hts hinX2 tyX2 tyX2_ok nmX2 hown hK hP hD hS 0 rfl rfl 1 (by decide) (hts (.fieldLink RX2 13 "AgreedTalks$Line" "person" "I") (by decide +kernel)) (fun _ h9 => h9) rfl hin rfl (by decide +kernel) rfl rfl (Nat.le_of_ble_eq_true rfl) dX2_init_11 (fun H locs hP hD hS => ?_)
  have hP : va_P (dC, dI) vwCl [(h0, .inr (3, [.int p0, .int p1, .int 0, .int 0, .int 0, .long 0]))] H := hP
  have hD : va_D A [(h0, .inr (3, [.int p0, .int p1, .int 0, .int 0, .int 0, .long 0]))] := hD
  refine lv_aload_n hx hb dX2_init_14 rfl (lv_at hl 0 rfl) ?_
  refine lv_iload_n hx hb dX2_init_15 rfl (lv_at hl 3 rfl) ?_
  refine va_putF (D := (dC, dI)) (ci := 3) (v := .int p2) (ty := .int) (C := RX2) (T := TX2) (N := 6) hx hb hts hinX2 tyX2 tyX2_ok nmX2 hown hK hP hD hS 0 rfl rfl 2 (by decide) (hts (.fieldLink RX2 16 "AgreedTalks$Line" "other" "I") (by decide +kernel)) (fun _ h9 => h9) rfl hin rfl (by decide +kernel) rfl rfl (Nat.le_of_ble_eq_true rfl) dX2_init_16 (fun H locs hP hD hS => ?_)
  have hP : va_P (dC, dI) vwCl [(h0, .inr (3, [.int p0, .int p1, .int p2, .int 0, .int 0, .long 0]))] H := hP
  have hD : va_D A [(h0, .inr (3, [.int p0, .int p1, .int p2, .int 0, .int 0, .long 0]))] := hD
  refine lv_aload_n hx hb dX2_init_19 rfl (lv_at hl 0 rfl) ?_
  refine lv_iload hx hb dX2_init_20 (lv_at hl 4 rfl) ?_
  refine va_putF (D := (dC, dI)) (ci := 3) (v := .int p3) (ty := .int) (C := RX2) (T := TX2) (N := 6) hx hb hts hinX2 tyX2 tyX2_ok nmX2 hown hK hP hD hS 0 rfl rfl 3 (by decide) (hts (.fieldLink RX2 19 "AgreedTalks$Line" "thing" "I") (by decide +kernel)) (fun _ h9 => h9) rfl hin rfl (by decide +kernel) rfl rfl (Nat.le_of_ble_eq_true rfl) dX2_init_22 (fun H locs hP hD hS => ?_)
  have hP : va_P (dC, dI) vwCl [(h0, .inr (3, [.int p0, .int p1, .int p2, .int p3, .int 0, .long 0]))] H := hP
  have hD : va_D A [(h0, .inr (3, [.int p0, .int p1, .int p2, .int p3, .int 0, .long 0]))] := hD
  refine lv_aload_n hx hb dX2_init_25 rfl (lv_at hl 0 rfl) ?_
  refine lv_iload hx hb dX2_init_26 (lv_at hl 5 rfl) ?_
  refine va_putF (D := (dC, dI)) (ci := 3) (v := .int p4) (ty := .int) (C := RX2) (T := TX2) (N := 6) hx hb hts hinX2 tyX2 tyX2_ok nmX2 hown hK hP hD hS 0 rfl rfl 4 (by decide) (hts (.fieldLink RX2 22 "AgreedTalks$Line" "day" "I") (by decide +kernel)) (fun _ h9 => h9) rfl hin rfl (by decide +kernel) rfl rfl (Nat.le_of_ble_eq_true rfl) dX2_init_28 (fun H locs hP hD hS => ?_)
  have hP : va_P (dC, dI) vwCl [(h0, .inr (3, [.int p0, .int p1, .int p2, .int p3, .int p4, .long 0]))] H := hP
  have hD : va_D A [(h0, .inr (3, [.int p0, .int p1, .int p2, .int p3, .int p4, .long 0]))] := hD
  refine lv_aload_n hx hb dX2_init_31 rfl (lv_at hl 0 rfl) ?_
  refine lv_lload hx hb dX2_init_32 (lv_at hl 6 rfl) ?_
  refine va_putF (D := (dC, dI)) (ci := 3) (v := .long p5) (ty := .long) (C := RX2) (T := TX2) (N := 6) hx hb hts hinX2 tyX2 tyX2_ok nmX2 hown hK hP hD hS 0 rfl rfl 5 (by decide) (hts (.fieldLink RX2 25 "AgreedTalks$Line" "grounds" "J") (by decide +kernel)) (fun _ h9 => h9) rfl hin rfl (by decide +kernel) rfl rfl (Nat.le_of_ble_eq_true rfl) dX2_init_34 (fun H locs hP hD hS => ?_)
  have hP : va_P (dC, dI) vwCl [(h0, .inr (3, [.int p0, .int p1, .int p2, .int p3, .int p4, .long p5]))] H := hP
  have hD : va_D A [(h0, .inr (3, [.int p0, .int p1, .int p2, .int p3, .int p4, .long p5]))] := hD
  have hP9 := hP.sub (ws' := [(h0, .inr (3, [.int p0, .int p1, .int p2, .int p3, .int p4, .long p5]))]) [0] rfl
  have hD9 := hD.sub (ws' := [(h0, .inr (3, [.int p0, .int p1, .int p2, .int p3, .int p4, .long p5]))]) [0] (by decide) rfl
  have hK9 := hK.sub (tys' := []) [] rfl
  exact W.vret hx hb hr (fun t ht hW => ⟨⟨(), rfl, trivial, by rw [ht]; exact hP9, va_K.moved hW.alike hK9, hD9⟩, hS.F ht⟩) hS.2.2 dX2_init_37
def wp_Min_init : List Cond := .code yX3_init cX3_init 3 none :: (([.methodLink RX3 3 objectInit, .instanceMethod objectInit, .code objectInit ⟨#[0xb1]⟩ 1 none, .fieldLink RX3 9 "AgreedTalks$Minutes" "meeting" "I", .fieldLink RX3 15 "AgreedTalks$Minutes" "lines" "Ljava/util/ArrayList;"] : List Cond) ++ wsX30)
set_option maxRecDepth 20000 in
theorem gi_Min_init : GoodIn lw_tbl wp_Min_init := (goodIn_ca (goodIn_r (.code yX3_init cX3_init 3 none :: ([.methodLink RX3 3 objectInit, .instanceMethod objectInit, .code objectInit ⟨#[0xb1]⟩ 1 none, .fieldLink RX3 9 "AgreedTalks$Minutes" "meeting" "I", .fieldLink RX3 15 "AgreedTalks$Minutes" "lines" "Ljava/util/ArrayList;"] : List Cond)) [470, 471, 74, 75, 472, 474] (by decide +kernel) (by decide +kernel)) wi_wsX3)
set_option maxHeartbeats 4000000 in
set_option maxRecDepth 100000 in
/-- Minutes() -/
theorem c_Min_init (l : Launch) (dC : Nat → ClassId) (dI : Nat → Nat → Nat) (sz : Nat) (h0 : Nat) (p0 : Int32) (p1 : Nat) : Met l yX3_init wp_Min_init ({ frames := 1, cells := 0, slots := 0, locals := 20 }) (va_Pc [.ref h0, .int p0, .ref p1] (fun U => U.heap.size = sz ∧ va_P (dC, dI) vwCl [(h0, .inr (4, [.int 0, .null]))] U.heap ∧ va_K (dC, dI) vwCl [] U ∧ va_D (fun _ => True) [(h0, .inr (4, [.int 0, .null]))])) (va_Qv (fun (_ : Unit) => True) (fun (_ : Unit) (t : State) => va_P (dC, dI) vwCl [(h0, .inr (4, [.int p0, .ref p1]))] t.heap ∧ va_K (dC, dI) vwCl [] t ∧ va_D (va_A [(h0, .inr (4, [.int 0, .null]))] sz) [(h0, .inr (4, [.int p0, .ref p1]))]) (va_A [(h0, .inr (4, [.int 0, .null]))] sz)) 0 0 (va_A [(h0, .inr (4, [.int 0, .null]))] sz) := by
  refine Met.ofW (cc := cX3_init) (maxL := 3) (ret := none) (by decide) rfl ?_
  intro p e s m args below meth c s₁ B hml hv
  obtain ⟨rfl, hsz, hP, hK, hD0⟩ := hv
  have hx := B.exec
  have hb := B.bytes
  have hr := B.returns
  have hts := atoms_spec (ws := wp_Min_init) B.pre
  have hown : s.vm.findClass RX3 = some m.cls := findClass_of_methodNamed B.named
  have hlocks := B.notSynchronized
  have hin : meth.name = "<init>" := (name_of_methodNamed B.named B.method).1
  subst hsz
  have hD := hD0.self (sz := s.heap.size)
  generalize hAe : va_A [(h0, .inr (4, [.int 0, .null]))] s.heap.size = A at hD ⊢
  have hA : ∀ q : Nat, s.heap.size ≤ q → A q := fun q h => by rw [← hAe]; exact Or.inr h
  have hS : va_S A s.heap s.heap [] := va_S.rf
  have hP : va_P (dC, dI) vwCl [(h0, .inr (4, [.int 0, .null]))] s.heap := hP
  have hl := lv_entry ([.ref h0, .int p0, .ref p1]) (n := 3) (Nat.le_of_ble_eq_true rfl)
  rw [lg_entry_eq]
  generalize (lg_sl ([.ref h0, .int p0, .ref p1]) ++ List.replicate (3 - (lg_sl ([.ref h0, .int p0, .ref p1])).length) Slot.unset).toArray = ls at hl ⊢
  have hl : lv_has ls 3 [(0, .ref h0), (1, .int p0), (2, .ref p1)] := hl
  have hinX3 : ∀ w ∈ u_ws RX3 TX3 2, w ∈ wp_Min_init := fun _ h => List.mem_cons_of_mem _ (List.mem_append_right _ h)
  refine lv_aload_n hx hb dX3_init_0 rfl (lv_at hl 0 rfl) ?_
  refine W.objInit hx hb hown (hts (.methodLink RX3 3 objectInit) (by decide +kernel)) (hts (.instanceMethod objectInit) (by decide +kernel)) (hts _ (List.mem_cons_of_mem _ (List.mem_append_left _ (List.mem_of_getElem? (i := 2) rfl)))) rfl (by rw [hml]; exact hl.1) rfl dX3_init_1 (Nat.le_of_ble_eq_true rfl) (Nat.le_of_ble_eq_true rfl) ?_
  refine W.eq (g2 := F0 m 4 ls []) rfl ?_
  refine lv_aload_n hx hb dX3_init_4 rfl (lv_at hl 0 rfl) ?_
  refine lv_iload_n hx hb dX3_init_5 rfl (lv_at hl 1 rfl) ?_
  refine va_putF (D := (dC, dI)) (ci := 4) (v := .int p0) (ty := .int) (C := RX3) (T := TX3) (N := 2) hx hb hts hinX3 tyX3 tyX3_ok nmX3 hown hK hP hD hS 0 rfl rfl 0 (by decide) (hts (.fieldLink RX3 9 "AgreedTalks$Minutes" "meeting" "I") (by decide +kernel)) (fun _ h9 => h9) rfl hin rfl (by decide +kernel) rfl rfl (Nat.le_of_ble_eq_true rfl) dX3_init_6 (fun H locs hP hD hS => ?_)
  have hP : va_P (dC, dI) vwCl [(h0, .inr (4, [.int p0, .null]))] H := hP
  have hD : va_D A [(h0, .inr (4, [.int p0, .null]))] := hD
  refine lv_aload_n hx hb dX3_init_9 rfl (lv_at hl 0 rfl) ?_
  refine lv_aload_n hx hb dX3_init_10 rfl (lv_at hl 2 rfl) ?_
  refine va_putF (D := (dC, dI)) (ci := 4) (v := .ref p1) (ty := .object "java/util/ArrayList") (C := RX3) (T := TX3) (N := 2) hx hb hts hinX3 tyX3 tyX3_ok nmX3 hown hK hP hD hS 0 rfl rfl 1 (by decide) (hts (.fieldLink RX3 15 "AgreedTalks$Minutes" "lines" "Ljava/util/ArrayList;") (by decide +kernel)) (fun _ h9 => h9) rfl hin rfl (by decide +kernel) rfl rfl (Nat.le_of_ble_eq_true rfl) dX3_init_11 (fun H locs hP hD hS => ?_)
  have hP : va_P (dC, dI) vwCl [(h0, .inr (4, [.int p0, .ref p1]))] H := hP
  have hD : va_D A [(h0, .inr (4, [.int p0, .ref p1]))] := hD
  have hP9 := hP.sub (ws' := [(h0, .inr (4, [.int p0, .ref p1]))]) [0] rfl
  have hD9 := hD.sub (ws' := [(h0, .inr (4, [.int p0, .ref p1]))]) [0] (by decide) rfl
  have hK9 := hK.sub (tys' := []) [] rfl
  exact W.vret hx hb hr (fun t ht hW => ⟨⟨(), rfl, trivial, by rw [ht]; exact hP9, va_K.moved hW.alike hK9, hD9⟩, hS.F ht⟩) hS.2.2 dX3_init_14
def wp_Line_isLike : List Cond := .code yX2_isLike cX2_isLike 2 (some .boolean) :: (([.fieldLink RX2 7 "AgreedTalks$Line" "kind" "I", .fieldLink RX2 13 "AgreedTalks$Line" "person" "I", .fieldLink RX2 16 "AgreedTalks$Line" "other" "I", .fieldLink RX2 19 "AgreedTalks$Line" "thing" "I", .fieldLink RX2 22 "AgreedTalks$Line" "day" "I", .fieldLink RX2 25 "AgreedTalks$Line" "grounds" "J"] : List Cond) ++ wsX20)
set_option maxRecDepth 20000 in
theorem gi_Line_isLike : GoodIn lw_tbl wp_Line_isLike := (goodIn_ca (goodIn_r (.code yX2_isLike cX2_isLike 2 (some .boolean) :: ([.fieldLink RX2 7 "AgreedTalks$Line" "kind" "I", .fieldLink RX2 13 "AgreedTalks$Line" "person" "I", .fieldLink RX2 16 "AgreedTalks$Line" "other" "I", .fieldLink RX2 19 "AgreedTalks$Line" "thing" "I", .fieldLink RX2 22 "AgreedTalks$Line" "day" "I", .fieldLink RX2 25 "AgreedTalks$Line" "grounds" "J"] : List Cond)) [644, 344, 347, 350, 352, 355, 357] (by decide +kernel) (by decide +kernel)) wi_wsX2)
set_option maxHeartbeats 4000000 in
set_option maxRecDepth 100000 in
/-- isLike -/
theorem c_Line_isLike (l : Launch) (dC : Nat → ClassId) (dI : Nat → Nat → Nat) (sz : Nat) (h0 : Nat) (h1 : Nat) (y0 : Int32) (y1 : Int32) (y2 : Int32) (y3 : Int32) (y4 : Int32) (y5 : Int64) (z0 : Int32) (z1 : Int32) (z2 : Int32) (z3 : Int32) (z4 : Int32) (z5 : Int64) : Met l yX2_isLike wp_Line_isLike ({ frames := 0, cells := 0, slots := 0, locals := 0 }) (va_Pc [.ref h0, .ref h1] (fun U => U.heap.size = sz ∧ va_P (dC, dI) vwCl [] U.heap ∧ va_K (dC, dI) vwCl [] U ∧ va_D (fun _ => True) [] ∧ okF (dC, dI) vwCl (h0, .inr (3, [.int y0, .int y1, .int y2, .int y3, .int y4, .long y5])) (va_A [] sz) U.heap ∧ okF (dC, dI) vwCl (h1, .inr (3, [.int z0, .int z1, .int z2, .int z3, .int z4, .long z5])) (va_A [] sz) U.heap)) (va_Qi (fun (r : Int32) (_ : Unit) => r = 0 ∨ r = 1) (fun (_ : Unit) (t : State) => va_P (dC, dI) vwCl [] t.heap ∧ va_K (dC, dI) vwCl [] t ∧ va_D (va_A [] sz) []) (va_A [] sz)) 0 0 (va_A [] sz) := by
  refine Met.ofW (cc := cX2_isLike) (maxL := 2) (ret := (some .boolean)) (by decide) rfl ?_
  intro p e s m args below meth c s₁ B hml hv
  obtain ⟨rfl, hsz, hP, hK, hD0, fz0, fz1⟩ := hv
  have hx := B.exec
  have hb := B.bytes
  have hr := B.returns
  have hts := atoms_spec (ws := wp_Line_isLike) B.pre
  have hown : s.vm.findClass RX2 = some m.cls := findClass_of_methodNamed B.named
  have hlocks := B.notSynchronized
  subst hsz
  have hD := hD0.self (sz := s.heap.size)
  generalize hAe : va_A [] s.heap.size = A at hD fz0 fz1 ⊢
  have hA : ∀ q : Nat, s.heap.size ≤ q → A q := fun q h => by rw [← hAe]; exact Or.inr h
  have hS : va_S A s.heap s.heap [] := va_S.rf
  have hP : va_P (dC, dI) vwCl [] s.heap := hP
  have hl := lv_entry ([.ref h0, .ref h1]) (n := 2) (Nat.le_of_ble_eq_true rfl)
  rw [lg_entry_eq]
  generalize (lg_sl ([.ref h0, .ref h1]) ++ List.replicate (2 - (lg_sl ([.ref h0, .ref h1])).length) Slot.unset).toArray = ls at hl ⊢
  have hl : lv_has ls 2 [(0, .ref h0), (1, .ref h1)] := hl
  have hinX2 : ∀ w ∈ u_ws RX2 TX2 6, w ∈ wp_Line_isLike := fun _ h => List.mem_cons_of_mem _ (List.mem_append_right _ h)
  refine lv_aload_n hx hb dX2_isLike_0 rfl (lv_at hl 0 rfl) ?_
  have hPz := okF.kept fz0 hS
  refine va_get (D := (dC, dI)) (ci := 3) (v := .int y0) (C := RX2) (T := TX2) (N := 6) hx hb hts hinX2 hown hK hPz 0 rfl rfl 0 (by decide) (hts (.fieldLink RX2 7 "AgreedTalks$Line" "kind" "I") (by decide +kernel)) (fun _ h9 => h9) rfl dX2_isLike_1 ?_
  refine lv_aload_n hx hb dX2_isLike_4 rfl (lv_at hl 1 rfl) ?_
  have hPz := okF.kept fz1 hS
  refine va_get (D := (dC, dI)) (ci := 3) (v := .int z0) (C := RX2) (T := TX2) (N := 6) hx hb hts hinX2 hown hK hPz 0 rfl rfl 0 (by decide) (hts (.fieldLink RX2 7 "AgreedTalks$Line" "kind" "I") (by decide +kernel)) (fun _ h9 => h9) rfl dX2_isLike_5 ?_
  refine lv_icmp_ne (tgt := 71) hx hb dX2_isLike_8 (by decide) (fun c_1 => ?_) (fun c_1 => ?_)
  · refine lv_iconst (v := 0) hx hb dX2_isLike_71 (by decide) ?_
    have hP9 := hP.sub (ws' := []) [] rfl
    have hD9 := hD.sub (ws' := []) [] (by decide) rfl
    have hK9 := hK.sub (tys' := []) [] rfl
    exact W.zret (v := 0) (ty := .boolean) hx hb hr rfl (fun t ht hW => ⟨⟨0, (), rfl, Or.inl rfl, by rw [ht]; exact hP9, va_K.moved hW.alike hK9, hD9⟩, hS.F ht⟩) hS.2.2 dX2_isLike_72
  · refine lv_aload_n hx hb dX2_isLike_11 rfl (lv_at hl 0 rfl) ?_
    have hPz := okF.kept fz0 hS
    refine va_get (D := (dC, dI)) (ci := 3) (v := .int y1) (C := RX2) (T := TX2) (N := 6) hx hb hts hinX2 hown hK hPz 0 rfl rfl 1 (by decide) (hts (.fieldLink RX2 13 "AgreedTalks$Line" "person" "I") (by decide +kernel)) (fun _ h9 => h9) rfl dX2_isLike_12 ?_
    refine lv_aload_n hx hb dX2_isLike_15 rfl (lv_at hl 1 rfl) ?_
    have hPz := okF.kept fz1 hS
    refine va_get (D := (dC, dI)) (ci := 3) (v := .int z1) (C := RX2) (T := TX2) (N := 6) hx hb hts hinX2 hown hK hPz 0 rfl rfl 1 (by decide) (hts (.fieldLink RX2 13 "AgreedTalks$Line" "person" "I") (by decide +kernel)) (fun _ h9 => h9) rfl dX2_isLike_16 ?_
    refine lv_icmp_ne (tgt := 71) hx hb dX2_isLike_19 (by decide) (fun c_2 => ?_) (fun c_2 => ?_)
    · refine lv_iconst (v := 0) hx hb dX2_isLike_71 (by decide) ?_
      have hP9 := hP.sub (ws' := []) [] rfl
      have hD9 := hD.sub (ws' := []) [] (by decide) rfl
      have hK9 := hK.sub (tys' := []) [] rfl
      exact W.zret (v := 0) (ty := .boolean) hx hb hr rfl (fun t ht hW => ⟨⟨0, (), rfl, Or.inl rfl, by rw [ht]; exact hP9, va_K.moved hW.alike hK9, hD9⟩, hS.F ht⟩) hS.2.2 dX2_isLike_72
    · refine lv_aload_n hx hb dX2_isLike_22 rfl (lv_at hl 0 rfl) ?_
      have hPz := okF.kept fz0 hS
      refine va_get (D := (dC, dI)) (ci := 3) (v := .int y2) (C := RX2) (T := TX2) (N := 6) hx hb hts hinX2 hown hK hPz 0 rfl rfl 2 (by decide) (hts (.fieldLink RX2 16 "AgreedTalks$Line" "other" "I") (by decide +kernel)) (fun _ h9 => h9) rfl dX2_isLike_23 ?_
      refine lv_aload_n hx hb dX2_isLike_26 rfl (lv_at hl 1 rfl) ?_
      have hPz := okF.kept fz1 hS
      refine va_get (D := (dC, dI)) (ci := 3) (v := .int z2) (C := RX2) (T := TX2) (N := 6) hx hb hts hinX2 hown hK hPz 0 rfl rfl 2 (by decide) (hts (.fieldLink RX2 16 "AgreedTalks$Line" "other" "I") (by decide +kernel)) (fun _ h9 => h9) rfl dX2_isLike_27 ?_
      refine lv_icmp_ne (tgt := 71) hx hb dX2_isLike_30 (by decide) (fun c_3 => ?_) (fun c_3 => ?_)
      · refine lv_iconst (v := 0) hx hb dX2_isLike_71 (by decide) ?_
        have hP9 := hP.sub (ws' := []) [] rfl
        have hD9 := hD.sub (ws' := []) [] (by decide) rfl
        have hK9 := hK.sub (tys' := []) [] rfl
        exact W.zret (v := 0) (ty := .boolean) hx hb hr rfl (fun t ht hW => ⟨⟨0, (), rfl, Or.inl rfl, by rw [ht]; exact hP9, va_K.moved hW.alike hK9, hD9⟩, hS.F ht⟩) hS.2.2 dX2_isLike_72
      · refine lv_aload_n hx hb dX2_isLike_33 rfl (lv_at hl 0 rfl) ?_
        have hPz := okF.kept fz0 hS
        refine va_get (D := (dC, dI)) (ci := 3) (v := .int y3) (C := RX2) (T := TX2) (N := 6) hx hb hts hinX2 hown hK hPz 0 rfl rfl 3 (by decide) (hts (.fieldLink RX2 19 "AgreedTalks$Line" "thing" "I") (by decide +kernel)) (fun _ h9 => h9) rfl dX2_isLike_34 ?_
        refine lv_aload_n hx hb dX2_isLike_37 rfl (lv_at hl 1 rfl) ?_
        have hPz := okF.kept fz1 hS
        refine va_get (D := (dC, dI)) (ci := 3) (v := .int z3) (C := RX2) (T := TX2) (N := 6) hx hb hts hinX2 hown hK hPz 0 rfl rfl 3 (by decide) (hts (.fieldLink RX2 19 "AgreedTalks$Line" "thing" "I") (by decide +kernel)) (fun _ h9 => h9) rfl dX2_isLike_38 ?_
        refine lv_icmp_ne (tgt := 71) hx hb dX2_isLike_41 (by decide) (fun c_4 => ?_) (fun c_4 => ?_)
        · refine lv_iconst (v := 0) hx hb dX2_isLike_71 (by decide) ?_
          have hP9 := hP.sub (ws' := []) [] rfl
          have hD9 := hD.sub (ws' := []) [] (by decide) rfl
          have hK9 := hK.sub (tys' := []) [] rfl
          exact W.zret (v := 0) (ty := .boolean) hx hb hr rfl (fun t ht hW => ⟨⟨0, (), rfl, Or.inl rfl, by rw [ht]; exact hP9, va_K.moved hW.alike hK9, hD9⟩, hS.F ht⟩) hS.2.2 dX2_isLike_72
        · refine lv_aload_n hx hb dX2_isLike_44 rfl (lv_at hl 0 rfl) ?_
          have hPz := okF.kept fz0 hS
          refine va_get (D := (dC, dI)) (ci := 3) (v := .int y4) (C := RX2) (T := TX2) (N := 6) hx hb hts hinX2 hown hK hPz 0 rfl rfl 4 (by decide) (hts (.fieldLink RX2 22 "AgreedTalks$Line" "day" "I") (by decide +kernel)) (fun _ h9 => h9) rfl dX2_isLike_45 ?_
          refine lv_aload_n hx hb dX2_isLike_48 rfl (lv_at hl 1 rfl) ?_
          have hPz := okF.kept fz1 hS
          refine va_get (D := (dC, dI)) (ci := 3) (v := .int z4) (C := RX2) (T := TX2) (N := 6) hx hb hts hinX2 hown hK hPz 0 rfl rfl 4 (by decide) (hts (.fieldLink RX2 22 "AgreedTalks$Line" "day" "I") (by decide +kernel)) (fun _ h9 => h9) rfl dX2_isLike_49 ?_
          refine lv_icmp_ne (tgt := 71) hx hb dX2_isLike_52 (by decide) (fun c_5 => ?_) (fun c_5 => ?_)
          · refine lv_iconst (v := 0) hx hb dX2_isLike_71 (by decide) ?_
            have hP9 := hP.sub (ws' := []) [] rfl
            have hD9 := hD.sub (ws' := []) [] (by decide) rfl
            have hK9 := hK.sub (tys' := []) [] rfl
            exact W.zret (v := 0) (ty := .boolean) hx hb hr rfl (fun t ht hW => ⟨⟨0, (), rfl, Or.inl rfl, by rw [ht]; exact hP9, va_K.moved hW.alike hK9, hD9⟩, hS.F ht⟩) hS.2.2 dX2_isLike_72
          · refine lv_aload_n hx hb dX2_isLike_55 rfl (lv_at hl 0 rfl) ?_
            have hPz := okF.kept fz0 hS
            refine va_get (D := (dC, dI)) (ci := 3) (v := .long y5) (C := RX2) (T := TX2) (N := 6) hx hb hts hinX2 hown hK hPz 0 rfl rfl 5 (by decide) (hts (.fieldLink RX2 25 "AgreedTalks$Line" "grounds" "J") (by decide +kernel)) (fun _ h9 => h9) rfl dX2_isLike_56 ?_
            refine lv_aload_n hx hb dX2_isLike_59 rfl (lv_at hl 1 rfl) ?_
            have hPz := okF.kept fz1 hS
            refine va_get (D := (dC, dI)) (ci := 3) (v := .long z5) (C := RX2) (T := TX2) (N := 6) hx hb hts hinX2 hown hK hPz 0 rfl rfl 5 (by decide) (hts (.fieldLink RX2 25 "AgreedTalks$Line" "grounds" "J") (by decide +kernel)) (fun _ h9 => h9) rfl dX2_isLike_60 ?_
            refine W.lcmp hx hb dX2_isLike_63 ?_
            refine lv_if_ne (tgt := 71) hx hb dX2_isLike_64 (by decide) (fun c_6 => ?_) (fun c_6 => ?_)
            · have c_6 : ¬ (y5 = z5) := fun h => c_6 ((lg_cmp_eq _ _).mpr h)
              refine lv_iconst (v := 0) hx hb dX2_isLike_71 (by decide) ?_
              have hP9 := hP.sub (ws' := []) [] rfl
              have hD9 := hD.sub (ws' := []) [] (by decide) rfl
              have hK9 := hK.sub (tys' := []) [] rfl
              exact W.zret (v := 0) (ty := .boolean) hx hb hr rfl (fun t ht hW => ⟨⟨0, (), rfl, Or.inl rfl, by rw [ht]; exact hP9, va_K.moved hW.alike hK9, hD9⟩, hS.F ht⟩) hS.2.2 dX2_isLike_72
            · have c_6 : y5 = z5 := (lg_cmp_eq _ _).mp c_6
              refine lv_iconst (v := 1) hx hb dX2_isLike_67 (by decide) ?_
              refine lv_goto (tgt := 72) hx hb dX2_isLike_68 (by decide) ?_
              have hP9 := hP.sub (ws' := []) [] rfl
              have hD9 := hD.sub (ws' := []) [] (by decide) rfl
              have hK9 := hK.sub (tys' := []) [] rfl
              exact W.zret (v := 1) (ty := .boolean) hx hb hr rfl (fun t ht hW => ⟨⟨1, (), rfl, Or.inr rfl, by rw [ht]; exact hP9, va_K.moved hW.alike hK9, hD9⟩, hS.F ht⟩) hS.2.2 dX2_isLike_72
