theorem dJ7_fill_53178_5 : decode cJ7_fill_53178 5 = .ok (.iload_n 2, 1) := by decide +kernel
theorem dJ7_fill_53178_6 : decode cJ7_fill_53178 6 = .ok (.iload_n 3, 1) := by decide +kernel
theorem dJ7_fill_53178_7 : decode cJ7_fill_53178 7 = .ok (.if_icmp .ge 13, 3) := by decide +kernel
theorem dJ7_fill_53178_10 : decode cJ7_fill_53178 10 = .ok (.aload_n 0, 1) := by decide +kernel
theorem dJ7_fill_53178_11 : decode cJ7_fill_53178 11 = .ok (.iload_n 2, 1) := by decide +kernel
theorem dJ7_fill_53178_12 : decode cJ7_fill_53178 12 = .ok (.iload_n 1, 1) := by decide +kernel
theorem dJ7_fill_53178_13 : decode cJ7_fill_53178 13 = .ok (.iastore, 1) := by decide +kernel
theorem dJ7_fill_53178_14 : decode cJ7_fill_53178 14 = .ok (.iinc 2 1, 3) := by decide +kernel
theorem dJ7_fill_53178_17 : decode cJ7_fill_53178 17 = .ok (.goto (-12), 3) := by decide +kernel
theorem dJ7_fill_53178_0 : decode cJ7_fill_53178 0 = .ok (.iconst 0, 1) := by decide +kernel
theorem dJ7_fill_53178_1 : decode cJ7_fill_53178 1 = .ok (.istore_n 2, 1) := by decide +kernel
theorem dJ7_fill_53178_2 : decode cJ7_fill_53178 2 = .ok (.aload_n 0, 1) := by decide +kernel
theorem dJ7_fill_53178_3 : decode cJ7_fill_53178 3 = .ok (.arraylength, 1) := by decide +kernel
theorem dJ7_fill_53178_4 : decode cJ7_fill_53178 4 = .ok (.istore_n 3, 1) := by decide +kernel
theorem dJ7_fill_53178_20 : decode cJ7_fill_53178 20 = .ok (.return_, 1) := by decide +kernel
theorem dJ7_fill_d0a16_6 : decode cJ7_fill_d0a16 6 = .ok (.iload_n 3, 1) := by decide +kernel
theorem dJ7_fill_d0a16_7 : decode cJ7_fill_d0a16 7 = .ok (.iload 4, 2) := by decide +kernel
theorem dJ7_fill_d0a16_9 : decode cJ7_fill_d0a16 9 = .ok (.if_icmp .ge 13, 3) := by decide +kernel
theorem dJ7_fill_d0a16_12 : decode cJ7_fill_d0a16 12 = .ok (.aload_n 0, 1) := by decide +kernel
theorem dJ7_fill_d0a16_13 : decode cJ7_fill_d0a16 13 = .ok (.iload_n 3, 1) := by decide +kernel
theorem dJ7_fill_d0a16_14 : decode cJ7_fill_d0a16 14 = .ok (.lload_n 1, 1) := by decide +kernel
theorem dJ7_fill_d0a16_15 : decode cJ7_fill_d0a16 15 = .ok (.lastore, 1) := by decide +kernel
theorem dJ7_fill_d0a16_16 : decode cJ7_fill_d0a16 16 = .ok (.iinc 3 1, 3) := by decide +kernel
theorem dJ7_fill_d0a16_19 : decode cJ7_fill_d0a16 19 = .ok (.goto (-13), 3) := by decide +kernel
theorem dJ7_fill_d0a16_0 : decode cJ7_fill_d0a16 0 = .ok (.iconst 0, 1) := by decide +kernel
theorem dJ7_fill_d0a16_1 : decode cJ7_fill_d0a16 1 = .ok (.istore_n 3, 1) := by decide +kernel
theorem dJ7_fill_d0a16_2 : decode cJ7_fill_d0a16 2 = .ok (.aload_n 0, 1) := by decide +kernel
theorem dJ7_fill_d0a16_3 : decode cJ7_fill_d0a16 3 = .ok (.arraylength, 1) := by decide +kernel
theorem dJ7_fill_d0a16_4 : decode cJ7_fill_d0a16 4 = .ok (.istore 4, 2) := by decide +kernel
theorem dJ7_fill_d0a16_22 : decode cJ7_fill_d0a16 22 = .ok (.return_, 1) := by decide +kernel
def wp_fill : List Cond := .code yJ7_fill_53178 cJ7_fill_53178 4 none :: (([] : List Cond))
set_option maxRecDepth 20000 in
theorem gi_fill : GoodIn lw_tbl wp_fill := (goodIn_r (.code yJ7_fill_53178 cJ7_fill_53178 4 none :: ([] : List Cond)) [188] (by decide +kernel) (by decide +kernel))
set_option maxHeartbeats 4000000 in
set_option maxRecDepth 100000 in
theorem sg_fill_5 {p : Program} {l : Launch} {e : Env} {s : State} {m : MethodId} {args : Array Value} {below : List Frame} {meth : Method} {c : Code} {Q : State → Prop} {A : Nat → Prop} {dC : Nat → ClassId} {dI : Nat → Nat → Nat} (a0 : Nat) (v0 : Int32) (cy : ClassId) (N0 : Nat) (f0 : Nat → Int32) (hN0 : N0 < 2 ^ 31) (hx : p.tables.exec = Jvm.exec) (hb : c.code = cJ7_fill_53178) (hml : c.maxLocals = 4) (hown : s.vm.findClass RJ7 = some m.cls) (hts : ∀ w ∈ wp_fill, w.before args s = true) (hK : va_K (dC, dI) vwCl [(cy, .int)] s) (hA : ∀ q : Nat, s.heap.size ≤ q → A q) (kk_20 : ∀ (f9 : Nat → Int32) (H : Heap) (locs : List Loc) (ls : Array Slot), okPD (dC, dI) vwCl A [(a0, .inl (cy, N0, .inl f9))] H → va_S A s.heap H locs → lv_has ls 4 [(0, .ref a0)] → W p l e ({ frames := 0, cells := 0, slots := 0, locals := 0 } : Room) s m args below meth c H locs 0 0 Q (F0 m 20 ls [])) : ∀ (n : Nat) (i9 : Nat) (f9 : Nat → Int32) (H : Heap) (locs : List Loc) (ls : Array Slot), N0 - i9 < n → (i9 ≤ N0) → okPD (dC, dI) vwCl A [(a0, .inl (cy, N0, .inl f9))] H → va_S A s.heap H locs → lv_has ls 4 [(0, .ref a0), (1, .int v0), (2, .int (nI i9)), (3, .int (nI N0))] → W p l e ({ frames := 0, cells := 0, slots := 0, locals := 0 } : Room) s m args below meth c H locs 0 0 Q (F0 m 5 ls []) := by
  intro n
  induction n with
  | zero =>
    intro i9 f9 H locs ls hn
    exact absurd hn (Nat.not_lt_zero _)
  | succ n ih =>
    intro i9 f9 H locs ls hn hi hPD hS hl
    obtain ⟨hP, hD⟩ := hPD
    refine lv_iload_n hx hb dJ7_fill_53178_5 rfl (lv_at hl 2 rfl) ?_
    refine lv_iload_n hx hb dJ7_fill_53178_6 rfl (lv_at hl 3 rfl) ?_
    refine lv_icmp_ge (tgt := 20) hx hb dJ7_fill_53178_7 (by decide) (fun c_1 => ?_) (fun c_1 => ?_)
    · have c_1 : N0 ≤ i9 := (nI_leI (a := N0) (b := i9) (by omega) (by omega)).mp c_1
      exact kk_20 f9 _ _ _  ⟨hP, hD⟩ hS (lv_sub hl [0] rfl)
    · have c_1 : ¬ (N0 ≤ i9) := fun h => c_1 ((nI_leI (a := N0) (b := i9) (by omega) (by omega)).mpr h)
      refine lv_aload_n hx hb dJ7_fill_53178_10 rfl (lv_at hl 0 rfl) ?_
      refine lv_iload_n hx hb dJ7_fill_53178_11 rfl (lv_at hl 2 rfl) ?_
      refine lv_iload_n hx hb dJ7_fill_53178_12 rfl (lv_at hl 1 rfl) ?_
      refine va_iast hx hb hK hP hD hS 0 0 rfl rfl (vp_in_nI (by omega) (by omega)) dJ7_fill_53178_13 (fun H locs hP hD hS => ?_)
      have hP : va_P (dC, dI) vwCl [(a0, .inl (cy, N0, .inl (upd f9 (Int32.toNatClampNeg (nI i9)) v0)))] H := hP
      have hD : va_D A [(a0, .inl (cy, N0, .inl (upd f9 (Int32.toNatClampNeg (nI i9)) v0)))] := hD
      generalize ef_2 : upd f9 (Int32.toNatClampNeg (nI i9)) v0 = f_2 at hP hD
      rw [show Int32.toNatClampNeg (nI i9) = i9 from nI_clamp (by omega)] at ef_2
      refine lv_iinc (v := (nI (i9 + 1))) (lv' := [(2, .int (nI (i9 + 1))), (0, .ref a0), (1, .int v0), (3, .int (nI N0))]) hx hb dJ7_fill_53178_14 hl (k := 2) rfl (nI_1 _) (by decide) rfl (fun ls hl => ?_)
      refine lv_goto (tgt := 5) hx hb dJ7_fill_53178_17 (by decide) ?_
      exact ih (i9 + 1) f_2 _ _ _ (by omega) (by omega) ⟨hP, hD⟩ hS (lv_sub hl [1, 2, 0, 3] rfl)
set_option maxHeartbeats 4000000 in
set_option maxRecDepth 100000 in
/-- Arrays.fill -/
theorem c_fill (l : Launch) (dC : Nat → ClassId) (dI : Nat → Nat → Nat) (sz : Nat) (a0 : Nat) (v0 : Int32) (cy : ClassId) (N0 : Nat) (f0 : Nat → Int32) (hN0 : N0 < 2 ^ 31) : Met l yJ7_fill_53178 wp_fill ({ frames := 0, cells := 0, slots := 0, locals := 0 }) (va_Pc [.ref a0, .int v0] (fun U => U.heap.size = sz ∧ va_P (dC, dI) vwCl [(a0, .inl (cy, N0, .inl f0))] U.heap ∧ va_K (dC, dI) vwCl [(cy, .int)] U ∧ va_D (fun _ => True) [(a0, .inl (cy, N0, .inl f0))])) (va_Qv (fun (_ : Unit) => True) (fun (_ : Unit) (t : State) => ∃ (g0 : Nat → Int32), va_P (dC, dI) vwCl [(a0, .inl (cy, N0, .inl g0))] t.heap ∧ va_K (dC, dI) vwCl [(cy, .int)] t ∧ va_D (va_A [(a0, .inl (cy, N0, .inl f0))] sz) [(a0, .inl (cy, N0, .inl g0))]) (va_A [(a0, .inl (cy, N0, .inl f0))] sz)) 0 0 (va_A [(a0, .inl (cy, N0, .inl f0))] sz) := by
  refine Met.ofW (cc := cJ7_fill_53178) (maxL := 4) (ret := none) (by decide) rfl ?_
  intro p e s m args below meth c s₁ B hml hv
  obtain ⟨rfl, hsz, hP, hK, hD0⟩ := hv
  have hx := B.exec
  have hb := B.bytes
  have hr := B.returns
  have hts := atoms_spec (ws := wp_fill) B.pre
  have hown : s.vm.findClass RJ7 = some m.cls := findClass_of_methodNamed B.named
  have hlocks := B.notSynchronized
  subst hsz
  have hD := hD0.self (sz := s.heap.size)
  generalize hAe : va_A [(a0, .inl (cy, N0, .inl f0))] s.heap.size = A at hD ⊢
  have hA : ∀ q : Nat, s.heap.size ≤ q → A q := fun q h => by rw [← hAe]; exact Or.inr h
  have hS : va_S A s.heap s.heap [] := va_S.rf
  have hP : va_P (dC, dI) vwCl [(a0, .inl (cy, N0, .inl f0))] s.heap := hP
  have hl := lv_entry ([.ref a0, .int v0]) (n := 4) (Nat.le_of_ble_eq_true rfl)
  rw [lg_entry_eq]
  generalize (lg_sl ([.ref a0, .int v0]) ++ List.replicate (4 - (lg_sl ([.ref a0, .int v0])).length) Slot.unset).toArray = ls at hl ⊢
  have hl : lv_has ls 4 [(0, .ref a0), (1, .int v0)] := hl
  refine lv_iconst (v := 0) hx hb dJ7_fill_53178_0 (by decide) ?_
  refine lv_istore_n (lv' := [(2, .int 0), (0, .ref a0), (1, .int v0)]) hx hb dJ7_fill_53178_1 rfl hl (by decide) rfl (fun ls hl => ?_)
  refine lv_aload_n hx hb dJ7_fill_53178_2 rfl (lv_at hl 1 rfl) ?_
  refine va_alen (v := nI N0) hx hb hK hP 0 0 rfl rfl rfl dJ7_fill_53178_3 ?_
  refine lv_istore_n (lv' := [(3, .int (nI N0)), (2, .int 0), (0, .ref a0), (1, .int v0)]) hx hb dJ7_fill_53178_4 rfl hl (by decide) rfl (fun ls hl => ?_)
  refine sg_fill_5 a0 v0 cy N0 f0 hN0 hx hb hml hown hts hK hA (fun f9_3 H locs ls  hPD hS hl => ?_) ((N0 - 0) + 1) 0 f0 _ _ _ (Nat.lt_succ_self _) (by omega) ⟨hP, hD⟩ hS (lv_sub hl [2, 3, 1, 0] rfl)
  obtain ⟨hP, hD⟩ := hPD
  have hP9 := hP.sub (ws' := [(a0, .inl (cy, N0, .inl f9_3))]) [0] rfl
  have hD9 := hD.sub (ws' := [(a0, .inl (cy, N0, .inl f9_3))]) [0] (by decide) rfl
  have hK9 := hK.sub (tys' := [(cy, .int)]) [0] rfl
  exact W.vret hx hb hr (fun t ht hW => ⟨⟨(), rfl, trivial, f9_3, by rw [ht]; exact hP9, va_K.moved hW.alike hK9, hD9⟩, hS.F ht⟩) hS.2.2 dJ7_fill_53178_20
def wp_fillL : List Cond := .code yJ7_fill_d0a16 cJ7_fill_d0a16 5 none :: (([] : List Cond))
set_option maxRecDepth 20000 in
theorem gi_fillL : GoodIn lw_tbl wp_fillL := (goodIn_r (.code yJ7_fill_d0a16 cJ7_fill_d0a16 5 none :: ([] : List Cond)) [529] (by decide +kernel) (by decide +kernel))
set_option maxHeartbeats 4000000 in
set_option maxRecDepth 100000 in
theorem sg_fillL_6 {p : Program} {l : Launch} {e : Env} {s : State} {m : MethodId} {args : Array Value} {below : List Frame} {meth : Method} {c : Code} {Q : State → Prop} {A : Nat → Prop} {dC : Nat → ClassId} {dI : Nat → Nat → Nat} (a0 : Nat) (v0 : Int64) (cy : ClassId) (N0 : Nat) (f0 : Nat → Int64) (hN0 : N0 < 2 ^ 31) (hx : p.tables.exec = Jvm.exec) (hb : c.code = cJ7_fill_d0a16) (hml : c.maxLocals = 5) (hown : s.vm.findClass RJ7 = some m.cls) (hts : ∀ w ∈ wp_fillL, w.before args s = true) (hK : va_K (dC, dI) vwCl [(cy, .long)] s) (hA : ∀ q : Nat, s.heap.size ≤ q → A q) (kk_22 : ∀ (f9 : Nat → Int64) (H : Heap) (locs : List Loc) (ls : Array Slot), okPD (dC, dI) vwCl A [(a0, .inl (cy, N0, .inr (.inl f9)))] H → va_S A s.heap H locs → lv_has ls 5 [(0, .ref a0)] → W p l e ({ frames := 0, cells := 0, slots := 0, locals := 0 } : Room) s m args below meth c H locs 0 0 Q (F0 m 22 ls [])) : ∀ (n : Nat) (i9 : Nat) (f9 : Nat → Int64) (H : Heap) (locs : List Loc) (ls : Array Slot), N0 - i9 < n → (i9 ≤ N0) → okPD (dC, dI) vwCl A [(a0, .inl (cy, N0, .inr (.inl f9)))] H → va_S A s.heap H locs → lv_has ls 5 [(0, .ref a0), (1, .long v0), (3, .int (nI i9)), (4, .int (nI N0))] → W p l e ({ frames := 0, cells := 0, slots := 0, locals := 0 } : Room) s m args below meth c H locs 0 0 Q (F0 m 6 ls []) := by
  intro n
  induction n with
  | zero =>
    intro i9 f9 H locs ls hn
    exact absurd hn (Nat.not_lt_zero _)
  | succ n ih =>
    intro i9 f9 H locs ls hn hi hPD hS hl
    obtain ⟨hP, hD⟩ := hPD
    refine lv_iload_n hx hb dJ7_fill_d0a16_6 rfl (lv_at hl 2 rfl) ?_
    refine lv_iload hx hb dJ7_fill_d0a16_7 (lv_at hl 3 rfl) ?_
    refine lv_icmp_ge (tgt := 22) hx hb dJ7_fill_d0a16_9 (by decide) (fun c_1 => ?_) (fun c_1 => ?_)
    · have c_1 : N0 ≤ i9 := (nI_leI (a := N0) (b := i9) (by omega) (by omega)).mp c_1
      exact kk_22 f9 _ _ _  ⟨hP, hD⟩ hS (lv_sub hl [0] rfl)
    · have c_1 : ¬ (N0 ≤ i9) := fun h => c_1 ((nI_leI (a := N0) (b := i9) (by omega) (by omega)).mpr h)
      refine lv_aload_n hx hb dJ7_fill_d0a16_12 rfl (lv_at hl 0 rfl) ?_
      refine lv_iload_n hx hb dJ7_fill_d0a16_13 rfl (lv_at hl 2 rfl) ?_
      refine lv_lload_n hx hb dJ7_fill_d0a16_14 rfl (lv_at hl 1 rfl) ?_
      refine va_last hx hb hK hP hD hS 0 0 rfl rfl (vp_in_nI (by omega) (by omega)) dJ7_fill_d0a16_15 (fun H locs hP hD hS => ?_)
      have hP : va_P (dC, dI) vwCl [(a0, .inl (cy, N0, .inr (.inl (vp_updL f9 (Int32.toNatClampNeg (nI i9)) v0))))] H := hP
      have hD : va_D A [(a0, .inl (cy, N0, .inr (.inl (vp_updL f9 (Int32.toNatClampNeg (nI i9)) v0))))] := hD
      generalize ef_2 : vp_updL f9 (Int32.toNatClampNeg (nI i9)) v0 = f_2 at hP hD
      rw [show Int32.toNatClampNeg (nI i9) = i9 from nI_clamp (by omega)] at ef_2
      refine lv_iinc (v := (nI (i9 + 1))) (lv' := [(3, .int (nI (i9 + 1))), (0, .ref a0), (1, .long v0), (4, .int (nI N0))]) hx hb dJ7_fill_d0a16_16 hl (k := 2) rfl (nI_1 _) (by decide) rfl (fun ls hl => ?_)
      refine lv_goto (tgt := 6) hx hb dJ7_fill_d0a16_19 (by decide) ?_
      exact ih (i9 + 1) f_2 _ _ _ (by omega) (by omega) ⟨hP, hD⟩ hS (lv_sub hl [1, 2, 0, 3] rfl)
set_option maxHeartbeats 4000000 in
set_option maxRecDepth 100000 in
/-- Arrays.fill -/
theorem c_fillL (l : Launch) (dC : Nat → ClassId) (dI : Nat → Nat → Nat) (sz : Nat) (a0 : Nat) (v0 : Int64) (cy : ClassId) (N0 : Nat) (f0 : Nat → Int64) (hN0 : N0 < 2 ^ 31) : Met l yJ7_fill_d0a16 wp_fillL ({ frames := 0, cells := 0, slots := 0, locals := 0 }) (va_Pc [.ref a0, .long v0] (fun U => U.heap.size = sz ∧ va_P (dC, dI) vwCl [(a0, .inl (cy, N0, .inr (.inl f0)))] U.heap ∧ va_K (dC, dI) vwCl [(cy, .long)] U ∧ va_D (fun _ => True) [(a0, .inl (cy, N0, .inr (.inl f0)))])) (va_Qv (fun (_ : Unit) => True) (fun (_ : Unit) (t : State) => ∃ (g0 : Nat → Int64), va_P (dC, dI) vwCl [(a0, .inl (cy, N0, .inr (.inl g0)))] t.heap ∧ va_K (dC, dI) vwCl [(cy, .long)] t ∧ va_D (va_A [(a0, .inl (cy, N0, .inr (.inl f0)))] sz) [(a0, .inl (cy, N0, .inr (.inl g0)))]) (va_A [(a0, .inl (cy, N0, .inr (.inl f0)))] sz)) 0 0 (va_A [(a0, .inl (cy, N0, .inr (.inl f0)))] sz) := by
  refine Met.ofW (cc := cJ7_fill_d0a16) (maxL := 5) (ret := none) (by decide) rfl ?_
  intro p e s m args below meth c s₁ B hml hv
  obtain ⟨rfl, hsz, hP, hK, hD0⟩ := hv
  have hx := B.exec
  have hb := B.bytes
  have hr := B.returns
  have hts := atoms_spec (ws := wp_fillL) B.pre
  have hown : s.vm.findClass RJ7 = some m.cls := findClass_of_methodNamed B.named
  have hlocks := B.notSynchronized
  subst hsz
  have hD := hD0.self (sz := s.heap.size)
  generalize hAe : va_A [(a0, .inl (cy, N0, .inr (.inl f0)))] s.heap.size = A at hD ⊢
  have hA : ∀ q : Nat, s.heap.size ≤ q → A q := fun q h => by rw [← hAe]; exact Or.inr h
  have hS : va_S A s.heap s.heap [] := va_S.rf
  have hP : va_P (dC, dI) vwCl [(a0, .inl (cy, N0, .inr (.inl f0)))] s.heap := hP
  have hl := lv_entry ([.ref a0, .long v0]) (n := 5) (Nat.le_of_ble_eq_true rfl)
  rw [lg_entry_eq]
  generalize (lg_sl ([.ref a0, .long v0]) ++ List.replicate (5 - (lg_sl ([.ref a0, .long v0])).length) Slot.unset).toArray = ls at hl ⊢
  have hl : lv_has ls 5 [(0, .ref a0), (1, .long v0)] := hl
  refine lv_iconst (v := 0) hx hb dJ7_fill_d0a16_0 (by decide) ?_
  refine lv_istore_n (lv' := [(3, .int 0), (0, .ref a0), (1, .long v0)]) hx hb dJ7_fill_d0a16_1 rfl hl (by decide) rfl (fun ls hl => ?_)
  refine lv_aload_n hx hb dJ7_fill_d0a16_2 rfl (lv_at hl 1 rfl) ?_
  refine va_alen (v := nI N0) hx hb hK hP 0 0 rfl rfl rfl dJ7_fill_d0a16_3 ?_
  refine lv_istore (lv' := [(4, .int (nI N0)), (3, .int 0), (0, .ref a0), (1, .long v0)]) hx hb dJ7_fill_d0a16_4 hl (by decide) rfl (fun ls hl => ?_)
  refine sg_fillL_6 a0 v0 cy N0 f0 hN0 hx hb hml hown hts hK hA (fun f9_3 H locs ls  hPD hS hl => ?_) ((N0 - 0) + 1) 0 f0 _ _ _ (Nat.lt_succ_self _) (by omega) ⟨hP, hD⟩ hS (lv_sub hl [2, 3, 1, 0] rfl)
  obtain ⟨hP, hD⟩ := hPD
  have hP9 := hP.sub (ws' := [(a0, .inl (cy, N0, .inr (.inl f9_3)))]) [0] rfl
  have hD9 := hD.sub (ws' := [(a0, .inl (cy, N0, .inr (.inl f9_3)))]) [0] (by decide) rfl
  have hK9 := hK.sub (tys' := [(cy, .long)]) [0] rfl
  exact W.vret hx hb hr (fun t ht hW => ⟨⟨(), rfl, trivial, f9_3, by rw [ht]; exact hP9, va_K.moved hW.alike hK9, hD9⟩, hS.F ht⟩) hS.2.2 dJ7_fill_d0a16_22
