set_option maxRecDepth 20000 in
theorem lwEnv {s : State} {b : Nat} {A : Nat → Prop} (hts : ∀ w ∈ lw_tbl, w.before #[Value.ref b] s = true) (hgv : (Jvm.Cond.and given_1 narrow_1).before #[Value.ref b] s = true) (hA : ∀ a : Nat, a < s.heap.size → ¬ A a) : ∃ zo : Option Nat, okEnv zo A s s.heap := by
  have h1 : va_Z "java/lang/String" "COMPACT_STRINGS" "Z" (.int 1) A s s.heap := va_Zof (hts (.laysStatic "java/lang/String" "COMPACT_STRINGS" "Z") (List.mem_of_getElem? (i := 288) (by decide +kernel))) (hts (.initialized "java/lang/String") (List.mem_of_getElem? (i := 58) (by decide +kernel))) (va_eqi (flat_of_before _ hgv (.eq (.static "java/lang/String" "COMPACT_STRINGS" "Z") (.int 1)) (by decide +kernel))) hA
  obtain ⟨zo, h2⟩ : ∃ zo : Option Nat, va_Z "jdk/internal/util/Preconditions" "SIOOBE_FORMATTER" "Ljava/util/function/BiFunction;" (va_rf zo) A s s.heap := by
    rcases va_Zqof (A := A) (hts (.laysStatic "jdk/internal/util/Preconditions" "SIOOBE_FORMATTER" "Ljava/util/function/BiFunction;") (List.mem_of_getElem? (i := 304) (by decide +kernel))) (hts (.initialized "jdk/internal/util/Preconditions") (List.mem_of_getElem? (i := 60) (by decide +kernel))) (flat_of_before _ hgv (.isRef (.static "jdk/internal/util/Preconditions" "SIOOBE_FORMATTER" "Ljava/util/function/BiFunction;")) (by decide +kernel)) hA with h | ⟨t, h⟩
    · exact ⟨none, h⟩
    · exact ⟨some t, h⟩
  refine ⟨zo, h1, h2, ?_⟩
  intro p hp
  have hp : p ∈ strL := hp
  unfold strL at hp
  rcases List.mem_cons.mp hp with hp | hp
  · rw [hp]
    refine lwStr 40 ";" [59] (by decide) (hts (.stringRef RX4 40 ";") (List.mem_of_getElem? (i := 461) (by decide +kernel))) (flat_of_before _ hgv (.exactly (.string RX4 40) "java/lang/String") (by decide +kernel)) (flat_of_before _ hgv (.eq (.field (.string RX4 40) "java/lang/String" "coder" "B") (.int 0)) (by decide +kernel)) (flat_of_before _ hgv (.arrayOf (.field (.string RX4 40) "java/lang/String" "value" "[B") .byte) (by decide +kernel)) (flat_of_before _ hgv (.eq (.length (.field (.string RX4 40) "java/lang/String" "value" "[B")) (.int 1)) (by decide +kernel)) (fun j hj => ?_) hA
    match j, hj with
    | 0, _ => exact (flat_of_before _ hgv (.eq (.elem (.field (.string RX4 40) "java/lang/String" "value" "[B") (.int 0)) (.int 59)) (by decide +kernel))
    | j + 1, hj => exact absurd hj (by simp)
  rcases List.mem_cons.mp hp with hp | hp
  · rw [hp]
    refine lwStr 46 "open" [111, 112, 101, 110] (by decide) (hts (.stringRef RX4 46 "open") (List.mem_of_getElem? (i := 274) (by decide +kernel))) (flat_of_before _ hgv (.exactly (.string RX4 46) "java/lang/String") (by decide +kernel)) (flat_of_before _ hgv (.eq (.field (.string RX4 46) "java/lang/String" "coder" "B") (.int 0)) (by decide +kernel)) (flat_of_before _ hgv (.arrayOf (.field (.string RX4 46) "java/lang/String" "value" "[B") .byte) (by decide +kernel)) (flat_of_before _ hgv (.eq (.length (.field (.string RX4 46) "java/lang/String" "value" "[B")) (.int 4)) (by decide +kernel)) (fun j hj => ?_) hA
    match j, hj with
    | 0, _ => exact (flat_of_before _ hgv (.eq (.elem (.field (.string RX4 46) "java/lang/String" "value" "[B") (.int 0)) (.int 111)) (by decide +kernel))
    | 1, _ => exact (flat_of_before _ hgv (.eq (.elem (.field (.string RX4 46) "java/lang/String" "value" "[B") (.int 1)) (.int 112)) (by decide +kernel))
    | 2, _ => exact (flat_of_before _ hgv (.eq (.elem (.field (.string RX4 46) "java/lang/String" "value" "[B") (.int 2)) (.int 101)) (by decide +kernel))
    | 3, _ => exact (flat_of_before _ hgv (.eq (.elem (.field (.string RX4 46) "java/lang/String" "value" "[B") (.int 3)) (.int 110)) (by decide +kernel))
    | j + 4, hj => exact absurd hj (by simp)
  rcases List.mem_cons.mp hp with hp | hp
  · rw [hp]
    refine lwStr 54 "settled" [115, 101, 116, 116, 108, 101, 100] (by decide) (hts (.stringRef RX4 54 "settled") (List.mem_of_getElem? (i := 373) (by decide +kernel))) (flat_of_before _ hgv (.exactly (.string RX4 54) "java/lang/String") (by decide +kernel)) (flat_of_before _ hgv (.eq (.field (.string RX4 54) "java/lang/String" "coder" "B") (.int 0)) (by decide +kernel)) (flat_of_before _ hgv (.arrayOf (.field (.string RX4 54) "java/lang/String" "value" "[B") .byte) (by decide +kernel)) (flat_of_before _ hgv (.eq (.length (.field (.string RX4 54) "java/lang/String" "value" "[B")) (.int 7)) (by decide +kernel)) (fun j hj => ?_) hA
    match j, hj with
    | 0, _ => exact (flat_of_before _ hgv (.eq (.elem (.field (.string RX4 54) "java/lang/String" "value" "[B") (.int 0)) (.int 115)) (by decide +kernel))
    | 1, _ => exact (flat_of_before _ hgv (.eq (.elem (.field (.string RX4 54) "java/lang/String" "value" "[B") (.int 1)) (.int 101)) (by decide +kernel))
    | 2, _ => exact (flat_of_before _ hgv (.eq (.elem (.field (.string RX4 54) "java/lang/String" "value" "[B") (.int 2)) (.int 116)) (by decide +kernel))
    | 3, _ => exact (flat_of_before _ hgv (.eq (.elem (.field (.string RX4 54) "java/lang/String" "value" "[B") (.int 3)) (.int 116)) (by decide +kernel))
    | 4, _ => exact (flat_of_before _ hgv (.eq (.elem (.field (.string RX4 54) "java/lang/String" "value" "[B") (.int 4)) (.int 108)) (by decide +kernel))
    | 5, _ => exact (flat_of_before _ hgv (.eq (.elem (.field (.string RX4 54) "java/lang/String" "value" "[B") (.int 5)) (.int 101)) (by decide +kernel))
    | 6, _ => exact (flat_of_before _ hgv (.eq (.elem (.field (.string RX4 54) "java/lang/String" "value" "[B") (.int 6)) (.int 100)) (by decide +kernel))
    | j + 7, hj => exact absurd hj (by simp)
  rcases List.mem_cons.mp hp with hp | hp
  · rw [hp]
    refine lwStr 60 "asks" [97, 115, 107, 115] (by decide) (hts (.stringRef RX4 60 "asks") (List.mem_of_getElem? (i := 381) (by decide +kernel))) (flat_of_before _ hgv (.exactly (.string RX4 60) "java/lang/String") (by decide +kernel)) (flat_of_before _ hgv (.eq (.field (.string RX4 60) "java/lang/String" "coder" "B") (.int 0)) (by decide +kernel)) (flat_of_before _ hgv (.arrayOf (.field (.string RX4 60) "java/lang/String" "value" "[B") .byte) (by decide +kernel)) (flat_of_before _ hgv (.eq (.length (.field (.string RX4 60) "java/lang/String" "value" "[B")) (.int 4)) (by decide +kernel)) (fun j hj => ?_) hA
    match j, hj with
    | 0, _ => exact (flat_of_before _ hgv (.eq (.elem (.field (.string RX4 60) "java/lang/String" "value" "[B") (.int 0)) (.int 97)) (by decide +kernel))
    | 1, _ => exact (flat_of_before _ hgv (.eq (.elem (.field (.string RX4 60) "java/lang/String" "value" "[B") (.int 1)) (.int 115)) (by decide +kernel))
    | 2, _ => exact (flat_of_before _ hgv (.eq (.elem (.field (.string RX4 60) "java/lang/String" "value" "[B") (.int 2)) (.int 107)) (by decide +kernel))
    | 3, _ => exact (flat_of_before _ hgv (.eq (.elem (.field (.string RX4 60) "java/lang/String" "value" "[B") (.int 3)) (.int 115)) (by decide +kernel))
    | j + 4, hj => exact absurd hj (by simp)
  rcases List.mem_cons.mp hp with hp | hp
  · rw [hp]
    refine lwStr 62 "for" [102, 111, 114] (by decide) (hts (.stringRef RX4 62 "for") (List.mem_of_getElem? (i := 382) (by decide +kernel))) (flat_of_before _ hgv (.exactly (.string RX4 62) "java/lang/String") (by decide +kernel)) (flat_of_before _ hgv (.eq (.field (.string RX4 62) "java/lang/String" "coder" "B") (.int 0)) (by decide +kernel)) (flat_of_before _ hgv (.arrayOf (.field (.string RX4 62) "java/lang/String" "value" "[B") .byte) (by decide +kernel)) (flat_of_before _ hgv (.eq (.length (.field (.string RX4 62) "java/lang/String" "value" "[B")) (.int 3)) (by decide +kernel)) (fun j hj => ?_) hA
    match j, hj with
    | 0, _ => exact (flat_of_before _ hgv (.eq (.elem (.field (.string RX4 62) "java/lang/String" "value" "[B") (.int 0)) (.int 102)) (by decide +kernel))
    | 1, _ => exact (flat_of_before _ hgv (.eq (.elem (.field (.string RX4 62) "java/lang/String" "value" "[B") (.int 1)) (.int 111)) (by decide +kernel))
    | 2, _ => exact (flat_of_before _ hgv (.eq (.elem (.field (.string RX4 62) "java/lang/String" "value" "[B") (.int 2)) (.int 114)) (by decide +kernel))
    | j + 3, hj => exact absurd hj (by simp)
  rcases List.mem_cons.mp hp with hp | hp
  · rw [hp]
    refine lwStr 68 "takes" [116, 97, 107, 101, 115] (by decide) (hts (.stringRef RX4 68 "takes") (List.mem_of_getElem? (i := 388) (by decide +kernel))) (flat_of_before _ hgv (.exactly (.string RX4 68) "java/lang/String") (by decide +kernel)) (flat_of_before _ hgv (.eq (.field (.string RX4 68) "java/lang/String" "coder" "B") (.int 0)) (by decide +kernel)) (flat_of_before _ hgv (.arrayOf (.field (.string RX4 68) "java/lang/String" "value" "[B") .byte) (by decide +kernel)) (flat_of_before _ hgv (.eq (.length (.field (.string RX4 68) "java/lang/String" "value" "[B")) (.int 5)) (by decide +kernel)) (fun j hj => ?_) hA
    match j, hj with
    | 0, _ => exact (flat_of_before _ hgv (.eq (.elem (.field (.string RX4 68) "java/lang/String" "value" "[B") (.int 0)) (.int 116)) (by decide +kernel))
    | 1, _ => exact (flat_of_before _ hgv (.eq (.elem (.field (.string RX4 68) "java/lang/String" "value" "[B") (.int 1)) (.int 97)) (by decide +kernel))
    | 2, _ => exact (flat_of_before _ hgv (.eq (.elem (.field (.string RX4 68) "java/lang/String" "value" "[B") (.int 2)) (.int 107)) (by decide +kernel))
    | 3, _ => exact (flat_of_before _ hgv (.eq (.elem (.field (.string RX4 68) "java/lang/String" "value" "[B") (.int 3)) (.int 101)) (by decide +kernel))
    | 4, _ => exact (flat_of_before _ hgv (.eq (.elem (.field (.string RX4 68) "java/lang/String" "value" "[B") (.int 4)) (.int 115)) (by decide +kernel))
    | j + 5, hj => exact absurd hj (by simp)
  rcases List.mem_cons.mp hp with hp | hp
  · rw [hp]
    refine lwStr 70 "drops" [100, 114, 111, 112, 115] (by decide) (hts (.stringRef RX4 70 "drops") (List.mem_of_getElem? (i := 389) (by decide +kernel))) (flat_of_before _ hgv (.exactly (.string RX4 70) "java/lang/String") (by decide +kernel)) (flat_of_before _ hgv (.eq (.field (.string RX4 70) "java/lang/String" "coder" "B") (.int 0)) (by decide +kernel)) (flat_of_before _ hgv (.arrayOf (.field (.string RX4 70) "java/lang/String" "value" "[B") .byte) (by decide +kernel)) (flat_of_before _ hgv (.eq (.length (.field (.string RX4 70) "java/lang/String" "value" "[B")) (.int 5)) (by decide +kernel)) (fun j hj => ?_) hA
    match j, hj with
    | 0, _ => exact (flat_of_before _ hgv (.eq (.elem (.field (.string RX4 70) "java/lang/String" "value" "[B") (.int 0)) (.int 100)) (by decide +kernel))
    | 1, _ => exact (flat_of_before _ hgv (.eq (.elem (.field (.string RX4 70) "java/lang/String" "value" "[B") (.int 1)) (.int 114)) (by decide +kernel))
    | 2, _ => exact (flat_of_before _ hgv (.eq (.elem (.field (.string RX4 70) "java/lang/String" "value" "[B") (.int 2)) (.int 111)) (by decide +kernel))
    | 3, _ => exact (flat_of_before _ hgv (.eq (.elem (.field (.string RX4 70) "java/lang/String" "value" "[B") (.int 3)) (.int 112)) (by decide +kernel))
    | 4, _ => exact (flat_of_before _ hgv (.eq (.elem (.field (.string RX4 70) "java/lang/String" "value" "[B") (.int 4)) (.int 115)) (by decide +kernel))
    | j + 5, hj => exact absurd hj (by simp)
  rcases List.mem_cons.mp hp with hp | hp
  · rw [hp]
    refine lwStr 72 "does" [100, 111, 101, 115] (by decide) (hts (.stringRef RX4 72 "does") (List.mem_of_getElem? (i := 390) (by decide +kernel))) (flat_of_before _ hgv (.exactly (.string RX4 72) "java/lang/String") (by decide +kernel)) (flat_of_before _ hgv (.eq (.field (.string RX4 72) "java/lang/String" "coder" "B") (.int 0)) (by decide +kernel)) (flat_of_before _ hgv (.arrayOf (.field (.string RX4 72) "java/lang/String" "value" "[B") .byte) (by decide +kernel)) (flat_of_before _ hgv (.eq (.length (.field (.string RX4 72) "java/lang/String" "value" "[B")) (.int 4)) (by decide +kernel)) (fun j hj => ?_) hA
    match j, hj with
    | 0, _ => exact (flat_of_before _ hgv (.eq (.elem (.field (.string RX4 72) "java/lang/String" "value" "[B") (.int 0)) (.int 100)) (by decide +kernel))
    | 1, _ => exact (flat_of_before _ hgv (.eq (.elem (.field (.string RX4 72) "java/lang/String" "value" "[B") (.int 1)) (.int 111)) (by decide +kernel))
    | 2, _ => exact (flat_of_before _ hgv (.eq (.elem (.field (.string RX4 72) "java/lang/String" "value" "[B") (.int 2)) (.int 101)) (by decide +kernel))
    | 3, _ => exact (flat_of_before _ hgv (.eq (.elem (.field (.string RX4 72) "java/lang/String" "value" "[B") (.int 3)) (.int 115)) (by decide +kernel))
    | j + 4, hj => exact absurd hj (by simp)
  rcases List.mem_cons.mp hp with hp | hp
  · rw [hp]
    refine lwStr 74 "says" [115, 97, 121, 115] (by decide) (hts (.stringRef RX4 74 "says") (List.mem_of_getElem? (i := 391) (by decide +kernel))) (flat_of_before _ hgv (.exactly (.string RX4 74) "java/lang/String") (by decide +kernel)) (flat_of_before _ hgv (.eq (.field (.string RX4 74) "java/lang/String" "coder" "B") (.int 0)) (by decide +kernel)) (flat_of_before _ hgv (.arrayOf (.field (.string RX4 74) "java/lang/String" "value" "[B") .byte) (by decide +kernel)) (flat_of_before _ hgv (.eq (.length (.field (.string RX4 74) "java/lang/String" "value" "[B")) (.int 4)) (by decide +kernel)) (fun j hj => ?_) hA
    match j, hj with
    | 0, _ => exact (flat_of_before _ hgv (.eq (.elem (.field (.string RX4 74) "java/lang/String" "value" "[B") (.int 0)) (.int 115)) (by decide +kernel))
    | 1, _ => exact (flat_of_before _ hgv (.eq (.elem (.field (.string RX4 74) "java/lang/String" "value" "[B") (.int 1)) (.int 97)) (by decide +kernel))
    | 2, _ => exact (flat_of_before _ hgv (.eq (.elem (.field (.string RX4 74) "java/lang/String" "value" "[B") (.int 2)) (.int 121)) (by decide +kernel))
    | 3, _ => exact (flat_of_before _ hgv (.eq (.elem (.field (.string RX4 74) "java/lang/String" "value" "[B") (.int 3)) (.int 115)) (by decide +kernel))
    | j + 4, hj => exact absurd hj (by simp)
  rcases List.mem_cons.mp hp with hp | hp
  · rw [hp]
    refine lwStr 80 "denies" [100, 101, 110, 105, 101, 115] (by decide) (hts (.stringRef RX4 80 "denies") (List.mem_of_getElem? (i := 406) (by decide +kernel))) (flat_of_before _ hgv (.exactly (.string RX4 80) "java/lang/String") (by decide +kernel)) (flat_of_before _ hgv (.eq (.field (.string RX4 80) "java/lang/String" "coder" "B") (.int 0)) (by decide +kernel)) (flat_of_before _ hgv (.arrayOf (.field (.string RX4 80) "java/lang/String" "value" "[B") .byte) (by decide +kernel)) (flat_of_before _ hgv (.eq (.length (.field (.string RX4 80) "java/lang/String" "value" "[B")) (.int 6)) (by decide +kernel)) (fun j hj => ?_) hA
    match j, hj with
    | 0, _ => exact (flat_of_before _ hgv (.eq (.elem (.field (.string RX4 80) "java/lang/String" "value" "[B") (.int 0)) (.int 100)) (by decide +kernel))
    | 1, _ => exact (flat_of_before _ hgv (.eq (.elem (.field (.string RX4 80) "java/lang/String" "value" "[B") (.int 1)) (.int 101)) (by decide +kernel))
    | 2, _ => exact (flat_of_before _ hgv (.eq (.elem (.field (.string RX4 80) "java/lang/String" "value" "[B") (.int 2)) (.int 110)) (by decide +kernel))
    | 3, _ => exact (flat_of_before _ hgv (.eq (.elem (.field (.string RX4 80) "java/lang/String" "value" "[B") (.int 3)) (.int 105)) (by decide +kernel))
    | 4, _ => exact (flat_of_before _ hgv (.eq (.elem (.field (.string RX4 80) "java/lang/String" "value" "[B") (.int 4)) (.int 101)) (by decide +kernel))
    | 5, _ => exact (flat_of_before _ hgv (.eq (.elem (.field (.string RX4 80) "java/lang/String" "value" "[B") (.int 5)) (.int 115)) (by decide +kernel))
    | j + 6, hj => exact absurd hj (by simp)
  rcases List.mem_cons.mp hp with hp | hp
  · rw [hp]
    refine lwStr 89 "by" [98, 121] (by decide) (hts (.stringRef RX4 89 "by") (List.mem_of_getElem? (i := 387) (by decide +kernel))) (flat_of_before _ hgv (.exactly (.string RX4 89) "java/lang/String") (by decide +kernel)) (flat_of_before _ hgv (.eq (.field (.string RX4 89) "java/lang/String" "coder" "B") (.int 0)) (by decide +kernel)) (flat_of_before _ hgv (.arrayOf (.field (.string RX4 89) "java/lang/String" "value" "[B") .byte) (by decide +kernel)) (flat_of_before _ hgv (.eq (.length (.field (.string RX4 89) "java/lang/String" "value" "[B")) (.int 2)) (by decide +kernel)) (fun j hj => ?_) hA
    match j, hj with
    | 0, _ => exact (flat_of_before _ hgv (.eq (.elem (.field (.string RX4 89) "java/lang/String" "value" "[B") (.int 0)) (.int 98)) (by decide +kernel))
    | 1, _ => exact (flat_of_before _ hgv (.eq (.elem (.field (.string RX4 89) "java/lang/String" "value" "[B") (.int 1)) (.int 121)) (by decide +kernel))
    | j + 2, hj => exact absurd hj (by simp)
  rcases List.mem_cons.mp hp with hp | hp
  · rw [hp]
    refine lwStr 91 "as" [97, 115] (by decide) (hts (.stringRef RX4 91 "as") (List.mem_of_getElem? (i := 396) (by decide +kernel))) (flat_of_before _ hgv (.exactly (.string RX4 91) "java/lang/String") (by decide +kernel)) (flat_of_before _ hgv (.eq (.field (.string RX4 91) "java/lang/String" "coder" "B") (.int 0)) (by decide +kernel)) (flat_of_before _ hgv (.arrayOf (.field (.string RX4 91) "java/lang/String" "value" "[B") .byte) (by decide +kernel)) (flat_of_before _ hgv (.eq (.length (.field (.string RX4 91) "java/lang/String" "value" "[B")) (.int 2)) (by decide +kernel)) (fun j hj => ?_) hA
    match j, hj with
    | 0, _ => exact (flat_of_before _ hgv (.eq (.elem (.field (.string RX4 91) "java/lang/String" "value" "[B") (.int 0)) (.int 97)) (by decide +kernel))
    | 1, _ => exact (flat_of_before _ hgv (.eq (.elem (.field (.string RX4 91) "java/lang/String" "value" "[B") (.int 1)) (.int 115)) (by decide +kernel))
    | j + 2, hj => exact absurd hj (by simp)
  rcases List.mem_cons.mp hp with hp | hp
  · rw [hp]
    refine lwStr 99 "and" [97, 110, 100] (by decide) (hts (.stringRef RX4 99 "and") (List.mem_of_getElem? (i := 401) (by decide +kernel))) (flat_of_before _ hgv (.exactly (.string RX4 99) "java/lang/String") (by decide +kernel)) (flat_of_before _ hgv (.eq (.field (.string RX4 99) "java/lang/String" "coder" "B") (.int 0)) (by decide +kernel)) (flat_of_before _ hgv (.arrayOf (.field (.string RX4 99) "java/lang/String" "value" "[B") .byte) (by decide +kernel)) (flat_of_before _ hgv (.eq (.length (.field (.string RX4 99) "java/lang/String" "value" "[B")) (.int 3)) (by decide +kernel)) (fun j hj => ?_) hA
    match j, hj with
    | 0, _ => exact (flat_of_before _ hgv (.eq (.elem (.field (.string RX4 99) "java/lang/String" "value" "[B") (.int 0)) (.int 97)) (by decide +kernel))
    | 1, _ => exact (flat_of_before _ hgv (.eq (.elem (.field (.string RX4 99) "java/lang/String" "value" "[B") (.int 1)) (.int 110)) (by decide +kernel))
    | 2, _ => exact (flat_of_before _ hgv (.eq (.elem (.field (.string RX4 99) "java/lang/String" "value" "[B") (.int 2)) (.int 100)) (by decide +kernel))
    | j + 3, hj => exact absurd hj (by simp)
  exact absurd hp List.not_mem_nil
set_option maxRecDepth 20000 in
theorem lwLst {s : State} {b : Nat} {A : Nat → Prop} (hts : ∀ w ∈ lw_tbl, w.before #[Value.ref b] s = true) (hgv : (Jvm.Cond.and given_1 narrow_1).before #[Value.ref b] s = true) (hA : ∀ a : Nat, a < s.heap.size → ¬ A a) : ∃ ze mi : Nat, okAL ze mi A s s.heap := by
  obtain ⟨ze, h1, h2⟩ := va_Tof (args := #[Value.ref b]) (s := s) (tm := .static "java/util/ArrayList" "DEFAULTCAPACITY_EMPTY_ELEMENTDATA" "[Ljava/lang/Object;") (ty := .object "java/lang/Object") (N := 0) (f := fun _ => .null) (A := A) (by decide) (flat_of_before _ hgv (.arrayOf (.static "java/util/ArrayList" "DEFAULTCAPACITY_EMPTY_ELEMENTDATA" "[Ljava/lang/Object;") (.object "java/lang/Object")) (by decide +kernel)) (va_eqt (flat_of_before _ hgv (.eq (.length (.static "java/util/ArrayList" "DEFAULTCAPACITY_EMPTY_ELEMENTDATA" "[Ljava/lang/Object;")) (.int 0)) (by decide +kernel))) (fun j hj => absurd hj (Nat.not_lt_zero j)) hA
  obtain ⟨mi, h3⟩ := va_Mi.of (flat_of_before _ hgv (.isRef (.mirror "[Ljava/lang/Object;")) (by decide +kernel))
  exact ⟨ze, mi, va_Zof (hts (.laysStatic "java/util/ArrayList" "DEFAULTCAPACITY_EMPTY_ELEMENTDATA" "[Ljava/lang/Object;") (List.mem_of_getElem? (i := 89) (by decide +kernel))) (hts (.initialized "java/util/ArrayList") (List.mem_of_getElem? (i := 51) (by decide +kernel))) h1 hA, h2, va_AO.of (hts (.arrayOver (.object "java/lang/Object")) (List.mem_of_getElem? (i := 453) (by decide +kernel))), h3, va_Dc.of (hts (.declares ⟨"java/lang/Object", "getClass", "()Ljava/lang/Class;"⟩) (List.mem_of_getElem? (i := 1003) (by decide +kernel))), va_Nw.of rfl (hts (.castable RX2 "java/lang/Object") (List.mem_of_getElem? (i := 998) (by decide +kernel))), va_Nw.of rfl (hts (.castable RX3 "java/lang/Object") (List.mem_of_getElem? (i := 999) (by decide +kernel)))⟩

