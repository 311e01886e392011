theorem dX1_hear_0 : decode cX1_hear 0 = .ok (.aload_n 1, 1) := by decide +kernel
theorem dX1_hear_1 : decode cX1_hear 1 = .ok (.getfield 30, 3) := by decide +kernel
theorem dX1_hear_4 : decode cX1_hear 4 = .ok (.tableswitch 163 0 3 #[32, 52, 88, 134], 32) := by decide +kernel
theorem dX1_hear_36 : decode cX1_hear 36 = .ok (.aload_n 0, 1) := by decide +kernel
theorem dX1_hear_37 : decode cX1_hear 37 = .ok (.getfield 21, 3) := by decide +kernel
theorem dX1_hear_40 : decode cX1_hear 40 = .ok (.aload_n 1, 1) := by decide +kernel
theorem dX1_hear_41 : decode cX1_hear 41 = .ok (.getfield 36, 3) := by decide +kernel
theorem dX1_hear_44 : decode cX1_hear 44 = .ok (.aload_n 1, 1) := by decide +kernel
theorem dX1_hear_45 : decode cX1_hear 45 = .ok (.getfield 39, 3) := by decide +kernel
theorem dX1_hear_48 : decode cX1_hear 48 = .ok (.invokestatic 42, 3) := by decide +kernel
theorem dX1_hear_51 : decode cX1_hear 51 = .ok (.iconst 1, 1) := by decide +kernel
theorem dX1_hear_52 : decode cX1_hear 52 = .ok (.iastore, 1) := by decide +kernel
theorem dX1_hear_53 : decode cX1_hear 53 = .ok (.goto 114, 3) := by decide +kernel
theorem dX1_hear_167 : decode cX1_hear 167 = .ok (.return_, 1) := by decide +kernel
theorem dX1_hear_56 : decode cX1_hear 56 = .ok (.aload_n 0, 1) := by decide +kernel
theorem dX1_hear_57 : decode cX1_hear 57 = .ok (.getfield 21, 3) := by decide +kernel
theorem dX1_hear_60 : decode cX1_hear 60 = .ok (.aload_n 1, 1) := by decide +kernel
theorem dX1_hear_61 : decode cX1_hear 61 = .ok (.getfield 46, 3) := by decide +kernel
theorem dX1_hear_64 : decode cX1_hear 64 = .ok (.aload_n 1, 1) := by decide +kernel
theorem dX1_hear_65 : decode cX1_hear 65 = .ok (.getfield 39, 3) := by decide +kernel
theorem dX1_hear_68 : decode cX1_hear 68 = .ok (.invokestatic 42, 3) := by decide +kernel
theorem dX1_hear_71 : decode cX1_hear 71 = .ok (.iconst 0, 1) := by decide +kernel
theorem dX1_hear_72 : decode cX1_hear 72 = .ok (.iastore, 1) := by decide +kernel
theorem dX1_hear_73 : decode cX1_hear 73 = .ok (.aload_n 0, 1) := by decide +kernel
theorem dX1_hear_74 : decode cX1_hear 74 = .ok (.aload_n 1, 1) := by decide +kernel
theorem dX1_hear_75 : decode cX1_hear 75 = .ok (.getfield 39, 3) := by decide +kernel
theorem dX1_hear_78 : decode cX1_hear 78 = .ok (.aload_n 1, 1) := by decide +kernel
theorem dX1_hear_79 : decode cX1_hear 79 = .ok (.getfield 46, 3) := by decide +kernel
theorem dX1_hear_82 : decode cX1_hear 82 = .ok (.aload_n 1, 1) := by decide +kernel
theorem dX1_hear_83 : decode cX1_hear 83 = .ok (.getfield 49, 3) := by decide +kernel
theorem dX1_hear_86 : decode cX1_hear 86 = .ok (.invokevirtual 52, 3) := by decide +kernel
theorem dX1_hear_89 : decode cX1_hear 89 = .ok (.goto 78, 3) := by decide +kernel
theorem dX1_hear_92 : decode cX1_hear 92 = .ok (.aload_n 0, 1) := by decide +kernel
theorem dX1_hear_93 : decode cX1_hear 93 = .ok (.getfield 21, 3) := by decide +kernel
theorem dX1_hear_96 : decode cX1_hear 96 = .ok (.aload_n 1, 1) := by decide +kernel
theorem dX1_hear_97 : decode cX1_hear 97 = .ok (.getfield 46, 3) := by decide +kernel
theorem dX1_hear_100 : decode cX1_hear 100 = .ok (.aload_n 1, 1) := by decide +kernel
theorem dX1_hear_101 : decode cX1_hear 101 = .ok (.getfield 39, 3) := by decide +kernel
theorem dX1_hear_104 : decode cX1_hear 104 = .ok (.invokestatic 42, 3) := by decide +kernel
theorem dX1_hear_107 : decode cX1_hear 107 = .ok (.iconst 0, 1) := by decide +kernel
theorem dX1_hear_108 : decode cX1_hear 108 = .ok (.iastore, 1) := by decide +kernel
theorem dX1_hear_109 : decode cX1_hear 109 = .ok (.aload_n 0, 1) := by decide +kernel
theorem dX1_hear_110 : decode cX1_hear 110 = .ok (.getfield 9, 3) := by decide +kernel
theorem dX1_hear_113 : decode cX1_hear 113 = .ok (.aload_n 1, 1) := by decide +kernel
theorem dX1_hear_114 : decode cX1_hear 114 = .ok (.getfield 39, 3) := by decide +kernel
theorem dX1_hear_117 : decode cX1_hear 117 = .ok (.iaload, 1) := by decide +kernel
theorem dX1_hear_118 : decode cX1_hear 118 = .ok (.aload_n 1, 1) := by decide +kernel
theorem dX1_hear_119 : decode cX1_hear 119 = .ok (.getfield 46, 3) := by decide +kernel
theorem dX1_hear_122 : decode cX1_hear 122 = .ok (.if_icmp .ne 45, 3) := by decide +kernel
theorem dX1_hear_125 : decode cX1_hear 125 = .ok (.aload_n 0, 1) := by decide +kernel
theorem dX1_hear_126 : decode cX1_hear 126 = .ok (.aload_n 1, 1) := by decide +kernel
theorem dX1_hear_127 : decode cX1_hear 127 = .ok (.getfield 39, 3) := by decide +kernel
theorem dX1_hear_130 : decode cX1_hear 130 = .ok (.iconst (-1), 1) := by decide +kernel
theorem dX1_hear_131 : decode cX1_hear 131 = .ok (.iconst (-1), 1) := by decide +kernel
theorem dX1_hear_132 : decode cX1_hear 132 = .ok (.invokevirtual 52, 3) := by decide +kernel
theorem dX1_hear_135 : decode cX1_hear 135 = .ok (.goto 32, 3) := by decide +kernel
theorem dX1_hear_138 : decode cX1_hear 138 = .ok (.aload_n 0, 1) := by decide +kernel
theorem dX1_hear_139 : decode cX1_hear 139 = .ok (.getfield 9, 3) := by decide +kernel
theorem dX1_hear_142 : decode cX1_hear 142 = .ok (.aload_n 1, 1) := by decide +kernel
theorem dX1_hear_143 : decode cX1_hear 143 = .ok (.getfield 39, 3) := by decide +kernel
theorem dX1_hear_146 : decode cX1_hear 146 = .ok (.iaload, 1) := by decide +kernel
theorem dX1_hear_147 : decode cX1_hear 147 = .ok (.aload_n 1, 1) := by decide +kernel
theorem dX1_hear_148 : decode cX1_hear 148 = .ok (.getfield 46, 3) := by decide +kernel
theorem dX1_hear_151 : decode cX1_hear 151 = .ok (.if_icmp .ne 16, 3) := by decide +kernel
theorem dX1_hear_154 : decode cX1_hear 154 = .ok (.aload_n 0, 1) := by decide +kernel
theorem dX1_hear_155 : decode cX1_hear 155 = .ok (.getfield 18, 3) := by decide +kernel
theorem dX1_hear_158 : decode cX1_hear 158 = .ok (.aload_n 1, 1) := by decide +kernel
theorem dX1_hear_159 : decode cX1_hear 159 = .ok (.getfield 39, 3) := by decide +kernel
theorem dX1_hear_162 : decode cX1_hear 162 = .ok (.iconst 1, 1) := by decide +kernel
theorem dX1_hear_163 : decode cX1_hear 163 = .ok (.iastore, 1) := by decide +kernel
theorem dX1_hear_164 : decode cX1_hear 164 = .ok (.goto 3, 3) := by decide +kernel
theorem dX0_putWord_0 : decode cX0_putWord 0 = .ok (.aload_n 1, 1) := by decide +kernel
theorem dX0_putWord_1 : decode cX0_putWord 1 = .ok (.getfield 51, 3) := by decide +kernel
theorem dX0_putWord_4 : decode cX0_putWord 4 = .ok (.aload_n 1, 1) := by decide +kernel
theorem dX0_putWord_5 : decode cX0_putWord 5 = .ok (.getfield 48, 3) := by decide +kernel
theorem dX0_putWord_8 : decode cX0_putWord 8 = .ok (.invokestatic 54, 3) := by decide +kernel
theorem dX0_putWord_11 : decode cX0_putWord 11 = .ok (.istore_n 3, 1) := by decide +kernel
theorem dX0_putWord_12 : decode cX0_putWord 12 = .ok (.aload_n 0, 1) := by decide +kernel
theorem dX0_putWord_13 : decode cX0_putWord 13 = .ok (.getfield 9, 3) := by decide +kernel
theorem dX0_putWord_16 : decode cX0_putWord 16 = .ok (.iload_n 3, 1) := by decide +kernel
theorem dX0_putWord_17 : decode cX0_putWord 17 = .ok (.iaload, 1) := by decide +kernel
theorem dX0_putWord_18 : decode cX0_putWord 18 = .ok (.iconst (-1), 1) := by decide +kernel
theorem dX0_putWord_19 : decode cX0_putWord 19 = .ok (.if_icmp .eq 23, 3) := by decide +kernel
theorem dX0_putWord_42 : decode cX0_putWord 42 = .ok (.aload_n 0, 1) := by decide +kernel
theorem dX0_putWord_43 : decode cX0_putWord 43 = .ok (.getfield 9, 3) := by decide +kernel
theorem dX0_putWord_46 : decode cX0_putWord 46 = .ok (.iload_n 3, 1) := by decide +kernel
theorem dX0_putWord_47 : decode cX0_putWord 47 = .ok (.iload_n 2, 1) := by decide +kernel
theorem dX0_putWord_48 : decode cX0_putWord 48 = .ok (.iastore, 1) := by decide +kernel
theorem dX0_putWord_49 : decode cX0_putWord 49 = .ok (.aload_n 0, 1) := by decide +kernel
theorem dX0_putWord_50 : decode cX0_putWord 50 = .ok (.getfield 15, 3) := by decide +kernel
theorem dX0_putWord_53 : decode cX0_putWord 53 = .ok (.iload_n 3, 1) := by decide +kernel
theorem dX0_putWord_54 : decode cX0_putWord 54 = .ok (.aload_n 1, 1) := by decide +kernel
theorem dX0_putWord_55 : decode cX0_putWord 55 = .ok (.getfield 58, 3) := by decide +kernel
theorem dX0_putWord_58 : decode cX0_putWord 58 = .ok (.lastore, 1) := by decide +kernel
theorem dX0_putWord_59 : decode cX0_putWord 59 = .ok (.return_, 1) := by decide +kernel
theorem dX0_putWord_22 : decode cX0_putWord 22 = .ok (.aload_n 0, 1) := by decide +kernel
theorem dX0_putWord_23 : decode cX0_putWord 23 = .ok (.getfield 9, 3) := by decide +kernel
theorem dX0_putWord_26 : decode cX0_putWord 26 = .ok (.iload_n 3, 1) := by decide +kernel
theorem dX0_putWord_27 : decode cX0_putWord 27 = .ok (.iaload, 1) := by decide +kernel
theorem dX0_putWord_28 : decode cX0_putWord 28 = .ok (.iload_n 2, 1) := by decide +kernel
theorem dX0_putWord_29 : decode cX0_putWord 29 = .ok (.if_icmp .eq 13, 3) := by decide +kernel
theorem dX0_putWord_32 : decode cX0_putWord 32 = .ok (.aload_n 0, 1) := by decide +kernel
theorem dX0_putWord_33 : decode cX0_putWord 33 = .ok (.getfield 19, 3) := by decide +kernel
theorem dX0_putWord_36 : decode cX0_putWord 36 = .ok (.iload_n 3, 1) := by decide +kernel
theorem dX0_putWord_37 : decode cX0_putWord 37 = .ok (.dup2, 1) := by decide +kernel
theorem dX0_putWord_38 : decode cX0_putWord 38 = .ok (.iaload, 1) := by decide +kernel
theorem dX0_putWord_39 : decode cX0_putWord 39 = .ok (.iconst 1, 1) := by decide +kernel
theorem dX0_putWord_40 : decode cX0_putWord 40 = .ok (.iadd, 1) := by decide +kernel
theorem dX0_putWord_41 : decode cX0_putWord 41 = .ok (.iastore, 1) := by decide +kernel
theorem dX0_hear_0 : decode cX0_hear 0 = .ok (.aload_n 1, 1) := by decide +kernel
theorem dX0_hear_1 : decode cX0_hear 1 = .ok (.getfield 38, 3) := by decide +kernel
theorem dX0_hear_4 : decode cX0_hear 4 = .ok (.tableswitch 76 4 7 #[32, 41, 50, 63], 32) := by decide +kernel
theorem dX0_hear_36 : decode cX0_hear 36 = .ok (.aload_n 0, 1) := by decide +kernel
theorem dX0_hear_37 : decode cX0_hear 37 = .ok (.aload_n 1, 1) := by decide +kernel
theorem dX0_hear_38 : decode cX0_hear 38 = .ok (.iconst 1, 1) := by decide +kernel
theorem dX0_hear_39 : decode cX0_hear 39 = .ok (.invokevirtual 44, 3) := by decide +kernel
theorem dX0_hear_42 : decode cX0_hear 42 = .ok (.goto 38, 3) := by decide +kernel
theorem dX0_hear_80 : decode cX0_hear 80 = .ok (.return_, 1) := by decide +kernel
theorem dX0_hear_45 : decode cX0_hear 45 = .ok (.aload_n 0, 1) := by decide +kernel
theorem dX0_hear_46 : decode cX0_hear 46 = .ok (.aload_n 1, 1) := by decide +kernel
theorem dX0_hear_47 : decode cX0_hear 47 = .ok (.iconst 0, 1) := by decide +kernel
theorem dX0_hear_48 : decode cX0_hear 48 = .ok (.invokevirtual 44, 3) := by decide +kernel
theorem dX0_hear_51 : decode cX0_hear 51 = .ok (.goto 29, 3) := by decide +kernel
theorem dX0_hear_54 : decode cX0_hear 54 = .ok (.aload_n 0, 1) := by decide +kernel
theorem dX0_hear_55 : decode cX0_hear 55 = .ok (.getfield 22, 3) := by decide +kernel
theorem dX0_hear_58 : decode cX0_hear 58 = .ok (.aload_n 1, 1) := by decide +kernel
theorem dX0_hear_59 : decode cX0_hear 59 = .ok (.getfield 48, 3) := by decide +kernel
theorem dX0_hear_62 : decode cX0_hear 62 = .ok (.iconst 1, 1) := by decide +kernel
theorem dX0_hear_63 : decode cX0_hear 63 = .ok (.iastore, 1) := by decide +kernel
theorem dX0_hear_64 : decode cX0_hear 64 = .ok (.goto 16, 3) := by decide +kernel
theorem dX0_hear_67 : decode cX0_hear 67 = .ok (.aload_n 0, 1) := by decide +kernel
theorem dX0_hear_68 : decode cX0_hear 68 = .ok (.getfield 22, 3) := by decide +kernel
theorem dX0_hear_71 : decode cX0_hear 71 = .ok (.aload_n 1, 1) := by decide +kernel
theorem dX0_hear_72 : decode cX0_hear 72 = .ok (.getfield 48, 3) := by decide +kernel
theorem dX0_hear_75 : decode cX0_hear 75 = .ok (.iconst 2, 1) := by decide +kernel
theorem dX0_hear_76 : decode cX0_hear 76 = .ok (.iastore, 1) := by decide +kernel
theorem dX0_hear_77 : decode cX0_hear 77 = .ok (.goto 3, 3) := by decide +kernel
def wp_D_hear : List Cond := .code yX1_hear cX1_hear 2 none :: (([.fieldLink RX1 30 "AgreedTalks$Line" "kind" "I", .fieldLink RX1 21 "AgreedTalks$Deeds" "requests" "[I", .fieldLink RX1 36 "AgreedTalks$Line" "other" "I", .fieldLink RX1 39 "AgreedTalks$Line" "thing" "I", .initialized RX6, .static yX6_cell, .fieldLink RX1 46 "AgreedTalks$Line" "person" "I", .fieldLink RX1 49 "AgreedTalks$Line" "day" "I", .fieldLink RX1 9 "AgreedTalks$Deeds" "holders" "[I", .fieldLink RX1 18 "AgreedTalks$Deeds" "finished" "[I"] : List Cond) ++ wsX20 ++ wsX10 ++ wp_X6_cell ++ (wsV RX1 52 RX1 yX1_give wp_D_give))
theorem gc_D_hear_X6_cell : GoodIn wp_D_hear wp_X6_cell := goodIn_sub (fun _ h => List.mem_cons_of_mem _ (List.mem_append_left _ (List.mem_append_right _ h))) (by decide +kernel)
theorem gc_D_hear_D_give : GoodIn wp_D_hear (wsV RX1 52 RX1 yX1_give wp_D_give) := goodIn_sub (fun _ h => List.mem_cons_of_mem _ (List.mem_append_right _ h)) (by decide +kernel)
set_option maxRecDepth 20000 in
theorem gi_D_hear : GoodIn lw_tbl wp_D_hear := (goodIn_ca (goodIn_ca (goodIn_ca (goodIn_ca (goodIn_r (.code yX1_hear cX1_hear 2 none :: ([.fieldLink RX1 30 "AgreedTalks$Line" "kind" "I", .fieldLink RX1 21 "AgreedTalks$Deeds" "requests" "[I", .fieldLink RX1 36 "AgreedTalks$Line" "other" "I", .fieldLink RX1 39 "AgreedTalks$Line" "thing" "I", .initialized RX6, .static yX6_cell, .fieldLink RX1 46 "AgreedTalks$Line" "person" "I", .fieldLink RX1 49 "AgreedTalks$Line" "day" "I", .fieldLink RX1 9 "AgreedTalks$Deeds" "holders" "[I", .fieldLink RX1 18 "AgreedTalks$Deeds" "finished" "[I"] : List Cond)) [538, 345, 148, 351, 353, 48, 540, 348, 356, 142, 146] (by decide +kernel) (by decide +kernel)) wi_wsX2) wi_wsX1) gi_X6_cell) (goodIn_app (goodIn_r _ [542, 544, 19, 54] (by decide +kernel) (by decide +kernel)) gi_D_give))
set_option maxHeartbeats 4000000 in
set_option maxRecDepth 100000 in
/-- Deeds.hear -/
theorem c_D_hear (l : Launch) (dC : Nat → ClassId) (dI : Nat → Nat → Nat) (sz : Nat) (h0 : Nat) (d0 : Nat) (d1 : Nat) (d2 : Nat) (d3 : Nat) (cd0 : ClassId) (cd1 : ClassId) (cd2 : ClassId) (cd3 : ClassId) (v1 : Nat → Int32) (v2 : Nat → Int32) (v3 : Nat → Int32) (v4 : Nat → Int32) (h1 : Nat) (tt : Nat) (kd : Int32) (pe : Int32) (ot : Int32) (dy : Int32) (gr : Int64) (qtt : tt < 40) (hln : okLn kd pe ot) : Met l yX1_hear wp_D_hear ({ frames := 1, cells := 0, slots := 0, locals := 40 }) (va_Pc [.ref h0, .ref h1] (fun U => U.heap.size = sz ∧ va_P (dC, dI) vwCl [(h0, .inr (2, [.ref d0, .ref d1, .ref d2, .ref d3])), (d0, .inl (cd0, 40, .inl v1)), (d1, .inl (cd1, 40, .inl v2)), (d2, .inl (cd2, 40, .inl v3)), (d3, .inl (cd3, 480, .inl v4))] U.heap ∧ va_K (dC, dI) vwCl [(cd0, .int), (cd1, .int), (cd2, .int), (cd3, .int)] U ∧ va_D (fun _ => True) [(h0, .inr (2, [.ref d0, .ref d1, .ref d2, .ref d3])), (d0, .inl (cd0, 40, .inl v1)), (d1, .inl (cd1, 40, .inl v2)), (d2, .inl (cd2, 40, .inl v3)), (d3, .inl (cd3, 480, .inl v4))] ∧ va_Nw (.methodLinkNest RX1 42 yX6_cell "AgreedTalks") U ∧ okF (dC, dI) vwCl (h1, .inr (3, [.int kd, .int pe, .int ot, .int (nI tt), .int dy, .long gr])) (va_A [(h0, .inr (2, [.ref d0, .ref d1, .ref d2, .ref d3])), (d0, .inl (cd0, 40, .inl v1)), (d1, .inl (cd1, 40, .inl v2)), (d2, .inl (cd2, 40, .inl v3)), (d3, .inl (cd3, 480, .inl v4))] sz) U.heap)) (va_Qv (fun (_ : Unit) => True) (fun (_ : Unit) (t : State) => ∃ (w1 : Nat → Int32), ∃ (w2 : Nat → Int32), ∃ (w3 : Nat → Int32), ∃ (w4 : Nat → Int32), va_P (dC, dI) vwCl [(h0, .inr (2, [.ref d0, .ref d1, .ref d2, .ref d3])), (d0, .inl (cd0, 40, .inl w1)), (d1, .inl (cd1, 40, .inl w2)), (d2, .inl (cd2, 40, .inl w3)), (d3, .inl (cd3, 480, .inl w4))] t.heap ∧ va_K (dC, dI) vwCl [(cd0, .int), (cd1, .int), (cd2, .int), (cd3, .int)] t ∧ va_D (va_A [(h0, .inr (2, [.ref d0, .ref d1, .ref d2, .ref d3])), (d0, .inl (cd0, 40, .inl v1)), (d1, .inl (cd1, 40, .inl v2)), (d2, .inl (cd2, 40, .inl v3)), (d3, .inl (cd3, 480, .inl v4))] sz) [(h0, .inr (2, [.ref d0, .ref d1, .ref d2, .ref d3])), (d0, .inl (cd0, 40, .inl w1)), (d1, .inl (cd1, 40, .inl w2)), (d2, .inl (cd2, 40, .inl w3)), (d3, .inl (cd3, 480, .inl w4))]) (va_A [(h0, .inr (2, [.ref d0, .ref d1, .ref d2, .ref d3])), (d0, .inl (cd0, 40, .inl v1)), (d1, .inl (cd1, 40, .inl v2)), (d2, .inl (cd2, 40, .inl v3)), (d3, .inl (cd3, 480, .inl v4))] sz)) 0 0 (va_A [(h0, .inr (2, [.ref d0, .ref d1, .ref d2, .ref d3])), (d0, .inl (cd0, 40, .inl v1)), (d1, .inl (cd1, 40, .inl v2)), (d2, .inl (cd2, 40, .inl v3)), (d3, .inl (cd3, 480, .inl v4))] sz) := by
  refine Met.ofW (cc := cX1_hear) (maxL := 2) (ret := none) (by decide) rfl ?_
  intro p e s m args below meth c s₁ B hml hv
  obtain ⟨rfl, hsz, hP, hK, hD0, nw1c, fzl⟩ := hv
  have hx := B.exec
  have hb := B.bytes
  have hr := B.returns
  have hts := atoms_spec (ws := wp_D_hear) B.pre
  have hown : s.vm.findClass RX1 = some m.cls := findClass_of_methodNamed B.named
  have hlocks := B.notSynchronized
  subst hsz
  have hD := hD0.self (sz := s.heap.size)
  generalize hAe : va_A [(h0, .inr (2, [.ref d0, .ref d1, .ref d2, .ref d3])), (d0, .inl (cd0, 40, .inl v1)), (d1, .inl (cd1, 40, .inl v2)), (d2, .inl (cd2, 40, .inl v3)), (d3, .inl (cd3, 480, .inl v4))] s.heap.size = A at hD fzl ⊢
  have hA : ∀ q : Nat, s.heap.size ≤ q → A q := fun q h => by rw [← hAe]; exact Or.inr h
  have hS : va_S A s.heap s.heap [] := va_S.rf
  have hP : va_P (dC, dI) vwCl [(h0, .inr (2, [.ref d0, .ref d1, .ref d2, .ref d3])), (d0, .inl (cd0, 40, .inl v1)), (d1, .inl (cd1, 40, .inl v2)), (d2, .inl (cd2, 40, .inl v3)), (d3, .inl (cd3, 480, .inl v4))] s.heap := hP
  have hl := lv_entry ([.ref h0, .ref h1]) (n := 2) (Nat.le_of_ble_eq_true rfl)
  rw [lg_entry_eq]
  generalize (lg_sl ([.ref h0, .ref h1]) ++ List.replicate (2 - (lg_sl ([.ref h0, .ref h1])).length) Slot.unset).toArray = ls at hl ⊢
  have hl : lv_has ls 2 [(0, .ref h0), (1, .ref h1)] := hl
  have hinX2 : ∀ w ∈ u_ws RX2 TX2 6, w ∈ wp_D_hear := fun _ h => List.mem_cons_of_mem _ (List.mem_append_left _ (List.mem_append_left _ (List.mem_append_left _ (List.mem_append_right _ h))))
  have hinX1 : ∀ w ∈ u_ws RX1 TX1 4, w ∈ wp_D_hear := fun _ h => List.mem_cons_of_mem _ (List.mem_append_left _ (List.mem_append_left _ (List.mem_append_right _ h)))
  refine lv_aload_n hx hb dX1_hear_0 rfl (lv_at hl 1 rfl) ?_
  have hPz := okF.kept fzl hS
  refine va_get (D := (dC, dI)) (ci := 3) (v := .int kd) (C := RX2) (T := TX2) (N := 6) hx hb hts hinX2 hown hK hPz 0 rfl rfl 0 (by decide) (hts (.fieldLink RX1 30 "AgreedTalks$Line" "kind" "I") (by decide +kernel)) (fun _ h9 => h9) rfl dX1_hear_1 ?_
  by_cases t_1_0 : kd = 0
  · have tx : (kd).toInt = 0 := by rw [t_1_0]; decide
    refine lv_tableIn (off := 32) (tgt := 36) hx hb dX1_hear_4 (by rw [tx]; decide) (by rw [tx]; decide) (by rw [tx]; decide +kernel) (by decide) ?_
    obtain ⟨x_2, hx_2, ex_2⟩ := hln.1 t_1_0
    subst ex_2
    refine lv_aload_n hx hb dX1_hear_36 rfl (lv_at hl 0 rfl) ?_
    refine va_get (D := (dC, dI)) (ci := 2) (v := .ref d3) (C := RX1) (T := TX1) (N := 4) hx hb hts hinX1 hown hK hP 0 rfl rfl 3 (by decide) (hts (.fieldLink RX1 21 "AgreedTalks$Deeds" "requests" "[I") (by decide +kernel)) (fun _ h9 => h9) rfl dX1_hear_37 ?_
    refine lv_aload_n hx hb dX1_hear_40 rfl (lv_at hl 1 rfl) ?_
    have hPz := okF.kept fzl hS
    refine va_get (D := (dC, dI)) (ci := 3) (v := .int (nI x_2)) (C := RX2) (T := TX2) (N := 6) hx hb hts hinX2 hown hK hPz 0 rfl rfl 2 (by decide) (hts (.fieldLink RX1 36 "AgreedTalks$Line" "other" "I") (by decide +kernel)) (fun _ h9 => h9) rfl dX1_hear_41 ?_
    refine lv_aload_n hx hb dX1_hear_44 rfl (lv_at hl 1 rfl) ?_
    have hPz := okF.kept fzl hS
    refine va_get (D := (dC, dI)) (ci := 3) (v := .int (nI tt)) (C := RX2) (T := TX2) (N := 6) hx hb hts hinX2 hown hK hPz 0 rfl rfl 3 (by decide) (hts (.fieldLink RX1 39 "AgreedTalks$Line" "thing" "I") (by decide +kernel)) (fun _ h9 => h9) rfl dX1_hear_45 ?_
    have hPc := hP.sub (ws' := []) [] rfl
    have hDc := hD.sub (ws' := []) [] (by decide) rfl
    have hKc := hK.sub (tys' := []) [] rfl
    have hFc := va_free (wc := []) hD hS hA [] rfl
    refine va_calli (va_runSN (As := [.int (nI x_2), .int (nI tt)]) (rest := [.ref d3]) ⟨hx, hb, hml, hown, hts⟩ (c_X6_cell l dC dI _ x_2 tt) ⟨va_cnB 2 hts gc_D_hear_X6_cell rfl rfl rfl nw1c (hts (.initialized RX6) (by decide +kernel)) (by decide +kernel) ⟨Nat.le_of_ble_eq_true rfl, Nat.le_of_ble_eq_true rfl⟩, (hts (.static yX6_cell) (by decide +kernel)), trivial⟩ ⟨fun a U g mk q => by obtain ⟨q0, q1, qP, qK, qD⟩ := q; exact ⟨q0, q1, qP, va_K.moved (u := U) (U := U.calling g mk a) (Vm.Alike.refl U.vm) qK, qD⟩, fun U hU hW => ⟨rfl, by rw [hU], by rw [hU]; exact hPc, va_K.moved hW.alike hKc, hDc.weaken (fun _ _ _ _ => trivial)⟩⟩ rfl rfl hl.1 rfl (lv_room (Nat.le_of_ble_eq_true rfl)) dX1_hear_48 ⟨Nat.zero_le _, Nat.zero_le _⟩) hS (fun q _ h => hFc q h) hFc (fun r_3 u t H1 locs ht hvm hw hB hz1 hk1 hS => ?_)
    obtain ⟨hP1, hK1, hD1⟩ := hB
    rw [ht] at hP1
    obtain ⟨hP, hD⟩ := va_join (wr := [(h0, .inr (2, [.ref d0, .ref d1, .ref d2, .ref d3])), (d0, .inl (cd0, 40, .inl v1)), (d1, .inl (cd1, 40, .inl v2)), (d2, .inl (cd2, 40, .inl v3)), (d3, .inl (cd3, 480, .inl v4))]) (w1 := []) hP hD [] [0, 1, 2, 3, 4] rfl rfl (by decide) (by decide) hk1 hFc hP1 hD1
    generalize H1 = H at hP hS ⊢
    have hP : va_P (dC, dI) vwCl [(h0, .inr (2, [.ref d0, .ref d1, .ref d2, .ref d3])), (d0, .inl (cd0, 40, .inl v1)), (d1, .inl (cd1, 40, .inl v2)), (d2, .inl (cd2, 40, .inl v3)), (d3, .inl (cd3, 480, .inl v4))] H := hP
    have hD : va_D A [(h0, .inr (2, [.ref d0, .ref d1, .ref d2, .ref d3])), (d0, .inl (cd0, 40, .inl v1)), (d1, .inl (cd1, 40, .inl v2)), (d2, .inl (cd2, 40, .inl v3)), (d3, .inl (cd3, 480, .inl v4))] := hD
    obtain rfl : r_3 = (nI (x_2 * 40 + tt)) := hw
    refine lv_iconst (v := 1) hx hb dX1_hear_51 (by decide) ?_
    refine va_iast hx hb hK hP hD hS 4 3 rfl rfl (vp_in_nI (by omega) (by omega)) dX1_hear_52 (fun H locs hP hD hS => ?_)
    have hP : va_P (dC, dI) vwCl [(h0, .inr (2, [.ref d0, .ref d1, .ref d2, .ref d3])), (d0, .inl (cd0, 40, .inl v1)), (d1, .inl (cd1, 40, .inl v2)), (d2, .inl (cd2, 40, .inl v3)), (d3, .inl (cd3, 480, .inl (upd v4 (Int32.toNatClampNeg (nI (x_2 * 40 + tt))) 1)))] H := hP
    have hD : va_D A [(h0, .inr (2, [.ref d0, .ref d1, .ref d2, .ref d3])), (d0, .inl (cd0, 40, .inl v1)), (d1, .inl (cd1, 40, .inl v2)), (d2, .inl (cd2, 40, .inl v3)), (d3, .inl (cd3, 480, .inl (upd v4 (Int32.toNatClampNeg (nI (x_2 * 40 + tt))) 1)))] := hD
    generalize ef_4 : upd v4 (Int32.toNatClampNeg (nI (x_2 * 40 + tt))) 1 = f_4 at hP hD
    rw [show Int32.toNatClampNeg (nI (x_2 * 40 + tt)) = x_2 * 40 + tt from nI_clamp (by omega)] at ef_4
    refine lv_goto (tgt := 167) hx hb dX1_hear_53 (by decide) ?_
    have hP9 := hP.sub (ws' := [(h0, .inr (2, [.ref d0, .ref d1, .ref d2, .ref d3])), (d0, .inl (cd0, 40, .inl v1)), (d1, .inl (cd1, 40, .inl v2)), (d2, .inl (cd2, 40, .inl v3)), (d3, .inl (cd3, 480, .inl f_4))]) [0, 1, 2, 3, 4] rfl
    have hD9 := hD.sub (ws' := [(h0, .inr (2, [.ref d0, .ref d1, .ref d2, .ref d3])), (d0, .inl (cd0, 40, .inl v1)), (d1, .inl (cd1, 40, .inl v2)), (d2, .inl (cd2, 40, .inl v3)), (d3, .inl (cd3, 480, .inl f_4))]) [0, 1, 2, 3, 4] (by decide) rfl
    have hK9 := hK.sub (tys' := [(cd0, .int), (cd1, .int), (cd2, .int), (cd3, .int)]) [0, 1, 2, 3] rfl
    exact W.vret hx hb hr (fun t ht hW => ⟨⟨(), rfl, trivial, v1, v2, v3, f_4, by rw [ht]; exact hP9, va_K.moved hW.alike hK9, hD9⟩, hS.F ht⟩) hS.2.2 dX1_hear_167
  by_cases t_1_1 : kd = 1
  · have tx : (kd).toInt = 1 := by rw [t_1_1]; decide
    refine lv_tableIn (off := 52) (tgt := 56) hx hb dX1_hear_4 (by rw [tx]; decide) (by rw [tx]; decide) (by rw [tx]; decide +kernel) (by decide) ?_
    obtain ⟨x_5, hx_5, ex_5⟩ := hln.2 (Or.inl t_1_1)
    subst ex_5
    refine lv_aload_n hx hb dX1_hear_56 rfl (lv_at hl 0 rfl) ?_
    refine va_get (D := (dC, dI)) (ci := 2) (v := .ref d3) (C := RX1) (T := TX1) (N := 4) hx hb hts hinX1 hown hK hP 0 rfl rfl 3 (by decide) (hts (.fieldLink RX1 21 "AgreedTalks$Deeds" "requests" "[I") (by decide +kernel)) (fun _ h9 => h9) rfl dX1_hear_57 ?_
    refine lv_aload_n hx hb dX1_hear_60 rfl (lv_at hl 1 rfl) ?_
    have hPz := okF.kept fzl hS
    refine va_get (D := (dC, dI)) (ci := 3) (v := .int (nI x_5)) (C := RX2) (T := TX2) (N := 6) hx hb hts hinX2 hown hK hPz 0 rfl rfl 1 (by decide) (hts (.fieldLink RX1 46 "AgreedTalks$Line" "person" "I") (by decide +kernel)) (fun _ h9 => h9) rfl dX1_hear_61 ?_
    refine lv_aload_n hx hb dX1_hear_64 rfl (lv_at hl 1 rfl) ?_
    have hPz := okF.kept fzl hS
    refine va_get (D := (dC, dI)) (ci := 3) (v := .int (nI tt)) (C := RX2) (T := TX2) (N := 6) hx hb hts hinX2 hown hK hPz 0 rfl rfl 3 (by decide) (hts (.fieldLink RX1 39 "AgreedTalks$Line" "thing" "I") (by decide +kernel)) (fun _ h9 => h9) rfl dX1_hear_65 ?_
    have hPc := hP.sub (ws' := []) [] rfl
    have hDc := hD.sub (ws' := []) [] (by decide) rfl
    have hKc := hK.sub (tys' := []) [] rfl
    have hFc := va_free (wc := []) hD hS hA [] rfl
    refine va_calli (va_runSN (As := [.int (nI x_5), .int (nI tt)]) (rest := [.ref d3]) ⟨hx, hb, hml, hown, hts⟩ (c_X6_cell l dC dI _ x_5 tt) ⟨va_cnB 2 hts gc_D_hear_X6_cell rfl rfl rfl nw1c (hts (.initialized RX6) (by decide +kernel)) (by decide +kernel) ⟨Nat.le_of_ble_eq_true rfl, Nat.le_of_ble_eq_true rfl⟩, (hts (.static yX6_cell) (by decide +kernel)), trivial⟩ ⟨fun a U g mk q => by obtain ⟨q0, q1, qP, qK, qD⟩ := q; exact ⟨q0, q1, qP, va_K.moved (u := U) (U := U.calling g mk a) (Vm.Alike.refl U.vm) qK, qD⟩, fun U hU hW => ⟨rfl, by rw [hU], by rw [hU]; exact hPc, va_K.moved hW.alike hKc, hDc.weaken (fun _ _ _ _ => trivial)⟩⟩ rfl rfl hl.1 rfl (lv_room (Nat.le_of_ble_eq_true rfl)) dX1_hear_68 ⟨Nat.zero_le _, Nat.zero_le _⟩) hS (fun q _ h => hFc q h) hFc (fun r_6 u t H1 locs ht hvm hw hB hz1 hk1 hS => ?_)
    obtain ⟨hP1, hK1, hD1⟩ := hB
    rw [ht] at hP1
    obtain ⟨hP, hD⟩ := va_join (wr := [(h0, .inr (2, [.ref d0, .ref d1, .ref d2, .ref d3])), (d0, .inl (cd0, 40, .inl v1)), (d1, .inl (cd1, 40, .inl v2)), (d2, .inl (cd2, 40, .inl v3)), (d3, .inl (cd3, 480, .inl v4))]) (w1 := []) hP hD [] [0, 1, 2, 3, 4] rfl rfl (by decide) (by decide) hk1 hFc hP1 hD1
    generalize H1 = H at hP hS ⊢
    have hP : va_P (dC, dI) vwCl [(h0, .inr (2, [.ref d0, .ref d1, .ref d2, .ref d3])), (d0, .inl (cd0, 40, .inl v1)), (d1, .inl (cd1, 40, .inl v2)), (d2, .inl (cd2, 40, .inl v3)), (d3, .inl (cd3, 480, .inl v4))] H := hP
    have hD : va_D A [(h0, .inr (2, [.ref d0, .ref d1, .ref d2, .ref d3])), (d0, .inl (cd0, 40, .inl v1)), (d1, .inl (cd1, 40, .inl v2)), (d2, .inl (cd2, 40, .inl v3)), (d3, .inl (cd3, 480, .inl v4))] := hD
    obtain rfl : r_6 = (nI (x_5 * 40 + tt)) := hw
    refine lv_iconst (v := 0) hx hb dX1_hear_71 (by decide) ?_
    refine va_iast hx hb hK hP hD hS 4 3 rfl rfl (vp_in_nI (by omega) (by omega)) dX1_hear_72 (fun H locs hP hD hS => ?_)
    have hP : va_P (dC, dI) vwCl [(h0, .inr (2, [.ref d0, .ref d1, .ref d2, .ref d3])), (d0, .inl (cd0, 40, .inl v1)), (d1, .inl (cd1, 40, .inl v2)), (d2, .inl (cd2, 40, .inl v3)), (d3, .inl (cd3, 480, .inl (upd v4 (Int32.toNatClampNeg (nI (x_5 * 40 + tt))) 0)))] H := hP
    have hD : va_D A [(h0, .inr (2, [.ref d0, .ref d1, .ref d2, .ref d3])), (d0, .inl (cd0, 40, .inl v1)), (d1, .inl (cd1, 40, .inl v2)), (d2, .inl (cd2, 40, .inl v3)), (d3, .inl (cd3, 480, .inl (upd v4 (Int32.toNatClampNeg (nI (x_5 * 40 + tt))) 0)))] := hD
    generalize ef_7 : upd v4 (Int32.toNatClampNeg (nI (x_5 * 40 + tt))) 0 = f_7 at hP hD
    rw [show Int32.toNatClampNeg (nI (x_5 * 40 + tt)) = x_5 * 40 + tt from nI_clamp (by omega)] at ef_7
    refine lv_aload_n hx hb dX1_hear_73 rfl (lv_at hl 0 rfl) ?_
    refine lv_aload_n hx hb dX1_hear_74 rfl (lv_at hl 1 rfl) ?_
    have hPz := okF.kept fzl hS
    refine va_get (D := (dC, dI)) (ci := 3) (v := .int (nI tt)) (C := RX2) (T := TX2) (N := 6) hx hb hts hinX2 hown hK hPz 0 rfl rfl 3 (by decide) (hts (.fieldLink RX1 39 "AgreedTalks$Line" "thing" "I") (by decide +kernel)) (fun _ h9 => h9) rfl dX1_hear_75 ?_
    refine lv_aload_n hx hb dX1_hear_78 rfl (lv_at hl 1 rfl) ?_
    have hPz := okF.kept fzl hS
    refine va_get (D := (dC, dI)) (ci := 3) (v := .int (nI x_5)) (C := RX2) (T := TX2) (N := 6) hx hb hts hinX2 hown hK hPz 0 rfl rfl 1 (by decide) (hts (.fieldLink RX1 46 "AgreedTalks$Line" "person" "I") (by decide +kernel)) (fun _ h9 => h9) rfl dX1_hear_79 ?_
    refine lv_aload_n hx hb dX1_hear_82 rfl (lv_at hl 1 rfl) ?_
    have hPz := okF.kept fzl hS
    refine va_get (D := (dC, dI)) (ci := 3) (v := .int dy) (C := RX2) (T := TX2) (N := 6) hx hb hts hinX2 hown hK hPz 0 rfl rfl 4 (by decide) (hts (.fieldLink RX1 49 "AgreedTalks$Line" "day" "I") (by decide +kernel)) (fun _ h9 => h9) rfl dX1_hear_83 ?_
    have hPc := hP.sub (ws' := [(h0, .inr (2, [.ref d0, .ref d1, .ref d2, .ref d3])), (d0, .inl (cd0, 40, .inl v1)), (d1, .inl (cd1, 40, .inl v2)), (d2, .inl (cd2, 40, .inl v3)), (d3, .inl (cd3, 480, .inl f_7))]) [0, 1, 2, 3, 4] rfl
    have hDc := hD.sub (ws' := [(h0, .inr (2, [.ref d0, .ref d1, .ref d2, .ref d3])), (d0, .inl (cd0, 40, .inl v1)), (d1, .inl (cd1, 40, .inl v2)), (d2, .inl (cd2, 40, .inl v3)), (d3, .inl (cd3, 480, .inl f_7))]) [0, 1, 2, 3, 4] (by decide) rfl
    have hKc := hK.sub (tys' := [(cd0, .int), (cd1, .int), (cd2, .int), (cd3, .int)]) [0, 1, 2, 3] rfl
    have hFc := va_free (wc := [(h0, .inr (2, [.ref d0, .ref d1, .ref d2, .ref d3])), (d0, .inl (cd0, 40, .inl v1)), (d1, .inl (cd1, 40, .inl v2)), (d2, .inl (cd2, 40, .inl v3)), (d3, .inl (cd3, 480, .inl f_7))]) hD hS hA [0, 1, 2, 3, 4] rfl
    refine va_callv (va_runV (As := [.int (nI tt), .int (nI x_5), .int dy]) (rest := []) ⟨hx, hb, hml, hown, hts⟩ (c_D_give l dC dI _ h0 d0 d1 d2 d3 cd0 cd1 cd2 cd3 v1 v2 v3 f_7 tt (nI x_5) dy (by omega)) (cwV 3 hts gc_D_hear_D_give rfl rfl rfl (by decide +kernel) ⟨Nat.le_of_ble_eq_true rfl, Nat.le_of_ble_eq_true rfl⟩) ⟨fun a U g mk q => by obtain ⟨q0, q1, qP, qK, qD⟩ := q; exact ⟨q0, q1, qP, va_K.moved (u := U) (U := U.calling g mk a) (Vm.Alike.refl U.vm) qK, qD⟩, va_recv hKc hPc (ci := 2) (q0 := 0) rfl rfl, fun U hU hW => ⟨rfl, by rw [hU], by rw [hU]; exact hPc, va_K.moved hW.alike hKc, hDc.weaken (fun _ _ _ _ => trivial)⟩⟩ rfl rfl hl.1 rfl (lv_room (Nat.le_of_ble_eq_true rfl)) dX1_hear_86 ⟨Nat.zero_le _, Nat.zero_le _⟩) hS (fun q _ h => hFc q h) hFc (fun u t H1 locs ht hvm hw hB hz1 hk1 hS => ?_)
    obtain ⟨w1_8, w2_9, w3_10, w4_11, hP1, hK1, hD1⟩ := hB
    rw [ht] at hP1
    obtain ⟨hP, hD⟩ := va_join (wr := []) (w1 := [(h0, .inr (2, [.ref d0, .ref d1, .ref d2, .ref d3])), (d0, .inl (cd0, 40, .inl w1_8)), (d1, .inl (cd1, 40, .inl w2_9)), (d2, .inl (cd2, 40, .inl w3_10)), (d3, .inl (cd3, 480, .inl w4_11))]) hP hD [0, 1, 2, 3, 4] [] rfl rfl (by decide) (by decide) hk1 hFc hP1 hD1
    generalize H1 = H at hP hS ⊢
    have hP : va_P (dC, dI) vwCl [(h0, .inr (2, [.ref d0, .ref d1, .ref d2, .ref d3])), (d0, .inl (cd0, 40, .inl w1_8)), (d1, .inl (cd1, 40, .inl w2_9)), (d2, .inl (cd2, 40, .inl w3_10)), (d3, .inl (cd3, 480, .inl w4_11))] H := hP
    have hD : va_D A [(h0, .inr (2, [.ref d0, .ref d1, .ref d2, .ref d3])), (d0, .inl (cd0, 40, .inl w1_8)), (d1, .inl (cd1, 40, .inl w2_9)), (d2, .inl (cd2, 40, .inl w3_10)), (d3, .inl (cd3, 480, .inl w4_11))] := hD
    refine lv_goto (tgt := 167) hx hb dX1_hear_89 (by decide) ?_
    have hP9 := hP.sub (ws' := [(h0, .inr (2, [.ref d0, .ref d1, .ref d2, .ref d3])), (d0, .inl (cd0, 40, .inl w1_8)), (d1, .inl (cd1, 40, .inl w2_9)), (d2, .inl (cd2, 40, .inl w3_10)), (d3, .inl (cd3, 480, .inl w4_11))]) [0, 1, 2, 3, 4] rfl
    have hD9 := hD.sub (ws' := [(h0, .inr (2, [.ref d0, .ref d1, .ref d2, .ref d3])), (d0, .inl (cd0, 40, .inl w1_8)), (d1, .inl (cd1, 40, .inl w2_9)), (d2, .inl (cd2, 40, .inl w3_10)), (d3, .inl (cd3, 480, .inl w4_11))]) [0, 1, 2, 3, 4] (by decide) rfl
    have hK9 := hK.sub (tys' := [(cd0, .int), (cd1, .int), (cd2, .int), (cd3, .int)]) [0, 1, 2, 3] rfl
    exact W.vret hx hb hr (fun t ht hW => ⟨⟨(), rfl, trivial, w1_8, w2_9, w3_10, w4_11, by rw [ht]; exact hP9, va_K.moved hW.alike hK9, hD9⟩, hS.F ht⟩) hS.2.2 dX1_hear_167
  by_cases t_1_2 : kd = 2
  · have tx : (kd).toInt = 2 := by rw [t_1_2]; decide
    refine lv_tableIn (off := 88) (tgt := 92) hx hb dX1_hear_4 (by rw [tx]; decide) (by rw [tx]; decide) (by rw [tx]; decide +kernel) (by decide) ?_
    obtain ⟨x_12, hx_12, ex_12⟩ := hln.2 (Or.inr (Or.inl t_1_2))
    subst ex_12
    refine lv_aload_n hx hb dX1_hear_92 rfl (lv_at hl 0 rfl) ?_
    refine va_get (D := (dC, dI)) (ci := 2) (v := .ref d3) (C := RX1) (T := TX1) (N := 4) hx hb hts hinX1 hown hK hP 0 rfl rfl 3 (by decide) (hts (.fieldLink RX1 21 "AgreedTalks$Deeds" "requests" "[I") (by decide +kernel)) (fun _ h9 => h9) rfl dX1_hear_93 ?_
    refine lv_aload_n hx hb dX1_hear_96 rfl (lv_at hl 1 rfl) ?_
    have hPz := okF.kept fzl hS
    refine va_get (D := (dC, dI)) (ci := 3) (v := .int (nI x_12)) (C := RX2) (T := TX2) (N := 6) hx hb hts hinX2 hown hK hPz 0 rfl rfl 1 (by decide) (hts (.fieldLink RX1 46 "AgreedTalks$Line" "person" "I") (by decide +kernel)) (fun _ h9 => h9) rfl dX1_hear_97 ?_
    refine lv_aload_n hx hb dX1_hear_100 rfl (lv_at hl 1 rfl) ?_
    have hPz := okF.kept fzl hS
    refine va_get (D := (dC, dI)) (ci := 3) (v := .int (nI tt)) (C := RX2) (T := TX2) (N := 6) hx hb hts hinX2 hown hK hPz 0 rfl rfl 3 (by decide) (hts (.fieldLink RX1 39 "AgreedTalks$Line" "thing" "I") (by decide +kernel)) (fun _ h9 => h9) rfl dX1_hear_101 ?_
    have hPc := hP.sub (ws' := []) [] rfl
    have hDc := hD.sub (ws' := []) [] (by decide) rfl
    have hKc := hK.sub (tys' := []) [] rfl
    have hFc := va_free (wc := []) hD hS hA [] rfl
    refine va_calli (va_runSN (As := [.int (nI x_12), .int (nI tt)]) (rest := [.ref d3]) ⟨hx, hb, hml, hown, hts⟩ (c_X6_cell l dC dI _ x_12 tt) ⟨va_cnB 2 hts gc_D_hear_X6_cell rfl rfl rfl nw1c (hts (.initialized RX6) (by decide +kernel)) (by decide +kernel) ⟨Nat.le_of_ble_eq_true rfl, Nat.le_of_ble_eq_true rfl⟩, (hts (.static yX6_cell) (by decide +kernel)), trivial⟩ ⟨fun a U g mk q => by obtain ⟨q0, q1, qP, qK, qD⟩ := q; exact ⟨q0, q1, qP, va_K.moved (u := U) (U := U.calling g mk a) (Vm.Alike.refl U.vm) qK, qD⟩, fun U hU hW => ⟨rfl, by rw [hU], by rw [hU]; exact hPc, va_K.moved hW.alike hKc, hDc.weaken (fun _ _ _ _ => trivial)⟩⟩ rfl rfl hl.1 rfl (lv_room (Nat.le_of_ble_eq_true rfl)) dX1_hear_104 ⟨Nat.zero_le _, Nat.zero_le _⟩) hS (fun q _ h => hFc q h) hFc (fun r_13 u t H1 locs ht hvm hw hB hz1 hk1 hS => ?_)
    obtain ⟨hP1, hK1, hD1⟩ := hB
    rw [ht] at hP1
    obtain ⟨hP, hD⟩ := va_join (wr := [(h0, .inr (2, [.ref d0, .ref d1, .ref d2, .ref d3])), (d0, .inl (cd0, 40, .inl v1)), (d1, .inl (cd1, 40, .inl v2)), (d2, .inl (cd2, 40, .inl v3)), (d3, .inl (cd3, 480, .inl v4))]) (w1 := []) hP hD [] [0, 1, 2, 3, 4] rfl rfl (by decide) (by decide) hk1 hFc hP1 hD1
    generalize H1 = H at hP hS ⊢
    have hP : va_P (dC, dI) vwCl [(h0, .inr (2, [.ref d0, .ref d1, .ref d2, .ref d3])), (d0, .inl (cd0, 40, .inl v1)), (d1, .inl (cd1, 40, .inl v2)), (d2, .inl (cd2, 40, .inl v3)), (d3, .inl (cd3, 480, .inl v4))] H := hP
    have hD : va_D A [(h0, .inr (2, [.ref d0, .ref d1, .ref d2, .ref d3])), (d0, .inl (cd0, 40, .inl v1)), (d1, .inl (cd1, 40, .inl v2)), (d2, .inl (cd2, 40, .inl v3)), (d3, .inl (cd3, 480, .inl v4))] := hD
    obtain rfl : r_13 = (nI (x_12 * 40 + tt)) := hw
    refine lv_iconst (v := 0) hx hb dX1_hear_107 (by decide) ?_
    refine va_iast hx hb hK hP hD hS 4 3 rfl rfl (vp_in_nI (by omega) (by omega)) dX1_hear_108 (fun H locs hP hD hS => ?_)
    have hP : va_P (dC, dI) vwCl [(h0, .inr (2, [.ref d0, .ref d1, .ref d2, .ref d3])), (d0, .inl (cd0, 40, .inl v1)), (d1, .inl (cd1, 40, .inl v2)), (d2, .inl (cd2, 40, .inl v3)), (d3, .inl (cd3, 480, .inl (upd v4 (Int32.toNatClampNeg (nI (x_12 * 40 + tt))) 0)))] H := hP
    have hD : va_D A [(h0, .inr (2, [.ref d0, .ref d1, .ref d2, .ref d3])), (d0, .inl (cd0, 40, .inl v1)), (d1, .inl (cd1, 40, .inl v2)), (d2, .inl (cd2, 40, .inl v3)), (d3, .inl (cd3, 480, .inl (upd v4 (Int32.toNatClampNeg (nI (x_12 * 40 + tt))) 0)))] := hD
    generalize ef_14 : upd v4 (Int32.toNatClampNeg (nI (x_12 * 40 + tt))) 0 = f_14 at hP hD
    rw [show Int32.toNatClampNeg (nI (x_12 * 40 + tt)) = x_12 * 40 + tt from nI_clamp (by omega)] at ef_14
    refine lv_aload_n hx hb dX1_hear_109 rfl (lv_at hl 0 rfl) ?_
    refine va_get (D := (dC, dI)) (ci := 2) (v := .ref d0) (C := RX1) (T := TX1) (N := 4) hx hb hts hinX1 hown hK hP 0 rfl rfl 0 (by decide) (hts (.fieldLink RX1 9 "AgreedTalks$Deeds" "holders" "[I") (by decide +kernel)) (fun _ h9 => h9) rfl dX1_hear_110 ?_
    refine lv_aload_n hx hb dX1_hear_113 rfl (lv_at hl 1 rfl) ?_
    have hPz := okF.kept fzl hS
    refine va_get (D := (dC, dI)) (ci := 3) (v := .int (nI tt)) (C := RX2) (T := TX2) (N := 6) hx hb hts hinX2 hown hK hPz 0 rfl rfl 3 (by decide) (hts (.fieldLink RX1 39 "AgreedTalks$Line" "thing" "I") (by decide +kernel)) (fun _ h9 => h9) rfl dX1_hear_114 ?_
    refine va_iald hx hb hK hP 1 0 rfl rfl (vp_in_nI (by omega) (by omega)) dX1_hear_117 ?_
    refine lv_topi (fun x_15 ex_15 => ?_)
    rw [show (Int32.toNatClampNeg (nI tt)) = tt from nI_clamp (by omega)] at ex_15
    refine lv_aload_n hx hb dX1_hear_118 rfl (lv_at hl 1 rfl) ?_
    have hPz := okF.kept fzl hS
    refine va_get (D := (dC, dI)) (ci := 3) (v := .int (nI x_12)) (C := RX2) (T := TX2) (N := 6) hx hb hts hinX2 hown hK hPz 0 rfl rfl 1 (by decide) (hts (.fieldLink RX1 46 "AgreedTalks$Line" "person" "I") (by decide +kernel)) (fun _ h9 => h9) rfl dX1_hear_119 ?_
    refine lv_icmp_ne (tgt := 167) hx hb dX1_hear_122 (by decide) (fun c_16 => ?_) (fun c_16 => ?_)
    · have hP9 := hP.sub (ws' := [(h0, .inr (2, [.ref d0, .ref d1, .ref d2, .ref d3])), (d0, .inl (cd0, 40, .inl v1)), (d1, .inl (cd1, 40, .inl v2)), (d2, .inl (cd2, 40, .inl v3)), (d3, .inl (cd3, 480, .inl f_14))]) [0, 1, 2, 3, 4] rfl
      have hD9 := hD.sub (ws' := [(h0, .inr (2, [.ref d0, .ref d1, .ref d2, .ref d3])), (d0, .inl (cd0, 40, .inl v1)), (d1, .inl (cd1, 40, .inl v2)), (d2, .inl (cd2, 40, .inl v3)), (d3, .inl (cd3, 480, .inl f_14))]) [0, 1, 2, 3, 4] (by decide) rfl
      have hK9 := hK.sub (tys' := [(cd0, .int), (cd1, .int), (cd2, .int), (cd3, .int)]) [0, 1, 2, 3] rfl
      exact W.vret hx hb hr (fun t ht hW => ⟨⟨(), rfl, trivial, v1, v2, v3, f_14, by rw [ht]; exact hP9, va_K.moved hW.alike hK9, hD9⟩, hS.F ht⟩) hS.2.2 dX1_hear_167
    · refine lv_aload_n hx hb dX1_hear_125 rfl (lv_at hl 0 rfl) ?_
      refine lv_aload_n hx hb dX1_hear_126 rfl (lv_at hl 1 rfl) ?_
      have hPz := okF.kept fzl hS
      refine va_get (D := (dC, dI)) (ci := 3) (v := .int (nI tt)) (C := RX2) (T := TX2) (N := 6) hx hb hts hinX2 hown hK hPz 0 rfl rfl 3 (by decide) (hts (.fieldLink RX1 39 "AgreedTalks$Line" "thing" "I") (by decide +kernel)) (fun _ h9 => h9) rfl dX1_hear_127 ?_
      refine lv_iconst (v := (-1)) hx hb dX1_hear_130 (by decide) ?_
      refine lv_iconst (v := (-1)) hx hb dX1_hear_131 (by decide) ?_
      have hPc := hP.sub (ws' := [(h0, .inr (2, [.ref d0, .ref d1, .ref d2, .ref d3])), (d0, .inl (cd0, 40, .inl v1)), (d1, .inl (cd1, 40, .inl v2)), (d2, .inl (cd2, 40, .inl v3)), (d3, .inl (cd3, 480, .inl f_14))]) [0, 1, 2, 3, 4] rfl
      have hDc := hD.sub (ws' := [(h0, .inr (2, [.ref d0, .ref d1, .ref d2, .ref d3])), (d0, .inl (cd0, 40, .inl v1)), (d1, .inl (cd1, 40, .inl v2)), (d2, .inl (cd2, 40, .inl v3)), (d3, .inl (cd3, 480, .inl f_14))]) [0, 1, 2, 3, 4] (by decide) rfl
      have hKc := hK.sub (tys' := [(cd0, .int), (cd1, .int), (cd2, .int), (cd3, .int)]) [0, 1, 2, 3] rfl
      have hFc := va_free (wc := [(h0, .inr (2, [.ref d0, .ref d1, .ref d2, .ref d3])), (d0, .inl (cd0, 40, .inl v1)), (d1, .inl (cd1, 40, .inl v2)), (d2, .inl (cd2, 40, .inl v3)), (d3, .inl (cd3, 480, .inl f_14))]) hD hS hA [0, 1, 2, 3, 4] rfl
      refine va_callv (va_runV (As := [.int (nI tt), .int (-1), .int (-1)]) (rest := []) ⟨hx, hb, hml, hown, hts⟩ (c_D_give l dC dI _ h0 d0 d1 d2 d3 cd0 cd1 cd2 cd3 v1 v2 v3 f_14 tt (-1) (-1) (by omega)) (cwV 3 hts gc_D_hear_D_give rfl rfl rfl (by decide +kernel) ⟨Nat.le_of_ble_eq_true rfl, Nat.le_of_ble_eq_true rfl⟩) ⟨fun a U g mk q => by obtain ⟨q0, q1, qP, qK, qD⟩ := q; exact ⟨q0, q1, qP, va_K.moved (u := U) (U := U.calling g mk a) (Vm.Alike.refl U.vm) qK, qD⟩, va_recv hKc hPc (ci := 2) (q0 := 0) rfl rfl, fun U hU hW => ⟨rfl, by rw [hU], by rw [hU]; exact hPc, va_K.moved hW.alike hKc, hDc.weaken (fun _ _ _ _ => trivial)⟩⟩ rfl rfl hl.1 rfl (lv_room (Nat.le_of_ble_eq_true rfl)) dX1_hear_132 ⟨Nat.zero_le _, Nat.zero_le _⟩) hS (fun q _ h => hFc q h) hFc (fun u t H1 locs ht hvm hw hB hz1 hk1 hS => ?_)
      obtain ⟨w1_17, w2_18, w3_19, w4_20, hP1, hK1, hD1⟩ := hB
      rw [ht] at hP1
      obtain ⟨hP, hD⟩ := va_join (wr := []) (w1 := [(h0, .inr (2, [.ref d0, .ref d1, .ref d2, .ref d3])), (d0, .inl (cd0, 40, .inl w1_17)), (d1, .inl (cd1, 40, .inl w2_18)), (d2, .inl (cd2, 40, .inl w3_19)), (d3, .inl (cd3, 480, .inl w4_20))]) hP hD [0, 1, 2, 3, 4] [] rfl rfl (by decide) (by decide) hk1 hFc hP1 hD1
      generalize H1 = H at hP hS ⊢
      have hP : va_P (dC, dI) vwCl [(h0, .inr (2, [.ref d0, .ref d1, .ref d2, .ref d3])), (d0, .inl (cd0, 40, .inl w1_17)), (d1, .inl (cd1, 40, .inl w2_18)), (d2, .inl (cd2, 40, .inl w3_19)), (d3, .inl (cd3, 480, .inl w4_20))] H := hP
      have hD : va_D A [(h0, .inr (2, [.ref d0, .ref d1, .ref d2, .ref d3])), (d0, .inl (cd0, 40, .inl w1_17)), (d1, .inl (cd1, 40, .inl w2_18)), (d2, .inl (cd2, 40, .inl w3_19)), (d3, .inl (cd3, 480, .inl w4_20))] := hD
      refine lv_goto (tgt := 167) hx hb dX1_hear_135 (by decide) ?_
      have hP9 := hP.sub (ws' := [(h0, .inr (2, [.ref d0, .ref d1, .ref d2, .ref d3])), (d0, .inl (cd0, 40, .inl w1_17)), (d1, .inl (cd1, 40, .inl w2_18)), (d2, .inl (cd2, 40, .inl w3_19)), (d3, .inl (cd3, 480, .inl w4_20))]) [0, 1, 2, 3, 4] rfl
      have hD9 := hD.sub (ws' := [(h0, .inr (2, [.ref d0, .ref d1, .ref d2, .ref d3])), (d0, .inl (cd0, 40, .inl w1_17)), (d1, .inl (cd1, 40, .inl w2_18)), (d2, .inl (cd2, 40, .inl w3_19)), (d3, .inl (cd3, 480, .inl w4_20))]) [0, 1, 2, 3, 4] (by decide) rfl
      have hK9 := hK.sub (tys' := [(cd0, .int), (cd1, .int), (cd2, .int), (cd3, .int)]) [0, 1, 2, 3] rfl
      exact W.vret hx hb hr (fun t ht hW => ⟨⟨(), rfl, trivial, w1_17, w2_18, w3_19, w4_20, by rw [ht]; exact hP9, va_K.moved hW.alike hK9, hD9⟩, hS.F ht⟩) hS.2.2 dX1_hear_167
  by_cases t_1_3 : kd = 3
  · have tx : (kd).toInt = 3 := by rw [t_1_3]; decide
    refine lv_tableIn (off := 134) (tgt := 138) hx hb dX1_hear_4 (by rw [tx]; decide) (by rw [tx]; decide) (by rw [tx]; decide +kernel) (by decide) ?_
    refine lv_aload_n hx hb dX1_hear_138 rfl (lv_at hl 0 rfl) ?_
    refine va_get (D := (dC, dI)) (ci := 2) (v := .ref d0) (C := RX1) (T := TX1) (N := 4) hx hb hts hinX1 hown hK hP 0 rfl rfl 0 (by decide) (hts (.fieldLink RX1 9 "AgreedTalks$Deeds" "holders" "[I") (by decide +kernel)) (fun _ h9 => h9) rfl dX1_hear_139 ?_
    refine lv_aload_n hx hb dX1_hear_142 rfl (lv_at hl 1 rfl) ?_
    have hPz := okF.kept fzl hS
    refine va_get (D := (dC, dI)) (ci := 3) (v := .int (nI tt)) (C := RX2) (T := TX2) (N := 6) hx hb hts hinX2 hown hK hPz 0 rfl rfl 3 (by decide) (hts (.fieldLink RX1 39 "AgreedTalks$Line" "thing" "I") (by decide +kernel)) (fun _ h9 => h9) rfl dX1_hear_143 ?_
    refine va_iald hx hb hK hP 1 0 rfl rfl (vp_in_nI (by omega) (by omega)) dX1_hear_146 ?_
    refine lv_topi (fun x_21 ex_21 => ?_)
    rw [show (Int32.toNatClampNeg (nI tt)) = tt from nI_clamp (by omega)] at ex_21
    refine lv_aload_n hx hb dX1_hear_147 rfl (lv_at hl 1 rfl) ?_
    have hPz := okF.kept fzl hS
    refine va_get (D := (dC, dI)) (ci := 3) (v := .int pe) (C := RX2) (T := TX2) (N := 6) hx hb hts hinX2 hown hK hPz 0 rfl rfl 1 (by decide) (hts (.fieldLink RX1 46 "AgreedTalks$Line" "person" "I") (by decide +kernel)) (fun _ h9 => h9) rfl dX1_hear_148 ?_
    refine lv_icmp_ne (tgt := 167) hx hb dX1_hear_151 (by decide) (fun c_22 => ?_) (fun c_22 => ?_)
    · have hP9 := hP.sub (ws' := [(h0, .inr (2, [.ref d0, .ref d1, .ref d2, .ref d3])), (d0, .inl (cd0, 40, .inl v1)), (d1, .inl (cd1, 40, .inl v2)), (d2, .inl (cd2, 40, .inl v3)), (d3, .inl (cd3, 480, .inl v4))]) [0, 1, 2, 3, 4] rfl
      have hD9 := hD.sub (ws' := [(h0, .inr (2, [.ref d0, .ref d1, .ref d2, .ref d3])), (d0, .inl (cd0, 40, .inl v1)), (d1, .inl (cd1, 40, .inl v2)), (d2, .inl (cd2, 40, .inl v3)), (d3, .inl (cd3, 480, .inl v4))]) [0, 1, 2, 3, 4] (by decide) rfl
      have hK9 := hK.sub (tys' := [(cd0, .int), (cd1, .int), (cd2, .int), (cd3, .int)]) [0, 1, 2, 3] rfl
      exact W.vret hx hb hr (fun t ht hW => ⟨⟨(), rfl, trivial, v1, v2, v3, v4, by rw [ht]; exact hP9, va_K.moved hW.alike hK9, hD9⟩, hS.F ht⟩) hS.2.2 dX1_hear_167
    · refine lv_aload_n hx hb dX1_hear_154 rfl (lv_at hl 0 rfl) ?_
      refine va_get (D := (dC, dI)) (ci := 2) (v := .ref d2) (C := RX1) (T := TX1) (N := 4) hx hb hts hinX1 hown hK hP 0 rfl rfl 2 (by decide) (hts (.fieldLink RX1 18 "AgreedTalks$Deeds" "finished" "[I") (by decide +kernel)) (fun _ h9 => h9) rfl dX1_hear_155 ?_
      refine lv_aload_n hx hb dX1_hear_158 rfl (lv_at hl 1 rfl) ?_
      have hPz := okF.kept fzl hS
      refine va_get (D := (dC, dI)) (ci := 3) (v := .int (nI tt)) (C := RX2) (T := TX2) (N := 6) hx hb hts hinX2 hown hK hPz 0 rfl rfl 3 (by decide) (hts (.fieldLink RX1 39 "AgreedTalks$Line" "thing" "I") (by decide +kernel)) (fun _ h9 => h9) rfl dX1_hear_159 ?_
      refine lv_iconst (v := 1) hx hb dX1_hear_162 (by decide) ?_
      refine va_iast hx hb hK hP hD hS 3 2 rfl rfl (vp_in_nI (by omega) (by omega)) dX1_hear_163 (fun H locs hP hD hS => ?_)
      have hP : va_P (dC, dI) vwCl [(h0, .inr (2, [.ref d0, .ref d1, .ref d2, .ref d3])), (d0, .inl (cd0, 40, .inl v1)), (d1, .inl (cd1, 40, .inl v2)), (d2, .inl (cd2, 40, .inl (upd v3 (Int32.toNatClampNeg (nI tt)) 1))), (d3, .inl (cd3, 480, .inl v4))] H := hP
      have hD : va_D A [(h0, .inr (2, [.ref d0, .ref d1, .ref d2, .ref d3])), (d0, .inl (cd0, 40, .inl v1)), (d1, .inl (cd1, 40, .inl v2)), (d2, .inl (cd2, 40, .inl (upd v3 (Int32.toNatClampNeg (nI tt)) 1))), (d3, .inl (cd3, 480, .inl v4))] := hD
      generalize ef_23 : upd v3 (Int32.toNatClampNeg (nI tt)) 1 = f_23 at hP hD
      rw [show Int32.toNatClampNeg (nI tt) = tt from nI_clamp (by omega)] at ef_23
      refine lv_goto (tgt := 167) hx hb dX1_hear_164 (by decide) ?_
      have hP9 := hP.sub (ws' := [(h0, .inr (2, [.ref d0, .ref d1, .ref d2, .ref d3])), (d0, .inl (cd0, 40, .inl v1)), (d1, .inl (cd1, 40, .inl v2)), (d2, .inl (cd2, 40, .inl f_23)), (d3, .inl (cd3, 480, .inl v4))]) [0, 1, 2, 3, 4] rfl
      have hD9 := hD.sub (ws' := [(h0, .inr (2, [.ref d0, .ref d1, .ref d2, .ref d3])), (d0, .inl (cd0, 40, .inl v1)), (d1, .inl (cd1, 40, .inl v2)), (d2, .inl (cd2, 40, .inl f_23)), (d3, .inl (cd3, 480, .inl v4))]) [0, 1, 2, 3, 4] (by decide) rfl
      have hK9 := hK.sub (tys' := [(cd0, .int), (cd1, .int), (cd2, .int), (cd3, .int)]) [0, 1, 2, 3] rfl
      exact W.vret hx hb hr (fun t ht hW => ⟨⟨(), rfl, trivial, v1, v2, f_23, v4, by rw [ht]; exact hP9, va_K.moved hW.alike hK9, hD9⟩, hS.F ht⟩) hS.2.2 dX1_hear_167
  refine lv_tableOut (tgt := 167) hx hb dX1_hear_4 (lk_out3 t_1_0 t_1_1 t_1_2 t_1_3) (by decide) ?_
  have hP9 := hP.sub (ws' := [(h0, .inr (2, [.ref d0, .ref d1, .ref d2, .ref d3])), (d0, .inl (cd0, 40, .inl v1)), (d1, .inl (cd1, 40, .inl v2)), (d2, .inl (cd2, 40, .inl v3)), (d3, .inl (cd3, 480, .inl v4))]) [0, 1, 2, 3, 4] rfl
  have hD9 := hD.sub (ws' := [(h0, .inr (2, [.ref d0, .ref d1, .ref d2, .ref d3])), (d0, .inl (cd0, 40, .inl v1)), (d1, .inl (cd1, 40, .inl v2)), (d2, .inl (cd2, 40, .inl v3)), (d3, .inl (cd3, 480, .inl v4))]) [0, 1, 2, 3, 4] (by decide) rfl
  have hK9 := hK.sub (tys' := [(cd0, .int), (cd1, .int), (cd2, .int), (cd3, .int)]) [0, 1, 2, 3] rfl
  exact W.vret hx hb hr (fun t ht hW => ⟨⟨(), rfl, trivial, v1, v2, v3, v4, by rw [ht]; exact hP9, va_K.moved hW.alike hK9, hD9⟩, hS.F ht⟩) hS.2.2 dX1_hear_167
def wp_C_putWord : List Cond := .code yX0_putWord cX0_putWord 4 none :: (([.fieldLink RX0 51 "AgreedTalks$Line" "person" "I", .fieldLink RX0 48 "AgreedTalks$Line" "thing" "I", .initialized RX6, .static yX6_cell, .fieldLink RX0 9 "AgreedTalks$Claims" "words" "[I", .fieldLink RX0 15 "AgreedTalks$Claims" "grounds" "[J", .fieldLink RX0 58 "AgreedTalks$Line" "grounds" "J", .fieldLink RX0 19 "AgreedTalks$Claims" "turns" "[I"] : List Cond) ++ wsX20 ++ wsX00 ++ wp_X6_cell)
theorem gc_C_putWord_X6_cell : GoodIn wp_C_putWord wp_X6_cell := goodIn_sub (fun _ h => List.mem_cons_of_mem _ (List.mem_append_right _ h)) (by decide +kernel)
set_option maxRecDepth 20000 in
theorem gi_C_putWord : GoodIn lw_tbl wp_C_putWord := (goodIn_ca (goodIn_ca (goodIn_ca (goodIn_r (.code yX0_putWord cX0_putWord 4 none :: ([.fieldLink RX0 51 "AgreedTalks$Line" "person" "I", .fieldLink RX0 48 "AgreedTalks$Line" "thing" "I", .initialized RX6, .static yX6_cell, .fieldLink RX0 9 "AgreedTalks$Claims" "words" "[I", .fieldLink RX0 15 "AgreedTalks$Claims" "grounds" "[J", .fieldLink RX0 58 "AgreedTalks$Line" "grounds" "J", .fieldLink RX0 19 "AgreedTalks$Claims" "turns" "[I"] : List Cond)) [553, 349, 354, 48, 540, 165, 167, 358, 168] (by decide +kernel) (by decide +kernel)) wi_wsX2) wi_wsX0) gi_X6_cell)
set_option maxHeartbeats 4000000 in
set_option maxRecDepth 100000 in
/-- putWord -/
theorem c_C_putWord (l : Launch) (dC : Nat → ClassId) (dI : Nat → Nat → Nat) (sz : Nat) (h0 : Nat) (c0 : Nat) (c1 : Nat) (c2 : Nat) (c3 : Nat) (sd : Int64) (cc0 : ClassId) (cc1 : ClassId) (cc2 : ClassId) (cc3 : ClassId) (u1 : Nat → Int32) (u2 : Nat → Int64) (u3 : Nat → Int32) (u4 : Nat → Int32) (h1 : Nat) (tt : Nat) (px : Nat) (kd : Int32) (ot : Int32) (dy : Int32) (gr : Int64) (p1 : Int32) (qtt : tt < 40) (qpx : px < 12) : Met l yX0_putWord wp_C_putWord ({ frames := 1, cells := 0, slots := 0, locals := 40 }) (va_Pc [.ref h0, .ref h1, .int p1] (fun U => U.heap.size = sz ∧ va_P (dC, dI) vwCl [(h0, .inr (1, [.ref c0, .ref c1, .ref c2, .ref c3, .long sd])), (c0, .inl (cc0, 480, .inl u1)), (c1, .inl (cc1, 480, .inr (.inl u2))), (c2, .inl (cc2, 480, .inl u3)), (c3, .inl (cc3, 40, .inl u4))] U.heap ∧ va_K (dC, dI) vwCl [(cc0, .int), (cc1, .long), (cc2, .int), (cc3, .int)] U ∧ va_D (fun _ => True) [(h0, .inr (1, [.ref c0, .ref c1, .ref c2, .ref c3, .long sd])), (c0, .inl (cc0, 480, .inl u1)), (c1, .inl (cc1, 480, .inr (.inl u2))), (c2, .inl (cc2, 480, .inl u3)), (c3, .inl (cc3, 40, .inl u4))] ∧ va_Nw (.methodLinkNest RX0 54 yX6_cell "AgreedTalks") U ∧ okF (dC, dI) vwCl (h1, .inr (3, [.int kd, .int (nI px), .int ot, .int (nI tt), .int dy, .long gr])) (va_A [(h0, .inr (1, [.ref c0, .ref c1, .ref c2, .ref c3, .long sd])), (c0, .inl (cc0, 480, .inl u1)), (c1, .inl (cc1, 480, .inr (.inl u2))), (c2, .inl (cc2, 480, .inl u3)), (c3, .inl (cc3, 40, .inl u4))] sz) U.heap)) (va_Qv (fun (_ : Unit) => True) (fun (_ : Unit) (t : State) => ∃ (s2 : Int64), ∃ (x1 : Nat → Int32), ∃ (x2 : Nat → Int64), ∃ (x3 : Nat → Int32), ∃ (x4 : Nat → Int32), va_P (dC, dI) vwCl [(h0, .inr (1, [.ref c0, .ref c1, .ref c2, .ref c3, .long s2])), (c0, .inl (cc0, 480, .inl x1)), (c1, .inl (cc1, 480, .inr (.inl x2))), (c2, .inl (cc2, 480, .inl x3)), (c3, .inl (cc3, 40, .inl x4))] t.heap ∧ va_K (dC, dI) vwCl [(cc0, .int), (cc1, .long), (cc2, .int), (cc3, .int)] t ∧ va_D (va_A [(h0, .inr (1, [.ref c0, .ref c1, .ref c2, .ref c3, .long sd])), (c0, .inl (cc0, 480, .inl u1)), (c1, .inl (cc1, 480, .inr (.inl u2))), (c2, .inl (cc2, 480, .inl u3)), (c3, .inl (cc3, 40, .inl u4))] sz) [(h0, .inr (1, [.ref c0, .ref c1, .ref c2, .ref c3, .long s2])), (c0, .inl (cc0, 480, .inl x1)), (c1, .inl (cc1, 480, .inr (.inl x2))), (c2, .inl (cc2, 480, .inl x3)), (c3, .inl (cc3, 40, .inl x4))]) (va_A [(h0, .inr (1, [.ref c0, .ref c1, .ref c2, .ref c3, .long sd])), (c0, .inl (cc0, 480, .inl u1)), (c1, .inl (cc1, 480, .inr (.inl u2))), (c2, .inl (cc2, 480, .inl u3)), (c3, .inl (cc3, 40, .inl u4))] sz)) 0 0 (va_A [(h0, .inr (1, [.ref c0, .ref c1, .ref c2, .ref c3, .long sd])), (c0, .inl (cc0, 480, .inl u1)), (c1, .inl (cc1, 480, .inr (.inl u2))), (c2, .inl (cc2, 480, .inl u3)), (c3, .inl (cc3, 40, .inl u4))] sz) := by
  refine Met.ofW (cc := cX0_putWord) (maxL := 4) (ret := none) (by decide) rfl ?_
  intro p e s m args below meth c s₁ B hml hv
  obtain ⟨rfl, hsz, hP, hK, hD0, nw0c, fzl⟩ := hv
  have hx := B.exec
  have hb := B.bytes
  have hr := B.returns
  have hts := atoms_spec (ws := wp_C_putWord) B.pre
  have hown : s.vm.findClass RX0 = some m.cls := findClass_of_methodNamed B.named
  have hlocks := B.notSynchronized
  subst hsz
  have hD := hD0.self (sz := s.heap.size)
  generalize hAe : va_A [(h0, .inr (1, [.ref c0, .ref c1, .ref c2, .ref c3, .long sd])), (c0, .inl (cc0, 480, .inl u1)), (c1, .inl (cc1, 480, .inr (.inl u2))), (c2, .inl (cc2, 480, .inl u3)), (c3, .inl (cc3, 40, .inl u4))] s.heap.size = A at hD fzl ⊢
  have hA : ∀ q : Nat, s.heap.size ≤ q → A q := fun q h => by rw [← hAe]; exact Or.inr h
  have hS : va_S A s.heap s.heap [] := va_S.rf
  have hP : va_P (dC, dI) vwCl [(h0, .inr (1, [.ref c0, .ref c1, .ref c2, .ref c3, .long sd])), (c0, .inl (cc0, 480, .inl u1)), (c1, .inl (cc1, 480, .inr (.inl u2))), (c2, .inl (cc2, 480, .inl u3)), (c3, .inl (cc3, 40, .inl u4))] s.heap := hP
  have hl := lv_entry ([.ref h0, .ref h1, .int p1]) (n := 4) (Nat.le_of_ble_eq_true rfl)
  rw [lg_entry_eq]
  generalize (lg_sl ([.ref h0, .ref h1, .int p1]) ++ List.replicate (4 - (lg_sl ([.ref h0, .ref h1, .int p1])).length) Slot.unset).toArray = ls at hl ⊢
  have hl : lv_has ls 4 [(0, .ref h0), (1, .ref h1), (2, .int p1)] := hl
  have hinX2 : ∀ w ∈ u_ws RX2 TX2 6, w ∈ wp_C_putWord := fun _ h => List.mem_cons_of_mem _ (List.mem_append_left _ (List.mem_append_left _ (List.mem_append_right _ h)))
  have hinX0 : ∀ w ∈ u_ws RX0 TX0 5, w ∈ wp_C_putWord := fun _ h => List.mem_cons_of_mem _ (List.mem_append_left _ (List.mem_append_right _ h))
  refine lv_aload_n hx hb dX0_putWord_0 rfl (lv_at hl 1 rfl) ?_
  have hPz := okF.kept fzl hS
  refine va_get (D := (dC, dI)) (ci := 3) (v := .int (nI px)) (C := RX2) (T := TX2) (N := 6) hx hb hts hinX2 hown hK hPz 0 rfl rfl 1 (by decide) (hts (.fieldLink RX0 51 "AgreedTalks$Line" "person" "I") (by decide +kernel)) (fun _ h9 => h9) rfl dX0_putWord_1 ?_
  refine lv_aload_n hx hb dX0_putWord_4 rfl (lv_at hl 1 rfl) ?_
  have hPz := okF.kept fzl hS
  refine va_get (D := (dC, dI)) (ci := 3) (v := .int (nI tt)) (C := RX2) (T := TX2) (N := 6) hx hb hts hinX2 hown hK hPz 0 rfl rfl 3 (by decide) (hts (.fieldLink RX0 48 "AgreedTalks$Line" "thing" "I") (by decide +kernel)) (fun _ h9 => h9) rfl dX0_putWord_5 ?_
  have hPc := hP.sub (ws' := []) [] rfl
  have hDc := hD.sub (ws' := []) [] (by decide) rfl
  have hKc := hK.sub (tys' := []) [] rfl
  have hFc := va_free (wc := []) hD hS hA [] rfl
  refine va_calli (va_runSN (As := [.int (nI px), .int (nI tt)]) (rest := []) ⟨hx, hb, hml, hown, hts⟩ (c_X6_cell l dC dI _ px tt) ⟨va_cnB 2 hts gc_C_putWord_X6_cell rfl rfl rfl nw0c (hts (.initialized RX6) (by decide +kernel)) (by decide +kernel) ⟨Nat.le_of_ble_eq_true rfl, Nat.le_of_ble_eq_true rfl⟩, (hts (.static yX6_cell) (by decide +kernel)), trivial⟩ ⟨fun a U g mk q => by obtain ⟨q0, q1, qP, qK, qD⟩ := q; exact ⟨q0, q1, qP, va_K.moved (u := U) (U := U.calling g mk a) (Vm.Alike.refl U.vm) qK, qD⟩, fun U hU hW => ⟨rfl, by rw [hU], by rw [hU]; exact hPc, va_K.moved hW.alike hKc, hDc.weaken (fun _ _ _ _ => trivial)⟩⟩ rfl rfl hl.1 rfl (lv_room (Nat.le_of_ble_eq_true rfl)) dX0_putWord_8 ⟨Nat.zero_le _, Nat.zero_le _⟩) hS (fun q _ h => hFc q h) hFc (fun r_1 u t H1 locs ht hvm hw hB hz1 hk1 hS => ?_)
  obtain ⟨hP1, hK1, hD1⟩ := hB
  rw [ht] at hP1
  obtain ⟨hP, hD⟩ := va_join (wr := [(h0, .inr (1, [.ref c0, .ref c1, .ref c2, .ref c3, .long sd])), (c0, .inl (cc0, 480, .inl u1)), (c1, .inl (cc1, 480, .inr (.inl u2))), (c2, .inl (cc2, 480, .inl u3)), (c3, .inl (cc3, 40, .inl u4))]) (w1 := []) hP hD [] [0, 1, 2, 3, 4] rfl rfl (by decide) (by decide) hk1 hFc hP1 hD1
  generalize H1 = H at hP hS ⊢
  have hP : va_P (dC, dI) vwCl [(h0, .inr (1, [.ref c0, .ref c1, .ref c2, .ref c3, .long sd])), (c0, .inl (cc0, 480, .inl u1)), (c1, .inl (cc1, 480, .inr (.inl u2))), (c2, .inl (cc2, 480, .inl u3)), (c3, .inl (cc3, 40, .inl u4))] H := hP
  have hD : va_D A [(h0, .inr (1, [.ref c0, .ref c1, .ref c2, .ref c3, .long sd])), (c0, .inl (cc0, 480, .inl u1)), (c1, .inl (cc1, 480, .inr (.inl u2))), (c2, .inl (cc2, 480, .inl u3)), (c3, .inl (cc3, 40, .inl u4))] := hD
  obtain rfl : r_1 = (nI (px * 40 + tt)) := hw
  refine lv_istore_n (lv' := [(3, .int (nI (px * 40 + tt))), (0, .ref h0), (1, .ref h1), (2, .int p1)]) hx hb dX0_putWord_11 rfl hl (by decide) rfl (fun ls hl => ?_)
  refine lv_aload_n hx hb dX0_putWord_12 rfl (lv_at hl 1 rfl) ?_
  refine va_get (D := (dC, dI)) (ci := 1) (v := .ref c0) (C := RX0) (T := TX0) (N := 5) hx hb hts hinX0 hown hK hP 0 rfl rfl 0 (by decide) (hts (.fieldLink RX0 9 "AgreedTalks$Claims" "words" "[I") (by decide +kernel)) (fun _ h9 => h9) rfl dX0_putWord_13 ?_
  refine lv_iload_n hx hb dX0_putWord_16 rfl (lv_at hl 0 rfl) ?_
  refine va_iald hx hb hK hP 1 0 rfl rfl (vp_in_nI (by omega) (by omega)) dX0_putWord_17 ?_
  refine lv_topi (fun x_2 ex_2 => ?_)
  rw [show (Int32.toNatClampNeg (nI (px * 40 + tt))) = px * 40 + tt from nI_clamp (by omega)] at ex_2
  refine lv_iconst (v := (-1)) hx hb dX0_putWord_18 (by decide) ?_
  refine lv_icmp_eq (tgt := 42) hx hb dX0_putWord_19 (by decide) (fun c_3 => ?_) (fun c_3 => ?_)
  · refine lv_aload_n hx hb dX0_putWord_42 rfl (lv_at hl 1 rfl) ?_
    refine va_get (D := (dC, dI)) (ci := 1) (v := .ref c0) (C := RX0) (T := TX0) (N := 5) hx hb hts hinX0 hown hK hP 0 rfl rfl 0 (by decide) (hts (.fieldLink RX0 9 "AgreedTalks$Claims" "words" "[I") (by decide +kernel)) (fun _ h9 => h9) rfl dX0_putWord_43 ?_
    refine lv_iload_n hx hb dX0_putWord_46 rfl (lv_at hl 0 rfl) ?_
    refine lv_iload_n hx hb dX0_putWord_47 rfl (lv_at hl 3 rfl) ?_
    refine va_iast hx hb hK hP hD hS 1 0 rfl rfl (vp_in_nI (by omega) (by omega)) dX0_putWord_48 (fun H locs hP hD hS => ?_)
    have hP : va_P (dC, dI) vwCl [(h0, .inr (1, [.ref c0, .ref c1, .ref c2, .ref c3, .long sd])), (c0, .inl (cc0, 480, .inl (upd u1 (Int32.toNatClampNeg (nI (px * 40 + tt))) p1))), (c1, .inl (cc1, 480, .inr (.inl u2))), (c2, .inl (cc2, 480, .inl u3)), (c3, .inl (cc3, 40, .inl u4))] H := hP
    have hD : va_D A [(h0, .inr (1, [.ref c0, .ref c1, .ref c2, .ref c3, .long sd])), (c0, .inl (cc0, 480, .inl (upd u1 (Int32.toNatClampNeg (nI (px * 40 + tt))) p1))), (c1, .inl (cc1, 480, .inr (.inl u2))), (c2, .inl (cc2, 480, .inl u3)), (c3, .inl (cc3, 40, .inl u4))] := hD
    generalize ef_4 : upd u1 (Int32.toNatClampNeg (nI (px * 40 + tt))) p1 = f_4 at hP hD
    rw [show Int32.toNatClampNeg (nI (px * 40 + tt)) = px * 40 + tt from nI_clamp (by omega)] at ef_4
    refine lv_aload_n hx hb dX0_putWord_49 rfl (lv_at hl 1 rfl) ?_
    refine va_get (D := (dC, dI)) (ci := 1) (v := .ref c1) (C := RX0) (T := TX0) (N := 5) hx hb hts hinX0 hown hK hP 0 rfl rfl 1 (by decide) (hts (.fieldLink RX0 15 "AgreedTalks$Claims" "grounds" "[J") (by decide +kernel)) (fun _ h9 => h9) rfl dX0_putWord_50 ?_
    refine lv_iload_n hx hb dX0_putWord_53 rfl (lv_at hl 0 rfl) ?_
    refine lv_aload_n hx hb dX0_putWord_54 rfl (lv_at hl 2 rfl) ?_
    have hPz := okF.kept fzl hS
    refine va_get (D := (dC, dI)) (ci := 3) (v := .long gr) (C := RX2) (T := TX2) (N := 6) hx hb hts hinX2 hown hK hPz 0 rfl rfl 5 (by decide) (hts (.fieldLink RX0 58 "AgreedTalks$Line" "grounds" "J") (by decide +kernel)) (fun _ h9 => h9) rfl dX0_putWord_55 ?_
    refine va_last hx hb hK hP hD hS 2 1 rfl rfl (vp_in_nI (by omega) (by omega)) dX0_putWord_58 (fun H locs hP hD hS => ?_)
    have hP : va_P (dC, dI) vwCl [(h0, .inr (1, [.ref c0, .ref c1, .ref c2, .ref c3, .long sd])), (c0, .inl (cc0, 480, .inl f_4)), (c1, .inl (cc1, 480, .inr (.inl (vp_updL u2 (Int32.toNatClampNeg (nI (px * 40 + tt))) gr)))), (c2, .inl (cc2, 480, .inl u3)), (c3, .inl (cc3, 40, .inl u4))] H := hP
    have hD : va_D A [(h0, .inr (1, [.ref c0, .ref c1, .ref c2, .ref c3, .long sd])), (c0, .inl (cc0, 480, .inl f_4)), (c1, .inl (cc1, 480, .inr (.inl (vp_updL u2 (Int32.toNatClampNeg (nI (px * 40 + tt))) gr)))), (c2, .inl (cc2, 480, .inl u3)), (c3, .inl (cc3, 40, .inl u4))] := hD
    generalize ef_5 : vp_updL u2 (Int32.toNatClampNeg (nI (px * 40 + tt))) gr = f_5 at hP hD
    rw [show Int32.toNatClampNeg (nI (px * 40 + tt)) = px * 40 + tt from nI_clamp (by omega)] at ef_5
    have hP9 := hP.sub (ws' := [(h0, .inr (1, [.ref c0, .ref c1, .ref c2, .ref c3, .long sd])), (c0, .inl (cc0, 480, .inl f_4)), (c1, .inl (cc1, 480, .inr (.inl f_5))), (c2, .inl (cc2, 480, .inl u3)), (c3, .inl (cc3, 40, .inl u4))]) [0, 1, 2, 3, 4] rfl
    have hD9 := hD.sub (ws' := [(h0, .inr (1, [.ref c0, .ref c1, .ref c2, .ref c3, .long sd])), (c0, .inl (cc0, 480, .inl f_4)), (c1, .inl (cc1, 480, .inr (.inl f_5))), (c2, .inl (cc2, 480, .inl u3)), (c3, .inl (cc3, 40, .inl u4))]) [0, 1, 2, 3, 4] (by decide) rfl
    have hK9 := hK.sub (tys' := [(cc0, .int), (cc1, .long), (cc2, .int), (cc3, .int)]) [0, 1, 2, 3] rfl
    exact W.vret hx hb hr (fun t ht hW => ⟨⟨(), rfl, trivial, sd, f_4, f_5, u3, u4, by rw [ht]; exact hP9, va_K.moved hW.alike hK9, hD9⟩, hS.F ht⟩) hS.2.2 dX0_putWord_59
  · refine lv_aload_n hx hb dX0_putWord_22 rfl (lv_at hl 1 rfl) ?_
    refine va_get (D := (dC, dI)) (ci := 1) (v := .ref c0) (C := RX0) (T := TX0) (N := 5) hx hb hts hinX0 hown hK hP 0 rfl rfl 0 (by decide) (hts (.fieldLink RX0 9 "AgreedTalks$Claims" "words" "[I") (by decide +kernel)) (fun _ h9 => h9) rfl dX0_putWord_23 ?_
    refine lv_iload_n hx hb dX0_putWord_26 rfl (lv_at hl 0 rfl) ?_
    refine va_iald hx hb hK hP 1 0 rfl rfl (vp_in_nI (by omega) (by omega)) dX0_putWord_27 ?_
    refine lv_topi (fun x_6 ex_6 => ?_)
    rw [show (Int32.toNatClampNeg (nI (px * 40 + tt))) = px * 40 + tt from nI_clamp (by omega)] at ex_6
    refine lv_iload_n hx hb dX0_putWord_28 rfl (lv_at hl 3 rfl) ?_
    refine lv_icmp_eq (tgt := 42) hx hb dX0_putWord_29 (by decide) (fun c_7 => ?_) (fun c_7 => ?_)
    · refine lv_aload_n hx hb dX0_putWord_42 rfl (lv_at hl 1 rfl) ?_
      refine va_get (D := (dC, dI)) (ci := 1) (v := .ref c0) (C := RX0) (T := TX0) (N := 5) hx hb hts hinX0 hown hK hP 0 rfl rfl 0 (by decide) (hts (.fieldLink RX0 9 "AgreedTalks$Claims" "words" "[I") (by decide +kernel)) (fun _ h9 => h9) rfl dX0_putWord_43 ?_
      refine lv_iload_n hx hb dX0_putWord_46 rfl (lv_at hl 0 rfl) ?_
      refine lv_iload_n hx hb dX0_putWord_47 rfl (lv_at hl 3 rfl) ?_
      refine va_iast hx hb hK hP hD hS 1 0 rfl rfl (vp_in_nI (by omega) (by omega)) dX0_putWord_48 (fun H locs hP hD hS => ?_)
      have hP : va_P (dC, dI) vwCl [(h0, .inr (1, [.ref c0, .ref c1, .ref c2, .ref c3, .long sd])), (c0, .inl (cc0, 480, .inl (upd u1 (Int32.toNatClampNeg (nI (px * 40 + tt))) p1))), (c1, .inl (cc1, 480, .inr (.inl u2))), (c2, .inl (cc2, 480, .inl u3)), (c3, .inl (cc3, 40, .inl u4))] H := hP
      have hD : va_D A [(h0, .inr (1, [.ref c0, .ref c1, .ref c2, .ref c3, .long sd])), (c0, .inl (cc0, 480, .inl (upd u1 (Int32.toNatClampNeg (nI (px * 40 + tt))) p1))), (c1, .inl (cc1, 480, .inr (.inl u2))), (c2, .inl (cc2, 480, .inl u3)), (c3, .inl (cc3, 40, .inl u4))] := hD
      generalize ef_8 : upd u1 (Int32.toNatClampNeg (nI (px * 40 + tt))) p1 = f_8 at hP hD
      rw [show Int32.toNatClampNeg (nI (px * 40 + tt)) = px * 40 + tt from nI_clamp (by omega)] at ef_8
      refine lv_aload_n hx hb dX0_putWord_49 rfl (lv_at hl 1 rfl) ?_
      refine va_get (D := (dC, dI)) (ci := 1) (v := .ref c1) (C := RX0) (T := TX0) (N := 5) hx hb hts hinX0 hown hK hP 0 rfl rfl 1 (by decide) (hts (.fieldLink RX0 15 "AgreedTalks$Claims" "grounds" "[J") (by decide +kernel)) (fun _ h9 => h9) rfl dX0_putWord_50 ?_
      refine lv_iload_n hx hb dX0_putWord_53 rfl (lv_at hl 0 rfl) ?_
      refine lv_aload_n hx hb dX0_putWord_54 rfl (lv_at hl 2 rfl) ?_
      have hPz := okF.kept fzl hS
      refine va_get (D := (dC, dI)) (ci := 3) (v := .long gr) (C := RX2) (T := TX2) (N := 6) hx hb hts hinX2 hown hK hPz 0 rfl rfl 5 (by decide) (hts (.fieldLink RX0 58 "AgreedTalks$Line" "grounds" "J") (by decide +kernel)) (fun _ h9 => h9) rfl dX0_putWord_55 ?_
      refine va_last hx hb hK hP hD hS 2 1 rfl rfl (vp_in_nI (by omega) (by omega)) dX0_putWord_58 (fun H locs hP hD hS => ?_)
      have hP : va_P (dC, dI) vwCl [(h0, .inr (1, [.ref c0, .ref c1, .ref c2, .ref c3, .long sd])), (c0, .inl (cc0, 480, .inl f_8)), (c1, .inl (cc1, 480, .inr (.inl (vp_updL u2 (Int32.toNatClampNeg (nI (px * 40 + tt))) gr)))), (c2, .inl (cc2, 480, .inl u3)), (c3, .inl (cc3, 40, .inl u4))] H := hP
      have hD : va_D A [(h0, .inr (1, [.ref c0, .ref c1, .ref c2, .ref c3, .long sd])), (c0, .inl (cc0, 480, .inl f_8)), (c1, .inl (cc1, 480, .inr (.inl (vp_updL u2 (Int32.toNatClampNeg (nI (px * 40 + tt))) gr)))), (c2, .inl (cc2, 480, .inl u3)), (c3, .inl (cc3, 40, .inl u4))] := hD
      generalize ef_9 : vp_updL u2 (Int32.toNatClampNeg (nI (px * 40 + tt))) gr = f_9 at hP hD
      rw [show Int32.toNatClampNeg (nI (px * 40 + tt)) = px * 40 + tt from nI_clamp (by omega)] at ef_9
      have hP9 := hP.sub (ws' := [(h0, .inr (1, [.ref c0, .ref c1, .ref c2, .ref c3, .long sd])), (c0, .inl (cc0, 480, .inl f_8)), (c1, .inl (cc1, 480, .inr (.inl f_9))), (c2, .inl (cc2, 480, .inl u3)), (c3, .inl (cc3, 40, .inl u4))]) [0, 1, 2, 3, 4] rfl
      have hD9 := hD.sub (ws' := [(h0, .inr (1, [.ref c0, .ref c1, .ref c2, .ref c3, .long sd])), (c0, .inl (cc0, 480, .inl f_8)), (c1, .inl (cc1, 480, .inr (.inl f_9))), (c2, .inl (cc2, 480, .inl u3)), (c3, .inl (cc3, 40, .inl u4))]) [0, 1, 2, 3, 4] (by decide) rfl
      have hK9 := hK.sub (tys' := [(cc0, .int), (cc1, .long), (cc2, .int), (cc3, .int)]) [0, 1, 2, 3] rfl
      exact W.vret hx hb hr (fun t ht hW => ⟨⟨(), rfl, trivial, sd, f_8, f_9, u3, u4, by rw [ht]; exact hP9, va_K.moved hW.alike hK9, hD9⟩, hS.F ht⟩) hS.2.2 dX0_putWord_59
    · refine lv_aload_n hx hb dX0_putWord_32 rfl (lv_at hl 1 rfl) ?_
      refine va_get (D := (dC, dI)) (ci := 1) (v := .ref c2) (C := RX0) (T := TX0) (N := 5) hx hb hts hinX0 hown hK hP 0 rfl rfl 2 (by decide) (hts (.fieldLink RX0 19 "AgreedTalks$Claims" "turns" "[I") (by decide +kernel)) (fun _ h9 => h9) rfl dX0_putWord_33 ?_
      refine lv_iload_n hx hb dX0_putWord_36 rfl (lv_at hl 0 rfl) ?_
      refine lv_dup2_11 hx hb dX0_putWord_37 rfl rfl ?_
      refine va_iald hx hb hK hP 3 2 rfl rfl (vp_in_nI (by omega) (by omega)) dX0_putWord_38 ?_
      refine lv_topi (fun x_10 ex_10 => ?_)
      rw [show (Int32.toNatClampNeg (nI (px * 40 + tt))) = px * 40 + tt from nI_clamp (by omega)] at ex_10
      refine lv_iconst (v := 1) hx hb dX0_putWord_39 (by decide) ?_
      refine lv_iadd hx hb dX0_putWord_40 ?_
      refine lv_topi (fun x_11 ex_11 => ?_)
      refine va_iast hx hb hK hP hD hS 3 2 rfl rfl (vp_in_nI (by omega) (by omega)) dX0_putWord_41 (fun H locs hP hD hS => ?_)
      have hP : va_P (dC, dI) vwCl [(h0, .inr (1, [.ref c0, .ref c1, .ref c2, .ref c3, .long sd])), (c0, .inl (cc0, 480, .inl u1)), (c1, .inl (cc1, 480, .inr (.inl u2))), (c2, .inl (cc2, 480, .inl (upd u3 (Int32.toNatClampNeg (nI (px * 40 + tt))) x_11))), (c3, .inl (cc3, 40, .inl u4))] H := hP
      have hD : va_D A [(h0, .inr (1, [.ref c0, .ref c1, .ref c2, .ref c3, .long sd])), (c0, .inl (cc0, 480, .inl u1)), (c1, .inl (cc1, 480, .inr (.inl u2))), (c2, .inl (cc2, 480, .inl (upd u3 (Int32.toNatClampNeg (nI (px * 40 + tt))) x_11))), (c3, .inl (cc3, 40, .inl u4))] := hD
      generalize ef_12 : upd u3 (Int32.toNatClampNeg (nI (px * 40 + tt))) x_11 = f_12 at hP hD
      rw [show Int32.toNatClampNeg (nI (px * 40 + tt)) = px * 40 + tt from nI_clamp (by omega)] at ef_12
      refine lv_aload_n hx hb dX0_putWord_42 rfl (lv_at hl 1 rfl) ?_
      refine va_get (D := (dC, dI)) (ci := 1) (v := .ref c0) (C := RX0) (T := TX0) (N := 5) hx hb hts hinX0 hown hK hP 0 rfl rfl 0 (by decide) (hts (.fieldLink RX0 9 "AgreedTalks$Claims" "words" "[I") (by decide +kernel)) (fun _ h9 => h9) rfl dX0_putWord_43 ?_
      refine lv_iload_n hx hb dX0_putWord_46 rfl (lv_at hl 0 rfl) ?_
      refine lv_iload_n hx hb dX0_putWord_47 rfl (lv_at hl 3 rfl) ?_
      refine va_iast hx hb hK hP hD hS 1 0 rfl rfl (vp_in_nI (by omega) (by omega)) dX0_putWord_48 (fun H locs hP hD hS => ?_)
      have hP : va_P (dC, dI) vwCl [(h0, .inr (1, [.ref c0, .ref c1, .ref c2, .ref c3, .long sd])), (c0, .inl (cc0, 480, .inl (upd u1 (Int32.toNatClampNeg (nI (px * 40 + tt))) p1))), (c1, .inl (cc1, 480, .inr (.inl u2))), (c2, .inl (cc2, 480, .inl f_12)), (c3, .inl (cc3, 40, .inl u4))] H := hP
      have hD : va_D A [(h0, .inr (1, [.ref c0, .ref c1, .ref c2, .ref c3, .long sd])), (c0, .inl (cc0, 480, .inl (upd u1 (Int32.toNatClampNeg (nI (px * 40 + tt))) p1))), (c1, .inl (cc1, 480, .inr (.inl u2))), (c2, .inl (cc2, 480, .inl f_12)), (c3, .inl (cc3, 40, .inl u4))] := hD
      generalize ef_13 : upd u1 (Int32.toNatClampNeg (nI (px * 40 + tt))) p1 = f_13 at hP hD
      rw [show Int32.toNatClampNeg (nI (px * 40 + tt)) = px * 40 + tt from nI_clamp (by omega)] at ef_13
      refine lv_aload_n hx hb dX0_putWord_49 rfl (lv_at hl 1 rfl) ?_
      refine va_get (D := (dC, dI)) (ci := 1) (v := .ref c1) (C := RX0) (T := TX0) (N := 5) hx hb hts hinX0 hown hK hP 0 rfl rfl 1 (by decide) (hts (.fieldLink RX0 15 "AgreedTalks$Claims" "grounds" "[J") (by decide +kernel)) (fun _ h9 => h9) rfl dX0_putWord_50 ?_
      refine lv_iload_n hx hb dX0_putWord_53 rfl (lv_at hl 0 rfl) ?_
      refine lv_aload_n hx hb dX0_putWord_54 rfl (lv_at hl 2 rfl) ?_
      have hPz := okF.kept fzl hS
      refine va_get (D := (dC, dI)) (ci := 3) (v := .long gr) (C := RX2) (T := TX2) (N := 6) hx hb hts hinX2 hown hK hPz 0 rfl rfl 5 (by decide) (hts (.fieldLink RX0 58 "AgreedTalks$Line" "grounds" "J") (by decide +kernel)) (fun _ h9 => h9) rfl dX0_putWord_55 ?_
      refine va_last hx hb hK hP hD hS 2 1 rfl rfl (vp_in_nI (by omega) (by omega)) dX0_putWord_58 (fun H locs hP hD hS => ?_)
      have hP : va_P (dC, dI) vwCl [(h0, .inr (1, [.ref c0, .ref c1, .ref c2, .ref c3, .long sd])), (c0, .inl (cc0, 480, .inl f_13)), (c1, .inl (cc1, 480, .inr (.inl (vp_updL u2 (Int32.toNatClampNeg (nI (px * 40 + tt))) gr)))), (c2, .inl (cc2, 480, .inl f_12)), (c3, .inl (cc3, 40, .inl u4))] H := hP
      have hD : va_D A [(h0, .inr (1, [.ref c0, .ref c1, .ref c2, .ref c3, .long sd])), (c0, .inl (cc0, 480, .inl f_13)), (c1, .inl (cc1, 480, .inr (.inl (vp_updL u2 (Int32.toNatClampNeg (nI (px * 40 + tt))) gr)))), (c2, .inl (cc2, 480, .inl f_12)), (c3, .inl (cc3, 40, .inl u4))] := hD
      generalize ef_14 : vp_updL u2 (Int32.toNatClampNeg (nI (px * 40 + tt))) gr = f_14 at hP hD
      rw [show Int32.toNatClampNeg (nI (px * 40 + tt)) = px * 40 + tt from nI_clamp (by omega)] at ef_14
      have hP9 := hP.sub (ws' := [(h0, .inr (1, [.ref c0, .ref c1, .ref c2, .ref c3, .long sd])), (c0, .inl (cc0, 480, .inl f_13)), (c1, .inl (cc1, 480, .inr (.inl f_14))), (c2, .inl (cc2, 480, .inl f_12)), (c3, .inl (cc3, 40, .inl u4))]) [0, 1, 2, 3, 4] rfl
      have hD9 := hD.sub (ws' := [(h0, .inr (1, [.ref c0, .ref c1, .ref c2, .ref c3, .long sd])), (c0, .inl (cc0, 480, .inl f_13)), (c1, .inl (cc1, 480, .inr (.inl f_14))), (c2, .inl (cc2, 480, .inl f_12)), (c3, .inl (cc3, 40, .inl u4))]) [0, 1, 2, 3, 4] (by decide) rfl
      have hK9 := hK.sub (tys' := [(cc0, .int), (cc1, .long), (cc2, .int), (cc3, .int)]) [0, 1, 2, 3] rfl
      exact W.vret hx hb hr (fun t ht hW => ⟨⟨(), rfl, trivial, sd, f_13, f_14, f_12, u4, by rw [ht]; exact hP9, va_K.moved hW.alike hK9, hD9⟩, hS.F ht⟩) hS.2.2 dX0_putWord_59
def wp_C_hear : List Cond := .code yX0_hear cX0_hear 2 none :: (([.fieldLink RX0 38 "AgreedTalks$Line" "kind" "I", .fieldLink RX0 22 "AgreedTalks$Claims" "marks" "[I", .fieldLink RX0 48 "AgreedTalks$Line" "thing" "I"] : List Cond) ++ wsX20 ++ wsX00 ++ (wsV RX0 44 RX0 yX0_putWord wp_C_putWord))
theorem gc_C_hear_C_putWord : GoodIn wp_C_hear (wsV RX0 44 RX0 yX0_putWord wp_C_putWord) := goodIn_sub (fun _ h => List.mem_cons_of_mem _ (List.mem_append_right _ h)) (by decide +kernel)
set_option maxRecDepth 20000 in
theorem gi_C_hear : GoodIn lw_tbl wp_C_hear := (goodIn_ca (goodIn_ca (goodIn_ca (goodIn_r (.code yX0_hear cX0_hear 2 none :: ([.fieldLink RX0 38 "AgreedTalks$Line" "kind" "I", .fieldLink RX0 22 "AgreedTalks$Claims" "marks" "[I", .fieldLink RX0 48 "AgreedTalks$Line" "thing" "I"] : List Cond)) [549, 346, 170, 354] (by decide +kernel) (by decide +kernel)) wi_wsX2) wi_wsX0) (goodIn_app (goodIn_r _ [550, 552, 20, 55] (by decide +kernel) (by decide +kernel)) gi_C_putWord))
set_option maxHeartbeats 4000000 in
set_option maxRecDepth 100000 in
/-- Claims.hear -/
theorem c_C_hear (l : Launch) (dC : Nat → ClassId) (dI : Nat → Nat → Nat) (sz : Nat) (h0 : Nat) (c0 : Nat) (c1 : Nat) (c2 : Nat) (c3 : Nat) (sd : Int64) (cc0 : ClassId) (cc1 : ClassId) (cc2 : ClassId) (cc3 : ClassId) (u1 : Nat → Int32) (u2 : Nat → Int64) (u3 : Nat → Int32) (u4 : Nat → Int32) (h1 : Nat) (tt : Nat) (kd : Int32) (pe : Int32) (ot : Int32) (dy : Int32) (gr : Int64) (qtt : tt < 40) (hln : okLn kd pe ot) : Met l yX0_hear wp_C_hear ({ frames := 2, cells := 0, slots := 0, locals := 70 }) (va_Pc [.ref h0, .ref h1] (fun U => U.heap.size = sz ∧ va_P (dC, dI) vwCl [(h0, .inr (1, [.ref c0, .ref c1, .ref c2, .ref c3, .long sd])), (c0, .inl (cc0, 480, .inl u1)), (c1, .inl (cc1, 480, .inr (.inl u2))), (c2, .inl (cc2, 480, .inl u3)), (c3, .inl (cc3, 40, .inl u4))] U.heap ∧ va_K (dC, dI) vwCl [(cc0, .int), (cc1, .long), (cc2, .int), (cc3, .int)] U ∧ va_D (fun _ => True) [(h0, .inr (1, [.ref c0, .ref c1, .ref c2, .ref c3, .long sd])), (c0, .inl (cc0, 480, .inl u1)), (c1, .inl (cc1, 480, .inr (.inl u2))), (c2, .inl (cc2, 480, .inl u3)), (c3, .inl (cc3, 40, .inl u4))] ∧ va_Nw (.methodLinkNest RX0 54 yX6_cell "AgreedTalks") U ∧ okF (dC, dI) vwCl (h1, .inr (3, [.int kd, .int pe, .int ot, .int (nI tt), .int dy, .long gr])) (va_A [(h0, .inr (1, [.ref c0, .ref c1, .ref c2, .ref c3, .long sd])), (c0, .inl (cc0, 480, .inl u1)), (c1, .inl (cc1, 480, .inr (.inl u2))), (c2, .inl (cc2, 480, .inl u3)), (c3, .inl (cc3, 40, .inl u4))] sz) U.heap)) (va_Qv (fun (_ : Unit) => True) (fun (_ : Unit) (t : State) => ∃ (s2 : Int64), ∃ (x1 : Nat → Int32), ∃ (x2 : Nat → Int64), ∃ (x3 : Nat → Int32), ∃ (x4 : Nat → Int32), va_P (dC, dI) vwCl [(h0, .inr (1, [.ref c0, .ref c1, .ref c2, .ref c3, .long s2])), (c0, .inl (cc0, 480, .inl x1)), (c1, .inl (cc1, 480, .inr (.inl x2))), (c2, .inl (cc2, 480, .inl x3)), (c3, .inl (cc3, 40, .inl x4))] t.heap ∧ va_K (dC, dI) vwCl [(cc0, .int), (cc1, .long), (cc2, .int), (cc3, .int)] t ∧ va_D (va_A [(h0, .inr (1, [.ref c0, .ref c1, .ref c2, .ref c3, .long sd])), (c0, .inl (cc0, 480, .inl u1)), (c1, .inl (cc1, 480, .inr (.inl u2))), (c2, .inl (cc2, 480, .inl u3)), (c3, .inl (cc3, 40, .inl u4))] sz) [(h0, .inr (1, [.ref c0, .ref c1, .ref c2, .ref c3, .long s2])), (c0, .inl (cc0, 480, .inl x1)), (c1, .inl (cc1, 480, .inr (.inl x2))), (c2, .inl (cc2, 480, .inl x3)), (c3, .inl (cc3, 40, .inl x4))]) (va_A [(h0, .inr (1, [.ref c0, .ref c1, .ref c2, .ref c3, .long sd])), (c0, .inl (cc0, 480, .inl u1)), (c1, .inl (cc1, 480, .inr (.inl u2))), (c2, .inl (cc2, 480, .inl u3)), (c3, .inl (cc3, 40, .inl u4))] sz)) 0 0 (va_A [(h0, .inr (1, [.ref c0, .ref c1, .ref c2, .ref c3, .long sd])), (c0, .inl (cc0, 480, .inl u1)), (c1, .inl (cc1, 480, .inr (.inl u2))), (c2, .inl (cc2, 480, .inl u3)), (c3, .inl (cc3, 40, .inl u4))] sz) := by
  refine Met.ofW (cc := cX0_hear) (maxL := 2) (ret := none) (by decide) rfl ?_
  intro p e s m args below meth c s₁ B hml hv
  obtain ⟨rfl, hsz, hP, hK, hD0, nw0c, fzl⟩ := hv
  have hx := B.exec
  have hb := B.bytes
  have hr := B.returns
  have hts := atoms_spec (ws := wp_C_hear) B.pre
  have hown : s.vm.findClass RX0 = some m.cls := findClass_of_methodNamed B.named
  have hlocks := B.notSynchronized
  subst hsz
  have hD := hD0.self (sz := s.heap.size)
  generalize hAe : va_A [(h0, .inr (1, [.ref c0, .ref c1, .ref c2, .ref c3, .long sd])), (c0, .inl (cc0, 480, .inl u1)), (c1, .inl (cc1, 480, .inr (.inl u2))), (c2, .inl (cc2, 480, .inl u3)), (c3, .inl (cc3, 40, .inl u4))] s.heap.size = A at hD fzl ⊢
  have hA : ∀ q : Nat, s.heap.size ≤ q → A q := fun q h => by rw [← hAe]; exact Or.inr h
  have hS : va_S A s.heap s.heap [] := va_S.rf
  have hP : va_P (dC, dI) vwCl [(h0, .inr (1, [.ref c0, .ref c1, .ref c2, .ref c3, .long sd])), (c0, .inl (cc0, 480, .inl u1)), (c1, .inl (cc1, 480, .inr (.inl u2))), (c2, .inl (cc2, 480, .inl u3)), (c3, .inl (cc3, 40, .inl u4))] s.heap := hP
  have hl := lv_entry ([.ref h0, .ref h1]) (n := 2) (Nat.le_of_ble_eq_true rfl)
  rw [lg_entry_eq]
  generalize (lg_sl ([.ref h0, .ref h1]) ++ List.replicate (2 - (lg_sl ([.ref h0, .ref h1])).length) Slot.unset).toArray = ls at hl ⊢
  have hl : lv_has ls 2 [(0, .ref h0), (1, .ref h1)] := hl
  have hinX2 : ∀ w ∈ u_ws RX2 TX2 6, w ∈ wp_C_hear := fun _ h => List.mem_cons_of_mem _ (List.mem_append_left _ (List.mem_append_left _ (List.mem_append_right _ h)))
  have hinX0 : ∀ w ∈ u_ws RX0 TX0 5, w ∈ wp_C_hear := fun _ h => List.mem_cons_of_mem _ (List.mem_append_left _ (List.mem_append_right _ h))
  refine lv_aload_n hx hb dX0_hear_0 rfl (lv_at hl 1 rfl) ?_
  have hPz := okF.kept fzl hS
  refine va_get (D := (dC, dI)) (ci := 3) (v := .int kd) (C := RX2) (T := TX2) (N := 6) hx hb hts hinX2 hown hK hPz 0 rfl rfl 0 (by decide) (hts (.fieldLink RX0 38 "AgreedTalks$Line" "kind" "I") (by decide +kernel)) (fun _ h9 => h9) rfl dX0_hear_1 ?_
  by_cases t_1_4 : kd = 4
  · have tx : (kd).toInt = 4 := by rw [t_1_4]; decide
    refine lv_tableIn (off := 32) (tgt := 36) hx hb dX0_hear_4 (by rw [tx]; decide) (by rw [tx]; decide) (by rw [tx]; decide +kernel) (by decide) ?_
    obtain ⟨x_2, hx_2, ex_2⟩ := hln.2 (Or.inr (Or.inr (Or.inl t_1_4)))
    subst ex_2
    refine lv_aload_n hx hb dX0_hear_36 rfl (lv_at hl 0 rfl) ?_
    refine lv_aload_n hx hb dX0_hear_37 rfl (lv_at hl 1 rfl) ?_
    refine lv_iconst (v := 1) hx hb dX0_hear_38 (by decide) ?_
    have hPc := hP.sub (ws' := [(h0, .inr (1, [.ref c0, .ref c1, .ref c2, .ref c3, .long sd])), (c0, .inl (cc0, 480, .inl u1)), (c1, .inl (cc1, 480, .inr (.inl u2))), (c2, .inl (cc2, 480, .inl u3)), (c3, .inl (cc3, 40, .inl u4))]) [0, 1, 2, 3, 4] rfl
    have hDc := hD.sub (ws' := [(h0, .inr (1, [.ref c0, .ref c1, .ref c2, .ref c3, .long sd])), (c0, .inl (cc0, 480, .inl u1)), (c1, .inl (cc1, 480, .inr (.inl u2))), (c2, .inl (cc2, 480, .inl u3)), (c3, .inl (cc3, 40, .inl u4))]) [0, 1, 2, 3, 4] (by decide) rfl
    have hKc := hK.sub (tys' := [(cc0, .int), (cc1, .long), (cc2, .int), (cc3, .int)]) [0, 1, 2, 3] rfl
    have hFc := va_free (wc := [(h0, .inr (1, [.ref c0, .ref c1, .ref c2, .ref c3, .long sd])), (c0, .inl (cc0, 480, .inl u1)), (c1, .inl (cc1, 480, .inr (.inl u2))), (c2, .inl (cc2, 480, .inl u3)), (c3, .inl (cc3, 40, .inl u4))]) hD hS hA [0, 1, 2, 3, 4] rfl
    refine va_callv (va_runV (As := [.ref h1, .int 1]) (rest := []) ⟨hx, hb, hml, hown, hts⟩ (c_C_putWord l dC dI _ h0 c0 c1 c2 c3 sd cc0 cc1 cc2 cc3 u1 u2 u3 u4 h1 tt x_2 kd ot dy gr 1 (by omega) (by omega)) (cwV 2 hts gc_C_hear_C_putWord rfl rfl rfl (by decide +kernel) ⟨Nat.le_of_ble_eq_true rfl, Nat.le_of_ble_eq_true rfl⟩) ⟨fun a U g mk q => by obtain ⟨q0, q1, qP, qK, qD, q_nw0c, q_fzl⟩ := q; exact ⟨q0, q1, qP, va_K.moved (u := U) (U := U.calling g mk a) (Vm.Alike.refl U.vm) qK, qD, va_Nw.same rfl rfl q_nw0c, q_fzl⟩, va_recv hKc hPc (ci := 1) (q0 := 0) rfl rfl, fun U hU hW => ⟨rfl, by rw [hU], by rw [hU]; exact hPc, va_K.moved hW.alike hKc, hDc.weaken (fun _ _ _ _ => trivial), va_Nw.warmM hW nw0c, by rw [hU]; exact okF.pass fzl hS hFc⟩⟩ rfl rfl hl.1 rfl (lv_room (Nat.le_of_ble_eq_true rfl)) dX0_hear_39 ⟨Nat.zero_le _, Nat.zero_le _⟩) hS (fun q _ h => hFc q h) hFc (fun u t H1 locs ht hvm hw hB hz1 hk1 hS => ?_)
    obtain ⟨s2_3, x1_4, x2_5, x3_6, x4_7, hP1, hK1, hD1⟩ := hB
    rw [ht] at hP1
    obtain ⟨hP, hD⟩ := va_join (wr := []) (w1 := [(h0, .inr (1, [.ref c0, .ref c1, .ref c2, .ref c3, .long s2_3])), (c0, .inl (cc0, 480, .inl x1_4)), (c1, .inl (cc1, 480, .inr (.inl x2_5))), (c2, .inl (cc2, 480, .inl x3_6)), (c3, .inl (cc3, 40, .inl x4_7))]) hP hD [0, 1, 2, 3, 4] [] rfl rfl (by decide) (by decide) hk1 hFc hP1 hD1
    generalize H1 = H at hP hS ⊢
    have hP : va_P (dC, dI) vwCl [(h0, .inr (1, [.ref c0, .ref c1, .ref c2, .ref c3, .long s2_3])), (c0, .inl (cc0, 480, .inl x1_4)), (c1, .inl (cc1, 480, .inr (.inl x2_5))), (c2, .inl (cc2, 480, .inl x3_6)), (c3, .inl (cc3, 40, .inl x4_7))] H := hP
    have hD : va_D A [(h0, .inr (1, [.ref c0, .ref c1, .ref c2, .ref c3, .long s2_3])), (c0, .inl (cc0, 480, .inl x1_4)), (c1, .inl (cc1, 480, .inr (.inl x2_5))), (c2, .inl (cc2, 480, .inl x3_6)), (c3, .inl (cc3, 40, .inl x4_7))] := hD
    refine lv_goto (tgt := 80) hx hb dX0_hear_42 (by decide) ?_
    have hP9 := hP.sub (ws' := [(h0, .inr (1, [.ref c0, .ref c1, .ref c2, .ref c3, .long s2_3])), (c0, .inl (cc0, 480, .inl x1_4)), (c1, .inl (cc1, 480, .inr (.inl x2_5))), (c2, .inl (cc2, 480, .inl x3_6)), (c3, .inl (cc3, 40, .inl x4_7))]) [0, 1, 2, 3, 4] rfl
    have hD9 := hD.sub (ws' := [(h0, .inr (1, [.ref c0, .ref c1, .ref c2, .ref c3, .long s2_3])), (c0, .inl (cc0, 480, .inl x1_4)), (c1, .inl (cc1, 480, .inr (.inl x2_5))), (c2, .inl (cc2, 480, .inl x3_6)), (c3, .inl (cc3, 40, .inl x4_7))]) [0, 1, 2, 3, 4] (by decide) rfl
    have hK9 := hK.sub (tys' := [(cc0, .int), (cc1, .long), (cc2, .int), (cc3, .int)]) [0, 1, 2, 3] rfl
    exact W.vret hx hb hr (fun t ht hW => ⟨⟨(), rfl, trivial, s2_3, x1_4, x2_5, x3_6, x4_7, by rw [ht]; exact hP9, va_K.moved hW.alike hK9, hD9⟩, hS.F ht⟩) hS.2.2 dX0_hear_80
  by_cases t_1_5 : kd = 5
  · have tx : (kd).toInt = 5 := by rw [t_1_5]; decide
    refine lv_tableIn (off := 41) (tgt := 45) hx hb dX0_hear_4 (by rw [tx]; decide) (by rw [tx]; decide) (by rw [tx]; decide +kernel) (by decide) ?_
    obtain ⟨x_8, hx_8, ex_8⟩ := hln.2 (Or.inr (Or.inr (Or.inr t_1_5)))
    subst ex_8
    refine lv_aload_n hx hb dX0_hear_45 rfl (lv_at hl 0 rfl) ?_
    refine lv_aload_n hx hb dX0_hear_46 rfl (lv_at hl 1 rfl) ?_
    refine lv_iconst (v := 0) hx hb dX0_hear_47 (by decide) ?_
    have hPc := hP.sub (ws' := [(h0, .inr (1, [.ref c0, .ref c1, .ref c2, .ref c3, .long sd])), (c0, .inl (cc0, 480, .inl u1)), (c1, .inl (cc1, 480, .inr (.inl u2))), (c2, .inl (cc2, 480, .inl u3)), (c3, .inl (cc3, 40, .inl u4))]) [0, 1, 2, 3, 4] rfl
    have hDc := hD.sub (ws' := [(h0, .inr (1, [.ref c0, .ref c1, .ref c2, .ref c3, .long sd])), (c0, .inl (cc0, 480, .inl u1)), (c1, .inl (cc1, 480, .inr (.inl u2))), (c2, .inl (cc2, 480, .inl u3)), (c3, .inl (cc3, 40, .inl u4))]) [0, 1, 2, 3, 4] (by decide) rfl
    have hKc := hK.sub (tys' := [(cc0, .int), (cc1, .long), (cc2, .int), (cc3, .int)]) [0, 1, 2, 3] rfl
    have hFc := va_free (wc := [(h0, .inr (1, [.ref c0, .ref c1, .ref c2, .ref c3, .long sd])), (c0, .inl (cc0, 480, .inl u1)), (c1, .inl (cc1, 480, .inr (.inl u2))), (c2, .inl (cc2, 480, .inl u3)), (c3, .inl (cc3, 40, .inl u4))]) hD hS hA [0, 1, 2, 3, 4] rfl
    refine va_callv (va_runV (As := [.ref h1, .int 0]) (rest := []) ⟨hx, hb, hml, hown, hts⟩ (c_C_putWord l dC dI _ h0 c0 c1 c2 c3 sd cc0 cc1 cc2 cc3 u1 u2 u3 u4 h1 tt x_8 kd ot dy gr 0 (by omega) (by omega)) (cwV 2 hts gc_C_hear_C_putWord rfl rfl rfl (by decide +kernel) ⟨Nat.le_of_ble_eq_true rfl, Nat.le_of_ble_eq_true rfl⟩) ⟨fun a U g mk q => by obtain ⟨q0, q1, qP, qK, qD, q_nw0c, q_fzl⟩ := q; exact ⟨q0, q1, qP, va_K.moved (u := U) (U := U.calling g mk a) (Vm.Alike.refl U.vm) qK, qD, va_Nw.same rfl rfl q_nw0c, q_fzl⟩, va_recv hKc hPc (ci := 1) (q0 := 0) rfl rfl, fun U hU hW => ⟨rfl, by rw [hU], by rw [hU]; exact hPc, va_K.moved hW.alike hKc, hDc.weaken (fun _ _ _ _ => trivial), va_Nw.warmM hW nw0c, by rw [hU]; exact okF.pass fzl hS hFc⟩⟩ rfl rfl hl.1 rfl (lv_room (Nat.le_of_ble_eq_true rfl)) dX0_hear_48 ⟨Nat.zero_le _, Nat.zero_le _⟩) hS (fun q _ h => hFc q h) hFc (fun u t H1 locs ht hvm hw hB hz1 hk1 hS => ?_)
    obtain ⟨s2_9, x1_10, x2_11, x3_12, x4_13, hP1, hK1, hD1⟩ := hB
    rw [ht] at hP1
    obtain ⟨hP, hD⟩ := va_join (wr := []) (w1 := [(h0, .inr (1, [.ref c0, .ref c1, .ref c2, .ref c3, .long s2_9])), (c0, .inl (cc0, 480, .inl x1_10)), (c1, .inl (cc1, 480, .inr (.inl x2_11))), (c2, .inl (cc2, 480, .inl x3_12)), (c3, .inl (cc3, 40, .inl x4_13))]) hP hD [0, 1, 2, 3, 4] [] rfl rfl (by decide) (by decide) hk1 hFc hP1 hD1
    generalize H1 = H at hP hS ⊢
    have hP : va_P (dC, dI) vwCl [(h0, .inr (1, [.ref c0, .ref c1, .ref c2, .ref c3, .long s2_9])), (c0, .inl (cc0, 480, .inl x1_10)), (c1, .inl (cc1, 480, .inr (.inl x2_11))), (c2, .inl (cc2, 480, .inl x3_12)), (c3, .inl (cc3, 40, .inl x4_13))] H := hP
    have hD : va_D A [(h0, .inr (1, [.ref c0, .ref c1, .ref c2, .ref c3, .long s2_9])), (c0, .inl (cc0, 480, .inl x1_10)), (c1, .inl (cc1, 480, .inr (.inl x2_11))), (c2, .inl (cc2, 480, .inl x3_12)), (c3, .inl (cc3, 40, .inl x4_13))] := hD
    refine lv_goto (tgt := 80) hx hb dX0_hear_51 (by decide) ?_
    have hP9 := hP.sub (ws' := [(h0, .inr (1, [.ref c0, .ref c1, .ref c2, .ref c3, .long s2_9])), (c0, .inl (cc0, 480, .inl x1_10)), (c1, .inl (cc1, 480, .inr (.inl x2_11))), (c2, .inl (cc2, 480, .inl x3_12)), (c3, .inl (cc3, 40, .inl x4_13))]) [0, 1, 2, 3, 4] rfl
    have hD9 := hD.sub (ws' := [(h0, .inr (1, [.ref c0, .ref c1, .ref c2, .ref c3, .long s2_9])), (c0, .inl (cc0, 480, .inl x1_10)), (c1, .inl (cc1, 480, .inr (.inl x2_11))), (c2, .inl (cc2, 480, .inl x3_12)), (c3, .inl (cc3, 40, .inl x4_13))]) [0, 1, 2, 3, 4] (by decide) rfl
    have hK9 := hK.sub (tys' := [(cc0, .int), (cc1, .long), (cc2, .int), (cc3, .int)]) [0, 1, 2, 3] rfl
    exact W.vret hx hb hr (fun t ht hW => ⟨⟨(), rfl, trivial, s2_9, x1_10, x2_11, x3_12, x4_13, by rw [ht]; exact hP9, va_K.moved hW.alike hK9, hD9⟩, hS.F ht⟩) hS.2.2 dX0_hear_80
  by_cases t_1_6 : kd = 6
  · have tx : (kd).toInt = 6 := by rw [t_1_6]; decide
    refine lv_tableIn (off := 50) (tgt := 54) hx hb dX0_hear_4 (by rw [tx]; decide) (by rw [tx]; decide) (by rw [tx]; decide +kernel) (by decide) ?_
    refine lv_aload_n hx hb dX0_hear_54 rfl (lv_at hl 0 rfl) ?_
    refine va_get (D := (dC, dI)) (ci := 1) (v := .ref c3) (C := RX0) (T := TX0) (N := 5) hx hb hts hinX0 hown hK hP 0 rfl rfl 3 (by decide) (hts (.fieldLink RX0 22 "AgreedTalks$Claims" "marks" "[I") (by decide +kernel)) (fun _ h9 => h9) rfl dX0_hear_55 ?_
    refine lv_aload_n hx hb dX0_hear_58 rfl (lv_at hl 1 rfl) ?_
    have hPz := okF.kept fzl hS
    refine va_get (D := (dC, dI)) (ci := 3) (v := .int (nI tt)) (C := RX2) (T := TX2) (N := 6) hx hb hts hinX2 hown hK hPz 0 rfl rfl 3 (by decide) (hts (.fieldLink RX0 48 "AgreedTalks$Line" "thing" "I") (by decide +kernel)) (fun _ h9 => h9) rfl dX0_hear_59 ?_
    refine lv_iconst (v := 1) hx hb dX0_hear_62 (by decide) ?_
    refine va_iast hx hb hK hP hD hS 4 3 rfl rfl (vp_in_nI (by omega) (by omega)) dX0_hear_63 (fun H locs hP hD hS => ?_)
    have hP : va_P (dC, dI) vwCl [(h0, .inr (1, [.ref c0, .ref c1, .ref c2, .ref c3, .long sd])), (c0, .inl (cc0, 480, .inl u1)), (c1, .inl (cc1, 480, .inr (.inl u2))), (c2, .inl (cc2, 480, .inl u3)), (c3, .inl (cc3, 40, .inl (upd u4 (Int32.toNatClampNeg (nI tt)) 1)))] H := hP
    have hD : va_D A [(h0, .inr (1, [.ref c0, .ref c1, .ref c2, .ref c3, .long sd])), (c0, .inl (cc0, 480, .inl u1)), (c1, .inl (cc1, 480, .inr (.inl u2))), (c2, .inl (cc2, 480, .inl u3)), (c3, .inl (cc3, 40, .inl (upd u4 (Int32.toNatClampNeg (nI tt)) 1)))] := hD
    generalize ef_14 : upd u4 (Int32.toNatClampNeg (nI tt)) 1 = f_14 at hP hD
    rw [show Int32.toNatClampNeg (nI tt) = tt from nI_clamp (by omega)] at ef_14
    refine lv_goto (tgt := 80) hx hb dX0_hear_64 (by decide) ?_
    have hP9 := hP.sub (ws' := [(h0, .inr (1, [.ref c0, .ref c1, .ref c2, .ref c3, .long sd])), (c0, .inl (cc0, 480, .inl u1)), (c1, .inl (cc1, 480, .inr (.inl u2))), (c2, .inl (cc2, 480, .inl u3)), (c3, .inl (cc3, 40, .inl f_14))]) [0, 1, 2, 3, 4] rfl
    have hD9 := hD.sub (ws' := [(h0, .inr (1, [.ref c0, .ref c1, .ref c2, .ref c3, .long sd])), (c0, .inl (cc0, 480, .inl u1)), (c1, .inl (cc1, 480, .inr (.inl u2))), (c2, .inl (cc2, 480, .inl u3)), (c3, .inl (cc3, 40, .inl f_14))]) [0, 1, 2, 3, 4] (by decide) rfl
    have hK9 := hK.sub (tys' := [(cc0, .int), (cc1, .long), (cc2, .int), (cc3, .int)]) [0, 1, 2, 3] rfl
    exact W.vret hx hb hr (fun t ht hW => ⟨⟨(), rfl, trivial, sd, u1, u2, u3, f_14, by rw [ht]; exact hP9, va_K.moved hW.alike hK9, hD9⟩, hS.F ht⟩) hS.2.2 dX0_hear_80
  by_cases t_1_7 : kd = 7
  · have tx : (kd).toInt = 7 := by rw [t_1_7]; decide
    refine lv_tableIn (off := 63) (tgt := 67) hx hb dX0_hear_4 (by rw [tx]; decide) (by rw [tx]; decide) (by rw [tx]; decide +kernel) (by decide) ?_
    refine lv_aload_n hx hb dX0_hear_67 rfl (lv_at hl 0 rfl) ?_
    refine va_get (D := (dC, dI)) (ci := 1) (v := .ref c3) (C := RX0) (T := TX0) (N := 5) hx hb hts hinX0 hown hK hP 0 rfl rfl 3 (by decide) (hts (.fieldLink RX0 22 "AgreedTalks$Claims" "marks" "[I") (by decide +kernel)) (fun _ h9 => h9) rfl dX0_hear_68 ?_
    refine lv_aload_n hx hb dX0_hear_71 rfl (lv_at hl 1 rfl) ?_
    have hPz := okF.kept fzl hS
    refine va_get (D := (dC, dI)) (ci := 3) (v := .int (nI tt)) (C := RX2) (T := TX2) (N := 6) hx hb hts hinX2 hown hK hPz 0 rfl rfl 3 (by decide) (hts (.fieldLink RX0 48 "AgreedTalks$Line" "thing" "I") (by decide +kernel)) (fun _ h9 => h9) rfl dX0_hear_72 ?_
    refine lv_iconst (v := 2) hx hb dX0_hear_75 (by decide) ?_
    refine va_iast hx hb hK hP hD hS 4 3 rfl rfl (vp_in_nI (by omega) (by omega)) dX0_hear_76 (fun H locs hP hD hS => ?_)
    have hP : va_P (dC, dI) vwCl [(h0, .inr (1, [.ref c0, .ref c1, .ref c2, .ref c3, .long sd])), (c0, .inl (cc0, 480, .inl u1)), (c1, .inl (cc1, 480, .inr (.inl u2))), (c2, .inl (cc2, 480, .inl u3)), (c3, .inl (cc3, 40, .inl (upd u4 (Int32.toNatClampNeg (nI tt)) 2)))] H := hP
    have hD : va_D A [(h0, .inr (1, [.ref c0, .ref c1, .ref c2, .ref c3, .long sd])), (c0, .inl (cc0, 480, .inl u1)), (c1, .inl (cc1, 480, .inr (.inl u2))), (c2, .inl (cc2, 480, .inl u3)), (c3, .inl (cc3, 40, .inl (upd u4 (Int32.toNatClampNeg (nI tt)) 2)))] := hD
    generalize ef_15 : upd u4 (Int32.toNatClampNeg (nI tt)) 2 = f_15 at hP hD
    rw [show Int32.toNatClampNeg (nI tt) = tt from nI_clamp (by omega)] at ef_15
    refine lv_goto (tgt := 80) hx hb dX0_hear_77 (by decide) ?_
    have hP9 := hP.sub (ws' := [(h0, .inr (1, [.ref c0, .ref c1, .ref c2, .ref c3, .long sd])), (c0, .inl (cc0, 480, .inl u1)), (c1, .inl (cc1, 480, .inr (.inl u2))), (c2, .inl (cc2, 480, .inl u3)), (c3, .inl (cc3, 40, .inl f_15))]) [0, 1, 2, 3, 4] rfl
    have hD9 := hD.sub (ws' := [(h0, .inr (1, [.ref c0, .ref c1, .ref c2, .ref c3, .long sd])), (c0, .inl (cc0, 480, .inl u1)), (c1, .inl (cc1, 480, .inr (.inl u2))), (c2, .inl (cc2, 480, .inl u3)), (c3, .inl (cc3, 40, .inl f_15))]) [0, 1, 2, 3, 4] (by decide) rfl
    have hK9 := hK.sub (tys' := [(cc0, .int), (cc1, .long), (cc2, .int), (cc3, .int)]) [0, 1, 2, 3] rfl
    exact W.vret hx hb hr (fun t ht hW => ⟨⟨(), rfl, trivial, sd, u1, u2, u3, f_15, by rw [ht]; exact hP9, va_K.moved hW.alike hK9, hD9⟩, hS.F ht⟩) hS.2.2 dX0_hear_80
  refine lv_tableOut (tgt := 80) hx hb dX0_hear_4 (lk_out47 t_1_4 t_1_5 t_1_6 t_1_7) (by decide) ?_
  have hP9 := hP.sub (ws' := [(h0, .inr (1, [.ref c0, .ref c1, .ref c2, .ref c3, .long sd])), (c0, .inl (cc0, 480, .inl u1)), (c1, .inl (cc1, 480, .inr (.inl u2))), (c2, .inl (cc2, 480, .inl u3)), (c3, .inl (cc3, 40, .inl u4))]) [0, 1, 2, 3, 4] rfl
  have hD9 := hD.sub (ws' := [(h0, .inr (1, [.ref c0, .ref c1, .ref c2, .ref c3, .long sd])), (c0, .inl (cc0, 480, .inl u1)), (c1, .inl (cc1, 480, .inr (.inl u2))), (c2, .inl (cc2, 480, .inl u3)), (c3, .inl (cc3, 40, .inl u4))]) [0, 1, 2, 3, 4] (by decide) rfl
  have hK9 := hK.sub (tys' := [(cc0, .int), (cc1, .long), (cc2, .int), (cc3, .int)]) [0, 1, 2, 3] rfl
  exact W.vret hx hb hr (fun t ht hW => ⟨⟨(), rfl, trivial, sd, u1, u2, u3, u4, by rw [ht]; exact hP9, va_K.moved hW.alike hK9, hD9⟩, hS.F ht⟩) hS.2.2 dX0_hear_80
