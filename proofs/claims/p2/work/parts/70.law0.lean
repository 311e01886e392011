-- ===== end of PART A; then your names; then what follows =====
/-! THE CLAIM OUT OF ONE WALK OF THE LAW'S BODY. Your part is whole_start (and what it stands on); all else here is the same for every law, but numbers. -/
def R_law : String := "AgreedTalksLaw"
def lw_P (b : Addr) (xs : List Int32) (args : Array Value) (s : State) : Prop := args = #[.ref b] ∧ s.IntsAt b xs ∧ xs.length ≤ 3072 ∧ (Jvm.Cond.and given_1 narrow_1).before args s = true
def lw_Q (_ : Array Value) (s : State) (o : Outcome) (t : State) : Prop := o = .returned (some (.int 1)) ∧ Framed s o t [] 600000 7302249
def lw_Z (below : List Frame) (a : Array Value) (s : State) : State → Prop := fun t => ∃ o, t.status = .running ∧ Ended t below o ∧ lw_Q a s o t
/-- the law's own end, with 1 on the stack, nothing written that was there before, its room as the claim has it -/
theorem lw_ret {p : Program} {l : Launch} {e : Env} {s : State} {m : MethodId} {below : List Frame} {meth : Method} {c : Code} {b : Nat} (hx : p.tables.exec = Jvm.exec) (hb : c.code = code) (hr : meth.sig.returnType = ret) (hlocks : meth.locks = false) {pc : Nat} {H : Heap} {ls : Array Slot} (hdg : decode code pc = .ok (.ireturn, 1)) : W p l e room_1 s m #[Value.ref b] below meth c H [] 600000 7302249 (lw_Z below #[Value.ref b] s) (F0 m pc ls [.int 1]) := by
  intro T hT X
  obtain ⟨fs, hret, hrun, hended, hW, hframe⟩ := X.leave (v := some (.int 1)) (hlocks := hlocks) (fun h => by rw [hr] at h; cases h)
  have hmeth' : T.vm.method? m = some meth := X.method'
  refine ⟨T.setFrames fs, ?_, .returned (some (.int 1)), hrun, hended, rfl, ⟨_, rfl⟩, hW, hframe⟩
  jvm_step X.here [X.here.top, hx, hb, hdg, hmeth', hr, ret, narrow_b1]
  (try refine ⟨rfl, ?_⟩); (try refine ⟨rfl, ?_⟩)
  first | (intro acts; rw [hret _ acts rfl rfl rfl]) | rw [hret _ _ rfl rfl rfl]
  exact Steps.refl _
/-- what holds at the law's entry: the machine, the code, the tables' words (any of lw_tbl by 'hts w (by decide +kernel)'), the script of L ints xs at the cell b, what the Statement gives of the start (any of its parts by flat_of_before) -/
def lw_At (p : Program) (s : State) (m : MethodId) (meth : Method) (c : Code) (b L : Nat) (xs : Nat → Int32) : Prop :=
  p.tables.exec = Jvm.exec ∧ c.code = code ∧ meth.sig.returnType = ret ∧ c.maxLocals = 4 ∧ s.vm.findClass R_law = some m.cls ∧ (∀ w ∈ lw_tbl, w.before #[Value.ref b] s = true) ∧ va_X b L xs s s.heap ∧ b < s.heap.size ∧ meth.locks = false ∧ (Jvm.Cond.and given_1 narrow_1).before #[Value.ref b] s = true
theorem lk_out19 {x : Int32} (h0 : ¬ x = 0) (h1 : ¬ x = 1) (h2 : ¬ x = 2) (h3 : ¬ x = 3) (h4 : ¬ x = 4) (h5 : ¬ x = 5) (h6 : ¬ x = 6) (h7 : ¬ x = 7) (h8 : ¬ x = 8) (h9 : ¬ x = 9) (h10 : ¬ x = 10) (h11 : ¬ x = 11) (h12 : ¬ x = 12) (h13 : ¬ x = 13) (h14 : ¬ x = 14) (h15 : ¬ x = 15) (h16 : ¬ x = 16) (h17 : ¬ x = 17) (h18 : ¬ x = 18) (h19 : ¬ x = 19) : x.toInt < 0 ∨ 19 < x.toInt := by
  have a0 := lk_ne _ h0
  rw [show (0 : Int32).toInt = 0 by decide] at a0
  have a1 := lk_ne _ h1
  rw [show (1 : Int32).toInt = 1 by decide] at a1
  have a2 := lk_ne _ h2
  rw [show (2 : Int32).toInt = 2 by decide] at a2
  have a3 := lk_ne _ h3
  rw [show (3 : Int32).toInt = 3 by decide] at a3
  have a4 := lk_ne _ h4
  rw [show (4 : Int32).toInt = 4 by decide] at a4
  have a5 := lk_ne _ h5
  rw [show (5 : Int32).toInt = 5 by decide] at a5
  have a6 := lk_ne _ h6
  rw [show (6 : Int32).toInt = 6 by decide] at a6
  have a7 := lk_ne _ h7
  rw [show (7 : Int32).toInt = 7 by decide] at a7
  have a8 := lk_ne _ h8
  rw [show (8 : Int32).toInt = 8 by decide] at a8
  have a9 := lk_ne _ h9
  rw [show (9 : Int32).toInt = 9 by decide] at a9
  have a10 := lk_ne _ h10
  rw [show (10 : Int32).toInt = 10 by decide] at a10
  have a11 := lk_ne _ h11
  rw [show (11 : Int32).toInt = 11 by decide] at a11
  have a12 := lk_ne _ h12
  rw [show (12 : Int32).toInt = 12 by decide] at a12
  have a13 := lk_ne _ h13
  rw [show (13 : Int32).toInt = 13 by decide] at a13
  have a14 := lk_ne _ h14
  rw [show (14 : Int32).toInt = 14 by decide] at a14
  have a15 := lk_ne _ h15
  rw [show (15 : Int32).toInt = 15 by decide] at a15
  have a16 := lk_ne _ h16
  rw [show (16 : Int32).toInt = 16 by decide] at a16
  have a17 := lk_ne _ h17
  rw [show (17 : Int32).toInt = 17 by decide] at a17
  have a18 := lk_ne _ h18
  rw [show (18 : Int32).toInt = 18 by decide] at a18
  have a19 := lk_ne _ h19
  rw [show (19 : Int32).toInt = 19 by decide] at a19
  omega
def lwAll (dC : Nat → ClassId) (dI : Nat → Nat → Nat) (ze : Nat) (cO : ClassId) (A : Nat → Prop) (g0 : Nat) (a1 : Nat) (a2 : Nat) (a3 : Nat) (ab : Nat) (a4 : Nat) (a0 : Nat) (a5 : Nat) (d0 : Nat) (d1 : Nat) (d2 : Nat) (d3 : Nat) (a6 : Nat) (qc0 : Nat) (qc1 : Nat) (qc2 : Nat) (qc3 : Nat) (g1 : Nat) (z3 : Nat) (z4 : Nat) (z6 : Nat) (z7 : Nat) (z8 : Nat) (z9 : Nat) (z10 : Nat) (z11 : Nat) (z12 : Nat) (z13 : Nat) (z15 : Nat) (z16 : Nat) (z17 : Nat) (z18 : Nat) (z19 : Nat) (z20 : Nat) (z21 : Nat) (z34 : Nat) (z35 : Nat) (z37 : Nat) (z38 : Nat) (z39 : Nat) (z40 : Nat) (z41 : Nat) (kA : ClassId) (kC : ClassId) (kB : ClassId) (kd0 : ClassId) (kd1 : ClassId) (kd2 : ClassId) (kd3 : ClassId) (kc0 : ClassId) (kc1 : ClassId) (kc2 : ClassId) (kc3 : ClassId) (mcA : ClassId) (mcC : ClassId) (mcM : ClassId) (mcL : ClassId) (mcK : ClassId) (mcP : ClassId) (mcO : ClassId) (mcN : ClassId) (mcB : ClassId) (mcG : ClassId) (mc1 : ClassId) (mc2 : ClassId) (mc3 : ClassId) (mc4 : ClassId) (mc5 : ClassId) (mc6 : ClassId) (mcT : ClassId) (mcD : ClassId) (mcV : ClassId) (mcW : ClassId) (mcU : ClassId) (mcS : ClassId) (mcZ : ClassId) (mcE : ClassId) (H : Heap) : Prop := ∀ Q9 : Prop, (∀ (mk : Nat) (xsh : Int32) (xfp : Int32) (xrf : Int32) (fa : Nat → Int32) (xfc : Nat → Int32) (xmc : Int32) (xev : Value) (xnr : Nat) (xtp : Nat) (xfb : Nat → Int32) (xsv : Int32) (xpv : Int32) (xsd : Int64) (xv1 : Nat → Int32) (xv2 : Nat → Int32) (xv3 : Nat → Int32) (xv4 : Nat → Int32) (xu1 : Nat → Int32) (xu2 : Nat → Int64) (xu3 : Nat → Int32) (xu4 : Nat → Int32) (ri0 : Int32) (ri1 : Int32) (vrfc : Nat → Int32) (rk : Nat) (vrfm : Nat → Int32) (vrfl : Nat → Int32) (vrfk : Nat → Int32) (vrfp : Nat → Int32) (vrfo : Nat → Int32) (vrfn : Nat → Int32) (vrfb : Nat → Int32) (vrfg : Nat → Int64) (nl : Nat) (vrnk : Nat → Int32) (vrnp : Nat → Int32) (vrno : Nat → Int32) (vrnn : Nat → Int32) (vrnb : Nat → Int32) (vrng : Nat → Int64) (vrft : Nat → Int32) (rtp : Nat) (ri23 : Int32) (ri24 : Int32) (ri25 : Int32) (rw26 : Int64) (ri27 : Int32) (ri28 : Int32) (ri29 : Int32) (ri30 : Int32) (ri31 : Int32) (ri32 : Int32) (ri33 : Int32) (vrfd : Nat → Int32) (vrfv : Nat → Int32) (tm : Nat) (vrfw : Nat → Int32) (vrfu : Nat → Int32) (vrfs : Nat → Int32) (vrfz : Nat → Int32) (vrfe : Nat → Int32), mk ≤ 30 → xnr ≤ 40 → xtp ≤ 300 → rk ≤ 40 → nl ≤ 20 → rtp ≤ 300 → tm ≤ 40 → okC vrfc mk rk → okB vrfl rk 21 → okM vrfm vrfc rk mk → okB vrfn 800 40 → okP vrfk vrfp 800 → okC vrfw 480 800 → okD fa mk → okB vrnn 20 40 → okP vrnk vrnp 20 → okRc (dC, dI) vwCl ze cO xev xnr A (lwP [g0, a1, a2, a3, ab, a4, a0, a5, d0, d1, d2, d3, a6, qc0, qc1, qc2, qc3, g1, z3, z4, z6, z7, z8, z9, z10, z11, z12, z13, z15, z16, z17, z18, z19, z20, z21, z34, z35, z37, z38, z39, z40, z41] H.size) H → va_P (dC, dI) vwCl [(g0, .inr (7, [.ref a0, .ref a1, .ref a2, .ref a3, .ref a4, .ref a5, .ref a6, .int (nI mk), .int xsh, .int xfp, .int xrf])), (a1, .inl (kC, 30, .inl xfc)), (a2, .inr (0, [.int xmc, xev, .int (nI xnr)])), (a3, .inr (6, [.ref ab, .int (nI xtp)])), (ab, .inl (kB, 300, .inl xfb)), (a4, .inr (5, [.ref a3, .int xsv, .int xpv])), (a0, .inl (kA, 30, .inl fa)), (a5, .inr (2, [.ref d0, .ref d1, .ref d2, .ref d3])), (d0, .inl (kd0, 40, .inl xv1)), (d1, .inl (kd1, 40, .inl xv2)), (d2, .inl (kd2, 40, .inl xv3)), (d3, .inl (kd3, 480, .inl xv4)), (a6, .inr (1, [.ref qc0, .ref qc1, .ref qc2, .ref qc3, .long xsd])), (qc0, .inl (kc0, 480, .inl xu1)), (qc1, .inl (kc1, 480, .inr (.inl xu2))), (qc2, .inl (kc2, 480, .inl xu3)), (qc3, .inl (kc3, 40, .inl xu4)), (g1, .inr (8, [.int ri0, .int ri1, .int (nI mk), .ref z3, .ref z4, .int (nI rk), .ref z6, .ref z7, .ref z8, .ref z9, .ref z10, .ref z11, .ref z12, .ref z13, .int (nI nl), .ref z15, .ref z16, .ref z17, .ref z18, .ref z19, .ref z20, .ref z21, .int (nI rtp), .int ri23, .int ri24, .int ri25, .long rw26, .int ri27, .int ri28, .int ri29, .int ri30, .int ri31, .int ri32, .int ri33, .ref z34, .ref z35, .int (nI tm), .ref z37, .ref z38, .ref z39, .ref z40, .ref z41])), (z3, .inl (mcA, 30, .inl fa)), (z4, .inl (mcC, 30, .inl vrfc)), (z6, .inl (mcM, 40, .inl vrfm)), (z7, .inl (mcL, 40, .inl vrfl)), (z8, .inl (mcK, 800, .inl vrfk)), (z9, .inl (mcP, 800, .inl vrfp)), (z10, .inl (mcO, 800, .inl vrfo)), (z11, .inl (mcN, 800, .inl vrfn)), (z12, .inl (mcB, 800, .inl vrfb)), (z13, .inl (mcG, 800, .inr (.inl vrfg))), (z15, .inl (mc1, 20, .inl vrnk)), (z16, .inl (mc2, 20, .inl vrnp)), (z17, .inl (mc3, 20, .inl vrno)), (z18, .inl (mc4, 20, .inl vrnn)), (z19, .inl (mc5, 20, .inl vrnb)), (z20, .inl (mc6, 20, .inr (.inl vrng))), (z21, .inl (mcT, 300, .inl vrft)), (z34, .inl (mcD, 40, .inl vrfd)), (z35, .inl (mcV, 40, .inl vrfv)), (z37, .inl (mcW, 480, .inl vrfw)), (z38, .inl (mcU, 480, .inl vrfu)), (z39, .inl (mcS, 40, .inl vrfs)), (z40, .inl (mcZ, 40, .inl vrfz)), (z41, .inl (mcE, 40, .inl vrfe))] H → va_D A [(g0, .inr (7, [.ref a0, .ref a1, .ref a2, .ref a3, .ref a4, .ref a5, .ref a6, .int (nI mk), .int xsh, .int xfp, .int xrf])), (a1, .inl (kC, 30, .inl xfc)), (a2, .inr (0, [.int xmc, xev, .int (nI xnr)])), (a3, .inr (6, [.ref ab, .int (nI xtp)])), (ab, .inl (kB, 300, .inl xfb)), (a4, .inr (5, [.ref a3, .int xsv, .int xpv])), (a0, .inl (kA, 30, .inl fa)), (a5, .inr (2, [.ref d0, .ref d1, .ref d2, .ref d3])), (d0, .inl (kd0, 40, .inl xv1)), (d1, .inl (kd1, 40, .inl xv2)), (d2, .inl (kd2, 40, .inl xv3)), (d3, .inl (kd3, 480, .inl xv4)), (a6, .inr (1, [.ref qc0, .ref qc1, .ref qc2, .ref qc3, .long xsd])), (qc0, .inl (kc0, 480, .inl xu1)), (qc1, .inl (kc1, 480, .inr (.inl xu2))), (qc2, .inl (kc2, 480, .inl xu3)), (qc3, .inl (kc3, 40, .inl xu4)), (g1, .inr (8, [.int ri0, .int ri1, .int (nI mk), .ref z3, .ref z4, .int (nI rk), .ref z6, .ref z7, .ref z8, .ref z9, .ref z10, .ref z11, .ref z12, .ref z13, .int (nI nl), .ref z15, .ref z16, .ref z17, .ref z18, .ref z19, .ref z20, .ref z21, .int (nI rtp), .int ri23, .int ri24, .int ri25, .long rw26, .int ri27, .int ri28, .int ri29, .int ri30, .int ri31, .int ri32, .int ri33, .ref z34, .ref z35, .int (nI tm), .ref z37, .ref z38, .ref z39, .ref z40, .ref z41])), (z3, .inl (mcA, 30, .inl fa)), (z4, .inl (mcC, 30, .inl vrfc)), (z6, .inl (mcM, 40, .inl vrfm)), (z7, .inl (mcL, 40, .inl vrfl)), (z8, .inl (mcK, 800, .inl vrfk)), (z9, .inl (mcP, 800, .inl vrfp)), (z10, .inl (mcO, 800, .inl vrfo)), (z11, .inl (mcN, 800, .inl vrfn)), (z12, .inl (mcB, 800, .inl vrfb)), (z13, .inl (mcG, 800, .inr (.inl vrfg))), (z15, .inl (mc1, 20, .inl vrnk)), (z16, .inl (mc2, 20, .inl vrnp)), (z17, .inl (mc3, 20, .inl vrno)), (z18, .inl (mc4, 20, .inl vrnn)), (z19, .inl (mc5, 20, .inl vrnb)), (z20, .inl (mc6, 20, .inr (.inl vrng))), (z21, .inl (mcT, 300, .inl vrft)), (z34, .inl (mcD, 40, .inl vrfd)), (z35, .inl (mcV, 40, .inl vrfv)), (z37, .inl (mcW, 480, .inl vrfw)), (z38, .inl (mcU, 480, .inl vrfu)), (z39, .inl (mcS, 40, .inl vrfs)), (z40, .inl (mcZ, 40, .inl vrfz)), (z41, .inl (mcE, 40, .inl vrfe))] → Q9) → Q9

