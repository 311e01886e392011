def lwP (L : List Nat) (n : Nat) : Nat → Prop := fun a => a ∈ L ∨ n ≤ a
theorem lwA {L : List Nat} {wc : va_W} {n : Nat} (isC : List Nat) (hC : isC.map (fun i => L[i]?) = wc.map (fun c => some c.1)) : ∀ a, va_A wc n a → lwP L n a := fun a h => by
  rcases h with ⟨k, e, hk⟩ | h
  · have h1 : (isC.map (fun i => L[i]?))[k]? = (wc.map (fun c => some c.1))[k]? := by rw [hC]
    rw [List.getElem?_map, List.getElem?_map, hk] at h1
    cases hi : isC[k]? with
    | none => rw [hi] at h1; simp at h1
    | some i =>
      rw [hi] at h1
      have h2 : L[i]? = some a := by simpa using h1
      exact Or.inl (List.mem_of_getElem? h2)
  · exact Or.inr h
theorem lwIn {D : va_G} {cl : List vw_C} {ws : va_W} {H : Heap} {L : List Nat} (hP : va_P D cl ws H) (isL : List Nat) (hL : isL.map (fun i => (ws[i]?).map Prod.fst) = L.map some) : ∀ a ∈ L, a < H.size := fun a h => by
  obtain ⟨j, hj⟩ := List.mem_iff_getElem?.mp h
  have h1 : (isL.map (fun i => (ws[i]?).map Prod.fst))[j]? = (L.map some)[j]? := by rw [hL]
  rw [List.getElem?_map, List.getElem?_map, hj] at h1
  cases hi : isL[j]? with
  | none => rw [hi] at h1; simp at h1
  | some i =>
    rw [hi] at h1
    have h2 : (ws[i]?).map Prod.fst = some a := by simpa using h1
    cases hw : ws[i]? with
    | none => rw [hw] at h2; simp at h2
    | some p =>
      rw [hw] at h2
      have h3 : p.1 = a := by simpa using h2
      exact h3 ▸ (hP i p hw).lt
theorem okRc.step {D : va_G} {cl : List vw_C} {ze : Nat} {cO : ClassId} {ev : Value} {n : Nat} {B : Nat → Prop} {L : List Nat} {H H1 : Heap} {wc : va_W} (h : okRc D cl ze cO ev n B (lwP L H.size) H) (hz : H.size ≤ H1.size) (hk : ∀ q : Nat, q < H.size → ¬ va_A wc H.size q → H1[q]? = H[q]?) (isC : List Nat) (hC : isC.map (fun i => L[i]?) = wc.map (fun c => some c.1)) : okRc D cl ze cO ev n B (lwP L H1.size) H1 := by
  rcases h with h | ⟨h0, ad, cap, g, h1, h2, h3, h4, h5, h6⟩
  · exact Or.inl h
  · have hk2 : ∀ a : Nat, a < H.size → ¬ lwP L H.size a → H1[a]? = H[a]? := fun a ha hn => hk a ha (fun z => hn (lwA isC hC a z))
    have hQ : ∀ a, a < H.size → lwP L H1.size a → lwP L H.size a := fun a _ z => z.imp id (Nat.le_trans hz)
    exact Or.inr ⟨h0, ad, cap, g, h1, h2, h3, h4, okF.go h5 hk2 hQ, okRecs.go h6 (fun a ha hn => hk2 a ha (fun z => hn (Or.inl z))) (fun a ha z => z.imp (hQ a ha) id)⟩
theorem okRc.toRec {D : va_G} {cl : List vw_C} {ze : Nat} {cO : ClassId} {ev : Value} {n : Nat} {B : Nat → Prop} {L : List Nat} {H : Heap} {wc : va_W} (h : okRc D cl ze cO ev n B (lwP L H.size) H) (isC : List Nat) (hC : isC.map (fun i => L[i]?) = wc.map (fun c => some c.1)) : okRec D cl ev cO n (va_A wc H.size) H := by
  rcases h with h | ⟨h0, ad, cap, g, h1, h2, h3, h4, h5, h6⟩
  · exact Or.inl h.1
  · exact Or.inr ⟨ad, cap, g, h1, h3, by omega, okF.go h5 (fun a _ _ => rfl) (fun a _ z => lwA isC hC a z), okRecs.go h6 (fun a _ _ => rfl) (fun a _ z => Or.inl (lwA isC hC a z))⟩
theorem okRc.after {D : va_G} {cl : List vw_C} {ze : Nat} {cO : ClassId} {ev : Value} {n sz : Nat} {A X : Nat → Prop} {L LR : List Nat} {H1 : Heap} {wc : va_W} (h : okRc D cl ze cO ev n (va_A wc sz) (xA LR H1.size sz X) H1) (hB : ∀ a, va_A wc sz a → A a) (hQ : ∀ a, lwP L H1.size a → xA LR H1.size sz X a) : okRc D cl ze cO ev n A (lwP L H1.size) H1 := by
  rcases h with h | ⟨h0, ad, cap, g, h1, h2, h3, h4, h5, h6⟩
  · exact Or.inl h
  · exact Or.inr ⟨h0, ad, cap, g, h1, hB _ h2, h3, h4, okF.go h5 (fun a _ _ => rfl) (fun a _ z => hQ a z), okRecs.go h6 (fun a _ _ => rfl) (fun a _ z => z.imp (hQ a) id)⟩
theorem lwX {D : va_G} {cl : List vw_C} {ws : va_W} {H : Heap} (LR Lo : List Nat) (hP : va_P D cl ws H) (isL : List Nat) (hL : isL.map (fun i => (ws[i]?).map Prod.fst) = (LR ++ Lo).map some) (n a : Nat) (z : lwP (LR ++ Lo) n a) : xA LR n H.size (fun a => a ∈ Lo) a := by
  rcases z with z | z
  · rcases List.mem_append.mp z with y | y
    · exact Or.inl y
    · exact Or.inr (Or.inr ⟨lwIn hP isL hL a z, y⟩)
  · exact Or.inr (Or.inl z)
theorem okRcs {D : va_G} {cl : List vw_C} {cO : ClassId} {g : Nat → Option Nat} {n ad : Nat} {H : Heap} {wc : va_W} (LR Lo : List Nat) (h : okRecs D cl cO g n (fun a => lwP (LR ++ Lo) H.size a ∨ a = ad) H) (isC : List Nat) (hC : isC.map (fun i => (ad :: (LR ++ Lo))[i]?) = wc.map (fun c => some c.1)) : okRecs D cl cO g n (fun a => va_A wc H.size a ∨ a ∈ Lo) H := okRecs.go h (fun a _ _ => rfl) (fun a _ z => by
  rcases z with z | z
  · rcases lwA isC hC a z with y | y
    · rcases List.mem_cons.mp y with y | y
      · exact Or.inr y
      · exact Or.inl (Or.inl y)
    · exact Or.inl (Or.inr y)
  · exact Or.inl (Or.inl (List.mem_append_right _ z)))
theorem lwAdd {D : va_G} {cl : List vw_C} {A : Nat → Prop} {ws : va_W} {H : Heap} {L : List Nat} {n : Nat} {q : Nat × va_E} (hP : va_P D cl ws H) (hD : va_D A ws) (hL : ws.map Prod.fst = L) (hq : okF D cl q (lwP L n) H) (hA : A q.1) : va_P D cl (ws ++ [q]) H ∧ va_D A (ws ++ [q]) := by
  refine ⟨hP.app (okF.one hq), hD.app ⟨fun i j x y hx hy _ => ?_, fun k x hx => ?_⟩ (fun i j x y hx hy hxy => ?_)⟩
  · match i, j, hx, hy with
    | 0, 0, _, _ => rfl
    | 0, j + 1, _, hy => simp at hy
    | i + 1, _, hx, _ => simp at hx
  · match k, hx with
    | 0, hx => cases hx; exact hA
    | k + 1, hx => simp at hx
  · match j, hy with
    | 0, hy =>
      cases hy
      refine hq.2 (Or.inl ?_)
      rw [← hxy, ← hL]
      exact List.mem_map_of_mem (List.mem_of_getElem? hx)
    | j + 1, hy => simp at hy
theorem mtR_fun {x : Int32} {k : Nat} {f : Nat → Int32} {r r2 : Int32} (h : mtR x k f r) (h2 : mtR x k f r2) : r = r2 := by
  rcases h with ⟨a, b⟩ | ⟨a, b, c⟩ | ⟨a, b, c⟩
  · rcases h2 with ⟨a2, b2⟩ | ⟨a2, b2, c2⟩ | ⟨a2, b2, c2⟩
    · rw [b, b2]
    · exact absurd a a2
    · exact absurd a a2
  · rcases h2 with ⟨a2, b2⟩ | ⟨a2, b2, c2⟩ | ⟨a2, b2, c2⟩
    · exact absurd a2 a
    · rw [c, c2]
    · exact absurd b2 (by omega)
  · rcases h2 with ⟨a2, b2⟩ | ⟨a2, b2, c2⟩ | ⟨a2, b2, c2⟩
    · exact absurd a2 a
    · exact absurd b (by omega)
    · rw [c, c2]
theorem mtS_fun {x : Int32} {k : Nat} {f : Nat → Int32} {k2 k3 : Nat} {f2 f3 : Nat → Int32} (h : mtS x k f k2 f2) (h2 : mtS x k f k3 f3) : k2 = k3 ∧ f2 = f3 := by
  rcases h with ⟨a, b, c⟩ | ⟨a, b, c, d⟩
  · rcases h2 with ⟨a2, b2, c2⟩ | ⟨a2, b2, c2, d2⟩
    · exact ⟨by rw [b, b2], by rw [c, c2]⟩
    · rcases a with a | a
      · exact absurd a a2
      · exact absurd b2 (by omega)
  · rcases h2 with ⟨a2, b2, c2⟩ | ⟨a2, b2, c2, d2⟩
    · rcases a2 with a2 | a2
      · exact absurd a2 a
      · exact absurd b (by omega)
    · exact ⟨by rw [c, c2], by rw [d, d2]⟩
theorem okD_mtS {x : Int32} {k : Nat} {f : Nat → Int32} {k2 : Nat} {f2 : Nat → Int32} (h : mtS x k f k2 f2) (hd : okD f k) : okD f2 k2 := by
  rcases h with ⟨_, b, c⟩ | ⟨a, _, c, d⟩
  · rw [b, c]; exact hd
  · rw [c, d]; exact okD_new hd a
theorem lwAO {D : va_G} {cl : List vw_C} {tys : List (ClassId × FieldType)} {s : State} {C : String} (h : va_AO C s) (hK : va_K D cl tys s) : ∃ cO : ClassId, va_K D cl [(cO, .object C)] s := by
  obtain ⟨comp, cA, kA, f1, f2, f3, f4, f5⟩ := Cond.arrayOver_spec h
  refine ⟨cA, hK.1, fun k x hx => ?_⟩
  match k, hx with
  | 0, hx => cases hx; exact ⟨fun N z => ⟨(fun k h => by cases h), kA, f3, comp, f4⟩, kA, comp, f3, f4, f1, f5⟩
  | k + 1, hx => simp at hx
theorem lwStr {args : Array Value} {s : State} {A : Nat → Prop} (k : Nat) (tx : String) (bs : List Int32) (hn : bs.length < 2 ^ 31) (h1 : (Cond.stringRef RX4 k tx).before args s = true) (hex : (Cond.exactly (.string RX4 k) "java/lang/String").before args s = true) (hco : (Cond.eq (.field (.string RX4 k) "java/lang/String" "coder" "B") (.int 0)).before args s = true) (har : (Cond.arrayOf (.field (.string RX4 k) "java/lang/String" "value" "[B") .byte).before args s = true) (hle : (Cond.eq (.length (.field (.string RX4 k) "java/lang/String" "value" "[B")) (.int (Int32.ofNat bs.length))).before args s = true)
    (hel : ∀ j : Nat, j < bs.length → (Cond.eq (.elem (.field (.string RX4 k) "java/lang/String" "value" "[B") (.int (Int32.ofNat j))) (.int (bs.getD j 0))).before args s = true) (hA : ∀ a : Nat, a < s.heap.size → ¬ A a) : ∃ (a v n : Nat) (f : Nat → Int32), vk_R RX4 k tx a s ∧ okStr a v n f A s s.heap := by
  have z : ∀ i : Nat, i < 1 → i = 0 := fun i h => by omega
  obtain ⟨adK, adV, h, hev⟩ := vk_Sof (args := args) (s := s) (N := 1) (tm := fun _ => .string RX4 k) (len := [bs.length]) (byt := [bs]) (A := A) (fun i hi => by rw [z i hi]; exact hn) (fun _ _ => hex) (fun _ _ => hco) (fun _ _ => har) (fun i hi => by rw [z i hi]; exact hle) (fun i hi => by rw [z i hi]; exact hel) (fun i j hi hj h => absurd (by rw [z i hi, z j hj]) h) hA
  have h0 := h.1 0 (by decide)
  exact ⟨adK 0, adV 0, bs.length, fun j => bs.getD j 0, vk_R.of h1 (hev 0 (by decide)), h0.1, h0.2.1, h0.2.2.1, h0.2.2.2, hn⟩

