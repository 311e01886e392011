theorem goodIn_r {big : List Cond} (ws : List Cond) (ps : List Nat) (hp : ws = ps.filterMap (fun i => big[i]?)) (h : ws.all goodWord = true) : GoodIn big ws := by
  intro w hw
  have h1 := List.all_eq_true.mp h w hw
  rw [hp] at hw
  obtain ⟨i, -, hi⟩ := List.mem_filterMap.mp hw
  have hm : w ∈ big := by first | exact List.mem_of_getElem? hi | exact List.getElem?_mem hi
  exact ⟨hm, good_of_word h1⟩
theorem goodIn_app {big a b : List Cond} (ha : GoodIn big a) (hb : GoodIn big b) : GoodIn big (a ++ b) := fun w h => (List.mem_append.mp h).elim (ha w) (hb w)
theorem goodIn_ca {big a b : List Cond} {c : Cond} (ha : GoodIn big (c :: a)) (hb : GoodIn big b) : GoodIn big (c :: (a ++ b)) := fun w h => (List.mem_cons.mp h).elim (fun e => ha w (List.mem_cons.mpr (Or.inl e))) (fun h => (List.mem_append.mp h).elim (fun h => ha w (List.mem_cons.mpr (Or.inr h))) (hb w))
theorem goodIn_sub {big ws : List Cond} (hm : ∀ w ∈ ws, w ∈ big) (h : ws.all goodWord = true) : GoodIn big ws := fun w hw => ⟨hm w hw, good_of_word (List.all_eq_true.mp h w hw)⟩
def RX0 : String := "AgreedTalks$Claims"
def TX0 : u_T := fun k => match k with
  | 0 => ("AgreedTalks$Claims", "words", "[I", true)
  | 1 => ("AgreedTalks$Claims", "grounds", "[J", true)
  | 2 => ("AgreedTalks$Claims", "turns", "[I", true)
  | 3 => ("AgreedTalks$Claims", "marks", "[I", true)
  | _ => ("AgreedTalks$Claims", "standing", "J", false)
abbrev wsX00 : List Cond := u_ws RX0 TX0 5
def RX1 : String := "AgreedTalks$Deeds"
def TX1 : u_T := fun k => match k with
  | 0 => ("AgreedTalks$Deeds", "holders", "[I", true)
  | 1 => ("AgreedTalks$Deeds", "dueDays", "[I", true)
  | 2 => ("AgreedTalks$Deeds", "finished", "[I", true)
  | _ => ("AgreedTalks$Deeds", "requests", "[I", true)
abbrev wsX10 : List Cond := u_ws RX1 TX1 4
def RX2 : String := "AgreedTalks$Line"
def TX2 : u_T := fun k => match k with
  | 0 => ("AgreedTalks$Line", "kind", "I", true)
  | 1 => ("AgreedTalks$Line", "person", "I", true)
  | 2 => ("AgreedTalks$Line", "other", "I", true)
  | 3 => ("AgreedTalks$Line", "thing", "I", true)
  | 4 => ("AgreedTalks$Line", "day", "I", true)
  | _ => ("AgreedTalks$Line", "grounds", "J", true)
abbrev wsX20 : List Cond := u_ws RX2 TX2 6
def RX3 : String := "AgreedTalks$Minutes"
def TX3 : u_T := fun k => match k with
  | 0 => ("AgreedTalks$Minutes", "meeting", "I", true)
  | _ => ("AgreedTalks$Minutes", "lines", "Ljava/util/ArrayList;", true)
abbrev wsX30 : List Cond := u_ws RX3 TX3 2
def RX4 : String := "AgreedTalks$Reader"
def TX4 : u_T := fun k => match k with
  | 0 => ("AgreedTalks$Reader", "tape", "LAgreedTalks$Tape;", true)
  | 1 => ("AgreedTalks$Reader", "start", "I", false)
  | _ => ("AgreedTalks$Reader", "stop", "I", false)
abbrev wsX40 : List Cond := u_ws RX4 TX4 3
def RX5 : String := "AgreedTalks$Tape"
def TX5 : u_T := fun k => match k with
  | 0 => ("AgreedTalks$Tape", "bytes", "[I", true)
  | _ => ("AgreedTalks$Tape", "length", "I", false)
abbrev wsX50 : List Cond := u_ws RX5 TX5 2
def RX6 : String := "AgreedTalks"
def TX6 : u_T := fun k => match k with
  | 0 => ("AgreedTalks", "days", "[I", true)
  | 1 => ("AgreedTalks", "counting", "[I", true)
  | 2 => ("AgreedTalks", "records", "Ljava/util/ArrayList;", true)
  | 3 => ("AgreedTalks", "tape", "LAgreedTalks$Tape;", true)
  | 4 => ("AgreedTalks", "reader", "LAgreedTalks$Reader;", true)
  | 5 => ("AgreedTalks", "deeds", "LAgreedTalks$Deeds;", true)
  | 6 => ("AgreedTalks", "claims", "LAgreedTalks$Claims;", true)
  | 7 => ("AgreedTalks", "meetings", "I", false)
  | 8 => ("AgreedTalks", "shown", "I", false)
  | 9 => ("AgreedTalks", "faultPlace", "I", false)
  | _ => ("AgreedTalks", "refusal", "I", false)
abbrev wsX60 : List Cond := u_ws RX6 TX6 11
def RX7 : String := "AgreedTalksModel"
def TX7 : u_T := fun k => match k with
  | 0 => ("AgreedTalksModel", "thrown", "I", false)
  | 1 => ("AgreedTalksModel", "status", "I", false)
  | 2 => ("AgreedTalksModel", "meetings", "I", false)
  | 3 => ("AgreedTalksModel", "days", "[I", true)
  | 4 => ("AgreedTalksModel", "counting", "[I", true)
  | 5 => ("AgreedTalksModel", "records", "I", false)
  | 6 => ("AgreedTalksModel", "rMeeting", "[I", true)
  | 7 => ("AgreedTalksModel", "rLines", "[I", true)
  | 8 => ("AgreedTalksModel", "kinds", "[I", true)
  | 9 => ("AgreedTalksModel", "persons", "[I", true)
  | 10 => ("AgreedTalksModel", "others", "[I", true)
  | 11 => ("AgreedTalksModel", "numbers", "[I", true)
  | 12 => ("AgreedTalksModel", "by", "[I", true)
  | 13 => ("AgreedTalksModel", "grounds", "[J", true)
  | 14 => ("AgreedTalksModel", "nLines", "I", false)
  | 15 => ("AgreedTalksModel", "nKind", "[I", true)
  | 16 => ("AgreedTalksModel", "nPerson", "[I", true)
  | 17 => ("AgreedTalksModel", "nOther", "[I", true)
  | 18 => ("AgreedTalksModel", "nNumber", "[I", true)
  | 19 => ("AgreedTalksModel", "nBy", "[I", true)
  | 20 => ("AgreedTalksModel", "nGrounds", "[J", true)
  | 21 => ("AgreedTalksModel", "tape", "[I", true)
  | 22 => ("AgreedTalksModel", "taped", "I", false)
  | 23 => ("AgreedTalksModel", "from", "I", false)
  | 24 => ("AgreedTalksModel", "to", "I", false)
  | 25 => ("AgreedTalksModel", "sort", "I", false)
  | 26 => ("AgreedTalksModel", "worth", "J", false)
  | 27 => ("AgreedTalksModel", "fault", "I", false)
  | 28 => ("AgreedTalksModel", "bad", "Z", false)
  | 29 => ("AgreedTalksModel", "lineAt", "I", false)
  | 30 => ("AgreedTalksModel", "holder", "I", false)
  | 31 => ("AgreedTalksModel", "due", "I", false)
  | 32 => ("AgreedTalksModel", "isDone", "Z", false)
  | 33 => ("AgreedTalksModel", "isAsked", "Z", false)
  | 34 => ("AgreedTalksModel", "theirDeed", "[I", true)
  | 35 => ("AgreedTalksModel", "theirDue", "[I", true)
  | 36 => ("AgreedTalksModel", "theirMany", "I", false)
  | 37 => ("AgreedTalksModel", "words", "[I", true)
  | 38 => ("AgreedTalksModel", "turns", "[I", true)
  | 39 => ("AgreedTalksModel", "states", "[I", true)
  | 40 => ("AgreedTalksModel", "stands", "[Z", true)
  | _ => ("AgreedTalksModel", "before", "[Z", true)
def tyX7 : Nat → FieldType := fun k => match k with
  | 0 => .int
  | 1 => .int
  | 2 => .int
  | 3 => .array .int
  | 4 => .array .int
  | 5 => .int
  | 6 => .array .int
  | 7 => .array .int
  | 8 => .array .int
  | 9 => .array .int
  | 10 => .array .int
  | 11 => .array .int
  | 12 => .array .int
  | 13 => .array .long
  | 14 => .int
  | 15 => .array .int
  | 16 => .array .int
  | 17 => .array .int
  | 18 => .array .int
  | 19 => .array .int
  | 20 => .array .long
  | 21 => .array .int
  | 22 => .int
  | 23 => .int
  | 24 => .int
  | 25 => .int
  | 26 => .long
  | 27 => .int
  | 28 => .boolean
  | 29 => .int
  | 30 => .int
  | 31 => .int
  | 32 => .boolean
  | 33 => .boolean
  | 34 => .array .int
  | 35 => .array .int
  | 36 => .int
  | 37 => .array .int
  | 38 => .array .int
  | 39 => .array .int
  | 40 => .array .boolean
  | _ => .array .boolean
abbrev wsX70 : List Cond := u_ws RX7 TX7 42
theorem nmX7 : ∀ a, a < 42 → ∀ b, b < 42 → a ≠ b → (TX7 a).2.1 ≠ (TX7 b).2.1 := by decide +kernel
theorem tyX7_ok : ∀ k, k < 42 → parseFieldDescriptor (TX7 k).2.2.1 = some (tyX7 k) := by decide +kernel
abbrev cX7_in : ByteArray := prog_9_method_3_code
def yX7_in : MethodName := ⟨RX7, "in", "(JJJ)Z"⟩
abbrev cX7_told : ByteArray := prog_9_method_4_code
def yX7_told : MethodName := ⟨RX7, "told", "(I)I"⟩
abbrev cX7_isSmall : ByteArray := prog_9_method_12_code
def yX7_isSmall : MethodName := ⟨RX7, "isSmall", "(I)Z"⟩
abbrev cX7_isDigit : ByteArray := prog_9_method_13_code
def yX7_isDigit : MethodName := ⟨RX7, "isDigit", "(I)Z"⟩
abbrev cX7_next : ByteArray := prog_9_method_14_code
def yX7_next : MethodName := ⟨RX7, "next", "()V"⟩
def RJx4a65c : String := "java/util/ArrayList"
def TJx4a65c : u_T := fun k => match k with
  | 0 => ("java/util/AbstractList", "modCount", "I", false)
  | 1 => ("java/util/ArrayList", "elementData", "[Ljava/lang/Object;", false)
  | _ => ("java/util/ArrayList", "size", "I", false)
abbrev wsJx4a65c0 : List Cond := u_ws RJx4a65c TJx4a65c 3
abbrev vwCl : List vw_C := [(RJx4a65c, TJx4a65c, 3), (RX0, TX0, 5), (RX1, TX1, 4), (RX2, TX2, 6), (RX3, TX3, 2), (RX4, TX4, 3), (RX5, TX5, 2), (RX6, TX6, 11), (RX7, TX7, 42)]
