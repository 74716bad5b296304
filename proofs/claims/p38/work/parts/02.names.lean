/-! ===== BEGIN words of one list among another's, by their places ===== -/
theorem goodIn_r {big : List Cond} (ws : List Cond) (ps : List Nat) (hp : ws = ps.filterMap (fun i => big[i]?)) (h : ws.all goodWord = true) : GoodIn big ws := by
  intro w hw
  have h1 := List.all_eq_true.mp h w hw
  rw [hp] at hw
  obtain ⟨i, -, hi⟩ := List.mem_filterMap.mp hw
  have hm : w ∈ big := by first | exact List.mem_of_getElem? hi | exact List.getElem?_mem hi
  exact ⟨hm, good_of_word h1⟩
theorem goodIn_app {big a b : List Cond} (ha : GoodIn big a) (hb : GoodIn big b) : GoodIn big (a ++ b) := fun w h => (List.mem_append.mp h).elim (ha w) (hb w)
theorem goodIn_ca {big a b : List Cond} {c : Cond} (ha : GoodIn big (c :: a)) (hb : GoodIn big b) : GoodIn big (c :: (a ++ b)) := fun w h => (List.mem_cons.mp h).elim (fun e => ha w (List.mem_cons.mpr (Or.inl e))) (fun h => (List.mem_append.mp h).elim (fun h => ha w (List.mem_cons.mpr (Or.inr h))) (hb w))
theorem goodIn_sub {big ws : List Cond} (hm : ∀ w ∈ ws, w ∈ big) (h : ws.all goodWord = true) : GoodIn big ws := fun w hw => ⟨hm w hw, good_of_word (List.all_eq_true.mp h w hw)⟩
/-! ===== END ===== -/

/-! ===== BEGIN printed: names, fields, word lists, decode rows ===== -/
def RX0 : String := "JesterUnion$Bookings"
def TX0 : u_T := fun k => match k with
  | 0 => ("JesterUnion$Bookings", "count", "I", false)
  | 1 => ("JesterUnion$Bookings", "fool", "[I", true)
  | 2 => ("JesterUnion$Bookings", "joke", "[I", true)
  | 3 => ("JesterUnion$Bookings", "throne", "[I", true)
  | _ => ("JesterUnion$Bookings", "hour", "[I", true)
def tyX0 : Nat → FieldType := fun k => match k with
  | 0 => .int
  | 1 => .array .int
  | 2 => .array .int
  | 3 => .array .int
  | _ => .array .int
abbrev wsX00 : List Cond := u_ws RX0 TX0 5
theorem nmX0 : ∀ a, a < 5 → ∀ b, b < 5 → a ≠ b → (TX0 a).2.1 ≠ (TX0 b).2.1 := by decide +kernel
theorem tyX0_ok : ∀ k, k < 5 → parseFieldDescriptor (TX0 k).2.2.1 = some (tyX0 k) := by decide +kernel
abbrev cX0_init : ByteArray := prog_2_method_1_code
def yX0_init : MethodName := ⟨RX0, "<init>", "()V"⟩
abbrev cX0_take : ByteArray := prog_2_method_2_code
def yX0_take : MethodName := ⟨RX0, "take", "(LJesterUnion$Bookings;)V"⟩
abbrev cX0_with : ByteArray := prog_2_method_3_code
def yX0_with : MethodName := ⟨RX0, "with", "([II)I"⟩
abbrev cX0_jokeOfFoolAt : ByteArray := prog_2_method_4_code
def yX0_jokeOfFoolAt : MethodName := ⟨RX0, "jokeOfFoolAt", "(II)I"⟩
abbrev cX0_insert : ByteArray := prog_2_method_5_code
def yX0_insert : MethodName := ⟨RX0, "insert", "(IIIII)V"⟩
abbrev cX0_removeFirst : ByteArray := prog_2_method_6_code
def yX0_removeFirst : MethodName := ⟨RX0, "removeFirst", "()V"⟩
abbrev cX0_move : ByteArray := prog_2_method_7_code
def yX0_move : MethodName := ⟨RX0, "move", "(II)V"⟩
def RX1 : String := "JesterUnion$Court"
def TX1 : u_T := fun k => match k with
  | 0 => ("JesterUnion$Court", "fools", "LJesterUnion$Fools;", true)
  | 1 => ("JesterUnion$Court", "jokes", "LJesterUnion$Jokes;", true)
  | 2 => ("JesterUnion$Court", "bookings", "LJesterUnion$Bookings;", true)
  | 3 => ("JesterUnion$Court", "exempt", "[I", true)
  | 4 => ("JesterUnion$Court", "paid", "[I", true)
  | 5 => ("JesterUnion$Court", "hour", "I", false)
  | 6 => ("JesterUnion$Court", "brought", "I", false)
  | 7 => ("JesterUnion$Court", "union", "I", false)
  | 8 => ("JesterUnion$Court", "lost", "I", false)
  | _ => ("JesterUnion$Court", "carriedOut", "I", false)
def tyX1 : Nat → FieldType := fun k => match k with
  | 0 => .object "JesterUnion$Fools"
  | 1 => .object "JesterUnion$Jokes"
  | 2 => .object "JesterUnion$Bookings"
  | 3 => .array .int
  | 4 => .array .int
  | 5 => .int
  | 6 => .int
  | 7 => .int
  | 8 => .int
  | _ => .int
abbrev wsX10 : List Cond := u_ws RX1 TX1 10
theorem nmX1 : ∀ a, a < 10 → ∀ b, b < 10 → a ≠ b → (TX1 a).2.1 ≠ (TX1 b).2.1 := by decide +kernel
theorem tyX1_ok : ∀ k, k < 10 → parseFieldDescriptor (TX1 k).2.2.1 = some (tyX1 k) := by decide +kernel
abbrev cX1_init : ByteArray := prog_3_method_1_code
def yX1_init : MethodName := ⟨RX1, "<init>", "()V"⟩
abbrev cX1_take : ByteArray := prog_3_method_2_code
def yX1_take : MethodName := ⟨RX1, "take", "(LJesterUnion$Court;)V"⟩
abbrev cX1_holds : ByteArray := prog_3_method_3_code
def yX1_holds : MethodName := ⟨RX1, "holds", "(I)Z"⟩
abbrev cX1_isBarred : ByteArray := prog_3_method_4_code
def yX1_isBarred : MethodName := ⟨RX1, "isBarred", "(II)Z"⟩
abbrev cX1_patents : ByteArray := prog_3_method_5_code
def yX1_patents : MethodName := ⟨RX1, "patents", "()I"⟩
abbrev cX1_patentsOf : ByteArray := prog_3_method_6_code
def yX1_patentsOf : MethodName := ⟨RX1, "patentsOf", "(I)I"⟩
abbrev cX1_endJokeByJoke : ByteArray := prog_3_method_7_code
def yX1_endJokeByJoke : MethodName := ⟨RX1, "endJokeByJoke", "()I"⟩
abbrev cX1_endHourByHour : ByteArray := prog_3_method_8_code
def yX1_endHourByHour : MethodName := ⟨RX1, "endHourByHour", "()I"⟩
abbrev cX1_doesAnyEndAt : ByteArray := prog_3_method_9_code
def yX1_doesAnyEndAt : MethodName := ⟨RX1, "doesAnyEndAt", "(I)Z"⟩
abbrev cX1_laughs : ByteArray := prog_3_method_10_code
def yX1_laughs : MethodName := ⟨RX1, "laughs", "(III)I"⟩
abbrev cX1_laughsNow : ByteArray := prog_3_method_11_code
def yX1_laughsNow : MethodName := ⟨RX1, "laughsNow", "(III)I"⟩
abbrev cX1_bestJokeByJoke : ByteArray := prog_3_method_12_code
def yX1_bestJokeByJoke : MethodName := ⟨RX1, "bestJokeByJoke", "(II)I"⟩
abbrev cX1_bestByWit : ByteArray := prog_3_method_13_code
def yX1_bestByWit : MethodName := ⟨RX1, "bestByWit", "(II)I"⟩
abbrev cX1_placeFor : ByteArray := prog_3_method_14_code
def yX1_placeFor : MethodName := ⟨RX1, "placeFor", "(III)I"⟩
abbrev cX1_isAhead : ByteArray := prog_3_method_15_code
def yX1_isAhead : MethodName := ⟨RX1, "isAhead", "(IIII)Z"⟩
abbrev cX1_carryFirstOut : ByteArray := prog_3_method_16_code
def yX1_carryFirstOut : MethodName := ⟨RX1, "carryFirstOut", "()I"⟩
abbrev cX1_perform : ByteArray := prog_3_method_17_code
def yX1_perform : MethodName := ⟨RX1, "perform", "(III)I"⟩
abbrev cX1_payUnion : ByteArray := prog_3_method_18_code
def yX1_payUnion : MethodName := ⟨RX1, "payUnion", "(II)I"⟩
abbrev cX1_payFine : ByteArray := prog_3_method_19_code
def yX1_payFine : MethodName := ⟨RX1, "payFine", "(II)V"⟩
abbrev cX1_gain : ByteArray := prog_3_method_20_code
def yX1_gain : MethodName := ⟨RX1, "gain", "(II)V"⟩
def RX2 : String := "JesterUnion$Fools"
def TX2 : u_T := fun k => match k with
  | 0 => ("JesterUnion$Fools", "count", "I", false)
  | 1 => ("JesterUnion$Fools", "skill", "[I", true)
  | 2 => ("JesterUnion$Fools", "coins", "[I", true)
  | 3 => ("JesterUnion$Fools", "tears", "[I", true)
  | 4 => ("JesterUnion$Fools", "insured", "[I", true)
  | 5 => ("JesterUnion$Fools", "told", "[I", true)
  | _ => ("JesterUnion$Fools", "slips", "[I", true)
def tyX2 : Nat → FieldType := fun k => match k with
  | 0 => .int
  | 1 => .array .int
  | 2 => .array .int
  | 3 => .array .int
  | 4 => .array .int
  | 5 => .array .int
  | _ => .array .int
abbrev wsX20 : List Cond := u_ws RX2 TX2 7
theorem nmX2 : ∀ a, a < 7 → ∀ b, b < 7 → a ≠ b → (TX2 a).2.1 ≠ (TX2 b).2.1 := by decide +kernel
theorem tyX2_ok : ∀ k, k < 7 → parseFieldDescriptor (TX2 k).2.2.1 = some (tyX2 k) := by decide +kernel
abbrev cX2_init : ByteArray := prog_4_method_1_code
def yX2_init : MethodName := ⟨RX2, "<init>", "()V"⟩
abbrev cX2_take : ByteArray := prog_4_method_2_code
def yX2_take : MethodName := ⟨RX2, "take", "(LJesterUnion$Fools;)V"⟩
abbrev cX2_has : ByteArray := prog_4_method_3_code
def yX2_has : MethodName := ⟨RX2, "has", "(I)Z"⟩
abbrev cX2_add : ByteArray := prog_4_method_4_code
def yX2_add : MethodName := ⟨RX2, "add", "(I)I"⟩
abbrev cX2_atRank : ByteArray := prog_4_method_5_code
def yX2_atRank : MethodName := ⟨RX2, "atRank", "(I)I"⟩
abbrev cX2_countAhead : ByteArray := prog_4_method_6_code
def yX2_countAhead : MethodName := ⟨RX2, "countAhead", "(I)I"⟩
abbrev cX2_isAhead : ByteArray := prog_4_method_7_code
def yX2_isAhead : MethodName := ⟨RX2, "isAhead", "(II)Z"⟩
def RX3 : String := "JesterUnion$History"
def TX3 : u_T := fun k => match k with
  | 0 => ("JesterUnion$History", "count", "I", false)
  | 1 => ("JesterUnion$History", "nextSlot", "I", false)
  | _ => ("JesterUnion$History", "slots", "[LJesterUnion$Court;", true)
def tyX3 : Nat → FieldType := fun k => match k with
  | 0 => .int
  | 1 => .int
  | _ => .array (.object "JesterUnion$Court")
abbrev wsX30 : List Cond := u_ws RX3 TX3 3
theorem nmX3 : ∀ a, a < 3 → ∀ b, b < 3 → a ≠ b → (TX3 a).2.1 ≠ (TX3 b).2.1 := by decide +kernel
theorem tyX3_ok : ∀ k, k < 3 → parseFieldDescriptor (TX3 k).2.2.1 = some (tyX3 k) := by decide +kernel
abbrev cX3_init : ByteArray := prog_5_method_1_code
def yX3_init : MethodName := ⟨RX3, "<init>", "()V"⟩
abbrev cX3_keep : ByteArray := prog_5_method_2_code
def yX3_keep : MethodName := ⟨RX3, "keep", "(LJesterUnion$Court;)V"⟩
abbrev cX3_giveLatestBack : ByteArray := prog_5_method_3_code
def yX3_giveLatestBack : MethodName := ⟨RX3, "giveLatestBack", "(LJesterUnion$Court;)V"⟩
abbrev cX3_forgetAll : ByteArray := prog_5_method_4_code
def yX3_forgetAll : MethodName := ⟨RX3, "forgetAll", "()V"⟩
def RX4 : String := "JesterUnion$Jokes"
def TX4 : u_T := fun k => match k with
  | 0 => ("JesterUnion$Jokes", "count", "I", false)
  | 1 => ("JesterUnion$Jokes", "wit", "[I", true)
  | 2 => ("JesterUnion$Jokes", "owner", "[I", true)
  | 3 => ("JesterUnion$Jokes", "end", "[I", true)
  | _ => ("JesterUnion$Jokes", "told", "[I", true)
def tyX4 : Nat → FieldType := fun k => match k with
  | 0 => .int
  | 1 => .array .int
  | 2 => .array .int
  | 3 => .array .int
  | _ => .array .int
abbrev wsX40 : List Cond := u_ws RX4 TX4 5
theorem nmX4 : ∀ a, a < 5 → ∀ b, b < 5 → a ≠ b → (TX4 a).2.1 ≠ (TX4 b).2.1 := by decide +kernel
theorem tyX4_ok : ∀ k, k < 5 → parseFieldDescriptor (TX4 k).2.2.1 = some (tyX4 k) := by decide +kernel
abbrev cX4_init : ByteArray := prog_6_method_1_code
def yX4_init : MethodName := ⟨RX4, "<init>", "()V"⟩
abbrev cX4_take : ByteArray := prog_6_method_2_code
def yX4_take : MethodName := ⟨RX4, "take", "(LJesterUnion$Jokes;)V"⟩
abbrev cX4_has : ByteArray := prog_6_method_3_code
def yX4_has : MethodName := ⟨RX4, "has", "(I)Z"⟩
abbrev cX4_add : ByteArray := prog_6_method_4_code
def yX4_add : MethodName := ⟨RX4, "add", "(I)I"⟩
abbrev cX4_toldAt : ByteArray := prog_6_method_5_code
def yX4_toldAt : MethodName := ⟨RX4, "toldAt", "(II)I"⟩
abbrev cX4_addTelling : ByteArray := prog_6_method_6_code
def yX4_addTelling : MethodName := ⟨RX4, "addTelling", "(II)V"⟩
abbrev cX4_tellings : ByteArray := prog_6_method_7_code
def yX4_tellings : MethodName := ⟨RX4, "tellings", "(I)I"⟩
abbrev cX4_tellingsAt : ByteArray := prog_6_method_8_code
def yX4_tellingsAt : MethodName := ⟨RX4, "tellingsAt", "(I)I"⟩
abbrev cX4_atRank : ByteArray := prog_6_method_9_code
def yX4_atRank : MethodName := ⟨RX4, "atRank", "(I)I"⟩
abbrev cX4_countAhead : ByteArray := prog_6_method_10_code
def yX4_countAhead : MethodName := ⟨RX4, "countAhead", "(I)I"⟩
abbrev cX4_isAhead : ByteArray := prog_6_method_11_code
def yX4_isAhead : MethodName := ⟨RX4, "isAhead", "(II)Z"⟩
def RX5 : String := "JesterUnion$OrderText"
def TX5 : u_T := fun k => match k with
  | 0 => ("JesterUnion$OrderText", "signs", "Ljava/lang/StringBuilder;", true)
  | 1 => ("JesterUnion$OrderText", "count", "I", false)
  | 2 => ("JesterUnion$OrderText", "place", "I", false)
  | 3 => ("JesterUnion$OrderText", "numbersRead", "I", false)
  | 4 => ("JesterUnion$OrderText", "letters", "[C", true)
  | _ => ("JesterUnion$OrderText", "numbers", "[I", true)
def tyX5 : Nat → FieldType := fun k => match k with
  | 0 => .object "java/lang/StringBuilder"
  | 1 => .int
  | 2 => .int
  | 3 => .int
  | 4 => .array .char
  | _ => .array .int
abbrev wsX50 : List Cond := u_ws RX5 TX5 6
theorem nmX5 : ∀ a, a < 6 → ∀ b, b < 6 → a ≠ b → (TX5 a).2.1 ≠ (TX5 b).2.1 := by decide +kernel
theorem tyX5_ok : ∀ k, k < 6 → parseFieldDescriptor (TX5 k).2.2.1 = some (tyX5 k) := by decide +kernel
abbrev cX5_init : ByteArray := prog_7_method_1_code
def yX5_init : MethodName := ⟨RX5, "<init>", "()V"⟩
abbrev cX5_letter : ByteArray := prog_7_method_2_code
def yX5_letter : MethodName := ⟨RX5, "letter", "(I)C"⟩
abbrev cX5_number : ByteArray := prog_7_method_3_code
def yX5_number : MethodName := ⟨RX5, "number", "(II)I"⟩
abbrev cX5_read : ByteArray := prog_7_method_4_code
def yX5_read : MethodName := ⟨RX5, "read", "()Z"⟩
abbrev cX5_readOrder : ByteArray := prog_7_method_5_code
def yX5_readOrder : MethodName := ⟨RX5, "readOrder", "()Z"⟩
abbrev cX5_shapeOf : ByteArray := prog_7_method_6_code
def yX5_shapeOf : MethodName := ⟨RX5, "shapeOf", "(C)Ljava/lang/String;"⟩
abbrev cX5_readPart : ByteArray := prog_7_method_7_code
def yX5_readPart : MethodName := ⟨RX5, "readPart", "(C)Z"⟩
abbrev cX5_readNumber : ByteArray := prog_7_method_8_code
def yX5_readNumber : MethodName := ⟨RX5, "readNumber", "(I)Z"⟩
abbrev cX5_isDigitAhead : ByteArray := prog_7_method_9_code
def yX5_isDigitAhead : MethodName := ⟨RX5, "isDigitAhead", "()Z"⟩
abbrev cX5_readPlusOrMinus : ByteArray := prog_7_method_10_code
def yX5_readPlusOrMinus : MethodName := ⟨RX5, "readPlusOrMinus", "()Z"⟩
abbrev cX5_readSign : ByteArray := prog_7_method_11_code
def yX5_readSign : MethodName := ⟨RX5, "readSign", "(C)Z"⟩
abbrev cX5_keepNumber : ByteArray := prog_7_method_12_code
def yX5_keepNumber : MethodName := ⟨RX5, "keepNumber", "(I)V"⟩
def RX6 : String := "JesterUnion"
def TX6 : u_T := fun k => match k with
  | 0 => ("JesterUnion", "now", "LJesterUnion$Court;", true)
  | 1 => ("JesterUnion", "before", "LJesterUnion$Court;", true)
  | 2 => ("JesterUnion", "trial", "LJesterUnion$Court;", true)
  | 3 => ("JesterUnion", "snapshot", "LJesterUnion$Court;", true)
  | 4 => ("JesterUnion", "history", "LJesterUnion$History;", true)
  | 5 => ("JesterUnion", "text", "LJesterUnion$OrderText;", true)
  | 6 => ("JesterUnion", "line", "Ljava/lang/StringBuilder;", true)
  | 7 => ("JesterUnion", "isSaved", "Z", false)
  | 8 => ("JesterUnion", "latestReason", "I", false)
  | _ => ("JesterUnion", "latestDetail", "I", false)
def tyX6 : Nat → FieldType := fun k => match k with
  | 0 => .object "JesterUnion$Court"
  | 1 => .object "JesterUnion$Court"
  | 2 => .object "JesterUnion$Court"
  | 3 => .object "JesterUnion$Court"
  | 4 => .object "JesterUnion$History"
  | 5 => .object "JesterUnion$OrderText"
  | 6 => .object "java/lang/StringBuilder"
  | 7 => .boolean
  | 8 => .int
  | _ => .int
abbrev wsX60 : List Cond := u_ws RX6 TX6 10
theorem nmX6 : ∀ a, a < 10 → ∀ b, b < 10 → a ≠ b → (TX6 a).2.1 ≠ (TX6 b).2.1 := by decide +kernel
theorem tyX6_ok : ∀ k, k < 10 → parseFieldDescriptor (TX6 k).2.2.1 = some (tyX6 k) := by decide +kernel
abbrev cX6_init : ByteArray := prog_1_method_1_code
def yX6_init : MethodName := ⟨RX6, "<init>", "()V"⟩
abbrev cX6_fool : ByteArray := prog_1_method_2_code
def yX6_fool : MethodName := ⟨RX6, "fool", "(I)I"⟩
abbrev cX6_joke : ByteArray := prog_1_method_3_code
def yX6_joke : MethodName := ⟨RX6, "joke", "(I)I"⟩
abbrev cX6_patent : ByteArray := prog_1_method_4_code
def yX6_patent : MethodName := ⟨RX6, "patent", "(III)I"⟩
abbrev cX6_insure : ByteArray := prog_1_method_5_code
def yX6_insure : MethodName := ⟨RX6, "insure", "(I)I"⟩
abbrev cX6_audit : ByteArray := prog_1_method_6_code
def yX6_audit : MethodName := ⟨RX6, "audit", "(I)I"⟩
abbrev cX6_foolOf : ByteArray := prog_1_method_7_code
def yX6_foolOf : MethodName := ⟨RX6, "foolOf", "(II)I"⟩
abbrev cX6_jokeOf : ByteArray := prog_1_method_8_code
def yX6_jokeOf : MethodName := ⟨RX6, "jokeOf", "(II)I"⟩
abbrev cX6_exempt : ByteArray := prog_1_method_9_code
def yX6_exempt : MethodName := ⟨RX6, "exempt", "(II)I"⟩
abbrev cX6_throneOf : ByteArray := prog_1_method_10_code
def yX6_throneOf : MethodName := ⟨RX6, "throneOf", "(II)I"⟩
abbrev cX6_told : ByteArray := prog_1_method_11_code
def yX6_told : MethodName := ⟨RX6, "told", "(II)I"⟩
abbrev cX6_book : ByteArray := prog_1_method_12_code
def yX6_book : MethodName := ⟨RX6, "book", "(IIII)I"⟩
abbrev cX6_next : ByteArray := prog_1_method_13_code
def yX6_next : MethodName := ⟨RX6, "next", "()I"⟩
abbrev cX6_pass : ByteArray := prog_1_method_14_code
def yX6_pass : MethodName := ⟨RX6, "pass", "(I)I"⟩
abbrev cX6_booking : ByteArray := prog_1_method_15_code
def yX6_booking : MethodName := ⟨RX6, "booking", "(II)I"⟩
abbrev cX6_would : ByteArray := prog_1_method_16_code
def yX6_would : MethodName := ⟨RX6, "would", "(III)I"⟩
abbrev cX6_best : ByteArray := prog_1_method_17_code
def yX6_best : MethodName := ⟨RX6, "best", "(II)I"⟩
abbrev cX6_bestAgain : ByteArray := prog_1_method_18_code
def yX6_bestAgain : MethodName := ⟨RX6, "bestAgain", "(II)I"⟩
abbrev cX6_ends : ByteArray := prog_1_method_19_code
def yX6_ends : MethodName := ⟨RX6, "ends", "()I"⟩
abbrev cX6_endsAgain : ByteArray := prog_1_method_20_code
def yX6_endsAgain : MethodName := ⟨RX6, "endsAgain", "()I"⟩
abbrev cX6_forecast : ByteArray := prog_1_method_21_code
def yX6_forecast : MethodName := ⟨RX6, "forecast", "()I"⟩
abbrev cX6_ranked : ByteArray := prog_1_method_22_code
def yX6_ranked : MethodName := ⟨RX6, "ranked", "(I)I"⟩
abbrev cX6_stalest : ByteArray := prog_1_method_23_code
def yX6_stalest : MethodName := ⟨RX6, "stalest", "(I)I"⟩
abbrev cX6_run : ByteArray := prog_1_method_25_code
def yX6_run : MethodName := ⟨RX6, "run", "()I"⟩
abbrev cX6_tell : ByteArray := prog_1_method_26_code
def yX6_tell : MethodName := ⟨RX6, "tell", "(I)I"⟩
abbrev cX6_tellBookings : ByteArray := prog_1_method_27_code
def yX6_tellBookings : MethodName := ⟨RX6, "tellBookings", "()I"⟩
abbrev cX6_character : ByteArray := prog_1_method_28_code
def yX6_character : MethodName := ⟨RX6, "character", "(I)I"⟩
abbrev cX6_reason : ByteArray := prog_1_method_29_code
def yX6_reason : MethodName := ⟨RX6, "reason", "(Z)I"⟩
abbrev cX6_account : ByteArray := prog_1_method_30_code
def yX6_account : MethodName := ⟨RX6, "account", "(I)I"⟩
abbrev cX6_isBalanced : ByteArray := prog_1_method_31_code
def yX6_isBalanced : MethodName := ⟨RX6, "isBalanced", "()I"⟩
abbrev cX6_meanWit : ByteArray := prog_1_method_32_code
def yX6_meanWit : MethodName := ⟨RX6, "meanWit", "()D"⟩
abbrev cX6_slipShare : ByteArray := prog_1_method_33_code
def yX6_slipShare : MethodName := ⟨RX6, "slipShare", "()F"⟩
abbrev cX6_undo : ByteArray := prog_1_method_34_code
def yX6_undo : MethodName := ⟨RX6, "undo", "()I"⟩
abbrev cX6_save : ByteArray := prog_1_method_35_code
def yX6_save : MethodName := ⟨RX6, "save", "()I"⟩
abbrev cX6_restore : ByteArray := prog_1_method_36_code
def yX6_restore : MethodName := ⟨RX6, "restore", "()I"⟩
abbrev cX6_admit : ByteArray := prog_1_method_37_code
def yX6_admit : MethodName := ⟨RX6, n_adm, "(I)I"⟩
abbrev cX6_invent : ByteArray := prog_1_method_38_code
def yX6_invent : MethodName := ⟨RX6, "invent", "(I)I"⟩
abbrev cX6_grant : ByteArray := prog_1_method_39_code
def yX6_grant : MethodName := ⟨RX6, "grant", "(III)I"⟩
abbrev cX6_cover : ByteArray := prog_1_method_40_code
def yX6_cover : MethodName := ⟨RX6, "cover", "(I)I"⟩
abbrev cX6_collect : ByteArray := prog_1_method_41_code
def yX6_collect : MethodName := ⟨RX6, "collect", "(I)I"⟩
abbrev cX6_setExempt : ByteArray := prog_1_method_42_code
def yX6_setExempt : MethodName := ⟨RX6, "setExempt", "(II)I"⟩
abbrev cX6_reserve : ByteArray := prog_1_method_43_code
def yX6_reserve : MethodName := ⟨RX6, "reserve", "(IIII)I"⟩
abbrev cX6_carryNextOut : ByteArray := prog_1_method_44_code
def yX6_carryNextOut : MethodName := ⟨RX6, "carryNextOut", "()I"⟩
abbrev cX6_elapse : ByteArray := prog_1_method_45_code
def yX6_elapse : MethodName := ⟨RX6, "elapse", "(I)I"⟩
abbrev cX6_carryOrderOut : ByteArray := prog_1_method_46_code
def yX6_carryOrderOut : MethodName := ⟨RX6, "carryOrderOut", "(I)I"⟩
abbrev cX6_remember : ByteArray := prog_1_method_47_code
def yX6_remember : MethodName := ⟨RX6, "remember", "(I)I"⟩
abbrev cX6_refuse : ByteArray := prog_1_method_48_code
def yX6_refuse : MethodName := ⟨RX6, "refuse", "(II)I"⟩
abbrev cX6_areCoinsAccountedFor : ByteArray := prog_1_method_49_code
def yX6_areCoinsAccountedFor : MethodName := ⟨RX6, "areCoinsAccountedFor", "()Z"⟩
abbrev cX6_areTellingsAccountedFor : ByteArray := prog_1_method_50_code
def yX6_areTellingsAccountedFor : MethodName := ⟨RX6, "areTellingsAccountedFor", "()Z"⟩
abbrev cX6_areBestsTheSame : ByteArray := prog_1_method_51_code
def yX6_areBestsTheSame : MethodName := ⟨RX6, "areBestsTheSame", "()Z"⟩
abbrev cX6_write : ByteArray := prog_1_method_52_code
def yX6_write : MethodName := ⟨RX6, "write", "(CI)V"⟩
abbrev cX6_isThrone : ByteArray := prog_1_method_53_code
def yX6_isThrone : MethodName := ⟨RX6, "isThrone", "(I)Z"⟩
abbrev cX6_sum : ByteArray := prog_1_method_54_code
def yX6_sum : MethodName := ⟨RX6, "sum", "([I)I"⟩
abbrev cX6_copy : ByteArray := prog_1_method_55_code
def yX6_copy : MethodName := ⟨RX6, "copy", "([I[I)V"⟩
def RX7 : String := "JesterUnionLaw$Bits"
def TX7 : u_T := fun k => match k with
  | _ => ("JesterUnionLaw$Bits", "bits", "I", false)
def tyX7 : Nat → FieldType := fun k => match k with
  | _ => .int
abbrev wsX70 : List Cond := u_ws RX7 TX7 1
theorem nmX7 : ∀ a, a < 1 → ∀ b, b < 1 → a ≠ b → (TX7 a).2.1 ≠ (TX7 b).2.1 := by decide +kernel
theorem tyX7_ok : ∀ k, k < 1 → parseFieldDescriptor (TX7 k).2.2.1 = some (tyX7 k) := by decide +kernel
abbrev cX7_init : ByteArray := prog_9_method_1_code
def yX7_init : MethodName := ⟨RX7, "<init>", "(I)V"⟩
abbrev cX7_next : ByteArray := prog_9_method_2_code
def yX7_next : MethodName := ⟨RX7, "next", "(I)I"⟩
def RX8 : String := "JesterUnionModel"
def TX8 : u_T := fun k => match k with
  | _ => ("", "", "", false)
def tyX8 : Nat → FieldType := fun k => match k with
  | _ => .int
abbrev wsX80 : List Cond := u_ws RX8 TX8 0
theorem nmX8 : ∀ a, a < 0 → ∀ b, b < 0 → a ≠ b → (TX8 a).2.1 ≠ (TX8 b).2.1 := by decide +kernel
theorem tyX8_ok : ∀ k, k < 0 → parseFieldDescriptor (TX8 k).2.2.1 = some (tyX8 k) := by decide +kernel
def RJ5 : String := "java/lang/AbstractStringBuilder"
def TJ5 : u_T := fun k => match k with
  | _ => ("", "", "", false)
def tyJ5 : Nat → FieldType := fun k => match k with
  | _ => .int
abbrev wsJ50 : List Cond := u_ws RJ5 TJ5 0
theorem nmJ5 : ∀ a, a < 0 → ∀ b, b < 0 → a ≠ b → (TJ5 a).2.1 ≠ (TJ5 b).2.1 := by decide +kernel
theorem tyJ5_ok : ∀ k, k < 0 → parseFieldDescriptor (TJ5 k).2.2.1 = some (tyJ5 k) := by decide +kernel
abbrev cJ5_init_d00df : ByteArray := prog_11_method_2_code
def yJ5_init_d00df : MethodName := ⟨RJ5, "<init>", "(I)V"⟩
abbrev cJ5_length_8abf5 : ByteArray := prog_11_method_6_code
def yJ5_length_8abf5 : MethodName := ⟨RJ5, "length", "()I"⟩
abbrev cJ5_ensureCapacityInternal_d00df : ByteArray := prog_11_method_9_code
def yJ5_ensureCapacityInternal_d00df : MethodName := ⟨RJ5, "ensureCapacityInternal", "(I)V"⟩
abbrev cJ5_newCapacity_0f7a4 : ByteArray := prog_11_method_10_code
def yJ5_newCapacity_0f7a4 : MethodName := ⟨RJ5, "newCapacity", "(I)I"⟩
abbrev cJ5_inflate_da8c8 : ByteArray := prog_11_method_11_code
def yJ5_inflate_da8c8 : MethodName := ⟨RJ5, "inflate", "()V"⟩
abbrev cJ5_setLength_d00df : ByteArray := prog_11_method_13_code
def yJ5_setLength_d00df : MethodName := ⟨RJ5, "setLength", "(I)V"⟩
abbrev cJ5_charAt_5068e : ByteArray := prog_11_method_14_code
def yJ5_charAt_5068e : MethodName := ⟨RJ5, "charAt", "(I)C"⟩
abbrev cJ5_append_cf1ce : ByteArray := prog_11_method_22_code
def yJ5_append_cf1ce : MethodName := ⟨RJ5, "append", "(Ljava/lang/String;)Ljava/lang/AbstractStringBuilder;"⟩
abbrev cJ5_appendNull_278bc : ByteArray := prog_11_method_26_code
def yJ5_appendNull_278bc : MethodName := ⟨RJ5, "appendNull", "()Ljava/lang/AbstractStringBuilder;"⟩
abbrev cJ5_append_3fe6f : ByteArray := prog_11_method_31_code
def yJ5_append_3fe6f : MethodName := ⟨RJ5, "append", "(C)Ljava/lang/AbstractStringBuilder;"⟩
abbrev cJ5_append_c97b9 : ByteArray := prog_11_method_32_code
def yJ5_append_c97b9 : MethodName := ⟨RJ5, "append", "(I)Ljava/lang/AbstractStringBuilder;"⟩
abbrev cJ5_getValue_6d5f1 : ByteArray := prog_11_method_64_code
def yJ5_getValue_6d5f1 : MethodName := ⟨RJ5, "getValue", "()[B"⟩
abbrev cJ5_isLatin1_aae02 : ByteArray := prog_11_method_68_code
def yJ5_isLatin1_aae02 : MethodName := ⟨RJ5, "isLatin1", "()Z"⟩
abbrev cJ5_inflateIfNeededFor_a7421 : ByteArray := prog_11_method_71_code
def yJ5_inflateIfNeededFor_a7421 : MethodName := ⟨RJ5, "inflateIfNeededFor", "(Ljava/lang/String;)V"⟩
abbrev cJ5_putStringAt_47b60 : ByteArray := prog_11_method_73_code
def yJ5_putStringAt_47b60 : MethodName := ⟨RJ5, "putStringAt", "(ILjava/lang/String;)V"⟩
def RJx8e188 : String := "java/lang/Cloneable"
def TJx8e188 : u_T := fun k => match k with
  | _ => ("", "", "", false)
def tyJx8e188 : Nat → FieldType := fun k => match k with
  | _ => .int
abbrev wsJx8e1880 : List Cond := u_ws RJx8e188 TJx8e188 0
theorem nmJx8e188 : ∀ a, a < 0 → ∀ b, b < 0 → a ≠ b → (TJx8e188 a).2.1 ≠ (TJx8e188 b).2.1 := by decide +kernel
theorem tyJx8e188_ok : ∀ k, k < 0 → parseFieldDescriptor (TJx8e188 k).2.2.1 = some (tyJx8e188 k) := by decide +kernel
def RJ6 : String := "java/lang/Integer"
def TJ6 : u_T := fun k => match k with
  | _ => ("", "", "", false)
def tyJ6 : Nat → FieldType := fun k => match k with
  | _ => .int
abbrev wsJ60 : List Cond := u_ws RJ6 TJ6 0
theorem nmJ6 : ∀ a, a < 0 → ∀ b, b < 0 → a ≠ b → (TJ6 a).2.1 ≠ (TJ6 b).2.1 := by decide +kernel
theorem tyJ6_ok : ∀ k, k < 0 → parseFieldDescriptor (TJ6 k).2.2.1 = some (tyJ6 k) := by decide +kernel
abbrev cJ6_getChars_ba4f3 : ByteArray := prog_13_method_12_code
def yJ6_getChars_ba4f3 : MethodName := ⟨RJ6, "getChars", "(II[B)I"⟩
abbrev cJ6_stringSize_0f7a4 : ByteArray := prog_13_method_13_code
def yJ6_stringSize_0f7a4 : MethodName := ⟨RJ6, "stringSize", "(I)I"⟩
def RJ9 : String := "java/lang/Math"
def TJ9 : u_T := fun k => match k with
  | _ => ("", "", "", false)
def tyJ9 : Nat → FieldType := fun k => match k with
  | _ => .int
abbrev wsJ90 : List Cond := u_ws RJ9 TJ9 0
theorem nmJ9 : ∀ a, a < 0 → ∀ b, b < 0 → a ≠ b → (TJ9 a).2.1 ≠ (TJ9 b).2.1 := by decide +kernel
theorem tyJ9_ok : ∀ k, k < 0 → parseFieldDescriptor (TJ9 k).2.2.1 = some (tyJ9 k) := by decide +kernel
abbrev cJ9_max_7cf53 : ByteArray := prog_14_method_65_code
def yJ9_max_7cf53 : MethodName := ⟨RJ9, "max", "(II)I"⟩
abbrev cJ9_min_7cf53 : ByteArray := prog_14_method_69_code
def yJ9_min_7cf53 : MethodName := ⟨RJ9, "min", "(II)I"⟩
def RJ0 : String := "java/lang/String"
def TJ0 : u_T := fun k => match k with
  | 0 => ("java/lang/String", "value", "[B", true)
  | 1 => ("java/lang/String", "coder", "B", true)
  | 2 => ("java/lang/String", "hash", "I", false)
  | _ => ("java/lang/String", "hashIsZero", "Z", false)
def tyJ0 : Nat → FieldType := fun k => match k with
  | 0 => .array .byte
  | 1 => .byte
  | 2 => .int
  | _ => .boolean
abbrev wsJ00 : List Cond := u_ws RJ0 TJ0 4
theorem nmJ0 : ∀ a, a < 4 → ∀ b, b < 4 → a ≠ b → (TJ0 a).2.1 ≠ (TJ0 b).2.1 := by decide +kernel
theorem tyJ0_ok : ∀ k, k < 4 → parseFieldDescriptor (TJ0 k).2.2.1 = some (tyJ0 k) := by decide +kernel
abbrev cJ0_init_81219 : ByteArray := prog_15_method_53_code
def yJ0_init_81219 : MethodName := ⟨RJ0, "<init>", "(Ljava/lang/StringBuilder;)V"⟩
abbrev cJ0_length_8abf5 : ByteArray := prog_15_method_54_code
def yJ0_length_8abf5 : MethodName := ⟨RJ0, "length", "()I"⟩
abbrev cJ0_isEmpty_aae02 : ByteArray := prog_15_method_55_code
def yJ0_isEmpty_aae02 : MethodName := ⟨RJ0, "isEmpty", "()Z"⟩
abbrev cJ0_charAt_5068e : ByteArray := prog_15_method_56_code
def yJ0_charAt_5068e : MethodName := ⟨RJ0, "charAt", "(I)C"⟩
abbrev cJ0_equals_9ea2d : ByteArray := prog_15_method_66_code
def yJ0_equals_9ea2d : MethodName := ⟨RJ0, "equals", "(Ljava/lang/Object;)Z"⟩
abbrev cJ0_getBytes_840e7 : ByteArray := prog_15_method_147_code
def yJ0_getBytes_840e7 : MethodName := ⟨RJ0, "getBytes", "([BIB)V"⟩
abbrev cJ0_init_db425 : ByteArray := prog_15_method_150_code
def yJ0_init_db425 : MethodName := ⟨RJ0, "<init>", "(Ljava/lang/AbstractStringBuilder;Ljava/lang/Void;)V"⟩
abbrev cJ0_coder_7d493 : ByteArray := prog_15_method_152_code
def yJ0_coder_7d493 : MethodName := ⟨RJ0, "coder", "()B"⟩
abbrev cJ0_isLatin1_aae02 : ByteArray := prog_15_method_154_code
def yJ0_isLatin1_aae02 : MethodName := ⟨RJ0, "isLatin1", "()Z"⟩
abbrev cJ0_checkIndex_df160 : ByteArray := prog_15_method_155_code
def yJ0_checkIndex_df160 : MethodName := ⟨RJ0, "checkIndex", "(II)V"⟩
abbrev cJ0_checkBoundsOffCount_cabcc : ByteArray := prog_15_method_157_code
def yJ0_checkBoundsOffCount_cabcc : MethodName := ⟨RJ0, "checkBoundsOffCount", "(III)I"⟩
abbrev cJ0_checkBoundsBeginEnd_23922 : ByteArray := prog_15_method_158_code
def yJ0_checkBoundsBeginEnd_23922 : MethodName := ⟨RJ0, "checkBoundsBeginEnd", "(III)V"⟩
def RJ4 : String := "java/lang/StringBuilder"
def TJ4 : u_T := fun k => match k with
  | 0 => ("java/lang/AbstractStringBuilder", "value", "[B", false)
  | 1 => ("java/lang/AbstractStringBuilder", "coder", "B", false)
  | 2 => ("java/lang/AbstractStringBuilder", "maybeLatin1", "Z", false)
  | _ => ("java/lang/AbstractStringBuilder", "count", "I", false)
def tyJ4 : Nat → FieldType := fun k => match k with
  | 0 => .array .byte
  | 1 => .byte
  | 2 => .boolean
  | _ => .int
abbrev wsJ40 : List Cond := u_ws RJ4 TJ4 4
theorem nmJ4 : ∀ a, a < 4 → ∀ b, b < 4 → a ≠ b → (TJ4 a).2.1 ≠ (TJ4 b).2.1 := by decide +kernel
theorem tyJ4_ok : ∀ k, k < 4 → parseFieldDescriptor (TJ4 k).2.2.1 = some (tyJ4 k) := by decide +kernel
abbrev cJ4_init_da8c8 : ByteArray := prog_16_method_1_code
def yJ4_init_da8c8 : MethodName := ⟨RJ4, "<init>", "()V"⟩
abbrev cJ4_append_15ec4 : ByteArray := prog_16_method_7_code
def yJ4_append_15ec4 : MethodName := ⟨RJ4, "append", "(Ljava/lang/String;)Ljava/lang/StringBuilder;"⟩
abbrev cJ4_append_cf468 : ByteArray := prog_16_method_14_code
def yJ4_append_cf468 : MethodName := ⟨RJ4, "append", "(C)Ljava/lang/StringBuilder;"⟩
abbrev cJ4_append_bf812 : ByteArray := prog_16_method_15_code
def yJ4_append_bf812 : MethodName := ⟨RJ4, "append", "(I)Ljava/lang/StringBuilder;"⟩
abbrev cJ4_toString_0e30d : ByteArray := prog_16_method_42_code
def yJ4_toString_0e30d : MethodName := ⟨RJ4, "toString", "()Ljava/lang/String;"⟩
abbrev cJ4_charAt_5068e : ByteArray := prog_16_method_88_code
def yJ4_charAt_5068e : MethodName := ⟨RJ4, "charAt", "(I)C"⟩
abbrev cJ4_setLength_d00df : ByteArray := prog_16_method_89_code
def yJ4_setLength_d00df : MethodName := ⟨RJ4, "setLength", "(I)V"⟩
abbrev cJ4_length_8abf5 : ByteArray := prog_16_method_93_code
def yJ4_length_8abf5 : MethodName := ⟨RJ4, "length", "()I"⟩
def RJ1 : String := "java/lang/StringLatin1"
def TJ1 : u_T := fun k => match k with
  | _ => ("", "", "", false)
def tyJ1 : Nat → FieldType := fun k => match k with
  | _ => .int
abbrev wsJ10 : List Cond := u_ws RJ1 TJ1 0
theorem nmJ1 : ∀ a, a < 0 → ∀ b, b < 0 → a ≠ b → (TJ1 a).2.1 ≠ (TJ1 b).2.1 := by decide +kernel
theorem tyJ1_ok : ∀ k, k < 0 → parseFieldDescriptor (TJ1 k).2.2.1 = some (tyJ1 k) := by decide +kernel
abbrev cJ1_charAt_3b067 : ByteArray := prog_17_method_2_code
def yJ1_charAt_3b067 : MethodName := ⟨RJ1, "charAt", "([BI)C"⟩
abbrev cJ1_canEncode_fc78d : ByteArray := prog_17_method_3_code
def yJ1_canEncode_fc78d : MethodName := ⟨RJ1, "canEncode", "(C)Z"⟩
abbrev cJ1_equals_b5fdf : ByteArray := prog_17_method_13_code
def yJ1_equals_b5fdf : MethodName := ⟨RJ1, "equals", "([B[B)Z"⟩
abbrev cJ1_fillNull_b72d1 : ByteArray := prog_17_method_48_code
def yJ1_fillNull_b72d1 : MethodName := ⟨RJ1, "fillNull", "([BII)V"⟩
abbrev cJ1_inflate_0e8fd : ByteArray := prog_17_method_50_code
def yJ1_inflate_0e8fd : MethodName := ⟨RJ1, "inflate", "([BI[BII)V"⟩
def RJ2 : String := "java/lang/StringUTF16"
def TJ2 : u_T := fun k => match k with
  | _ => ("", "", "", false)
def tyJ2 : Nat → FieldType := fun k => match k with
  | _ => .int
abbrev wsJ20 : List Cond := u_ws RJ2 TJ2 0
theorem nmJ2 : ∀ a, a < 0 → ∀ b, b < 0 → a ≠ b → (TJ2 a).2.1 ≠ (TJ2 b).2.1 := by decide +kernel
theorem tyJ2_ok : ∀ k, k < 0 → parseFieldDescriptor (TJ2 k).2.2.1 = some (tyJ2 k) := by decide +kernel
abbrev cJ2_newBytesFor_77867 : ByteArray := prog_18_method_2_code
def yJ2_newBytesFor_77867 : MethodName := ⟨RJ2, "newBytesFor", "(I)[B"⟩
abbrev cJ2_newBytesLength_0f7a4 : ByteArray := prog_18_method_3_code
def yJ2_newBytesLength_0f7a4 : MethodName := ⟨RJ2, "newBytesLength", "(I)I"⟩
abbrev cJ2_putChar_b72d1 : ByteArray := prog_18_method_4_code
def yJ2_putChar_b72d1 : MethodName := ⟨RJ2, "putChar", "([BII)V"⟩
abbrev cJ2_getChar_3b067 : ByteArray := prog_18_method_5_code
def yJ2_getChar_3b067 : MethodName := ⟨RJ2, "getChar", "([BI)C"⟩
abbrev cJ2_length_9d52b : ByteArray := prog_18_method_6_code
def yJ2_length_9d52b : MethodName := ⟨RJ2, "length", "([B)I"⟩
abbrev cJ2_coderFromArrayLen_85cad : ByteArray := prog_18_method_15_code
def yJ2_coderFromArrayLen_85cad : MethodName := ⟨RJ2, "coderFromArrayLen", "([BI)B"⟩
abbrev cJ2_compress_39247 : ByteArray := prog_18_method_17_code
def yJ2_compress_39247 : MethodName := ⟨RJ2, "compress", "([BII)[B"⟩
abbrev cJ2_compress_5af95 : ByteArray := prog_18_method_22_code
def yJ2_compress_5af95 : MethodName := ⟨RJ2, "compress", "([BI[BII)I"⟩
abbrev cJ2_fillNull_b72d1 : ByteArray := prog_18_method_70_code
def yJ2_fillNull_b72d1 : MethodName := ⟨RJ2, "fillNull", "([BII)V"⟩
abbrev cJ2_putCharSB_b72d1 : ByteArray := prog_18_method_71_code
def yJ2_putCharSB_b72d1 : MethodName := ⟨RJ2, "putCharSB", "([BII)V"⟩
abbrev cJ2_getChars_46870 : ByteArray := prog_18_method_77_code
def yJ2_getChars_46870 : MethodName := ⟨RJ2, "getChars", "(III[B)I"⟩
abbrev cJ2_putCharsAt_cd4e5 : ByteArray := prog_18_method_81_code
def yJ2_putCharsAt_cd4e5 : MethodName := ⟨RJ2, "putCharsAt", "([BICCCC)I"⟩
abbrev cJ2_charAt_3b067 : ByteArray := prog_18_method_83_code
def yJ2_charAt_3b067 : MethodName := ⟨RJ2, "charAt", "([BI)C"⟩
abbrev cJ2_inflate_0e8fd : ByteArray := prog_18_method_86_code
def yJ2_inflate_0e8fd : MethodName := ⟨RJ2, "inflate", "([BI[BII)V"⟩
abbrev cJ2_getChars_ba4f3 : ByteArray := prog_18_method_89_code
def yJ2_getChars_ba4f3 : MethodName := ⟨RJ2, "getChars", "(II[B)I"⟩
abbrev cJ2_checkIndex_2214a : ByteArray := prog_18_method_91_code
def yJ2_checkIndex_2214a : MethodName := ⟨RJ2, "checkIndex", "(I[B)V"⟩
abbrev cJ2_checkBoundsBeginEnd_d044e : ByteArray := prog_18_method_93_code
def yJ2_checkBoundsBeginEnd_d044e : MethodName := ⟨RJ2, "checkBoundsBeginEnd", "(II[B)V"⟩
abbrev cJ2_checkBoundsOffCount_d044e : ByteArray := prog_18_method_94_code
def yJ2_checkBoundsOffCount_d044e : MethodName := ⟨RJ2, "checkBoundsOffCount", "(II[B)V"⟩
def RJ10 : String := "java/lang/System"
def TJ10 : u_T := fun k => match k with
  | _ => ("", "", "", false)
def tyJ10 : Nat → FieldType := fun k => match k with
  | _ => .int
abbrev wsJ100 : List Cond := u_ws RJ10 TJ10 0
theorem nmJ10 : ∀ a, a < 0 → ∀ b, b < 0 → a ≠ b → (TJ10 a).2.1 ≠ (TJ10 b).2.1 := by decide +kernel
theorem tyJ10_ok : ∀ k, k < 0 → parseFieldDescriptor (TJ10 k).2.2.1 = some (tyJ10 k) := by decide +kernel
def RJ7 : String := "java/util/Arrays"
def TJ7 : u_T := fun k => match k with
  | _ => ("", "", "", false)
def tyJ7 : Nat → FieldType := fun k => match k with
  | _ => .int
abbrev wsJ70 : List Cond := u_ws RJ7 TJ7 0
theorem nmJ7 : ∀ a, a < 0 → ∀ b, b < 0 → a ≠ b → (TJ7 a).2.1 ≠ (TJ7 b).2.1 := by decide +kernel
theorem tyJ7_ok : ∀ k, k < 0 → parseFieldDescriptor (TJ7 k).2.2.1 = some (tyJ7 k) := by decide +kernel
abbrev cJ7_rangeCheck_23922 : ByteArray := prog_20_method_30_code
def yJ7_rangeCheck_23922 : MethodName := ⟨RJ7, "rangeCheck", "(III)V"⟩
abbrev cJ7_fill_eb02e : ByteArray := prog_20_method_110_code
def yJ7_fill_eb02e : MethodName := ⟨RJ7, "fill", "([BIIB)V"⟩
abbrev cJ7_copyOf_9075b : ByteArray := prog_20_method_121_code
def yJ7_copyOf_9075b : MethodName := ⟨RJ7, "copyOf", "([BI)[B"⟩
abbrev cJ7_checkLength_df160 : ByteArray := prog_20_method_131_code
def yJ7_checkLength_df160 : MethodName := ⟨RJ7, "checkLength", "(II)V"⟩
abbrev cJ7_copyOfRange_39247 : ByteArray := prog_20_method_132_code
def yJ7_copyOfRange_39247 : MethodName := ⟨RJ7, "copyOfRange", "([BII)[B"⟩
abbrev cJ7_copyOfRangeByte_39247 : ByteArray := prog_20_method_133_code
def yJ7_copyOfRangeByte_39247 : MethodName := ⟨RJ7, "copyOfRangeByte", "([BII)[B"⟩
def RJ8 : String := "jdk/internal/util/ArraysSupport"
def TJ8 : u_T := fun k => match k with
  | _ => ("", "", "", false)
def tyJ8 : Nat → FieldType := fun k => match k with
  | _ => .int
abbrev wsJ80 : List Cond := u_ws RJ8 TJ8 0
theorem nmJ8 : ∀ a, a < 0 → ∀ b, b < 0 → a ≠ b → (TJ8 a).2.1 ≠ (TJ8 b).2.1 := by decide +kernel
theorem tyJ8_ok : ∀ k, k < 0 → parseFieldDescriptor (TJ8 k).2.2.1 = some (tyJ8 k) := by decide +kernel
abbrev cJ8_newLength_cabcc : ByteArray := prog_21_method_27_code
def yJ8_newLength_cabcc : MethodName := ⟨RJ8, "newLength", "(III)I"⟩
abbrev cJ8_hugeLength_7cf53 : ByteArray := prog_21_method_28_code
def yJ8_hugeLength_7cf53 : MethodName := ⟨RJ8, "hugeLength", "(II)I"⟩
def RJ3 : String := "jdk/internal/util/Preconditions"
def TJ3 : u_T := fun k => match k with
  | _ => ("", "", "", false)
def tyJ3 : Nat → FieldType := fun k => match k with
  | _ => .int
abbrev wsJ30 : List Cond := u_ws RJ3 TJ3 0
theorem nmJ3 : ∀ a, a < 0 → ∀ b, b < 0 → a ≠ b → (TJ3 a).2.1 ≠ (TJ3 b).2.1 := by decide +kernel
theorem tyJ3_ok : ∀ k, k < 0 → parseFieldDescriptor (TJ3 k).2.2.1 = some (tyJ3 k) := by decide +kernel
abbrev cJ3_checkIndex_8e157 : ByteArray := prog_22_method_11_code
def yJ3_checkIndex_8e157 : MethodName := ⟨RJ3, "checkIndex", "(IILjava/util/function/BiFunction;)I"⟩
abbrev cJ3_checkFromToIndex_8c36e : ByteArray := prog_22_method_12_code
def yJ3_checkFromToIndex_8c36e : MethodName := ⟨RJ3, "checkFromToIndex", "(IIILjava/util/function/BiFunction;)I"⟩
abbrev cJ3_checkFromIndexSize_8c36e : ByteArray := prog_22_method_13_code
def yJ3_checkFromIndexSize_8c36e : MethodName := ⟨RJ3, "checkFromIndexSize", "(IIILjava/util/function/BiFunction;)I"⟩
def RL : String := "JesterUnionLaw"
abbrev cL_cell : ByteArray := method_2_code
def yL_cell : MethodName := ⟨RL, "cell", "([II)I"⟩
abbrev cL_some : ByteArray := method_4_code
def yL_some : MethodName := ⟨RL, "some", "(LJesterUnionLaw$Bits;I)I"⟩
abbrev cL_acts : ByteArray := method_5_code
def yL_acts : MethodName := ⟨RL, "acts", "(LJesterUnion;ILJesterUnionLaw$Bits;)I"⟩
abbrev cL_line : ByteArray := method_6_code
def yL_line : MethodName := ⟨RL, "line", "(LJesterUnion;I)Ljava/lang/String;"⟩
abbrev cL_told : ByteArray := method_7_code
def yL_told : MethodName := ⟨RL, "told", "(LJesterUnion;)Ljava/lang/String;"⟩
abbrev cL_stock : ByteArray := method_8_code
def yL_stock : MethodName := ⟨RL, "stock", "(LJesterUnion;)I"⟩
abbrev cL_jokes : ByteArray := method_9_code
def yL_jokes : MethodName := ⟨RL, "jokes", "(LJesterUnion;)Z"⟩
abbrev cL_fools : ByteArray := method_10_code
def yL_fools : MethodName := ⟨RL, "fools", "(LJesterUnion;)Z"⟩
abbrev cL_bookings : ByteArray := method_11_code
def yL_bookings : MethodName := ⟨RL, "bookings", "(LJesterUnion;)Z"⟩
abbrev cL_laughs : ByteArray := method_12_code
def yL_laughs : MethodName := ⟨RL, "laughs", "(LJesterUnion;)Z"⟩
abbrev cL_foretold : ByteArray := method_13_code
def yL_foretold : MethodName := ⟨RL, "foretold", "(LJesterUnion;)Z"⟩
abbrev cL_law : ByteArray := code
def yL_law : MethodName := ⟨RL, "law", "([I)Z"⟩
abbrev vwCl : List vw_C := [(RJ4, TJ4, 4), (RX0, TX0, 5), (RX1, TX1, 10), (RX2, TX2, 7), (RX3, TX3, 3), (RX4, TX4, 5), (RX5, TX5, 6), (RX6, TX6, 10), (RX7, TX7, 1), (RJ0, TJ0, 4)]
