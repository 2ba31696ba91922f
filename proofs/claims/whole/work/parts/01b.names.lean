/-! ===== BEGIN words of one list among another's, by their places ===== -/
theorem goodIn_r {big : List Cond} (ws : List Cond) (ps : List Nat) (hp : ws = ps.filterMap (fun i => big[i]?)) (h : ws.all goodWord = true) : GoodIn big ws := by
  intro w hw
  have h1 := List.all_eq_true.mp h w hw
  rw [hp] at hw
  obtain ⟨i, -, hi⟩ := List.mem_filterMap.mp hw
  have hm : w ∈ big := by first | exact List.mem_of_getElem? hi | exact List.getElem?_mem hi
  exact ⟨hm, good_of_word h1⟩
theorem goodIn_app {big a b : List Cond} (ha : GoodIn big a) (hb : GoodIn big b) : GoodIn big (a ++ b) := fun w h => (List.mem_append.mp h).elim (ha w) (hb w)
theorem goodIn_ca {big a b : List Cond} {c : Cond} (ha : GoodIn big (c :: a)) (hb : GoodIn big b) : GoodIn big (c :: (a ++ b)) := fun w h => (List.mem_cons.mp h).elim (fun e => ha w (List.mem_cons.mpr (Or.inl e))) (fun h => (List.mem_append.mp h).elim (fun h => ha w (List.mem_cons.mpr (Or.inr h))) (hb w))
theorem goodIn_sub {big ws : List Cond} (hm : ∀ w ∈ ws, w ∈ big) (h : ws.all goodWord = true) : GoodIn big ws := fun w hw => ⟨hm w hw, good_of_word (List.all_eq_true.mp h w hw)⟩
/-! ===== END ===== -/

/-! ===== BEGIN printed: names, fields, word lists, decode rows ===== -/
def RX0 : String := "DebtDowry$Book"
def TX0 : u_T := fun k => match k with
  | 0 => ("DebtDowry$Book", "person", "[I", true)
  | 1 => ("DebtDowry$Book", "standing", "[I", true)
  | _ => ("DebtDowry$Book", "count", "I", false)
def tyX0 : Nat → FieldType := fun k => match k with
  | 0 => .array .int
  | 1 => .array .int
  | _ => .int
abbrev wsX00 : List Cond := u_ws RX0 TX0 3
theorem nmX0 : ∀ a, a < 3 → ∀ b, b < 3 → a ≠ b → (TX0 a).2.1 ≠ (TX0 b).2.1 := by decide +kernel
theorem tyX0_ok : ∀ k, k < 3 → parseFieldDescriptor (TX0 k).2.2.1 = some (tyX0 k) := by decide +kernel
abbrev cX0_init : ByteArray := prog_2_method_1_code
def yX0_init : MethodName := ⟨RX0, "<init>", "()V"⟩
abbrev cX0_add : ByteArray := prog_2_method_2_code
def yX0_add : MethodName := ⟨RX0, "add", "(II)Z"⟩
abbrev cX0_firstWrong : ByteArray := prog_2_method_3_code
def yX0_firstWrong : MethodName := ⟨RX0, "firstWrong", "(LDebtDowry$State;)I"⟩
def RX1 : String := "DebtDowry$Cards"
def TX1 : u_T := fun k => match k with
  | 0 => ("DebtDowry$Cards", "person", "[I", true)
  | 1 => ("DebtDowry$Cards", "creditor", "[I", true)
  | 2 => ("DebtDowry$Cards", "quarters", "[I", true)
  | 3 => ("DebtDowry$Cards", "civil", "[Z", true)
  | 4 => ("DebtDowry$Cards", "count", "I", false)
  | 5 => ("DebtDowry$Cards", "sums", "[I", true)
  | _ => ("DebtDowry$Cards", "fitting", "I", false)
def tyX1 : Nat → FieldType := fun k => match k with
  | 0 => .array .int
  | 1 => .array .int
  | 2 => .array .int
  | 3 => .array .boolean
  | 4 => .int
  | 5 => .array .int
  | _ => .int
abbrev wsX10 : List Cond := u_ws RX1 TX1 7
theorem nmX1 : ∀ a, a < 7 → ∀ b, b < 7 → a ≠ b → (TX1 a).2.1 ≠ (TX1 b).2.1 := by decide +kernel
theorem tyX1_ok : ∀ k, k < 7 → parseFieldDescriptor (TX1 k).2.2.1 = some (tyX1 k) := by decide +kernel
abbrev cX1_init : ByteArray := prog_3_method_1_code
def yX1_init : MethodName := ⟨RX1, "<init>", "()V"⟩
abbrev cX1_add : ByteArray := prog_3_method_2_code
def yX1_add : MethodName := ⟨RX1, "add", "(IIIZ)Z"⟩
abbrev cX1_sift : ByteArray := prog_3_method_3_code
def yX1_sift : MethodName := ⟨RX1, "sift", "(LDebtDowry$Terms;II)V"⟩
abbrev cX1_fits : ByteArray := prog_3_method_4_code
def yX1_fits : MethodName := ⟨RX1, "fits", "(LDebtDowry$Terms;III)Z"⟩
abbrev cX1_behind : ByteArray := prog_3_method_5_code
def yX1_behind : MethodName := ⟨RX1, "behind", "(LDebtDowry$Terms;II)I"⟩
abbrev cX1_leastSum : ByteArray := prog_3_method_6_code
def yX1_leastSum : MethodName := ⟨RX1, "leastSum", "()I"⟩
abbrev cX1_mostSum : ByteArray := prog_3_method_7_code
def yX1_mostSum : MethodName := ⟨RX1, "mostSum", "()I"⟩
abbrev cX1_bestLook : ByteArray := prog_3_method_8_code
def yX1_bestLook : MethodName := ⟨RX1, "bestLook", "(LDebtDowry$Terms;I)I"⟩
def RX2 : String := "DebtDowry$History"
def TX2 : u_T := fun k => match k with
  | 0 => ("DebtDowry$History", "ring", "[LDebtDowry$State;", true)
  | 1 => ("DebtDowry$History", "oldest", "I", false)
  | _ => ("DebtDowry$History", "count", "I", false)
def tyX2 : Nat → FieldType := fun k => match k with
  | 0 => .array (.object "DebtDowry$State")
  | 1 => .int
  | _ => .int
abbrev wsX20 : List Cond := u_ws RX2 TX2 3
theorem nmX2 : ∀ a, a < 3 → ∀ b, b < 3 → a ≠ b → (TX2 a).2.1 ≠ (TX2 b).2.1 := by decide +kernel
theorem tyX2_ok : ∀ k, k < 3 → parseFieldDescriptor (TX2 k).2.2.1 = some (tyX2 k) := by decide +kernel
abbrev cX2_init : ByteArray := prog_4_method_1_code
def yX2_init : MethodName := ⟨RX2, "<init>", "(LDebtDowry$Terms;)V"⟩
abbrev cX2_forget : ByteArray := prog_4_method_2_code
def yX2_forget : MethodName := ⟨RX2, "forget", "()V"⟩
abbrev cX2_note : ByteArray := prog_4_method_3_code
def yX2_note : MethodName := ⟨RX2, "note", "(LDebtDowry$State;)V"⟩
abbrev cX2_restore : ByteArray := prog_4_method_4_code
def yX2_restore : MethodName := ⟨RX2, "restore", "(LDebtDowry$State;I)V"⟩
def RX3 : String := "DebtDowry$Image"
def TX3 : u_T := fun k => match k with
  | 0 => ("DebtDowry$Image", "state", "LDebtDowry$State;", true)
  | 1 => ("DebtDowry$Image", "luck", "I", false)
  | _ => ("DebtDowry$Image", "kept", "Z", false)
def tyX3 : Nat → FieldType := fun k => match k with
  | 0 => .object "DebtDowry$State"
  | 1 => .int
  | _ => .boolean
abbrev wsX30 : List Cond := u_ws RX3 TX3 3
theorem nmX3 : ∀ a, a < 3 → ∀ b, b < 3 → a ≠ b → (TX3 a).2.1 ≠ (TX3 b).2.1 := by decide +kernel
theorem tyX3_ok : ∀ k, k < 3 → parseFieldDescriptor (TX3 k).2.2.1 = some (tyX3 k) := by decide +kernel
abbrev cX3_init : ByteArray := prog_5_method_1_code
def yX3_init : MethodName := ⟨RX3, "<init>", "(LDebtDowry$Terms;)V"⟩
def RX4 : String := "DebtDowry$Matcher"
def TX4 : u_T := fun k => match k with
  | _ => ("DebtDowry$Matcher", "manOf", "[I", true)
def tyX4 : Nat → FieldType := fun k => match k with
  | _ => .array .int
abbrev wsX40 : List Cond := u_ws RX4 TX4 1
theorem nmX4 : ∀ a, a < 1 → ∀ b, b < 1 → a ≠ b → (TX4 a).2.1 ≠ (TX4 b).2.1 := by decide +kernel
theorem tyX4_ok : ∀ k, k < 1 → parseFieldDescriptor (TX4 k).2.2.1 = some (tyX4 k) := by decide +kernel
abbrev cX4_init : ByteArray := prog_6_method_1_code
def yX4_init : MethodName := ⟨RX4, "<init>", "()V"⟩
abbrev cX4_pairAll : ByteArray := prog_6_method_2_code
def yX4_pairAll : MethodName := ⟨RX4, "pairAll", "(LDebtDowry$State;)I"⟩
abbrev cX4_bestPair : ByteArray := prog_6_method_3_code
def yX4_bestPair : MethodName := ⟨RX4, "bestPair", "(LDebtDowry$State;I)I"⟩
def RX5 : String := "DebtDowry$Planner"
def TX5 : u_T := fun k => match k with
  | 0 => ("DebtDowry$Planner", "cost", "[I", true)
  | 1 => ("DebtDowry$Planner", "together", "I", false)
  | _ => ("DebtDowry$Planner", "first", "I", false)
def tyX5 : Nat → FieldType := fun k => match k with
  | 0 => .array .int
  | 1 => .int
  | _ => .int
abbrev wsX50 : List Cond := u_ws RX5 TX5 3
theorem nmX5 : ∀ a, a < 3 → ∀ b, b < 3 → a ≠ b → (TX5 a).2.1 ≠ (TX5 b).2.1 := by decide +kernel
theorem tyX5_ok : ∀ k, k < 3 → parseFieldDescriptor (TX5 k).2.2.1 = some (tyX5 k) := by decide +kernel
abbrev cX5_init : ByteArray := prog_7_method_1_code
def yX5_init : MethodName := ⟨RX5, "<init>", "()V"⟩
abbrev cX5_work : ByteArray := prog_7_method_2_code
def yX5_work : MethodName := ⟨RX5, "work", "(LDebtDowry$Terms;III)Z"⟩
abbrev cX5_addQuarter : ByteArray := prog_7_method_3_code
def yX5_addQuarter : MethodName := ⟨RX5, "addQuarter", "(LDebtDowry$Terms;I)V"⟩
abbrev cX5_costFrom : ByteArray := prog_7_method_4_code
def yX5_costFrom : MethodName := ⟨RX5, "costFrom", "(LDebtDowry$Terms;II)I"⟩
def RX6 : String := "DebtDowry$Reader"
def TX6 : u_T := fun k => match k with
  | 0 => ("DebtDowry$Reader", "terms", "LDebtDowry$Terms;", true)
  | 1 => ("DebtDowry$Reader", "state", "LDebtDowry$State;", true)
  | 2 => ("DebtDowry$Reader", "letters", "[I", true)
  | 3 => ("DebtDowry$Reader", "length", "I", false)
  | 4 => ("DebtDowry$Reader", "faultKind", "I", false)
  | 5 => ("DebtDowry$Reader", "faultAt", "I", false)
  | 6 => ("DebtDowry$Reader", "at", "I", false)
  | _ => ("DebtDowry$Reader", "numberAt", "I", false)
def tyX6 : Nat → FieldType := fun k => match k with
  | 0 => .object "DebtDowry$Terms"
  | 1 => .object "DebtDowry$State"
  | 2 => .array .int
  | 3 => .int
  | 4 => .int
  | 5 => .int
  | 6 => .int
  | _ => .int
abbrev wsX60 : List Cond := u_ws RX6 TX6 8
theorem nmX6 : ∀ a, a < 8 → ∀ b, b < 8 → a ≠ b → (TX6 a).2.1 ≠ (TX6 b).2.1 := by decide +kernel
theorem tyX6_ok : ∀ k, k < 8 → parseFieldDescriptor (TX6 k).2.2.1 = some (tyX6 k) := by decide +kernel
abbrev cX6_init : ByteArray := prog_8_method_1_code
def yX6_init : MethodName := ⟨RX6, "<init>", "()V"⟩
abbrev cX6_add : ByteArray := prog_8_method_2_code
def yX6_add : MethodName := ⟨RX6, "add", "(I)Z"⟩
abbrev cX6_readAll : ByteArray := prog_8_method_3_code
def yX6_readAll : MethodName := ⟨RX6, "readAll", "()V"⟩
abbrev cX6_readInterest : ByteArray := prog_8_method_4_code
def yX6_readInterest : MethodName := ⟨RX6, "readInterest", "()V"⟩
abbrev cX6_readOthers : ByteArray := prog_8_method_5_code
def yX6_readOthers : MethodName := ⟨RX6, "readOthers", "()V"⟩
abbrev cX6_readClause : ByteArray := prog_8_method_6_code
def yX6_readClause : MethodName := ⟨RX6, "readClause", "(I)V"⟩
abbrev cX6_readCreditor : ByteArray := prog_8_method_7_code
def yX6_readCreditor : MethodName := ⟨RX6, "readCreditor", "()V"⟩
abbrev cX6_readPerson : ByteArray := prog_8_method_8_code
def yX6_readPerson : MethodName := ⟨RX6, "readPerson", "(Z)V"⟩
abbrev cX6_nextSign : ByteArray := prog_8_method_9_code
def yX6_nextSign : MethodName := ⟨RX6, "nextSign", "()I"⟩
abbrev cX6_readSign : ByteArray := prog_8_method_10_code
def yX6_readSign : MethodName := ⟨RX6, "readSign", "(I)V"⟩
abbrev cX6_readNumber : ByteArray := prog_8_method_11_code
def yX6_readNumber : MethodName := ⟨RX6, "readNumber", "(II)I"⟩
abbrev cX6_isFigure : ByteArray := prog_8_method_12_code
def yX6_isFigure : MethodName := ⟨RX6, "isFigure", "(I)Z"⟩
abbrev cX6_blame : ByteArray := prog_8_method_13_code
def yX6_blame : MethodName := ⟨RX6, "blame", "(II)V"⟩
def RX7 : String := "DebtDowry$State"
def TX7 : u_T := fun k => match k with
  | 0 => ("DebtDowry$State", "terms", "LDebtDowry$Terms;", true)
  | 1 => ("DebtDowry$State", "owed", "[I", true)
  | 2 => ("DebtDowry$State", "purse", "[I", true)
  | 3 => ("DebtDowry$State", "insults", "[I", true)
  | 4 => ("DebtDowry$State", "spouse", "[I", true)
  | 5 => ("DebtDowry$State", "failed", "I", false)
  | _ => ("DebtDowry$State", "quarters", "I", false)
def tyX7 : Nat → FieldType := fun k => match k with
  | 0 => .object "DebtDowry$Terms"
  | 1 => .array .int
  | 2 => .array .int
  | 3 => .array .int
  | 4 => .array .int
  | 5 => .int
  | _ => .int
abbrev wsX70 : List Cond := u_ws RX7 TX7 7
theorem nmX7 : ∀ a, a < 7 → ∀ b, b < 7 → a ≠ b → (TX7 a).2.1 ≠ (TX7 b).2.1 := by decide +kernel
theorem tyX7_ok : ∀ k, k < 7 → parseFieldDescriptor (TX7 k).2.2.1 = some (tyX7 k) := by decide +kernel
abbrev cX7_init : ByteArray := prog_9_method_1_code
def yX7_init : MethodName := ⟨RX7, "<init>", "(LDebtDowry$Terms;)V"⟩
abbrev cX7_clear : ByteArray := prog_9_method_2_code
def yX7_clear : MethodName := ⟨RX7, "clear", "()V"⟩
abbrev cX7_take : ByteArray := prog_9_method_3_code
def yX7_take : MethodName := ⟨RX7, "take", "(LDebtDowry$State;)V"⟩
abbrev cX7_owedTo : ByteArray := prog_9_method_4_code
def yX7_owedTo : MethodName := ⟨RX7, "owedTo", "(II)I"⟩
abbrev cX7_setOwed : ByteArray := prog_9_method_5_code
def yX7_setOwed : MethodName := ⟨RX7, "setOwed", "(III)V"⟩
abbrev cX7_owedTogether : ByteArray := prog_9_method_6_code
def yX7_owedTogether : MethodName := ⟨RX7, "owedTogether", "(I)I"⟩
abbrev cX7_owedInAll : ByteArray := prog_9_method_7_code
def yX7_owedInAll : MethodName := ⟨RX7, "owedInAll", "()I"⟩
abbrev cX7_wedSet : ByteArray := prog_9_method_8_code
def yX7_wedSet : MethodName := ⟨RX7, "wedSet", "()I"⟩
abbrev cX7_isWedMan : ByteArray := prog_9_method_9_code
def yX7_isWedMan : MethodName := ⟨RX7, "isWedMan", "(I)Z"⟩
abbrev cX7_hasFailed : ByteArray := prog_9_method_10_code
def yX7_hasFailed : MethodName := ⟨RX7, "hasFailed", "(I)Z"⟩
abbrev cX7_hasInsulted : ByteArray := prog_9_method_11_code
def yX7_hasInsulted : MethodName := ⟨RX7, "hasInsulted", "(II)Z"⟩
abbrev cX7_moodBy : ByteArray := prog_9_method_12_code
def yX7_moodBy : MethodName := ⟨RX7, "moodBy", "(IIZ)I"⟩
abbrev cX7_moodTo : ByteArray := prog_9_method_13_code
def yX7_moodTo : MethodName := ⟨RX7, "moodTo", "(II)I"⟩
abbrev cX7_personsByMood : ByteArray := prog_9_method_14_code
def yX7_personsByMood : MethodName := ⟨RX7, "personsByMood", "(II)I"⟩
abbrev cX7_worthOf : ByteArray := prog_9_method_15_code
def yX7_worthOf : MethodName := ⟨RX7, "worthOf", "(II)I"⟩
abbrev cX7_standingOf : ByteArray := prog_9_method_16_code
def yX7_standingOf : MethodName := ⟨RX7, "standingOf", "(I)I"⟩
abbrev cX7_standingJoined : ByteArray := prog_9_method_17_code
def yX7_standingJoined : MethodName := ⟨RX7, "standingJoined", "(II)I"⟩
abbrev cX7_mayBorrow : ByteArray := prog_9_method_18_code
def yX7_mayBorrow : MethodName := ⟨RX7, "mayBorrow", "(III)Z"⟩
abbrev cX7_lend : ByteArray := prog_9_method_19_code
def yX7_lend : MethodName := ⟨RX7, "lend", "(III)V"⟩
abbrev cX7_settle : ByteArray := prog_9_method_20_code
def yX7_settle : MethodName := ⟨RX7, "settle", "(III)V"⟩
abbrev cX7_unite : ByteArray := prog_9_method_21_code
def yX7_unite : MethodName := ⟨RX7, "unite", "(II)V"⟩
abbrev cX7_part : ByteArray := prog_9_method_22_code
def yX7_part : MethodName := ⟨RX7, "part", "(II)V"⟩
abbrev cX7_passQuarter : ByteArray := prog_9_method_23_code
def yX7_passQuarter : MethodName := ⟨RX7, "passQuarter", "()I"⟩
abbrev cX7_owedSourly : ByteArray := prog_9_method_24_code
def yX7_owedSourly : MethodName := ⟨RX7, "owedSourly", "(I)I"⟩
abbrev cX7_forgive : ByteArray := prog_9_method_25_code
def yX7_forgive : MethodName := ⟨RX7, "forgive", "(I)V"⟩
abbrev cX7_mayReachLow : ByteArray := prog_9_method_26_code
def yX7_mayReachLow : MethodName := ⟨RX7, "mayReachLow", "(II)Z"⟩
abbrev cX7_coinsFor : ByteArray := prog_9_method_27_code
def yX7_coinsFor : MethodName := ⟨RX7, "coinsFor", "(II)I"⟩
abbrev cX7_worthOfSet : ByteArray := prog_9_method_28_code
def yX7_worthOfSet : MethodName := ⟨RX7, "worthOfSet", "(I)I"⟩
abbrev cX7_cheapestSet : ByteArray := prog_9_method_29_code
def yX7_cheapestSet : MethodName := ⟨RX7, "cheapestSet", "(II)I"⟩
def RX8 : String := "DebtDowry$Terms"
def TX8 : u_T := fun k => match k with
  | 0 => ("DebtDowry$Terms", "there", "Z", false)
  | 1 => ("DebtDowry$Terms", "interest", "I", false)
  | 2 => ("DebtDowry$Terms", "mildness", "I", false)
  | 3 => ("DebtDowry$Terms", "creditors", "I", false)
  | 4 => ("DebtDowry$Terms", "persons", "I", false)
  | 5 => ("DebtDowry$Terms", "girls", "I", false)
  | 6 => ("DebtDowry$Terms", "low", "[I", true)
  | 7 => ("DebtDowry$Terms", "high", "[I", true)
  | _ => ("DebtDowry$Terms", "great", "[I", true)
def tyX8 : Nat → FieldType := fun k => match k with
  | 0 => .boolean
  | 1 => .int
  | 2 => .int
  | 3 => .int
  | 4 => .int
  | 5 => .int
  | 6 => .array .int
  | 7 => .array .int
  | _ => .array .int
abbrev wsX80 : List Cond := u_ws RX8 TX8 9
theorem nmX8 : ∀ a, a < 9 → ∀ b, b < 9 → a ≠ b → (TX8 a).2.1 ≠ (TX8 b).2.1 := by decide +kernel
theorem tyX8_ok : ∀ k, k < 9 → parseFieldDescriptor (TX8 k).2.2.1 = some (tyX8 k) := by decide +kernel
abbrev cX8_init : ByteArray := prog_10_method_1_code
def yX8_init : MethodName := ⟨RX8, "<init>", "()V"⟩
abbrev cX8_clear : ByteArray := prog_10_method_2_code
def yX8_clear : MethodName := ⟨RX8, "clear", "()V"⟩
abbrev cX8_take : ByteArray := prog_10_method_3_code
def yX8_take : MethodName := ⟨RX8, "take", "(LDebtDowry$Terms;)V"⟩
abbrev cX8_hasPerson : ByteArray := prog_10_method_4_code
def yX8_hasPerson : MethodName := ⟨RX8, "hasPerson", "(I)Z"⟩
abbrev cX8_hasCreditor : ByteArray := prog_10_method_5_code
def yX8_hasCreditor : MethodName := ⟨RX8, "hasCreditor", "(I)Z"⟩
abbrev cX8_hasBoth : ByteArray := prog_10_method_6_code
def yX8_hasBoth : MethodName := ⟨RX8, "hasBoth", "(II)Z"⟩
abbrev cX8_isGirl : ByteArray := prog_10_method_7_code
def yX8_isGirl : MethodName := ⟨RX8, "isGirl", "(I)Z"⟩
abbrev cX8_isMan : ByteArray := prog_10_method_8_code
def yX8_isMan : MethodName := ⟨RX8, "isMan", "(I)Z"⟩
abbrev cX8_grown : ByteArray := prog_10_method_9_code
def yX8_grown : MethodName := ⟨RX8, "grown", "(I)I"⟩
abbrev cX8_within : ByteArray := prog_10_method_10_code
def yX8_within : MethodName := ⟨RX8, "within", "(II)Z"⟩
def RX9 : String := "DebtDowry"
def TX9 : u_T := fun k => match k with
  | 0 => ("DebtDowry", "reader", "LDebtDowry$Reader;", true)
  | 1 => ("DebtDowry", "terms", "LDebtDowry$Terms;", true)
  | 2 => ("DebtDowry", "now", "LDebtDowry$State;", true)
  | 3 => ("DebtDowry", "tried", "LDebtDowry$State;", true)
  | 4 => ("DebtDowry", "history", "LDebtDowry$History;", true)
  | 5 => ("DebtDowry", "matcher", "LDebtDowry$Matcher;", true)
  | 6 => ("DebtDowry", "planner", "LDebtDowry$Planner;", true)
  | 7 => ("DebtDowry", "cards", "LDebtDowry$Cards;", true)
  | 8 => ("DebtDowry", "book", "LDebtDowry$Book;", true)
  | 9 => ("DebtDowry", "images", "[LDebtDowry$Image;", true)
  | _ => ("DebtDowry", "luck", "I", false)
def tyX9 : Nat → FieldType := fun k => match k with
  | 0 => .object "DebtDowry$Reader"
  | 1 => .object "DebtDowry$Terms"
  | 2 => .object "DebtDowry$State"
  | 3 => .object "DebtDowry$State"
  | 4 => .object "DebtDowry$History"
  | 5 => .object "DebtDowry$Matcher"
  | 6 => .object "DebtDowry$Planner"
  | 7 => .object "DebtDowry$Cards"
  | 8 => .object "DebtDowry$Book"
  | 9 => .array (.object "DebtDowry$Image")
  | _ => .int
abbrev wsX90 : List Cond := u_ws RX9 TX9 11
theorem nmX9 : ∀ a, a < 11 → ∀ b, b < 11 → a ≠ b → (TX9 a).2.1 ≠ (TX9 b).2.1 := by decide +kernel
theorem tyX9_ok : ∀ k, k < 11 → parseFieldDescriptor (TX9 k).2.2.1 = some (tyX9 k) := by decide +kernel
abbrev cX9_init : ByteArray := prog_1_method_1_code
def yX9_init : MethodName := ⟨RX9, "<init>", "()V"⟩
abbrev cX9_feed : ByteArray := prog_1_method_2_code
def yX9_feed : MethodName := ⟨RX9, "feed", "(I)I"⟩
abbrev cX9_town : ByteArray := prog_1_method_3_code
def yX9_town : MethodName := ⟨RX9, "town", "()I"⟩
abbrev cX9_fault : ByteArray := prog_1_method_4_code
def yX9_fault : MethodName := ⟨RX9, "fault", "()I"⟩
abbrev cX9_told : ByteArray := prog_1_method_5_code
def yX9_told : MethodName := ⟨RX9, "told", "(I)I"⟩
abbrev cX9_creditor : ByteArray := prog_1_method_6_code
def yX9_creditor : MethodName := ⟨RX9, "creditor", "(II)I"⟩
abbrev cX9_person : ByteArray := prog_1_method_7_code
def yX9_person : MethodName := ⟨RX9, "person", "(II)I"⟩
abbrev cX9_owes : ByteArray := prog_1_method_8_code
def yX9_owes : MethodName := ⟨RX9, "owes", "(II)I"⟩
abbrev cX9_temper : ByteArray := prog_1_method_9_code
def yX9_temper : MethodName := ⟨RX9, "temper", "(II)I"⟩
abbrev cX9_borrow : ByteArray := prog_1_method_10_code
def yX9_borrow : MethodName := ⟨RX9, "borrow", "(III)I"⟩
abbrev cX9_pay : ByteArray := prog_1_method_11_code
def yX9_pay : MethodName := ⟨RX9, "pay", "(III)I"⟩
abbrev cX9_quarter : ByteArray := prog_1_method_12_code
def yX9_quarter : MethodName := ⟨RX9, "quarter", "(I)I"⟩
abbrev cX9_wed : ByteArray := prog_1_method_13_code
def yX9_wed : MethodName := ⟨RX9, "wed", "(II)I"⟩
abbrev cX9_divorce : ByteArray := prog_1_method_14_code
def yX9_divorce : MethodName := ⟨RX9, "divorce", "(I)I"⟩
abbrev cX9_drift : ByteArray := prog_1_method_15_code
def yX9_drift : MethodName := ⟨RX9, "drift", "(I)I"⟩
abbrev cX9_undo : ByteArray := prog_1_method_16_code
def yX9_undo : MethodName := ⟨RX9, "undo", "(I)I"⟩
abbrev cX9_joined : ByteArray := prog_1_method_17_code
def yX9_joined : MethodName := ⟨RX9, "joined", "(II)I"⟩
abbrev cX9_least : ByteArray := prog_1_method_18_code
def yX9_least : MethodName := ⟨RX9, "least", "(III)I"⟩
abbrev cX9_plan : ByteArray := prog_1_method_19_code
def yX9_plan : MethodName := ⟨RX9, "plan", "(IIII)I"⟩
abbrev cX9_matches : ByteArray := prog_1_method_20_code
def yX9_matches : MethodName := ⟨RX9, "matches", "(I)I"⟩
abbrev cX9_failing : ByteArray := prog_1_method_21_code
def yX9_failing : MethodName := ⟨RX9, "failing", "()I"⟩
abbrev cX9_run : ByteArray := prog_1_method_22_code
def yX9_run : MethodName := ⟨RX9, "run", "(I)I"⟩
abbrev cX9_credit : ByteArray := prog_1_method_23_code
def yX9_credit : MethodName := ⟨RX9, "credit", "(II)I"⟩
abbrev cX9_rumours : ByteArray := prog_1_method_24_code
def yX9_rumours : MethodName := ⟨RX9, "rumours", "(II)I"⟩
abbrev cX9_card : ByteArray := prog_1_method_25_code
def yX9_card : MethodName := ⟨RX9, "card", "(IIIZ)I"⟩
abbrev cX9_had : ByteArray := prog_1_method_26_code
def yX9_had : MethodName := ⟨RX9, "had", "(III)I"⟩
abbrev cX9_lookAt : ByteArray := prog_1_method_27_code
def yX9_lookAt : MethodName := ⟨RX9, "lookAt", "(II)I"⟩
abbrev cX9_write : ByteArray := prog_1_method_28_code
def yX9_write : MethodName := ⟨RX9, "write", "(II)I"⟩
abbrev cX9_judge : ByteArray := prog_1_method_29_code
def yX9_judge : MethodName := ⟨RX9, "judge", "()I"⟩
abbrev cX9_tear : ByteArray := prog_1_method_30_code
def yX9_tear : MethodName := ⟨RX9, "tear", "()I"⟩
abbrev cX9_seed : ByteArray := prog_1_method_31_code
def yX9_seed : MethodName := ⟨RX9, "seed", "(I)I"⟩
abbrev cX9_keep : ByteArray := prog_1_method_32_code
def yX9_keep : MethodName := ⟨RX9, "keep", "(I)I"⟩
abbrev cX9_goBack : ByteArray := prog_1_method_33_code
def yX9_goBack : MethodName := ⟨RX9, "goBack", "(I)I"⟩
abbrev cX9_refusalOfQuarters : ByteArray := prog_1_method_34_code
def yX9_refusalOfQuarters : MethodName := ⟨RX9, "refusalOfQuarters", "(I)I"⟩
abbrev cX9_refusalOfPair : ByteArray := prog_1_method_35_code
def yX9_refusalOfPair : MethodName := ⟨RX9, "refusalOfPair", "(II)I"⟩
abbrev cX9_drawOf : ByteArray := prog_1_method_36_code
def yX9_drawOf : MethodName := ⟨RX9, "drawOf", "(I)I"⟩
abbrev cX9_borrowByDraws : ByteArray := prog_1_method_37_code
def yX9_borrowByDraws : MethodName := ⟨RX9, "borrowByDraws", "()V"⟩
def RX10 : String := "DebtDowryModel"
def TX10 : u_T := fun k => match k with
  | 0 => ("DebtDowryModel", "town", "[I", true)
  | 1 => ("DebtDowryModel", "read", "[I", true)
  | 2 => ("DebtDowryModel", "now", "[I", true)
  | 3 => ("DebtDowryModel", "aside", "[I", true)
  | 4 => ("DebtDowryModel", "past", "[I", true)
  | 5 => ("DebtDowryModel", "undos", "I", false)
  | 6 => ("DebtDowryModel", "images", "[I", true)
  | 7 => ("DebtDowryModel", "kept", "[Z", true)
  | 8 => ("DebtDowryModel", "seed", "J", false)
  | 9 => ("DebtDowryModel", "text", "[I", true)
  | 10 => ("DebtDowryModel", "size", "I", false)
  | 11 => ("DebtDowryModel", "fault", "I", false)
  | 12 => ("DebtDowryModel", "cards", "[I", true)
  | 13 => ("DebtDowryModel", "cardMany", "I", false)
  | 14 => ("DebtDowryModel", "book", "[I", true)
  | 15 => ("DebtDowryModel", "bookMany", "I", false)
  | 16 => ("DebtDowryModel", "at", "I", false)
  | 17 => ("DebtDowryModel", "begin", "I", false)
  | 18 => ("DebtDowryModel", "sign", "I", false)
  | 19 => ("DebtDowryModel", "figures", "I", false)
  | 20 => ("DebtDowryModel", "value", "I", false)
  | 21 => ("DebtDowryModel", "wrong", "I", false)
  | 22 => ("DebtDowryModel", "pays", "[I", true)
  | 23 => ("DebtDowryModel", "paysThen", "[I", true)
  | _ => ("DebtDowryModel", "mates", "[I", true)
def tyX10 : Nat → FieldType := fun k => match k with
  | 0 => .array .int
  | 1 => .array .int
  | 2 => .array .int
  | 3 => .array .int
  | 4 => .array .int
  | 5 => .int
  | 6 => .array .int
  | 7 => .array .boolean
  | 8 => .long
  | 9 => .array .int
  | 10 => .int
  | 11 => .int
  | 12 => .array .int
  | 13 => .int
  | 14 => .array .int
  | 15 => .int
  | 16 => .int
  | 17 => .int
  | 18 => .int
  | 19 => .int
  | 20 => .int
  | 21 => .int
  | 22 => .array .int
  | 23 => .array .int
  | _ => .array .int
abbrev wsX100 : List Cond := u_ws RX10 TX10 25
theorem nmX10 : ∀ a, a < 25 → ∀ b, b < 25 → a ≠ b → (TX10 a).2.1 ≠ (TX10 b).2.1 := by decide +kernel
theorem tyX10_ok : ∀ k, k < 25 → parseFieldDescriptor (TX10 k).2.2.1 = some (tyX10 k) := by decide +kernel
abbrev cX10_init : ByteArray := prog_12_method_1_code
def yX10_init : MethodName := ⟨RX10, "<init>", "()V"⟩
abbrev cX10_in : ByteArray := prog_12_method_3_code
def yX10_in : MethodName := ⟨RX10, "in", "(JJJ)Z"⟩
abbrev cX10_has : ByteArray := prog_12_method_4_code
def yX10_has : MethodName := ⟨RX10, "has", "(II)Z"⟩
abbrev cX10_bits : ByteArray := prog_12_method_5_code
def yX10_bits : MethodName := ⟨RX10, "bits", "(I)I"⟩
abbrev cX10_lesser : ByteArray := prog_12_method_6_code
def yX10_lesser : MethodName := ⟨RX10, "lesser", "(II)I"⟩
abbrev cX10_copies : ByteArray := prog_12_method_7_code
def yX10_copies : MethodName := ⟨RX10, "copies", "([II[III)V"⟩
abbrev cX10_begins : ByteArray := prog_12_method_8_code
def yX10_begins : MethodName := ⟨RX10, "begins", "()V"⟩
abbrev cX10_feed : ByteArray := prog_12_method_9_code
def yX10_feed : MethodName := ⟨RX10, "feed", "(I)I"⟩
abbrev cX10_here : ByteArray := prog_12_method_10_code
def yX10_here : MethodName := ⟨RX10, "here", "()I"⟩
abbrev cX10_step : ByteArray := prog_12_method_11_code
def yX10_step : MethodName := ⟨RX10, "step", "()V"⟩
abbrev cX10_fails : ByteArray := prog_12_method_12_code
def yX10_fails : MethodName := ⟨RX10, "fails", "(I)Z"⟩
abbrev cX10_number : ByteArray := prog_12_method_13_code
def yX10_number : MethodName := ⟨RX10, "number", "(III)Z"⟩
abbrev cX10_ends : ByteArray := prog_12_method_14_code
def yX10_ends : MethodName := ⟨RX10, "ends", "()Z"⟩
abbrev cX10_readsInterest : ByteArray := prog_12_method_15_code
def yX10_readsInterest : MethodName := ⟨RX10, "readsInterest", "()Z"⟩
abbrev cX10_readsCreditor : ByteArray := prog_12_method_16_code
def yX10_readsCreditor : MethodName := ⟨RX10, "readsCreditor", "()Z"⟩
abbrev cX10_readsPerson : ByteArray := prog_12_method_17_code
def yX10_readsPerson : MethodName := ⟨RX10, "readsPerson", "(Z)Z"⟩
abbrev cX10_readsClause : ByteArray := prog_12_method_18_code
def yX10_readsClause : MethodName := ⟨RX10, "readsClause", "()Z"⟩
abbrev cX10_town : ByteArray := prog_12_method_19_code
def yX10_town : MethodName := ⟨RX10, "town", "()I"⟩
abbrev cX10_fault : ByteArray := prog_12_method_20_code
def yX10_fault : MethodName := ⟨RX10, "fault", "()I"⟩
abbrev cX10_isCreditor : ByteArray := prog_12_method_21_code
def yX10_isCreditor : MethodName := ⟨RX10, "isCreditor", "(I)Z"⟩
abbrev cX10_isPerson : ByteArray := prog_12_method_22_code
def yX10_isPerson : MethodName := ⟨RX10, "isPerson", "(I)Z"⟩
abbrev cX10_isGirl : ByteArray := prog_12_method_23_code
def yX10_isGirl : MethodName := ⟨RX10, "isGirl", "(I)Z"⟩
abbrev cX10_isMan : ByteArray := prog_12_method_24_code
def yX10_isMan : MethodName := ⟨RX10, "isMan", "(I)Z"⟩
abbrev cX10_temperOf : ByteArray := prog_12_method_25_code
def yX10_temperOf : MethodName := ⟨RX10, "temperOf", "([III)I"⟩
abbrev cX10_standing : ByteArray := prog_12_method_26_code
def yX10_standing : MethodName := ⟨RX10, "standing", "([II)I"⟩
abbrev cX10_sumOf : ByteArray := prog_12_method_27_code
def yX10_sumOf : MethodName := ⟨RX10, "sumOf", "([II)I"⟩
abbrev cX10_grows : ByteArray := prog_12_method_28_code
def yX10_grows : MethodName := ⟨RX10, "grows", "(I)I"⟩
abbrev cX10_sours : ByteArray := prog_12_method_29_code
def yX10_sours : MethodName := ⟨RX10, "sours", "([I)I"⟩
abbrev cX10_quarterGoes : ByteArray := prog_12_method_30_code
def yX10_quarterGoes : MethodName := ⟨RX10, "quarterGoes", "([I)V"⟩
abbrev cX10_weds : ByteArray := prog_12_method_31_code
def yX10_weds : MethodName := ⟨RX10, "weds", "([III)V"⟩
abbrev cX10_wedOnes : ByteArray := prog_12_method_32_code
def yX10_wedOnes : MethodName := ⟨RX10, "wedOnes", "()I"⟩
abbrev cX10_owedInAll : ByteArray := prog_12_method_33_code
def yX10_owedInAll : MethodName := ⟨RX10, "owedInAll", "()I"⟩
abbrev cX10_told : ByteArray := prog_12_method_34_code
def yX10_told : MethodName := ⟨RX10, "told", "(I)I"⟩
abbrev cX10_whoAre : ByteArray := prog_12_method_35_code
def yX10_whoAre : MethodName := ⟨RX10, "whoAre", "(II)I"⟩
abbrev cX10_creditor : ByteArray := prog_12_method_36_code
def yX10_creditor : MethodName := ⟨RX10, "creditor", "(II)I"⟩
abbrev cX10_person : ByteArray := prog_12_method_37_code
def yX10_person : MethodName := ⟨RX10, "person", "(II)I"⟩
abbrev cX10_owes : ByteArray := prog_12_method_38_code
def yX10_owes : MethodName := ⟨RX10, "owes", "(II)I"⟩
abbrev cX10_temper : ByteArray := prog_12_method_39_code
def yX10_temper : MethodName := ⟨RX10, "temper", "(II)I"⟩
abbrev cX10_remember : ByteArray := prog_12_method_40_code
def yX10_remember : MethodName := ⟨RX10, "remember", "()V"⟩
abbrev cX10_isWedMan : ByteArray := prog_12_method_41_code
def yX10_isWedMan : MethodName := ⟨RX10, "isWedMan", "(I)Z"⟩
abbrev cX10_mayBorrow : ByteArray := prog_12_method_42_code
def yX10_mayBorrow : MethodName := ⟨RX10, "mayBorrow", "(III)Z"⟩
abbrev cX10_borrows : ByteArray := prog_12_method_43_code
def yX10_borrows : MethodName := ⟨RX10, "borrows", "(III)V"⟩
abbrev cX10_borrow : ByteArray := prog_12_method_44_code
def yX10_borrow : MethodName := ⟨RX10, "borrow", "(III)I"⟩
abbrev cX10_pay : ByteArray := prog_12_method_45_code
def yX10_pay : MethodName := ⟨RX10, "pay", "(III)I"⟩
abbrev cX10_refuses : ByteArray := prog_12_method_46_code
def yX10_refuses : MethodName := ⟨RX10, "refuses", "(I)I"⟩
abbrev cX10_quarter : ByteArray := prog_12_method_47_code
def yX10_quarter : MethodName := ⟨RX10, "quarter", "(I)I"⟩
abbrev cX10_areApart : ByteArray := prog_12_method_48_code
def yX10_areApart : MethodName := ⟨RX10, "areApart", "(II)Z"⟩
abbrev cX10_wed : ByteArray := prog_12_method_49_code
def yX10_wed : MethodName := ⟨RX10, "wed", "(II)I"⟩
abbrev cX10_divorce : ByteArray := prog_12_method_50_code
def yX10_divorce : MethodName := ⟨RX10, "divorce", "(I)I"⟩
abbrev cX10_draw : ByteArray := prog_12_method_51_code
def yX10_draw : MethodName := ⟨RX10, "draw", "(I)I"⟩
abbrev cX10_drift : ByteArray := prog_12_method_52_code
def yX10_drift : MethodName := ⟨RX10, "drift", "(I)I"⟩
abbrev cX10_undo : ByteArray := prog_12_method_53_code
def yX10_undo : MethodName := ⟨RX10, "undo", "(I)I"⟩
abbrev cX10_layAside : ByteArray := prog_12_method_54_code
def yX10_layAside : MethodName := ⟨RX10, "layAside", "()V"⟩
abbrev cX10_joins : ByteArray := prog_12_method_55_code
def yX10_joins : MethodName := ⟨RX10, "joins", "(II)I"⟩
abbrev cX10_joined : ByteArray := prog_12_method_56_code
def yX10_joined : MethodName := ⟨RX10, "joined", "(II)I"⟩
abbrev cX10_takes : ByteArray := prog_12_method_57_code
def yX10_takes : MethodName := ⟨RX10, "takes", "(II)I"⟩
abbrev cX10_least : ByteArray := prog_12_method_58_code
def yX10_least : MethodName := ⟨RX10, "least", "(III)I"⟩
abbrev cX10_paysBy : ByteArray := prog_12_method_59_code
def yX10_paysBy : MethodName := ⟨RX10, "paysBy", "(III)I"⟩
abbrev cX10_plan : ByteArray := prog_12_method_60_code
def yX10_plan : MethodName := ⟨RX10, "plan", "(IIII)I"⟩
abbrev cX10_makesPairs : ByteArray := prog_12_method_61_code
def yX10_makesPairs : MethodName := ⟨RX10, "makesPairs", "()I"⟩
abbrev cX10_matches : ByteArray := prog_12_method_62_code
def yX10_matches : MethodName := ⟨RX10, "matches", "(I)I"⟩
abbrev cX10_failing : ByteArray := prog_12_method_63_code
def yX10_failing : MethodName := ⟨RX10, "failing", "()I"⟩
abbrev cX10_run : ByteArray := prog_12_method_64_code
def yX10_run : MethodName := ⟨RX10, "run", "(I)I"⟩
abbrev cX10_credit : ByteArray := prog_12_method_65_code
def yX10_credit : MethodName := ⟨RX10, "credit", "(II)I"⟩
abbrev cX10_rumours : ByteArray := prog_12_method_66_code
def yX10_rumours : MethodName := ⟨RX10, "rumours", "(II)I"⟩
abbrev cX10_card : ByteArray := prog_12_method_67_code
def yX10_card : MethodName := ⟨RX10, "card", "(IIIZ)I"⟩
abbrev cX10_isCivil : ByteArray := prog_12_method_68_code
def yX10_isCivil : MethodName := ⟨RX10, "isCivil", "(III)Z"⟩
abbrev cX10_couldBe : ByteArray := prog_12_method_69_code
def yX10_couldBe : MethodName := ⟨RX10, "couldBe", "(III)Z"⟩
abbrev cX10_had : ByteArray := prog_12_method_70_code
def yX10_had : MethodName := ⟨RX10, "had", "(III)I"⟩
abbrev cX10_lookAt : ByteArray := prog_12_method_71_code
def yX10_lookAt : MethodName := ⟨RX10, "lookAt", "(II)I"⟩
abbrev cX10_write : ByteArray := prog_12_method_72_code
def yX10_write : MethodName := ⟨RX10, "write", "(II)I"⟩
abbrev cX10_judge : ByteArray := prog_12_method_73_code
def yX10_judge : MethodName := ⟨RX10, "judge", "()I"⟩
abbrev cX10_tear : ByteArray := prog_12_method_74_code
def yX10_tear : MethodName := ⟨RX10, "tear", "()I"⟩
abbrev cX10_seed : ByteArray := prog_12_method_75_code
def yX10_seed : MethodName := ⟨RX10, "seed", "(I)I"⟩
abbrev cX10_keep : ByteArray := prog_12_method_76_code
def yX10_keep : MethodName := ⟨RX10, "keep", "(I)I"⟩
abbrev cX10_goBack : ByteArray := prog_12_method_77_code
def yX10_goBack : MethodName := ⟨RX10, "goBack", "(I)I"⟩
def RJ6 : String := "java/lang/Integer"
def TJ6 : u_T := fun k => match k with
  | _ => ("", "", "", false)
def tyJ6 : Nat → FieldType := fun k => match k with
  | _ => .int
abbrev wsJ60 : List Cond := u_ws RJ6 TJ6 0
theorem nmJ6 : ∀ a, a < 0 → ∀ b, b < 0 → a ≠ b → (TJ6 a).2.1 ≠ (TJ6 b).2.1 := by decide +kernel
theorem tyJ6_ok : ∀ k, k < 0 → parseFieldDescriptor (TJ6 k).2.2.1 = some (tyJ6 k) := by decide +kernel
abbrev cJ6_bitCount_0f7a4 : ByteArray := prog_13_method_49_code
def yJ6_bitCount_0f7a4 : MethodName := ⟨RJ6, "bitCount", "(I)I"⟩
def RJ9 : String := "java/lang/Math"
def TJ9 : u_T := fun k => match k with
  | _ => ("", "", "", false)
def tyJ9 : Nat → FieldType := fun k => match k with
  | _ => .int
abbrev wsJ90 : List Cond := u_ws RJ9 TJ9 0
theorem nmJ9 : ∀ a, a < 0 → ∀ b, b < 0 → a ≠ b → (TJ9 a).2.1 ≠ (TJ9 b).2.1 := by decide +kernel
theorem tyJ9_ok : ∀ k, k < 0 → parseFieldDescriptor (TJ9 k).2.2.1 = some (tyJ9 k) := by decide +kernel
abbrev cJ9_max_7cf53 : ByteArray := prog_14_method_65_code
def yJ9_max_7cf53 : MethodName := ⟨RJ9, "max", "(II)I"⟩
abbrev cJ9_min_7cf53 : ByteArray := prog_14_method_69_code
def yJ9_min_7cf53 : MethodName := ⟨RJ9, "min", "(II)I"⟩
def RJ10 : String := "java/lang/System"
def TJ10 : u_T := fun k => match k with
  | _ => ("", "", "", false)
def tyJ10 : Nat → FieldType := fun k => match k with
  | _ => .int
abbrev wsJ100 : List Cond := u_ws RJ10 TJ10 0
theorem nmJ10 : ∀ a, a < 0 → ∀ b, b < 0 → a ≠ b → (TJ10 a).2.1 ≠ (TJ10 b).2.1 := by decide +kernel
theorem tyJ10_ok : ∀ k, k < 0 → parseFieldDescriptor (TJ10 k).2.2.1 = some (tyJ10 k) := by decide +kernel
def RL : String := "DebtDowryLaw"
abbrev cL_law : ByteArray := code
def yL_law : MethodName := ⟨RL, "law", "([I)Z"⟩
def wsX0_init : List Cond := .code yX0_init cX0_init 1 none :: ([.methodLink RX0 3 objectInit, .instanceMethod objectInit, .code objectInit ⟨#[0xb1]⟩ 1 none, .arrayClass .int, .fieldLink RX0 9 "DebtDowry$Book" "person" "[I", .fieldLink RX0 15 "DebtDowry$Book" "standing" "[I"] ++ wsX00)
def wsX0_add : List Cond := .code yX0_add cX0_add 3 (some .boolean) :: ([.fieldLink RX0 18 "DebtDowry$Book" "count" "I", .fieldLink RX0 9 "DebtDowry$Book" "person" "[I", .fieldLink RX0 15 "DebtDowry$Book" "standing" "[I"] ++ wsX00)
def wsX7_owedTo : List Cond := .code yX7_owedTo cX7_owedTo 3 (some .int) :: ([.fieldLink RX7 9 "DebtDowry$State" "owed" "[I"] ++ wsX70)
def wsX7_hasInsulted : List Cond := .code yX7_hasInsulted cX7_hasInsulted 3 (some .boolean) :: ([.fieldLink RX7 18 "DebtDowry$State" "insults" "[I"] ++ wsX70)
def wsX7_hasFailed : List Cond := .code yX7_hasFailed cX7_hasFailed 2 (some .boolean) :: ([.fieldLink RX7 28 "DebtDowry$State" "failed" "I"] ++ wsX70)
def wsX7_moodBy : List Cond := .code yX7_moodBy cX7_moodBy 4 (some .int) :: ([.fieldLink RX7 24 "DebtDowry$State" "terms" "LDebtDowry$Terms;", .fieldLink RX7 69 "DebtDowry$Terms" "low" "[I", .fieldLink RX7 72 "DebtDowry$Terms" "high" "[I", .methodLink RX7 66 yX7_hasFailed, .instanceMethod yX7_hasFailed, .selects RX7 yX7_hasFailed yX7_hasFailed, .initialized RX7, .code yX7_hasFailed cX7_hasFailed 2 (some .boolean), .fieldLink RX7 28 "DebtDowry$State" "failed" "I"] ++ wsX70 ++ wsX80)
def wsX7_moodTo : List Cond := .code yX7_moodTo cX7_moodTo 3 (some .int) :: ([.methodLink RX7 52 yX7_owedTo, .instanceMethod yX7_owedTo, .selects RX7 yX7_owedTo yX7_owedTo, .initialized RX7, .code yX7_owedTo cX7_owedTo 3 (some .int), .fieldLink RX7 9 "DebtDowry$State" "owed" "[I", .methodLink RX7 75 yX7_hasInsulted, .instanceMethod yX7_hasInsulted, .selects RX7 yX7_hasInsulted yX7_hasInsulted, .code yX7_hasInsulted cX7_hasInsulted 3 (some .boolean), .fieldLink RX7 18 "DebtDowry$State" "insults" "[I", .methodLink RX7 79 yX7_moodBy, .instanceMethod yX7_moodBy, .selects RX7 yX7_moodBy yX7_moodBy, .code yX7_moodBy cX7_moodBy 4 (some .int), .fieldLink RX7 24 "DebtDowry$State" "terms" "LDebtDowry$Terms;", .fieldLink RX7 69 "DebtDowry$Terms" "low" "[I", .fieldLink RX7 72 "DebtDowry$Terms" "high" "[I", .methodLink RX7 66 yX7_hasFailed, .instanceMethod yX7_hasFailed, .selects RX7 yX7_hasFailed yX7_hasFailed, .code yX7_hasFailed cX7_hasFailed 2 (some .boolean), .fieldLink RX7 28 "DebtDowry$State" "failed" "I"] ++ wsX70 ++ wsX80)
def wsX7_worthOf : List Cond := .code yX7_worthOf cX7_worthOf 3 (some .int) :: ([.fieldLink RX7 24 "DebtDowry$State" "terms" "LDebtDowry$Terms;", .fieldLink RX7 86 "DebtDowry$Terms" "great" "[I"] ++ wsX70 ++ wsX80)
def wsX7_standingOf_r1 : List Cond := [Cond.fieldLink RX7 24 "DebtDowry$State" "terms" "LDebtDowry$Terms;", Cond.fieldLink RX7 47 "DebtDowry$Terms" "creditors" "I", Cond.methodLink RX7 83 yX7_moodTo, Cond.instanceMethod yX7_moodTo, Cond.selects RX7 yX7_moodTo yX7_moodTo, Cond.initialized RX7, Cond.code yX7_moodTo cX7_moodTo 3 (some .int), Cond.methodLink RX7 52 yX7_owedTo, Cond.instanceMethod yX7_owedTo, Cond.selects RX7 yX7_owedTo yX7_owedTo, Cond.code yX7_owedTo cX7_owedTo 3 (some .int), Cond.fieldLink RX7 9 "DebtDowry$State" "owed" "[I", Cond.methodLink RX7 75 yX7_hasInsulted, Cond.instanceMethod yX7_hasInsulted, Cond.selects RX7 yX7_hasInsulted yX7_hasInsulted, Cond.code yX7_hasInsulted cX7_hasInsulted 3 (some .boolean), Cond.fieldLink RX7 18 "DebtDowry$State" "insults" "[I", Cond.methodLink RX7 79 yX7_moodBy, Cond.instanceMethod yX7_moodBy, Cond.selects RX7 yX7_moodBy yX7_moodBy, Cond.code yX7_moodBy cX7_moodBy 4 (some .int), Cond.fieldLink RX7 69 "DebtDowry$Terms" "low" "[I", Cond.fieldLink RX7 72 "DebtDowry$Terms" "high" "[I", Cond.methodLink RX7 66 yX7_hasFailed]
def wsX7_standingOf_r2 : List Cond := [Cond.instanceMethod yX7_hasFailed, Cond.selects RX7 yX7_hasFailed yX7_hasFailed, Cond.code yX7_hasFailed cX7_hasFailed 2 (some .boolean), Cond.fieldLink RX7 28 "DebtDowry$State" "failed" "I", Cond.methodLink RX7 89 yX7_worthOf, Cond.instanceMethod yX7_worthOf, Cond.selects RX7 yX7_worthOf yX7_worthOf, Cond.code yX7_worthOf cX7_worthOf 3 (some .int), Cond.fieldLink RX7 86 "DebtDowry$Terms" "great" "[I"]
def wsX7_standingOf : List Cond := .code yX7_standingOf cX7_standingOf 4 (some .int) :: ((wsX7_standingOf_r1 ++ wsX7_standingOf_r2) ++ wsX70 ++ wsX80)
def wsX0_firstWrong_r1 : List Cond := [Cond.fieldLink RX0 18 "DebtDowry$Book" "count" "I", Cond.fieldLink RX0 9 "DebtDowry$Book" "person" "[I", Cond.fieldLink RX0 15 "DebtDowry$Book" "standing" "[I", Cond.methodLink RX0 22 yX7_standingOf, Cond.instanceMethod yX7_standingOf, Cond.selects RX7 yX7_standingOf yX7_standingOf, Cond.initialized RX7, Cond.code yX7_standingOf cX7_standingOf 4 (some .int), Cond.fieldLink RX7 24 "DebtDowry$State" "terms" "LDebtDowry$Terms;", Cond.fieldLink RX7 47 "DebtDowry$Terms" "creditors" "I", Cond.methodLink RX7 83 yX7_moodTo, Cond.instanceMethod yX7_moodTo, Cond.selects RX7 yX7_moodTo yX7_moodTo, Cond.code yX7_moodTo cX7_moodTo 3 (some .int), Cond.methodLink RX7 52 yX7_owedTo, Cond.instanceMethod yX7_owedTo, Cond.selects RX7 yX7_owedTo yX7_owedTo, Cond.code yX7_owedTo cX7_owedTo 3 (some .int), Cond.fieldLink RX7 9 "DebtDowry$State" "owed" "[I", Cond.methodLink RX7 75 yX7_hasInsulted, Cond.instanceMethod yX7_hasInsulted, Cond.selects RX7 yX7_hasInsulted yX7_hasInsulted, Cond.code yX7_hasInsulted cX7_hasInsulted 3 (some .boolean), Cond.fieldLink RX7 18 "DebtDowry$State" "insults" "[I"]
def wsX0_firstWrong_r2 : List Cond := [Cond.methodLink RX7 79 yX7_moodBy, Cond.instanceMethod yX7_moodBy, Cond.selects RX7 yX7_moodBy yX7_moodBy, Cond.code yX7_moodBy cX7_moodBy 4 (some .int), Cond.fieldLink RX7 69 "DebtDowry$Terms" "low" "[I", Cond.fieldLink RX7 72 "DebtDowry$Terms" "high" "[I", Cond.methodLink RX7 66 yX7_hasFailed, Cond.instanceMethod yX7_hasFailed, Cond.selects RX7 yX7_hasFailed yX7_hasFailed, Cond.code yX7_hasFailed cX7_hasFailed 2 (some .boolean), Cond.fieldLink RX7 28 "DebtDowry$State" "failed" "I", Cond.methodLink RX7 89 yX7_worthOf, Cond.instanceMethod yX7_worthOf, Cond.selects RX7 yX7_worthOf yX7_worthOf, Cond.code yX7_worthOf cX7_worthOf 3 (some .int), Cond.fieldLink RX7 86 "DebtDowry$Terms" "great" "[I"]
def wsX0_firstWrong : List Cond := .code yX0_firstWrong cX0_firstWrong 3 (some .int) :: ((wsX0_firstWrong_r1 ++ wsX0_firstWrong_r2) ++ wsX00 ++ wsX70 ++ wsX80)
def wsX1_init : List Cond := .code yX1_init cX1_init 1 none :: ([.methodLink RX1 3 objectInit, .instanceMethod objectInit, .code objectInit ⟨#[0xb1]⟩ 1 none, .arrayClass .int, .fieldLink RX1 9 "DebtDowry$Cards" "person" "[I", .fieldLink RX1 15 "DebtDowry$Cards" "creditor" "[I", .fieldLink RX1 18 "DebtDowry$Cards" "quarters" "[I", .arrayClass .boolean, .fieldLink RX1 21 "DebtDowry$Cards" "civil" "[Z", .fieldLink RX1 25 "DebtDowry$Cards" "sums" "[I"] ++ wsX10)
def wsX1_add : List Cond := .code yX1_add cX1_add 5 (some .boolean) :: ([.fieldLink RX1 28 "DebtDowry$Cards" "count" "I", .fieldLink RX1 9 "DebtDowry$Cards" "person" "[I", .fieldLink RX1 15 "DebtDowry$Cards" "creditor" "[I", .fieldLink RX1 18 "DebtDowry$Cards" "quarters" "[I", .fieldLink RX1 21 "DebtDowry$Cards" "civil" "[Z"] ++ wsX10)
def wsX8_grown : List Cond := .code yX8_grown cX8_grown 2 (some .int) :: ([.fieldLink RX8 25 "DebtDowry$Terms" "interest" "I", .methodLink RX8 54 Lib.Math.min.name, .static Lib.Math.min.name, .initialized "java/lang/Math", .code Lib.Math.min.name Lib.Math.min.code 2 (some .int)] ++ wsX80)
def wsX1_behind : List Cond := .code yX1_behind cX1_behind 5 (some .int) :: ([.methodLink RX1 49 yX8_grown, .instanceMethod yX8_grown, .selects RX8 yX8_grown yX8_grown, .initialized RX8, .code yX8_grown cX8_grown 2 (some .int), .fieldLink RX8 25 "DebtDowry$Terms" "interest" "I", .methodLink RX8 54 Lib.Math.min.name, .static Lib.Math.min.name, .initialized "java/lang/Math", .code Lib.Math.min.name Lib.Math.min.code 2 (some .int)] ++ wsX80)
def wsX8_within : List Cond := .code yX8_within cX8_within 3 (some .boolean) :: ([.fieldLink RX8 9 "DebtDowry$Terms" "low" "[I", .fieldLink RX8 15 "DebtDowry$Terms" "high" "[I"] ++ wsX80)
def wsX1_fits_r1 : List Cond := [Cond.fieldLink RX1 28 "DebtDowry$Cards" "count" "I", Cond.fieldLink RX1 9 "DebtDowry$Cards" "person" "[I", Cond.fieldLink RX1 15 "DebtDowry$Cards" "creditor" "[I", Cond.fieldLink RX1 18 "DebtDowry$Cards" "quarters" "[I", Cond.fieldLink RX1 21 "DebtDowry$Cards" "civil" "[Z", Cond.methodLink RX1 39 yX1_behind, Cond.static yX1_behind, Cond.initialized RX1, Cond.code yX1_behind cX1_behind 5 (some .int), Cond.methodLink RX1 49 yX8_grown, Cond.instanceMethod yX8_grown, Cond.selects RX8 yX8_grown yX8_grown, Cond.initialized RX8, Cond.code yX8_grown cX8_grown 2 (some .int), Cond.fieldLink RX8 25 "DebtDowry$Terms" "interest" "I", Cond.methodLink RX8 54 Lib.Math.min.name, Cond.static Lib.Math.min.name, Cond.initialized "java/lang/Math", Cond.code Lib.Math.min.name Lib.Math.min.code 2 (some .int), Cond.methodLink RX1 43 yX8_within, Cond.instanceMethod yX8_within, Cond.selects RX8 yX8_within yX8_within, Cond.code yX8_within cX8_within 3 (some .boolean), Cond.fieldLink RX8 9 "DebtDowry$Terms" "low" "[I"]
def wsX1_fits_r2 : List Cond := [Cond.fieldLink RX8 15 "DebtDowry$Terms" "high" "[I"]
def wsX1_fits : List Cond := .code yX1_fits cX1_fits 7 (some .boolean) :: ((wsX1_fits_r1 ++ wsX1_fits_r2) ++ wsX10 ++ wsX80)
def wsX1_sift_r1 : List Cond := [Cond.fieldLink RX1 32 "DebtDowry$Cards" "fitting" "I", Cond.fieldLink RX1 25 "DebtDowry$Cards" "sums" "[I", Cond.methodLink RX1 35 yX1_fits, Cond.instanceMethod yX1_fits, Cond.selects RX1 yX1_fits yX1_fits, Cond.initialized RX1, Cond.code yX1_fits cX1_fits 7 (some .boolean), Cond.fieldLink RX1 28 "DebtDowry$Cards" "count" "I", Cond.fieldLink RX1 9 "DebtDowry$Cards" "person" "[I", Cond.fieldLink RX1 15 "DebtDowry$Cards" "creditor" "[I", Cond.fieldLink RX1 18 "DebtDowry$Cards" "quarters" "[I", Cond.fieldLink RX1 21 "DebtDowry$Cards" "civil" "[Z", Cond.methodLink RX1 39 yX1_behind, Cond.static yX1_behind, Cond.code yX1_behind cX1_behind 5 (some .int), Cond.methodLink RX1 49 yX8_grown, Cond.instanceMethod yX8_grown, Cond.selects RX8 yX8_grown yX8_grown, Cond.initialized RX8, Cond.code yX8_grown cX8_grown 2 (some .int), Cond.fieldLink RX8 25 "DebtDowry$Terms" "interest" "I", Cond.methodLink RX8 54 Lib.Math.min.name, Cond.static Lib.Math.min.name, Cond.initialized "java/lang/Math"]
def wsX1_sift_r2 : List Cond := [Cond.code Lib.Math.min.name Lib.Math.min.code 2 (some .int), Cond.methodLink RX1 43 yX8_within, Cond.instanceMethod yX8_within, Cond.selects RX8 yX8_within yX8_within, Cond.code yX8_within cX8_within 3 (some .boolean), Cond.fieldLink RX8 9 "DebtDowry$Terms" "low" "[I", Cond.fieldLink RX8 15 "DebtDowry$Terms" "high" "[I"]
def wsX1_sift : List Cond := .code yX1_sift cX1_sift 5 none :: ((wsX1_sift_r1 ++ wsX1_sift_r2) ++ wsX10 ++ wsX80)
def wsX1_leastSum : List Cond := .code yX1_leastSum cX1_leastSum 1 (some .int) :: ([.fieldLink RX1 32 "DebtDowry$Cards" "fitting" "I", .fieldLink RX1 25 "DebtDowry$Cards" "sums" "[I"] ++ wsX10)
def wsX1_mostSum : List Cond := .code yX1_mostSum cX1_mostSum 1 (some .int) :: ([.fieldLink RX1 32 "DebtDowry$Cards" "fitting" "I", .fieldLink RX1 25 "DebtDowry$Cards" "sums" "[I"] ++ wsX10)
def wsX1_bestLook : List Cond := .code yX1_bestLook cX1_bestLook 8 (some .int) :: ([.fieldLink RX1 32 "DebtDowry$Cards" "fitting" "I", .fieldLink RX1 25 "DebtDowry$Cards" "sums" "[I", .methodLink RX1 53 Lib.Math.max.name, .static Lib.Math.max.name, .initialized "java/lang/Math", .code Lib.Math.max.name Lib.Math.max.code 2 (some .int), .methodLink RX1 43 yX8_within, .instanceMethod yX8_within, .selects RX8 yX8_within yX8_within, .initialized RX8, .code yX8_within cX8_within 3 (some .boolean), .fieldLink RX8 9 "DebtDowry$Terms" "low" "[I", .fieldLink RX8 15 "DebtDowry$Terms" "high" "[I", .methodLink RX1 49 yX8_grown, .instanceMethod yX8_grown, .selects RX8 yX8_grown yX8_grown, .code yX8_grown cX8_grown 2 (some .int), .fieldLink RX8 25 "DebtDowry$Terms" "interest" "I", .methodLink RX8 54 Lib.Math.min.name, .static Lib.Math.min.name, .code Lib.Math.min.name Lib.Math.min.code 2 (some .int)] ++ wsX10 ++ wsX80)
def wsX7_init : List Cond := .code yX7_init cX7_init 2 none :: ([.methodLink RX7 3 objectInit, .instanceMethod objectInit, .code objectInit ⟨#[0xb1]⟩ 1 none, .arrayClass .int, .fieldLink RX7 9 "DebtDowry$State" "owed" "[I", .fieldLink RX7 15 "DebtDowry$State" "purse" "[I", .fieldLink RX7 18 "DebtDowry$State" "insults" "[I", .fieldLink RX7 21 "DebtDowry$State" "spouse" "[I", .fieldLink RX7 24 "DebtDowry$State" "terms" "LDebtDowry$Terms;"] ++ wsX70)
def wsX2_init : List Cond := .code yX2_init cX2_init 3 none :: ([.methodLink RX2 3 objectInit, .instanceMethod objectInit, .code objectInit ⟨#[0xb1]⟩ 1 none, .classLink RX2 9 RX7, .fieldLink RX2 11 "DebtDowry$History" "ring" "[LDebtDowry$State;", .instantiable RX7 7, .initialized RX7, .methodLink RX2 17 yX7_init, .instanceMethod yX7_init, .code yX7_init cX7_init 2 none, .methodLink RX7 3 objectInit, .arrayClass .int, .fieldLink RX7 9 "DebtDowry$State" "owed" "[I", .fieldLink RX7 15 "DebtDowry$State" "purse" "[I", .fieldLink RX7 18 "DebtDowry$State" "insults" "[I", .fieldLink RX7 21 "DebtDowry$State" "spouse" "[I", .fieldLink RX7 24 "DebtDowry$State" "terms" "LDebtDowry$Terms;"] ++ wsX20 ++ wsX70)
def wsX2_forget : List Cond := .code yX2_forget cX2_forget 1 none :: ([.fieldLink RX2 20 "DebtDowry$History" "count" "I"] ++ wsX20)
def wsX7_take : List Cond := .code yX7_take cX7_take 2 none :: ([.fieldLink RX7 9 "DebtDowry$State" "owed" "[I", .methodLink RX7 35 arraycopyName, .native arraycopyName, .static arraycopyName, .initialized "java/lang/System", .fieldLink RX7 15 "DebtDowry$State" "purse" "[I", .fieldLink RX7 18 "DebtDowry$State" "insults" "[I", .fieldLink RX7 21 "DebtDowry$State" "spouse" "[I", .fieldLink RX7 28 "DebtDowry$State" "failed" "I", .fieldLink RX7 32 "DebtDowry$State" "quarters" "I"] ++ wsX70)
def wsX2_note : List Cond := .code yX2_note cX2_note 2 none :: ([.fieldLink RX2 11 "DebtDowry$History" "ring" "[LDebtDowry$State;", .fieldLink RX2 24 "DebtDowry$History" "oldest" "I", .fieldLink RX2 20 "DebtDowry$History" "count" "I", .methodLink RX2 27 yX7_take, .instanceMethod yX7_take, .selects RX7 yX7_take yX7_take, .initialized RX7, .code yX7_take cX7_take 2 none, .fieldLink RX7 9 "DebtDowry$State" "owed" "[I", .methodLink RX7 35 arraycopyName, .native arraycopyName, .static arraycopyName, .initialized "java/lang/System", .fieldLink RX7 15 "DebtDowry$State" "purse" "[I", .fieldLink RX7 18 "DebtDowry$State" "insults" "[I", .fieldLink RX7 21 "DebtDowry$State" "spouse" "[I", .fieldLink RX7 28 "DebtDowry$State" "failed" "I", .fieldLink RX7 32 "DebtDowry$State" "quarters" "I"] ++ wsX20 ++ wsX70)
def wsX2_restore : List Cond := .code yX2_restore cX2_restore 3 none :: ([.fieldLink RX2 20 "DebtDowry$History" "count" "I", .fieldLink RX2 11 "DebtDowry$History" "ring" "[LDebtDowry$State;", .fieldLink RX2 24 "DebtDowry$History" "oldest" "I", .methodLink RX2 27 yX7_take, .instanceMethod yX7_take, .selects RX7 yX7_take yX7_take, .initialized RX7, .code yX7_take cX7_take 2 none, .fieldLink RX7 9 "DebtDowry$State" "owed" "[I", .methodLink RX7 35 arraycopyName, .native arraycopyName, .static arraycopyName, .initialized "java/lang/System", .fieldLink RX7 15 "DebtDowry$State" "purse" "[I", .fieldLink RX7 18 "DebtDowry$State" "insults" "[I", .fieldLink RX7 21 "DebtDowry$State" "spouse" "[I", .fieldLink RX7 28 "DebtDowry$State" "failed" "I", .fieldLink RX7 32 "DebtDowry$State" "quarters" "I"] ++ wsX20 ++ wsX70)
def wsX3_init : List Cond := .code yX3_init cX3_init 2 none :: ([.methodLink RX3 1 objectInit, .instanceMethod objectInit, .code objectInit ⟨#[0xb1]⟩ 1 none, .classLink RX3 7 RX7, .instantiable RX7 7, .initialized RX7, .fieldLink RX3 12 "DebtDowry$Image" "state" "LDebtDowry$State;", .methodLink RX3 9 yX7_init, .instanceMethod yX7_init, .code yX7_init cX7_init 2 none, .methodLink RX7 3 objectInit, .arrayClass .int, .fieldLink RX7 9 "DebtDowry$State" "owed" "[I", .fieldLink RX7 15 "DebtDowry$State" "purse" "[I", .fieldLink RX7 18 "DebtDowry$State" "insults" "[I", .fieldLink RX7 21 "DebtDowry$State" "spouse" "[I", .fieldLink RX7 24 "DebtDowry$State" "terms" "LDebtDowry$Terms;"] ++ wsX70 ++ wsX30)
def wsX4_init : List Cond := .code yX4_init cX4_init 1 none :: ([.methodLink RX4 3 objectInit, .instanceMethod objectInit, .code objectInit ⟨#[0xb1]⟩ 1 none, .arrayClass .int, .fieldLink RX4 9 "DebtDowry$Matcher" "manOf" "[I"] ++ wsX40)
def wsX7_wedSet : List Cond := .code yX7_wedSet cX7_wedSet 3 (some .int) :: ([.fieldLink RX7 24 "DebtDowry$State" "terms" "LDebtDowry$Terms;", .fieldLink RX7 55 "DebtDowry$Terms" "persons" "I", .fieldLink RX7 21 "DebtDowry$State" "spouse" "[I"] ++ wsX70 ++ wsX80)
def wsX8_hasPerson : List Cond := .code yX8_hasPerson cX8_hasPerson 2 (some .boolean) :: ([.fieldLink RX8 35 "DebtDowry$Terms" "persons" "I"] ++ wsX80)
def wsX8_isGirl : List Cond := .code yX8_isGirl cX8_isGirl 2 (some .boolean) :: ([.fieldLink RX8 38 "DebtDowry$Terms" "girls" "I", .methodLink RX8 47 yX8_hasPerson, .instanceMethod yX8_hasPerson, .selects RX8 yX8_hasPerson yX8_hasPerson, .initialized RX8, .code yX8_hasPerson cX8_hasPerson 2 (some .boolean), .fieldLink RX8 35 "DebtDowry$Terms" "persons" "I"] ++ wsX80)
def wsX8_isMan : List Cond := .code yX8_isMan cX8_isMan 2 (some .boolean) :: ([.fieldLink RX8 38 "DebtDowry$Terms" "girls" "I", .methodLink RX8 47 yX8_hasPerson, .instanceMethod yX8_hasPerson, .selects RX8 yX8_hasPerson yX8_hasPerson, .initialized RX8, .code yX8_hasPerson cX8_hasPerson 2 (some .boolean), .fieldLink RX8 35 "DebtDowry$Terms" "persons" "I"] ++ wsX80)
def wsX7_standingJoined_r1 : List Cond := [Cond.fieldLink RX7 24 "DebtDowry$State" "terms" "LDebtDowry$Terms;", Cond.fieldLink RX7 47 "DebtDowry$Terms" "creditors" "I", Cond.methodLink RX7 41 Lib.Math.min.name, Cond.static Lib.Math.min.name, Cond.initialized "java/lang/Math", Cond.code Lib.Math.min.name Lib.Math.min.code 2 (some .int), Cond.methodLink RX7 75 yX7_hasInsulted, Cond.instanceMethod yX7_hasInsulted, Cond.selects RX7 yX7_hasInsulted yX7_hasInsulted, Cond.initialized RX7, Cond.code yX7_hasInsulted cX7_hasInsulted 3 (some .boolean), Cond.fieldLink RX7 18 "DebtDowry$State" "insults" "[I", Cond.methodLink RX7 52 yX7_owedTo, Cond.instanceMethod yX7_owedTo, Cond.selects RX7 yX7_owedTo yX7_owedTo, Cond.code yX7_owedTo cX7_owedTo 3 (some .int), Cond.fieldLink RX7 9 "DebtDowry$State" "owed" "[I", Cond.methodLink RX7 79 yX7_moodBy, Cond.instanceMethod yX7_moodBy, Cond.selects RX7 yX7_moodBy yX7_moodBy, Cond.code yX7_moodBy cX7_moodBy 4 (some .int), Cond.fieldLink RX7 69 "DebtDowry$Terms" "low" "[I", Cond.fieldLink RX7 72 "DebtDowry$Terms" "high" "[I", Cond.methodLink RX7 66 yX7_hasFailed]
def wsX7_standingJoined_r2 : List Cond := [Cond.instanceMethod yX7_hasFailed, Cond.selects RX7 yX7_hasFailed yX7_hasFailed, Cond.code yX7_hasFailed cX7_hasFailed 2 (some .boolean), Cond.fieldLink RX7 28 "DebtDowry$State" "failed" "I", Cond.methodLink RX7 89 yX7_worthOf, Cond.instanceMethod yX7_worthOf, Cond.selects RX7 yX7_worthOf yX7_worthOf, Cond.code yX7_worthOf cX7_worthOf 3 (some .int), Cond.fieldLink RX7 86 "DebtDowry$Terms" "great" "[I"]
def wsX7_standingJoined : List Cond := .code yX7_standingJoined cX7_standingJoined 7 (some .int) :: ((wsX7_standingJoined_r1 ++ wsX7_standingJoined_r2) ++ wsX70 ++ wsX80)
def wsX4_bestPair_r1 : List Cond := [Cond.constant RX4 25 (-1000000001), Cond.fieldLink RX4 26 "DebtDowry$State" "terms" "LDebtDowry$Terms;", Cond.fieldLink RX4 30 "DebtDowry$Terms" "persons" "I", Cond.methodLink RX4 36 yX8_isGirl, Cond.instanceMethod yX8_isGirl, Cond.selects RX8 yX8_isGirl yX8_isGirl, Cond.initialized RX8, Cond.code yX8_isGirl cX8_isGirl 2 (some .boolean), Cond.fieldLink RX8 38 "DebtDowry$Terms" "girls" "I", Cond.methodLink RX8 47 yX8_hasPerson, Cond.instanceMethod yX8_hasPerson, Cond.selects RX8 yX8_hasPerson yX8_hasPerson, Cond.code yX8_hasPerson cX8_hasPerson 2 (some .boolean), Cond.fieldLink RX8 35 "DebtDowry$Terms" "persons" "I", Cond.methodLink RX4 40 yX8_isMan, Cond.instanceMethod yX8_isMan, Cond.selects RX8 yX8_isMan yX8_isMan, Cond.code yX8_isMan cX8_isMan 2 (some .boolean), Cond.methodLink RX4 43 yX7_standingJoined, Cond.instanceMethod yX7_standingJoined, Cond.selects RX7 yX7_standingJoined yX7_standingJoined, Cond.initialized RX7, Cond.code yX7_standingJoined cX7_standingJoined 7 (some .int), Cond.fieldLink RX7 24 "DebtDowry$State" "terms" "LDebtDowry$Terms;"]
def wsX4_bestPair_r2 : List Cond := [Cond.fieldLink RX7 47 "DebtDowry$Terms" "creditors" "I", Cond.methodLink RX7 41 Lib.Math.min.name, Cond.static Lib.Math.min.name, Cond.initialized "java/lang/Math", Cond.code Lib.Math.min.name Lib.Math.min.code 2 (some .int), Cond.methodLink RX7 75 yX7_hasInsulted, Cond.instanceMethod yX7_hasInsulted, Cond.selects RX7 yX7_hasInsulted yX7_hasInsulted, Cond.code yX7_hasInsulted cX7_hasInsulted 3 (some .boolean), Cond.fieldLink RX7 18 "DebtDowry$State" "insults" "[I", Cond.methodLink RX7 52 yX7_owedTo, Cond.instanceMethod yX7_owedTo, Cond.selects RX7 yX7_owedTo yX7_owedTo, Cond.code yX7_owedTo cX7_owedTo 3 (some .int), Cond.fieldLink RX7 9 "DebtDowry$State" "owed" "[I", Cond.methodLink RX7 79 yX7_moodBy, Cond.instanceMethod yX7_moodBy, Cond.selects RX7 yX7_moodBy yX7_moodBy, Cond.code yX7_moodBy cX7_moodBy 4 (some .int), Cond.fieldLink RX7 69 "DebtDowry$Terms" "low" "[I", Cond.fieldLink RX7 72 "DebtDowry$Terms" "high" "[I", Cond.methodLink RX7 66 yX7_hasFailed, Cond.instanceMethod yX7_hasFailed, Cond.selects RX7 yX7_hasFailed yX7_hasFailed]
def wsX4_bestPair_r3 : List Cond := [Cond.code yX7_hasFailed cX7_hasFailed 2 (some .boolean), Cond.fieldLink RX7 28 "DebtDowry$State" "failed" "I", Cond.methodLink RX7 89 yX7_worthOf, Cond.instanceMethod yX7_worthOf, Cond.selects RX7 yX7_worthOf yX7_worthOf, Cond.code yX7_worthOf cX7_worthOf 3 (some .int), Cond.fieldLink RX7 86 "DebtDowry$Terms" "great" "[I", Cond.methodLink RX4 47 yX7_standingOf, Cond.instanceMethod yX7_standingOf, Cond.selects RX7 yX7_standingOf yX7_standingOf, Cond.code yX7_standingOf cX7_standingOf 4 (some .int), Cond.methodLink RX7 83 yX7_moodTo, Cond.instanceMethod yX7_moodTo, Cond.selects RX7 yX7_moodTo yX7_moodTo, Cond.code yX7_moodTo cX7_moodTo 3 (some .int)]
def wsX4_bestPair : List Cond := .code yX4_bestPair cX4_bestPair 9 (some .int) :: ((wsX4_bestPair_r1 ++ (wsX4_bestPair_r2 ++ wsX4_bestPair_r3)) ++ wsX70 ++ wsX80)
def wsX4_pairAll_r1 : List Cond := [Cond.fieldLink RX4 9 "DebtDowry$Matcher" "manOf" "[I", Cond.methodLink RX4 15 yX7_wedSet, Cond.instanceMethod yX7_wedSet, Cond.selects RX7 yX7_wedSet yX7_wedSet, Cond.initialized RX7, Cond.code yX7_wedSet cX7_wedSet 3 (some .int), Cond.fieldLink RX7 24 "DebtDowry$State" "terms" "LDebtDowry$Terms;", Cond.fieldLink RX7 55 "DebtDowry$Terms" "persons" "I", Cond.fieldLink RX7 21 "DebtDowry$State" "spouse" "[I", Cond.methodLink RX4 21 yX4_bestPair, Cond.static yX4_bestPair, Cond.initialized RX4, Cond.code yX4_bestPair cX4_bestPair 9 (some .int), Cond.constant RX4 25 (-1000000001), Cond.fieldLink RX4 26 "DebtDowry$State" "terms" "LDebtDowry$Terms;", Cond.fieldLink RX4 30 "DebtDowry$Terms" "persons" "I", Cond.methodLink RX4 36 yX8_isGirl, Cond.instanceMethod yX8_isGirl, Cond.selects RX8 yX8_isGirl yX8_isGirl, Cond.initialized RX8, Cond.code yX8_isGirl cX8_isGirl 2 (some .boolean), Cond.fieldLink RX8 38 "DebtDowry$Terms" "girls" "I", Cond.methodLink RX8 47 yX8_hasPerson, Cond.instanceMethod yX8_hasPerson]
def wsX4_pairAll_r2 : List Cond := [Cond.selects RX8 yX8_hasPerson yX8_hasPerson, Cond.code yX8_hasPerson cX8_hasPerson 2 (some .boolean), Cond.fieldLink RX8 35 "DebtDowry$Terms" "persons" "I", Cond.methodLink RX4 40 yX8_isMan, Cond.instanceMethod yX8_isMan, Cond.selects RX8 yX8_isMan yX8_isMan, Cond.code yX8_isMan cX8_isMan 2 (some .boolean), Cond.methodLink RX4 43 yX7_standingJoined, Cond.instanceMethod yX7_standingJoined, Cond.selects RX7 yX7_standingJoined yX7_standingJoined, Cond.code yX7_standingJoined cX7_standingJoined 7 (some .int), Cond.fieldLink RX7 47 "DebtDowry$Terms" "creditors" "I", Cond.methodLink RX7 41 Lib.Math.min.name, Cond.static Lib.Math.min.name, Cond.initialized "java/lang/Math", Cond.code Lib.Math.min.name Lib.Math.min.code 2 (some .int), Cond.methodLink RX7 75 yX7_hasInsulted, Cond.instanceMethod yX7_hasInsulted, Cond.selects RX7 yX7_hasInsulted yX7_hasInsulted, Cond.code yX7_hasInsulted cX7_hasInsulted 3 (some .boolean), Cond.fieldLink RX7 18 "DebtDowry$State" "insults" "[I", Cond.methodLink RX7 52 yX7_owedTo, Cond.instanceMethod yX7_owedTo, Cond.selects RX7 yX7_owedTo yX7_owedTo]
def wsX4_pairAll_r3 : List Cond := [Cond.code yX7_owedTo cX7_owedTo 3 (some .int), Cond.fieldLink RX7 9 "DebtDowry$State" "owed" "[I", Cond.methodLink RX7 79 yX7_moodBy, Cond.instanceMethod yX7_moodBy, Cond.selects RX7 yX7_moodBy yX7_moodBy, Cond.code yX7_moodBy cX7_moodBy 4 (some .int), Cond.fieldLink RX7 69 "DebtDowry$Terms" "low" "[I", Cond.fieldLink RX7 72 "DebtDowry$Terms" "high" "[I", Cond.methodLink RX7 66 yX7_hasFailed, Cond.instanceMethod yX7_hasFailed, Cond.selects RX7 yX7_hasFailed yX7_hasFailed, Cond.code yX7_hasFailed cX7_hasFailed 2 (some .boolean), Cond.fieldLink RX7 28 "DebtDowry$State" "failed" "I", Cond.methodLink RX7 89 yX7_worthOf, Cond.instanceMethod yX7_worthOf, Cond.selects RX7 yX7_worthOf yX7_worthOf, Cond.code yX7_worthOf cX7_worthOf 3 (some .int), Cond.fieldLink RX7 86 "DebtDowry$Terms" "great" "[I", Cond.methodLink RX4 47 yX7_standingOf, Cond.instanceMethod yX7_standingOf, Cond.selects RX7 yX7_standingOf yX7_standingOf, Cond.code yX7_standingOf cX7_standingOf 4 (some .int), Cond.methodLink RX7 83 yX7_moodTo, Cond.instanceMethod yX7_moodTo]
def wsX4_pairAll_r4 : List Cond := [Cond.selects RX7 yX7_moodTo yX7_moodTo, Cond.code yX7_moodTo cX7_moodTo 3 (some .int)]
def wsX4_pairAll : List Cond := .code yX4_pairAll cX4_pairAll 7 (some .int) :: ((wsX4_pairAll_r1 ++ (wsX4_pairAll_r2 ++ (wsX4_pairAll_r3 ++ wsX4_pairAll_r4))) ++ wsX40 ++ wsX70 ++ wsX80)
def wsX5_init : List Cond := .code yX5_init cX5_init 1 none :: ([.methodLink RX5 3 objectInit, .instanceMethod objectInit, .code objectInit ⟨#[0xb1]⟩ 1 none, .arrayClass .int, .fieldLink RX5 9 "DebtDowry$Planner" "cost" "[I"] ++ wsX50)
def wsX5_costFrom : List Cond := .code yX5_costFrom cX5_costFrom 6 (some .int) :: ([.fieldLink RX5 9 "DebtDowry$Planner" "cost" "[I", .constant RX5 19 (1000000), .methodLink RX5 42 yX8_grown, .instanceMethod yX8_grown, .selects RX8 yX8_grown yX8_grown, .initialized RX8, .code yX8_grown cX8_grown 2 (some .int), .fieldLink RX8 25 "DebtDowry$Terms" "interest" "I", .methodLink RX8 54 Lib.Math.min.name, .static Lib.Math.min.name, .initialized "java/lang/Math", .code Lib.Math.min.name Lib.Math.min.code 2 (some .int), .methodLink RX5 46 yX8_within, .instanceMethod yX8_within, .selects RX8 yX8_within yX8_within, .code yX8_within cX8_within 3 (some .boolean), .fieldLink RX8 9 "DebtDowry$Terms" "low" "[I", .fieldLink RX8 15 "DebtDowry$Terms" "high" "[I"] ++ wsX50 ++ wsX80)
def wsX5_addQuarter_r1 : List Cond := [Cond.constant RX5 19 (1000000), Cond.fieldLink RX5 24 "DebtDowry$Terms" "high" "[I", Cond.methodLink RX5 29 Lib.Math.min.name, Cond.static Lib.Math.min.name, Cond.initialized "java/lang/Math", Cond.code Lib.Math.min.name Lib.Math.min.code 2 (some .int), Cond.fieldLink RX5 9 "DebtDowry$Planner" "cost" "[I", Cond.methodLink RX5 35 yX5_costFrom, Cond.instanceMethod yX5_costFrom, Cond.selects RX5 yX5_costFrom yX5_costFrom, Cond.initialized RX5, Cond.code yX5_costFrom cX5_costFrom 6 (some .int), Cond.methodLink RX5 42 yX8_grown, Cond.instanceMethod yX8_grown, Cond.selects RX8 yX8_grown yX8_grown, Cond.initialized RX8, Cond.code yX8_grown cX8_grown 2 (some .int), Cond.fieldLink RX8 25 "DebtDowry$Terms" "interest" "I", Cond.methodLink RX8 54 Lib.Math.min.name, Cond.methodLink RX5 46 yX8_within, Cond.instanceMethod yX8_within, Cond.selects RX8 yX8_within yX8_within, Cond.code yX8_within cX8_within 3 (some .boolean), Cond.fieldLink RX8 9 "DebtDowry$Terms" "low" "[I"]
def wsX5_addQuarter_r2 : List Cond := [Cond.fieldLink RX8 15 "DebtDowry$Terms" "high" "[I"]
def wsX5_addQuarter : List Cond := .code yX5_addQuarter cX5_addQuarter 6 none :: ((wsX5_addQuarter_r1 ++ wsX5_addQuarter_r2) ++ wsX80 ++ wsX50)
def wsX5_work_r1 : List Cond := [Cond.fieldLink RX5 9 "DebtDowry$Planner" "cost" "[I", Cond.constant RX5 19 (1000000), Cond.fieldLink RX5 20 "DebtDowry$Planner" "together" "I", Cond.fieldLink RX5 24 "DebtDowry$Terms" "high" "[I", Cond.methodLink RX5 29 Lib.Math.min.name, Cond.static Lib.Math.min.name, Cond.initialized "java/lang/Math", Cond.code Lib.Math.min.name Lib.Math.min.code 2 (some .int), Cond.fieldLink RX5 39 "DebtDowry$Planner" "first" "I", Cond.methodLink RX5 15 yX5_addQuarter, Cond.instanceMethod yX5_addQuarter, Cond.selects RX5 yX5_addQuarter yX5_addQuarter, Cond.initialized RX5, Cond.code yX5_addQuarter cX5_addQuarter 6 none, Cond.methodLink RX5 35 yX5_costFrom, Cond.instanceMethod yX5_costFrom, Cond.selects RX5 yX5_costFrom yX5_costFrom, Cond.code yX5_costFrom cX5_costFrom 6 (some .int), Cond.methodLink RX5 42 yX8_grown, Cond.instanceMethod yX8_grown, Cond.selects RX8 yX8_grown yX8_grown, Cond.initialized RX8, Cond.code yX8_grown cX8_grown 2 (some .int), Cond.fieldLink RX8 25 "DebtDowry$Terms" "interest" "I"]
def wsX5_work_r2 : List Cond := [Cond.methodLink RX8 54 Lib.Math.min.name, Cond.methodLink RX5 46 yX8_within, Cond.instanceMethod yX8_within, Cond.selects RX8 yX8_within yX8_within, Cond.code yX8_within cX8_within 3 (some .boolean), Cond.fieldLink RX8 9 "DebtDowry$Terms" "low" "[I", Cond.fieldLink RX8 15 "DebtDowry$Terms" "high" "[I"]
def wsX5_work : List Cond := .code yX5_work cX5_work 8 (some .boolean) :: ((wsX5_work_r1 ++ wsX5_work_r2) ++ wsX50 ++ wsX80)
def wsX8_init : List Cond := .code yX8_init cX8_init 1 none :: ([.methodLink RX8 3 objectInit, .instanceMethod objectInit, .code objectInit ⟨#[0xb1]⟩ 1 none, .arrayClass .int, .fieldLink RX8 9 "DebtDowry$Terms" "low" "[I", .fieldLink RX8 15 "DebtDowry$Terms" "high" "[I", .fieldLink RX8 18 "DebtDowry$Terms" "great" "[I"] ++ wsX80)
def wsX6_init_r1 : List Cond := [Cond.methodLink RX6 3 objectInit, Cond.instanceMethod objectInit, Cond.code objectInit ⟨#[0xb1]⟩ 1 none, Cond.classLink RX6 9 RX8, Cond.instantiable RX8 9, Cond.initialized RX8, Cond.fieldLink RX6 12 "DebtDowry$Reader" "terms" "LDebtDowry$Terms;", Cond.classLink RX6 18 RX7, Cond.instantiable RX7 7, Cond.initialized RX7, Cond.fieldLink RX6 23 "DebtDowry$Reader" "state" "LDebtDowry$State;", Cond.arrayClass .int, Cond.fieldLink RX6 27 "DebtDowry$Reader" "letters" "[I", Cond.fieldLink RX6 31 "DebtDowry$Reader" "faultAt" "I", Cond.instanceMethod yX8_init, Cond.code yX8_init cX8_init 1 none, Cond.methodLink RX8 3 objectInit, Cond.fieldLink RX8 9 "DebtDowry$Terms" "low" "[I", Cond.fieldLink RX8 15 "DebtDowry$Terms" "high" "[I", Cond.fieldLink RX8 18 "DebtDowry$Terms" "great" "[I", Cond.methodLink RX6 20 yX7_init, Cond.instanceMethod yX7_init, Cond.code yX7_init cX7_init 2 none, Cond.methodLink RX7 3 objectInit]
def wsX6_init_r2 : List Cond := [Cond.fieldLink RX7 9 "DebtDowry$State" "owed" "[I", Cond.fieldLink RX7 15 "DebtDowry$State" "purse" "[I", Cond.fieldLink RX7 18 "DebtDowry$State" "insults" "[I", Cond.fieldLink RX7 21 "DebtDowry$State" "spouse" "[I", Cond.fieldLink RX7 24 "DebtDowry$State" "terms" "LDebtDowry$Terms;"]
def wsX6_init : List Cond := .code yX6_init cX6_init 1 none :: ((wsX6_init_r1 ++ wsX6_init_r2) ++ wsX80 ++ wsX60 ++ wsX70)
def wsX6_add : List Cond := .code yX6_add cX6_add 2 (some .boolean) :: ([.fieldLink RX6 35 "DebtDowry$Reader" "length" "I", .fieldLink RX6 27 "DebtDowry$Reader" "letters" "[I"] ++ wsX60)
def wsX8_clear : List Cond := .code yX8_clear cX8_clear 1 none :: ([.fieldLink RX8 21 "DebtDowry$Terms" "there" "Z", .fieldLink RX8 25 "DebtDowry$Terms" "interest" "I", .fieldLink RX8 29 "DebtDowry$Terms" "mildness" "I", .fieldLink RX8 32 "DebtDowry$Terms" "creditors" "I", .fieldLink RX8 35 "DebtDowry$Terms" "persons" "I", .fieldLink RX8 38 "DebtDowry$Terms" "girls" "I"] ++ wsX80)
def wsX7_clear : List Cond := .code yX7_clear cX7_clear 2 none :: ([.fieldLink RX7 9 "DebtDowry$State" "owed" "[I", .fieldLink RX7 15 "DebtDowry$State" "purse" "[I", .fieldLink RX7 18 "DebtDowry$State" "insults" "[I", .fieldLink RX7 21 "DebtDowry$State" "spouse" "[I", .fieldLink RX7 28 "DebtDowry$State" "failed" "I", .fieldLink RX7 32 "DebtDowry$State" "quarters" "I"] ++ wsX70)
def wsX6_nextSign : List Cond := .code yX6_nextSign cX6_nextSign 1 (some .int) :: ([.fieldLink RX6 45 "DebtDowry$Reader" "at" "I", .fieldLink RX6 35 "DebtDowry$Reader" "length" "I", .fieldLink RX6 27 "DebtDowry$Reader" "letters" "[I"] ++ wsX60)
def wsX6_blame : List Cond := .code yX6_blame cX6_blame 3 none :: ([.fieldLink RX6 42 "DebtDowry$Reader" "faultKind" "I", .fieldLink RX6 31 "DebtDowry$Reader" "faultAt" "I"] ++ wsX60)
def wsX6_isFigure : List Cond := .code yX6_isFigure cX6_isFigure 1 (some .boolean) :: ([])
def wsX6_readNumber : List Cond := .code yX6_readNumber cX6_readNumber 5 (some .int) :: ([.fieldLink RX6 45 "DebtDowry$Reader" "at" "I", .fieldLink RX6 105 "DebtDowry$Reader" "numberAt" "I", .fieldLink RX6 35 "DebtDowry$Reader" "length" "I", .fieldLink RX6 27 "DebtDowry$Reader" "letters" "[I", .methodLink RX6 48 yX6_nextSign, .instanceMethod yX6_nextSign, .selects RX6 yX6_nextSign yX6_nextSign, .initialized RX6, .code yX6_nextSign cX6_nextSign 1 (some .int), .methodLink RX6 118 yX6_isFigure, .static yX6_isFigure, .code yX6_isFigure cX6_isFigure 1 (some .boolean), .methodLink RX6 62 yX6_blame, .instanceMethod yX6_blame, .selects RX6 yX6_blame yX6_blame, .code yX6_blame cX6_blame 3 none, .fieldLink RX6 42 "DebtDowry$Reader" "faultKind" "I", .fieldLink RX6 31 "DebtDowry$Reader" "faultAt" "I"] ++ wsX60)
def wsX6_readSign : List Cond := .code yX6_readSign cX6_readSign 2 none :: ([.fieldLink RX6 45 "DebtDowry$Reader" "at" "I", .methodLink RX6 48 yX6_nextSign, .instanceMethod yX6_nextSign, .selects RX6 yX6_nextSign yX6_nextSign, .initialized RX6, .code yX6_nextSign cX6_nextSign 1 (some .int), .fieldLink RX6 35 "DebtDowry$Reader" "length" "I", .fieldLink RX6 27 "DebtDowry$Reader" "letters" "[I", .methodLink RX6 62 yX6_blame, .instanceMethod yX6_blame, .selects RX6 yX6_blame yX6_blame, .code yX6_blame cX6_blame 3 none, .fieldLink RX6 42 "DebtDowry$Reader" "faultKind" "I", .fieldLink RX6 31 "DebtDowry$Reader" "faultAt" "I"] ++ wsX60)
def wsX6_readInterest_r1 : List Cond := [Cond.fieldLink RX6 45 "DebtDowry$Reader" "at" "I", Cond.fieldLink RX6 12 "DebtDowry$Reader" "terms" "LDebtDowry$Terms;", Cond.fieldLink RX6 70 "DebtDowry$Terms" "interest" "I", Cond.fieldLink RX6 73 "DebtDowry$Terms" "mildness" "I", Cond.methodLink RX6 48 yX6_nextSign, Cond.instanceMethod yX6_nextSign, Cond.selects RX6 yX6_nextSign yX6_nextSign, Cond.initialized RX6, Cond.code yX6_nextSign cX6_nextSign 1 (some .int), Cond.fieldLink RX6 35 "DebtDowry$Reader" "length" "I", Cond.fieldLink RX6 27 "DebtDowry$Reader" "letters" "[I", Cond.methodLink RX6 62 yX6_blame, Cond.instanceMethod yX6_blame, Cond.selects RX6 yX6_blame yX6_blame, Cond.code yX6_blame cX6_blame 3 none, Cond.fieldLink RX6 42 "DebtDowry$Reader" "faultKind" "I", Cond.fieldLink RX6 31 "DebtDowry$Reader" "faultAt" "I", Cond.methodLink RX6 66 yX6_readNumber, Cond.instanceMethod yX6_readNumber, Cond.selects RX6 yX6_readNumber yX6_readNumber, Cond.code yX6_readNumber cX6_readNumber 5 (some .int), Cond.fieldLink RX6 105 "DebtDowry$Reader" "numberAt" "I", Cond.methodLink RX6 118 yX6_isFigure, Cond.static yX6_isFigure]
def wsX6_readInterest_r2 : List Cond := [Cond.code yX6_isFigure cX6_isFigure 1 (some .boolean), Cond.methodLink RX6 76 yX6_readSign, Cond.instanceMethod yX6_readSign, Cond.selects RX6 yX6_readSign yX6_readSign, Cond.code yX6_readSign cX6_readSign 2 none]
def wsX6_readInterest : List Cond := .code yX6_readInterest cX6_readInterest 1 none :: ((wsX6_readInterest_r1 ++ wsX6_readInterest_r2) ++ wsX60 ++ wsX80)
def wsX6_readCreditor_r1 : List Cond := [Cond.fieldLink RX6 12 "DebtDowry$Reader" "terms" "LDebtDowry$Terms;", Cond.fieldLink RX6 90 "DebtDowry$Terms" "creditors" "I", Cond.fieldLink RX6 93 "DebtDowry$Terms" "persons" "I", Cond.fieldLink RX6 45 "DebtDowry$Reader" "at" "I", Cond.fieldLink RX6 23 "DebtDowry$Reader" "state" "LDebtDowry$State;", Cond.fieldLink RX6 96 "DebtDowry$State" "purse" "[I", Cond.fieldLink RX6 99 "DebtDowry$Terms" "low" "[I", Cond.fieldLink RX6 102 "DebtDowry$Terms" "high" "[I", Cond.fieldLink RX6 105 "DebtDowry$Reader" "numberAt" "I", Cond.fieldLink RX6 108 "DebtDowry$Terms" "great" "[I", Cond.methodLink RX6 62 yX6_blame, Cond.instanceMethod yX6_blame, Cond.selects RX6 yX6_blame yX6_blame, Cond.initialized RX6, Cond.code yX6_blame cX6_blame 3 none, Cond.fieldLink RX6 42 "DebtDowry$Reader" "faultKind" "I", Cond.fieldLink RX6 31 "DebtDowry$Reader" "faultAt" "I", Cond.methodLink RX6 66 yX6_readNumber, Cond.instanceMethod yX6_readNumber, Cond.selects RX6 yX6_readNumber yX6_readNumber, Cond.code yX6_readNumber cX6_readNumber 5 (some .int), Cond.fieldLink RX6 35 "DebtDowry$Reader" "length" "I", Cond.fieldLink RX6 27 "DebtDowry$Reader" "letters" "[I", Cond.methodLink RX6 48 yX6_nextSign]
def wsX6_readCreditor_r2 : List Cond := [Cond.instanceMethod yX6_nextSign, Cond.selects RX6 yX6_nextSign yX6_nextSign, Cond.code yX6_nextSign cX6_nextSign 1 (some .int), Cond.methodLink RX6 118 yX6_isFigure, Cond.static yX6_isFigure, Cond.code yX6_isFigure cX6_isFigure 1 (some .boolean), Cond.methodLink RX6 76 yX6_readSign, Cond.instanceMethod yX6_readSign, Cond.selects RX6 yX6_readSign yX6_readSign, Cond.code yX6_readSign cX6_readSign 2 none]
def wsX6_readCreditor : List Cond := .code yX6_readCreditor cX6_readCreditor 2 none :: ((wsX6_readCreditor_r1 ++ wsX6_readCreditor_r2) ++ wsX60 ++ wsX80 ++ wsX70)
def wsX7_setOwed : List Cond := .code yX7_setOwed cX7_setOwed 4 none :: ([.fieldLink RX7 9 "DebtDowry$State" "owed" "[I", .methodLink RX7 41 Lib.Math.min.name, .static Lib.Math.min.name, .initialized "java/lang/Math", .code Lib.Math.min.name Lib.Math.min.code 2 (some .int)] ++ wsX70)
def wsX6_readPerson_r1 : List Cond := [Cond.fieldLink RX6 12 "DebtDowry$Reader" "terms" "LDebtDowry$Terms;", Cond.fieldLink RX6 93 "DebtDowry$Terms" "persons" "I", Cond.fieldLink RX6 90 "DebtDowry$Terms" "creditors" "I", Cond.fieldLink RX6 45 "DebtDowry$Reader" "at" "I", Cond.fieldLink RX6 23 "DebtDowry$Reader" "state" "LDebtDowry$State;", Cond.fieldLink RX6 115 "DebtDowry$Terms" "girls" "I", Cond.methodLink RX6 62 yX6_blame, Cond.instanceMethod yX6_blame, Cond.selects RX6 yX6_blame yX6_blame, Cond.initialized RX6, Cond.code yX6_blame cX6_blame 3 none, Cond.fieldLink RX6 42 "DebtDowry$Reader" "faultKind" "I", Cond.fieldLink RX6 31 "DebtDowry$Reader" "faultAt" "I", Cond.methodLink RX6 76 yX6_readSign, Cond.instanceMethod yX6_readSign, Cond.selects RX6 yX6_readSign yX6_readSign, Cond.code yX6_readSign cX6_readSign 2 none, Cond.methodLink RX6 48 yX6_nextSign, Cond.instanceMethod yX6_nextSign, Cond.selects RX6 yX6_nextSign yX6_nextSign, Cond.code yX6_nextSign cX6_nextSign 1 (some .int), Cond.fieldLink RX6 35 "DebtDowry$Reader" "length" "I", Cond.fieldLink RX6 27 "DebtDowry$Reader" "letters" "[I", Cond.methodLink RX6 66 yX6_readNumber]
def wsX6_readPerson_r2 : List Cond := [Cond.instanceMethod yX6_readNumber, Cond.selects RX6 yX6_readNumber yX6_readNumber, Cond.code yX6_readNumber cX6_readNumber 5 (some .int), Cond.fieldLink RX6 105 "DebtDowry$Reader" "numberAt" "I", Cond.methodLink RX6 118 yX6_isFigure, Cond.static yX6_isFigure, Cond.code yX6_isFigure cX6_isFigure 1 (some .boolean), Cond.methodLink RX6 111 yX7_setOwed, Cond.instanceMethod yX7_setOwed, Cond.selects RX7 yX7_setOwed yX7_setOwed, Cond.initialized RX7, Cond.code yX7_setOwed cX7_setOwed 4 none, Cond.fieldLink RX7 9 "DebtDowry$State" "owed" "[I", Cond.methodLink RX7 41 Lib.Math.min.name, Cond.static Lib.Math.min.name, Cond.initialized "java/lang/Math", Cond.code Lib.Math.min.name Lib.Math.min.code 2 (some .int)]
def wsX6_readPerson : List Cond := .code yX6_readPerson cX6_readPerson 4 none :: ((wsX6_readPerson_r1 ++ wsX6_readPerson_r2) ++ wsX60 ++ wsX80 ++ wsX70)
def wsX6_readClause_r1 : List Cond := [Cond.fieldLink RX6 45 "DebtDowry$Reader" "at" "I", Cond.methodLink RX6 83 yX6_readCreditor, Cond.instanceMethod yX6_readCreditor, Cond.selects RX6 yX6_readCreditor yX6_readCreditor, Cond.initialized RX6, Cond.code yX6_readCreditor cX6_readCreditor 2 none, Cond.fieldLink RX6 12 "DebtDowry$Reader" "terms" "LDebtDowry$Terms;", Cond.fieldLink RX6 90 "DebtDowry$Terms" "creditors" "I", Cond.fieldLink RX6 93 "DebtDowry$Terms" "persons" "I", Cond.fieldLink RX6 23 "DebtDowry$Reader" "state" "LDebtDowry$State;", Cond.fieldLink RX6 96 "DebtDowry$State" "purse" "[I", Cond.fieldLink RX6 99 "DebtDowry$Terms" "low" "[I", Cond.fieldLink RX6 102 "DebtDowry$Terms" "high" "[I", Cond.fieldLink RX6 105 "DebtDowry$Reader" "numberAt" "I", Cond.fieldLink RX6 108 "DebtDowry$Terms" "great" "[I", Cond.methodLink RX6 62 yX6_blame, Cond.instanceMethod yX6_blame, Cond.selects RX6 yX6_blame yX6_blame, Cond.code yX6_blame cX6_blame 3 none, Cond.fieldLink RX6 42 "DebtDowry$Reader" "faultKind" "I", Cond.fieldLink RX6 31 "DebtDowry$Reader" "faultAt" "I", Cond.methodLink RX6 66 yX6_readNumber, Cond.instanceMethod yX6_readNumber, Cond.selects RX6 yX6_readNumber yX6_readNumber]
def wsX6_readClause_r2 : List Cond := [Cond.code yX6_readNumber cX6_readNumber 5 (some .int), Cond.fieldLink RX6 35 "DebtDowry$Reader" "length" "I", Cond.fieldLink RX6 27 "DebtDowry$Reader" "letters" "[I", Cond.methodLink RX6 48 yX6_nextSign, Cond.instanceMethod yX6_nextSign, Cond.selects RX6 yX6_nextSign yX6_nextSign, Cond.code yX6_nextSign cX6_nextSign 1 (some .int), Cond.methodLink RX6 118 yX6_isFigure, Cond.static yX6_isFigure, Cond.code yX6_isFigure cX6_isFigure 1 (some .boolean), Cond.methodLink RX6 76 yX6_readSign, Cond.instanceMethod yX6_readSign, Cond.selects RX6 yX6_readSign yX6_readSign, Cond.code yX6_readSign cX6_readSign 2 none, Cond.methodLink RX6 86 yX6_readPerson, Cond.instanceMethod yX6_readPerson, Cond.selects RX6 yX6_readPerson yX6_readPerson, Cond.code yX6_readPerson cX6_readPerson 4 none, Cond.fieldLink RX6 115 "DebtDowry$Terms" "girls" "I", Cond.methodLink RX6 111 yX7_setOwed, Cond.instanceMethod yX7_setOwed, Cond.selects RX7 yX7_setOwed yX7_setOwed, Cond.initialized RX7, Cond.code yX7_setOwed cX7_setOwed 4 none]
def wsX6_readClause_r3 : List Cond := [Cond.fieldLink RX7 9 "DebtDowry$State" "owed" "[I", Cond.methodLink RX7 41 Lib.Math.min.name, Cond.static Lib.Math.min.name, Cond.initialized "java/lang/Math", Cond.code Lib.Math.min.name Lib.Math.min.code 2 (some .int)]
def wsX6_readClause : List Cond := .code yX6_readClause cX6_readClause 2 none :: ((wsX6_readClause_r1 ++ (wsX6_readClause_r2 ++ wsX6_readClause_r3)) ++ wsX60 ++ wsX80 ++ wsX70)
def wsX6_readOthers_r1 : List Cond := [Cond.fieldLink RX6 42 "DebtDowry$Reader" "faultKind" "I", Cond.methodLink RX6 48 yX6_nextSign, Cond.instanceMethod yX6_nextSign, Cond.selects RX6 yX6_nextSign yX6_nextSign, Cond.initialized RX6, Cond.code yX6_nextSign cX6_nextSign 1 (some .int), Cond.fieldLink RX6 45 "DebtDowry$Reader" "at" "I", Cond.fieldLink RX6 35 "DebtDowry$Reader" "length" "I", Cond.fieldLink RX6 27 "DebtDowry$Reader" "letters" "[I", Cond.methodLink RX6 80 yX6_readClause, Cond.instanceMethod yX6_readClause, Cond.selects RX6 yX6_readClause yX6_readClause, Cond.code yX6_readClause cX6_readClause 2 none, Cond.methodLink RX6 83 yX6_readCreditor, Cond.instanceMethod yX6_readCreditor, Cond.selects RX6 yX6_readCreditor yX6_readCreditor, Cond.code yX6_readCreditor cX6_readCreditor 2 none, Cond.fieldLink RX6 12 "DebtDowry$Reader" "terms" "LDebtDowry$Terms;", Cond.fieldLink RX6 90 "DebtDowry$Terms" "creditors" "I", Cond.fieldLink RX6 93 "DebtDowry$Terms" "persons" "I", Cond.fieldLink RX6 23 "DebtDowry$Reader" "state" "LDebtDowry$State;", Cond.fieldLink RX6 96 "DebtDowry$State" "purse" "[I", Cond.fieldLink RX6 99 "DebtDowry$Terms" "low" "[I", Cond.fieldLink RX6 102 "DebtDowry$Terms" "high" "[I"]
def wsX6_readOthers_r2 : List Cond := [Cond.fieldLink RX6 105 "DebtDowry$Reader" "numberAt" "I", Cond.fieldLink RX6 108 "DebtDowry$Terms" "great" "[I", Cond.methodLink RX6 62 yX6_blame, Cond.instanceMethod yX6_blame, Cond.selects RX6 yX6_blame yX6_blame, Cond.code yX6_blame cX6_blame 3 none, Cond.fieldLink RX6 31 "DebtDowry$Reader" "faultAt" "I", Cond.methodLink RX6 66 yX6_readNumber, Cond.instanceMethod yX6_readNumber, Cond.selects RX6 yX6_readNumber yX6_readNumber, Cond.code yX6_readNumber cX6_readNumber 5 (some .int), Cond.methodLink RX6 118 yX6_isFigure, Cond.static yX6_isFigure, Cond.code yX6_isFigure cX6_isFigure 1 (some .boolean), Cond.methodLink RX6 76 yX6_readSign, Cond.instanceMethod yX6_readSign, Cond.selects RX6 yX6_readSign yX6_readSign, Cond.code yX6_readSign cX6_readSign 2 none, Cond.methodLink RX6 86 yX6_readPerson, Cond.instanceMethod yX6_readPerson, Cond.selects RX6 yX6_readPerson yX6_readPerson, Cond.code yX6_readPerson cX6_readPerson 4 none, Cond.fieldLink RX6 115 "DebtDowry$Terms" "girls" "I", Cond.methodLink RX6 111 yX7_setOwed]
def wsX6_readOthers_r3 : List Cond := [Cond.instanceMethod yX7_setOwed, Cond.selects RX7 yX7_setOwed yX7_setOwed, Cond.initialized RX7, Cond.code yX7_setOwed cX7_setOwed 4 none, Cond.fieldLink RX7 9 "DebtDowry$State" "owed" "[I", Cond.methodLink RX7 41 Lib.Math.min.name, Cond.static Lib.Math.min.name, Cond.initialized "java/lang/Math", Cond.code Lib.Math.min.name Lib.Math.min.code 2 (some .int)]
def wsX6_readOthers : List Cond := .code yX6_readOthers cX6_readOthers 3 none :: ((wsX6_readOthers_r1 ++ (wsX6_readOthers_r2 ++ wsX6_readOthers_r3)) ++ wsX60 ++ wsX80 ++ wsX70)
def wsX6_readAll_r1 : List Cond := [Cond.fieldLink RX6 12 "DebtDowry$Reader" "terms" "LDebtDowry$Terms;", Cond.fieldLink RX6 23 "DebtDowry$Reader" "state" "LDebtDowry$State;", Cond.fieldLink RX6 42 "DebtDowry$Reader" "faultKind" "I", Cond.fieldLink RX6 31 "DebtDowry$Reader" "faultAt" "I", Cond.fieldLink RX6 45 "DebtDowry$Reader" "at" "I", Cond.fieldLink RX6 52 "DebtDowry$Terms" "there" "Z", Cond.fieldLink RX6 35 "DebtDowry$Reader" "length" "I", Cond.methodLink RX6 38 yX8_clear, Cond.instanceMethod yX8_clear, Cond.selects RX8 yX8_clear yX8_clear, Cond.initialized RX8, Cond.code yX8_clear cX8_clear 1 none, Cond.fieldLink RX8 21 "DebtDowry$Terms" "there" "Z", Cond.fieldLink RX8 25 "DebtDowry$Terms" "interest" "I", Cond.fieldLink RX8 29 "DebtDowry$Terms" "mildness" "I", Cond.fieldLink RX8 32 "DebtDowry$Terms" "creditors" "I", Cond.fieldLink RX8 35 "DebtDowry$Terms" "persons" "I", Cond.fieldLink RX8 38 "DebtDowry$Terms" "girls" "I", Cond.methodLink RX6 41 yX7_clear, Cond.instanceMethod yX7_clear, Cond.selects RX7 yX7_clear yX7_clear, Cond.initialized RX7, Cond.code yX7_clear cX7_clear 2 none, Cond.fieldLink RX7 9 "DebtDowry$State" "owed" "[I"]
def wsX6_readAll_r2 : List Cond := [Cond.fieldLink RX7 15 "DebtDowry$State" "purse" "[I", Cond.fieldLink RX7 18 "DebtDowry$State" "insults" "[I", Cond.fieldLink RX7 21 "DebtDowry$State" "spouse" "[I", Cond.fieldLink RX7 28 "DebtDowry$State" "failed" "I", Cond.fieldLink RX7 32 "DebtDowry$State" "quarters" "I", Cond.methodLink RX6 48 yX6_nextSign, Cond.instanceMethod yX6_nextSign, Cond.selects RX6 yX6_nextSign yX6_nextSign, Cond.initialized RX6, Cond.code yX6_nextSign cX6_nextSign 1 (some .int), Cond.fieldLink RX6 27 "DebtDowry$Reader" "letters" "[I", Cond.methodLink RX6 56 yX6_readInterest, Cond.instanceMethod yX6_readInterest, Cond.selects RX6 yX6_readInterest yX6_readInterest, Cond.code yX6_readInterest cX6_readInterest 1 none, Cond.fieldLink RX6 70 "DebtDowry$Terms" "interest" "I", Cond.fieldLink RX6 73 "DebtDowry$Terms" "mildness" "I", Cond.methodLink RX6 62 yX6_blame, Cond.instanceMethod yX6_blame, Cond.selects RX6 yX6_blame yX6_blame, Cond.code yX6_blame cX6_blame 3 none, Cond.methodLink RX6 66 yX6_readNumber, Cond.instanceMethod yX6_readNumber, Cond.selects RX6 yX6_readNumber yX6_readNumber]
def wsX6_readAll_r3 : List Cond := [Cond.code yX6_readNumber cX6_readNumber 5 (some .int), Cond.fieldLink RX6 105 "DebtDowry$Reader" "numberAt" "I", Cond.methodLink RX6 118 yX6_isFigure, Cond.static yX6_isFigure, Cond.code yX6_isFigure cX6_isFigure 1 (some .boolean), Cond.methodLink RX6 76 yX6_readSign, Cond.instanceMethod yX6_readSign, Cond.selects RX6 yX6_readSign yX6_readSign, Cond.code yX6_readSign cX6_readSign 2 none, Cond.methodLink RX6 59 yX6_readOthers, Cond.instanceMethod yX6_readOthers, Cond.selects RX6 yX6_readOthers yX6_readOthers, Cond.code yX6_readOthers cX6_readOthers 3 none, Cond.methodLink RX6 80 yX6_readClause, Cond.instanceMethod yX6_readClause, Cond.selects RX6 yX6_readClause yX6_readClause, Cond.code yX6_readClause cX6_readClause 2 none, Cond.methodLink RX6 83 yX6_readCreditor, Cond.instanceMethod yX6_readCreditor, Cond.selects RX6 yX6_readCreditor yX6_readCreditor, Cond.code yX6_readCreditor cX6_readCreditor 2 none, Cond.fieldLink RX6 90 "DebtDowry$Terms" "creditors" "I", Cond.fieldLink RX6 93 "DebtDowry$Terms" "persons" "I", Cond.fieldLink RX6 96 "DebtDowry$State" "purse" "[I"]
def wsX6_readAll_r4 : List Cond := [Cond.fieldLink RX6 99 "DebtDowry$Terms" "low" "[I", Cond.fieldLink RX6 102 "DebtDowry$Terms" "high" "[I", Cond.fieldLink RX6 108 "DebtDowry$Terms" "great" "[I", Cond.methodLink RX6 86 yX6_readPerson, Cond.instanceMethod yX6_readPerson, Cond.selects RX6 yX6_readPerson yX6_readPerson, Cond.code yX6_readPerson cX6_readPerson 4 none, Cond.fieldLink RX6 115 "DebtDowry$Terms" "girls" "I", Cond.methodLink RX6 111 yX7_setOwed, Cond.instanceMethod yX7_setOwed, Cond.selects RX7 yX7_setOwed yX7_setOwed, Cond.code yX7_setOwed cX7_setOwed 4 none, Cond.methodLink RX7 41 Lib.Math.min.name, Cond.static Lib.Math.min.name, Cond.initialized "java/lang/Math", Cond.code Lib.Math.min.name Lib.Math.min.code 2 (some .int)]
def wsX6_readAll : List Cond := .code yX6_readAll cX6_readAll 1 none :: ((wsX6_readAll_r1 ++ (wsX6_readAll_r2 ++ (wsX6_readAll_r3 ++ wsX6_readAll_r4))) ++ wsX60 ++ wsX80 ++ wsX70)
def wsX7_owedTogether : List Cond := .code yX7_owedTogether cX7_owedTogether 4 (some .int) :: ([.fieldLink RX7 24 "DebtDowry$State" "terms" "LDebtDowry$Terms;", .fieldLink RX7 47 "DebtDowry$Terms" "creditors" "I", .methodLink RX7 52 yX7_owedTo, .instanceMethod yX7_owedTo, .selects RX7 yX7_owedTo yX7_owedTo, .initialized RX7, .code yX7_owedTo cX7_owedTo 3 (some .int), .fieldLink RX7 9 "DebtDowry$State" "owed" "[I"] ++ wsX70 ++ wsX80)
def wsX7_owedInAll : List Cond := .code yX7_owedInAll cX7_owedInAll 3 (some .int) :: ([.fieldLink RX7 24 "DebtDowry$State" "terms" "LDebtDowry$Terms;", .fieldLink RX7 55 "DebtDowry$Terms" "persons" "I", .methodLink RX7 58 yX7_owedTogether, .instanceMethod yX7_owedTogether, .selects RX7 yX7_owedTogether yX7_owedTogether, .initialized RX7, .code yX7_owedTogether cX7_owedTogether 4 (some .int), .fieldLink RX7 47 "DebtDowry$Terms" "creditors" "I", .methodLink RX7 52 yX7_owedTo, .instanceMethod yX7_owedTo, .selects RX7 yX7_owedTo yX7_owedTo, .code yX7_owedTo cX7_owedTo 3 (some .int), .fieldLink RX7 9 "DebtDowry$State" "owed" "[I"] ++ wsX70 ++ wsX80)
def wsX7_isWedMan : List Cond := .code yX7_isWedMan cX7_isWedMan 2 (some .boolean) :: ([.fieldLink RX7 24 "DebtDowry$State" "terms" "LDebtDowry$Terms;", .fieldLink RX7 21 "DebtDowry$State" "spouse" "[I", .methodLink RX7 62 yX8_isMan, .instanceMethod yX8_isMan, .selects RX8 yX8_isMan yX8_isMan, .initialized RX8, .code yX8_isMan cX8_isMan 2 (some .boolean), .fieldLink RX8 38 "DebtDowry$Terms" "girls" "I", .methodLink RX8 47 yX8_hasPerson, .instanceMethod yX8_hasPerson, .selects RX8 yX8_hasPerson yX8_hasPerson, .code yX8_hasPerson cX8_hasPerson 2 (some .boolean), .fieldLink RX8 35 "DebtDowry$Terms" "persons" "I"] ++ wsX70 ++ wsX80)
def wsX7_personsByMood_r1 : List Cond := [Cond.fieldLink RX7 24 "DebtDowry$State" "terms" "LDebtDowry$Terms;", Cond.fieldLink RX7 55 "DebtDowry$Terms" "persons" "I", Cond.methodLink RX7 83 yX7_moodTo, Cond.instanceMethod yX7_moodTo, Cond.selects RX7 yX7_moodTo yX7_moodTo, Cond.initialized RX7, Cond.code yX7_moodTo cX7_moodTo 3 (some .int), Cond.methodLink RX7 52 yX7_owedTo, Cond.instanceMethod yX7_owedTo, Cond.selects RX7 yX7_owedTo yX7_owedTo, Cond.code yX7_owedTo cX7_owedTo 3 (some .int), Cond.fieldLink RX7 9 "DebtDowry$State" "owed" "[I", Cond.methodLink RX7 75 yX7_hasInsulted, Cond.instanceMethod yX7_hasInsulted, Cond.selects RX7 yX7_hasInsulted yX7_hasInsulted, Cond.code yX7_hasInsulted cX7_hasInsulted 3 (some .boolean), Cond.fieldLink RX7 18 "DebtDowry$State" "insults" "[I", Cond.methodLink RX7 79 yX7_moodBy, Cond.instanceMethod yX7_moodBy, Cond.selects RX7 yX7_moodBy yX7_moodBy, Cond.code yX7_moodBy cX7_moodBy 4 (some .int), Cond.fieldLink RX7 69 "DebtDowry$Terms" "low" "[I", Cond.fieldLink RX7 72 "DebtDowry$Terms" "high" "[I", Cond.methodLink RX7 66 yX7_hasFailed]
def wsX7_personsByMood_r2 : List Cond := [Cond.instanceMethod yX7_hasFailed, Cond.selects RX7 yX7_hasFailed yX7_hasFailed, Cond.code yX7_hasFailed cX7_hasFailed 2 (some .boolean), Cond.fieldLink RX7 28 "DebtDowry$State" "failed" "I"]
def wsX7_personsByMood : List Cond := .code yX7_personsByMood cX7_personsByMood 5 (some .int) :: ((wsX7_personsByMood_r1 ++ wsX7_personsByMood_r2) ++ wsX70 ++ wsX80)
def wsX7_mayBorrow : List Cond := .code yX7_mayBorrow cX7_mayBorrow 4 (some .boolean) :: ([.fieldLink RX7 15 "DebtDowry$State" "purse" "[I", .methodLink RX7 92 yX7_isWedMan, .instanceMethod yX7_isWedMan, .selects RX7 yX7_isWedMan yX7_isWedMan, .initialized RX7, .code yX7_isWedMan cX7_isWedMan 2 (some .boolean), .fieldLink RX7 24 "DebtDowry$State" "terms" "LDebtDowry$Terms;", .fieldLink RX7 21 "DebtDowry$State" "spouse" "[I", .methodLink RX7 62 yX8_isMan, .instanceMethod yX8_isMan, .selects RX8 yX8_isMan yX8_isMan, .initialized RX8, .code yX8_isMan cX8_isMan 2 (some .boolean), .fieldLink RX8 38 "DebtDowry$Terms" "girls" "I", .methodLink RX8 47 yX8_hasPerson, .instanceMethod yX8_hasPerson, .selects RX8 yX8_hasPerson yX8_hasPerson, .code yX8_hasPerson cX8_hasPerson 2 (some .boolean), .fieldLink RX8 35 "DebtDowry$Terms" "persons" "I", .methodLink RX7 66 yX7_hasFailed, .instanceMethod yX7_hasFailed, .selects RX7 yX7_hasFailed yX7_hasFailed, .code yX7_hasFailed cX7_hasFailed 2 (some .boolean), .fieldLink RX7 28 "DebtDowry$State" "failed" "I"] ++ wsX70 ++ wsX80)
def wsX7_lend : List Cond := .code yX7_lend cX7_lend 4 none :: ([.fieldLink RX7 15 "DebtDowry$State" "purse" "[I", .methodLink RX7 52 yX7_owedTo, .instanceMethod yX7_owedTo, .selects RX7 yX7_owedTo yX7_owedTo, .initialized RX7, .code yX7_owedTo cX7_owedTo 3 (some .int), .fieldLink RX7 9 "DebtDowry$State" "owed" "[I", .methodLink RX7 95 yX7_setOwed, .instanceMethod yX7_setOwed, .selects RX7 yX7_setOwed yX7_setOwed, .code yX7_setOwed cX7_setOwed 4 none, .methodLink RX7 41 Lib.Math.min.name, .static Lib.Math.min.name, .initialized "java/lang/Math", .code Lib.Math.min.name Lib.Math.min.code 2 (some .int)] ++ wsX70)
def wsX7_settle : List Cond := .code yX7_settle cX7_settle 5 none :: ([.fieldLink RX7 24 "DebtDowry$State" "terms" "LDebtDowry$Terms;", .fieldLink RX7 99 "DebtDowry$Terms" "mildness" "I", .fieldLink RX7 18 "DebtDowry$State" "insults" "[I", .fieldLink RX7 15 "DebtDowry$State" "purse" "[I", .methodLink RX7 41 Lib.Math.min.name, .static Lib.Math.min.name, .initialized "java/lang/Math", .code Lib.Math.min.name Lib.Math.min.code 2 (some .int), .methodLink RX7 52 yX7_owedTo, .instanceMethod yX7_owedTo, .selects RX7 yX7_owedTo yX7_owedTo, .initialized RX7, .code yX7_owedTo cX7_owedTo 3 (some .int), .fieldLink RX7 9 "DebtDowry$State" "owed" "[I", .methodLink RX7 95 yX7_setOwed, .instanceMethod yX7_setOwed, .selects RX7 yX7_setOwed yX7_setOwed, .code yX7_setOwed cX7_setOwed 4 none] ++ wsX70 ++ wsX80)
def wsX7_unite : List Cond := .code yX7_unite cX7_unite 4 none :: ([.fieldLink RX7 24 "DebtDowry$State" "terms" "LDebtDowry$Terms;", .fieldLink RX7 47 "DebtDowry$Terms" "creditors" "I", .fieldLink RX7 18 "DebtDowry$State" "insults" "[I", .fieldLink RX7 21 "DebtDowry$State" "spouse" "[I", .methodLink RX7 52 yX7_owedTo, .instanceMethod yX7_owedTo, .selects RX7 yX7_owedTo yX7_owedTo, .initialized RX7, .code yX7_owedTo cX7_owedTo 3 (some .int), .fieldLink RX7 9 "DebtDowry$State" "owed" "[I", .methodLink RX7 95 yX7_setOwed, .instanceMethod yX7_setOwed, .selects RX7 yX7_setOwed yX7_setOwed, .code yX7_setOwed cX7_setOwed 4 none, .methodLink RX7 41 Lib.Math.min.name, .static Lib.Math.min.name, .initialized "java/lang/Math", .code Lib.Math.min.name Lib.Math.min.code 2 (some .int)] ++ wsX70 ++ wsX80)
def wsX7_part : List Cond := .code yX7_part cX7_part 5 none :: ([.fieldLink RX7 24 "DebtDowry$State" "terms" "LDebtDowry$Terms;", .fieldLink RX7 47 "DebtDowry$Terms" "creditors" "I", .fieldLink RX7 18 "DebtDowry$State" "insults" "[I", .fieldLink RX7 21 "DebtDowry$State" "spouse" "[I", .methodLink RX7 52 yX7_owedTo, .instanceMethod yX7_owedTo, .selects RX7 yX7_owedTo yX7_owedTo, .initialized RX7, .code yX7_owedTo cX7_owedTo 3 (some .int), .fieldLink RX7 9 "DebtDowry$State" "owed" "[I", .methodLink RX7 95 yX7_setOwed, .instanceMethod yX7_setOwed, .selects RX7 yX7_setOwed yX7_setOwed, .code yX7_setOwed cX7_setOwed 4 none, .methodLink RX7 41 Lib.Math.min.name, .static Lib.Math.min.name, .initialized "java/lang/Math", .code Lib.Math.min.name Lib.Math.min.code 2 (some .int)] ++ wsX70 ++ wsX80)
def wsX7_owedSourly_r1 : List Cond := [Cond.fieldLink RX7 24 "DebtDowry$State" "terms" "LDebtDowry$Terms;", Cond.fieldLink RX7 55 "DebtDowry$Terms" "persons" "I", Cond.methodLink RX7 83 yX7_moodTo, Cond.instanceMethod yX7_moodTo, Cond.selects RX7 yX7_moodTo yX7_moodTo, Cond.initialized RX7, Cond.code yX7_moodTo cX7_moodTo 3 (some .int), Cond.methodLink RX7 52 yX7_owedTo, Cond.instanceMethod yX7_owedTo, Cond.selects RX7 yX7_owedTo yX7_owedTo, Cond.code yX7_owedTo cX7_owedTo 3 (some .int), Cond.fieldLink RX7 9 "DebtDowry$State" "owed" "[I", Cond.methodLink RX7 75 yX7_hasInsulted, Cond.instanceMethod yX7_hasInsulted, Cond.selects RX7 yX7_hasInsulted yX7_hasInsulted, Cond.code yX7_hasInsulted cX7_hasInsulted 3 (some .boolean), Cond.fieldLink RX7 18 "DebtDowry$State" "insults" "[I", Cond.methodLink RX7 79 yX7_moodBy, Cond.instanceMethod yX7_moodBy, Cond.selects RX7 yX7_moodBy yX7_moodBy, Cond.code yX7_moodBy cX7_moodBy 4 (some .int), Cond.fieldLink RX7 69 "DebtDowry$Terms" "low" "[I", Cond.fieldLink RX7 72 "DebtDowry$Terms" "high" "[I", Cond.methodLink RX7 66 yX7_hasFailed]
def wsX7_owedSourly_r2 : List Cond := [Cond.instanceMethod yX7_hasFailed, Cond.selects RX7 yX7_hasFailed yX7_hasFailed, Cond.code yX7_hasFailed cX7_hasFailed 2 (some .boolean), Cond.fieldLink RX7 28 "DebtDowry$State" "failed" "I"]
def wsX7_owedSourly : List Cond := .code yX7_owedSourly cX7_owedSourly 4 (some .int) :: ((wsX7_owedSourly_r1 ++ wsX7_owedSourly_r2) ++ wsX70 ++ wsX80)
def wsX7_forgive : List Cond := .code yX7_forgive cX7_forgive 3 none :: ([.fieldLink RX7 24 "DebtDowry$State" "terms" "LDebtDowry$Terms;", .fieldLink RX7 55 "DebtDowry$Terms" "persons" "I", .methodLink RX7 95 yX7_setOwed, .instanceMethod yX7_setOwed, .selects RX7 yX7_setOwed yX7_setOwed, .initialized RX7, .code yX7_setOwed cX7_setOwed 4 none, .fieldLink RX7 9 "DebtDowry$State" "owed" "[I", .methodLink RX7 41 Lib.Math.min.name, .static Lib.Math.min.name, .initialized "java/lang/Math", .code Lib.Math.min.name Lib.Math.min.code 2 (some .int)] ++ wsX70 ++ wsX80)
def wsX7_passQuarter_r1 : List Cond := [Cond.fieldLink RX7 24 "DebtDowry$State" "terms" "LDebtDowry$Terms;", Cond.fieldLink RX7 55 "DebtDowry$Terms" "persons" "I", Cond.fieldLink RX7 18 "DebtDowry$State" "insults" "[I", Cond.fieldLink RX7 47 "DebtDowry$Terms" "creditors" "I", Cond.fieldLink RX7 15 "DebtDowry$State" "purse" "[I", Cond.fieldLink RX7 28 "DebtDowry$State" "failed" "I", Cond.fieldLink RX7 32 "DebtDowry$State" "quarters" "I", Cond.methodLink RX7 52 yX7_owedTo, Cond.instanceMethod yX7_owedTo, Cond.selects RX7 yX7_owedTo yX7_owedTo, Cond.initialized RX7, Cond.code yX7_owedTo cX7_owedTo 3 (some .int), Cond.fieldLink RX7 9 "DebtDowry$State" "owed" "[I", Cond.methodLink RX7 102 yX8_grown, Cond.instanceMethod yX8_grown, Cond.selects RX8 yX8_grown yX8_grown, Cond.initialized RX8, Cond.code yX8_grown cX8_grown 2 (some .int), Cond.fieldLink RX8 25 "DebtDowry$Terms" "interest" "I", Cond.methodLink RX8 54 Lib.Math.min.name, Cond.static Lib.Math.min.name, Cond.initialized "java/lang/Math", Cond.code Lib.Math.min.name Lib.Math.min.code 2 (some .int), Cond.methodLink RX7 95 yX7_setOwed]
def wsX7_passQuarter_r2 : List Cond := [Cond.instanceMethod yX7_setOwed, Cond.selects RX7 yX7_setOwed yX7_setOwed, Cond.code yX7_setOwed cX7_setOwed 4 none, Cond.methodLink RX7 41 Lib.Math.min.name, Cond.methodLink RX7 66 yX7_hasFailed, Cond.instanceMethod yX7_hasFailed, Cond.selects RX7 yX7_hasFailed yX7_hasFailed, Cond.code yX7_hasFailed cX7_hasFailed 2 (some .boolean), Cond.methodLink RX7 105 yX7_owedSourly, Cond.instanceMethod yX7_owedSourly, Cond.selects RX7 yX7_owedSourly yX7_owedSourly, Cond.code yX7_owedSourly cX7_owedSourly 4 (some .int), Cond.methodLink RX7 83 yX7_moodTo, Cond.instanceMethod yX7_moodTo, Cond.selects RX7 yX7_moodTo yX7_moodTo, Cond.code yX7_moodTo cX7_moodTo 3 (some .int), Cond.methodLink RX7 75 yX7_hasInsulted, Cond.instanceMethod yX7_hasInsulted, Cond.selects RX7 yX7_hasInsulted yX7_hasInsulted, Cond.code yX7_hasInsulted cX7_hasInsulted 3 (some .boolean), Cond.methodLink RX7 79 yX7_moodBy, Cond.instanceMethod yX7_moodBy, Cond.selects RX7 yX7_moodBy yX7_moodBy, Cond.code yX7_moodBy cX7_moodBy 4 (some .int)]
def wsX7_passQuarter_r3 : List Cond := [Cond.fieldLink RX7 69 "DebtDowry$Terms" "low" "[I", Cond.fieldLink RX7 72 "DebtDowry$Terms" "high" "[I", Cond.methodLink RX7 108 yX7_forgive, Cond.instanceMethod yX7_forgive, Cond.selects RX7 yX7_forgive yX7_forgive, Cond.code yX7_forgive cX7_forgive 3 none]
def wsX7_passQuarter : List Cond := .code yX7_passQuarter cX7_passQuarter 3 (some .int) :: ((wsX7_passQuarter_r1 ++ (wsX7_passQuarter_r2 ++ wsX7_passQuarter_r3)) ++ wsX70 ++ wsX80)
def wsX7_mayReachLow_r1 : List Cond := [Cond.fieldLink RX7 24 "DebtDowry$State" "terms" "LDebtDowry$Terms;", Cond.fieldLink RX7 69 "DebtDowry$Terms" "low" "[I", Cond.methodLink RX7 83 yX7_moodTo, Cond.instanceMethod yX7_moodTo, Cond.selects RX7 yX7_moodTo yX7_moodTo, Cond.initialized RX7, Cond.code yX7_moodTo cX7_moodTo 3 (some .int), Cond.methodLink RX7 52 yX7_owedTo, Cond.instanceMethod yX7_owedTo, Cond.selects RX7 yX7_owedTo yX7_owedTo, Cond.code yX7_owedTo cX7_owedTo 3 (some .int), Cond.fieldLink RX7 9 "DebtDowry$State" "owed" "[I", Cond.methodLink RX7 75 yX7_hasInsulted, Cond.instanceMethod yX7_hasInsulted, Cond.selects RX7 yX7_hasInsulted yX7_hasInsulted, Cond.code yX7_hasInsulted cX7_hasInsulted 3 (some .boolean), Cond.fieldLink RX7 18 "DebtDowry$State" "insults" "[I", Cond.methodLink RX7 79 yX7_moodBy, Cond.instanceMethod yX7_moodBy, Cond.selects RX7 yX7_moodBy yX7_moodBy, Cond.code yX7_moodBy cX7_moodBy 4 (some .int), Cond.fieldLink RX7 72 "DebtDowry$Terms" "high" "[I", Cond.methodLink RX7 66 yX7_hasFailed, Cond.instanceMethod yX7_hasFailed]
def wsX7_mayReachLow_r2 : List Cond := [Cond.selects RX7 yX7_hasFailed yX7_hasFailed, Cond.code yX7_hasFailed cX7_hasFailed 2 (some .boolean), Cond.fieldLink RX7 28 "DebtDowry$State" "failed" "I", Cond.methodLink RX7 112 yX7_mayBorrow, Cond.instanceMethod yX7_mayBorrow, Cond.selects RX7 yX7_mayBorrow yX7_mayBorrow, Cond.code yX7_mayBorrow cX7_mayBorrow 4 (some .boolean), Cond.fieldLink RX7 15 "DebtDowry$State" "purse" "[I", Cond.methodLink RX7 92 yX7_isWedMan, Cond.instanceMethod yX7_isWedMan, Cond.selects RX7 yX7_isWedMan yX7_isWedMan, Cond.code yX7_isWedMan cX7_isWedMan 2 (some .boolean), Cond.fieldLink RX7 21 "DebtDowry$State" "spouse" "[I", Cond.methodLink RX7 62 yX8_isMan, Cond.instanceMethod yX8_isMan, Cond.selects RX8 yX8_isMan yX8_isMan, Cond.initialized RX8, Cond.code yX8_isMan cX8_isMan 2 (some .boolean), Cond.fieldLink RX8 38 "DebtDowry$Terms" "girls" "I", Cond.methodLink RX8 47 yX8_hasPerson, Cond.instanceMethod yX8_hasPerson, Cond.selects RX8 yX8_hasPerson yX8_hasPerson, Cond.code yX8_hasPerson cX8_hasPerson 2 (some .boolean), Cond.fieldLink RX8 35 "DebtDowry$Terms" "persons" "I"]
def wsX7_mayReachLow : List Cond := .code yX7_mayReachLow cX7_mayReachLow 4 (some .boolean) :: ((wsX7_mayReachLow_r1 ++ wsX7_mayReachLow_r2) ++ wsX70 ++ wsX80)
def wsX7_coinsFor : List Cond := .code yX7_coinsFor cX7_coinsFor 5 (some .int) :: ([.fieldLink RX7 24 "DebtDowry$State" "terms" "LDebtDowry$Terms;", .fieldLink RX7 47 "DebtDowry$Terms" "creditors" "I", .fieldLink RX7 69 "DebtDowry$Terms" "low" "[I", .methodLink RX7 52 yX7_owedTo, .instanceMethod yX7_owedTo, .selects RX7 yX7_owedTo yX7_owedTo, .initialized RX7, .code yX7_owedTo cX7_owedTo 3 (some .int), .fieldLink RX7 9 "DebtDowry$State" "owed" "[I"] ++ wsX70 ++ wsX80)
def wsX7_worthOfSet : List Cond := .code yX7_worthOfSet cX7_worthOfSet 4 (some .int) :: ([.fieldLink RX7 24 "DebtDowry$State" "terms" "LDebtDowry$Terms;", .fieldLink RX7 47 "DebtDowry$Terms" "creditors" "I", .fieldLink RX7 86 "DebtDowry$Terms" "great" "[I"] ++ wsX70 ++ wsX80)
def wsX7_cheapestSet_r1 : List Cond := [Cond.fieldLink RX7 24 "DebtDowry$State" "terms" "LDebtDowry$Terms;", Cond.fieldLink RX7 47 "DebtDowry$Terms" "creditors" "I", Cond.constant RX7 122 (1000000), Cond.methodLink RX7 116 yX7_mayReachLow, Cond.instanceMethod yX7_mayReachLow, Cond.selects RX7 yX7_mayReachLow yX7_mayReachLow, Cond.initialized RX7, Cond.code yX7_mayReachLow cX7_mayReachLow 4 (some .boolean), Cond.fieldLink RX7 69 "DebtDowry$Terms" "low" "[I", Cond.methodLink RX7 83 yX7_moodTo, Cond.instanceMethod yX7_moodTo, Cond.selects RX7 yX7_moodTo yX7_moodTo, Cond.code yX7_moodTo cX7_moodTo 3 (some .int), Cond.methodLink RX7 52 yX7_owedTo, Cond.instanceMethod yX7_owedTo, Cond.selects RX7 yX7_owedTo yX7_owedTo, Cond.code yX7_owedTo cX7_owedTo 3 (some .int), Cond.fieldLink RX7 9 "DebtDowry$State" "owed" "[I", Cond.methodLink RX7 75 yX7_hasInsulted, Cond.instanceMethod yX7_hasInsulted, Cond.selects RX7 yX7_hasInsulted yX7_hasInsulted, Cond.code yX7_hasInsulted cX7_hasInsulted 3 (some .boolean), Cond.fieldLink RX7 18 "DebtDowry$State" "insults" "[I", Cond.methodLink RX7 79 yX7_moodBy]
def wsX7_cheapestSet_r2 : List Cond := [Cond.instanceMethod yX7_moodBy, Cond.selects RX7 yX7_moodBy yX7_moodBy, Cond.code yX7_moodBy cX7_moodBy 4 (some .int), Cond.fieldLink RX7 72 "DebtDowry$Terms" "high" "[I", Cond.methodLink RX7 66 yX7_hasFailed, Cond.instanceMethod yX7_hasFailed, Cond.selects RX7 yX7_hasFailed yX7_hasFailed, Cond.code yX7_hasFailed cX7_hasFailed 2 (some .boolean), Cond.fieldLink RX7 28 "DebtDowry$State" "failed" "I", Cond.methodLink RX7 112 yX7_mayBorrow, Cond.instanceMethod yX7_mayBorrow, Cond.selects RX7 yX7_mayBorrow yX7_mayBorrow, Cond.code yX7_mayBorrow cX7_mayBorrow 4 (some .boolean), Cond.fieldLink RX7 15 "DebtDowry$State" "purse" "[I", Cond.methodLink RX7 92 yX7_isWedMan, Cond.instanceMethod yX7_isWedMan, Cond.selects RX7 yX7_isWedMan yX7_isWedMan, Cond.code yX7_isWedMan cX7_isWedMan 2 (some .boolean), Cond.fieldLink RX7 21 "DebtDowry$State" "spouse" "[I", Cond.methodLink RX7 62 yX8_isMan, Cond.instanceMethod yX8_isMan, Cond.selects RX8 yX8_isMan yX8_isMan, Cond.initialized RX8, Cond.code yX8_isMan cX8_isMan 2 (some .boolean)]
def wsX7_cheapestSet_r3 : List Cond := [Cond.fieldLink RX8 38 "DebtDowry$Terms" "girls" "I", Cond.methodLink RX8 47 yX8_hasPerson, Cond.instanceMethod yX8_hasPerson, Cond.selects RX8 yX8_hasPerson yX8_hasPerson, Cond.code yX8_hasPerson cX8_hasPerson 2 (some .boolean), Cond.fieldLink RX8 35 "DebtDowry$Terms" "persons" "I", Cond.methodLink RX7 119 yX7_standingOf, Cond.instanceMethod yX7_standingOf, Cond.selects RX7 yX7_standingOf yX7_standingOf, Cond.code yX7_standingOf cX7_standingOf 4 (some .int), Cond.methodLink RX7 89 yX7_worthOf, Cond.instanceMethod yX7_worthOf, Cond.selects RX7 yX7_worthOf yX7_worthOf, Cond.code yX7_worthOf cX7_worthOf 3 (some .int), Cond.fieldLink RX7 86 "DebtDowry$Terms" "great" "[I", Cond.methodLink RX7 123 yX7_worthOfSet, Cond.instanceMethod yX7_worthOfSet, Cond.selects RX7 yX7_worthOfSet yX7_worthOfSet, Cond.code yX7_worthOfSet cX7_worthOfSet 4 (some .int), Cond.methodLink RX7 126 yX7_coinsFor, Cond.instanceMethod yX7_coinsFor, Cond.selects RX7 yX7_coinsFor yX7_coinsFor, Cond.code yX7_coinsFor cX7_coinsFor 5 (some .int)]
def wsX7_cheapestSet : List Cond := .code yX7_cheapestSet cX7_cheapestSet 9 (some .int) :: ((wsX7_cheapestSet_r1 ++ (wsX7_cheapestSet_r2 ++ wsX7_cheapestSet_r3)) ++ wsX70 ++ wsX80)
def wsX8_take : List Cond := .code yX8_take cX8_take 2 none :: ([.fieldLink RX8 21 "DebtDowry$Terms" "there" "Z", .fieldLink RX8 25 "DebtDowry$Terms" "interest" "I", .fieldLink RX8 29 "DebtDowry$Terms" "mildness" "I", .fieldLink RX8 32 "DebtDowry$Terms" "creditors" "I", .fieldLink RX8 35 "DebtDowry$Terms" "persons" "I", .fieldLink RX8 38 "DebtDowry$Terms" "girls" "I", .fieldLink RX8 9 "DebtDowry$Terms" "low" "[I", .methodLink RX8 41 arraycopyName, .native arraycopyName, .static arraycopyName, .initialized "java/lang/System", .fieldLink RX8 15 "DebtDowry$Terms" "high" "[I", .fieldLink RX8 18 "DebtDowry$Terms" "great" "[I"] ++ wsX80)
def wsX8_hasCreditor : List Cond := .code yX8_hasCreditor cX8_hasCreditor 2 (some .boolean) :: ([.fieldLink RX8 32 "DebtDowry$Terms" "creditors" "I"] ++ wsX80)
def wsX8_hasBoth : List Cond := .code yX8_hasBoth cX8_hasBoth 3 (some .boolean) :: ([.methodLink RX8 47 yX8_hasPerson, .instanceMethod yX8_hasPerson, .selects RX8 yX8_hasPerson yX8_hasPerson, .initialized RX8, .code yX8_hasPerson cX8_hasPerson 2 (some .boolean), .fieldLink RX8 35 "DebtDowry$Terms" "persons" "I", .methodLink RX8 51 yX8_hasCreditor, .instanceMethod yX8_hasCreditor, .selects RX8 yX8_hasCreditor yX8_hasCreditor, .code yX8_hasCreditor cX8_hasCreditor 2 (some .boolean), .fieldLink RX8 32 "DebtDowry$Terms" "creditors" "I"] ++ wsX80)
def wsX9_init_r1 : List Cond := [Cond.methodLink RX9 1 objectInit, Cond.instanceMethod objectInit, Cond.code objectInit ⟨#[0xb1]⟩ 1 none, Cond.classLink RX9 7 RX6, Cond.instantiable RX6 8, Cond.initialized RX6, Cond.fieldLink RX9 10 "DebtDowry" "reader" "LDebtDowry$Reader;", Cond.classLink RX9 16 RX8, Cond.instantiable RX8 9, Cond.initialized RX8, Cond.fieldLink RX9 19 "DebtDowry" "terms" "LDebtDowry$Terms;", Cond.classLink RX9 23 RX7, Cond.instantiable RX7 7, Cond.initialized RX7, Cond.fieldLink RX9 28 "DebtDowry" "now" "LDebtDowry$State;", Cond.fieldLink RX9 32 "DebtDowry" "tried" "LDebtDowry$State;", Cond.classLink RX9 35 RX2, Cond.instantiable RX2 3, Cond.initialized RX2, Cond.fieldLink RX9 38 "DebtDowry" "history" "LDebtDowry$History;", Cond.classLink RX9 42 RX4, Cond.instantiable RX4 1, Cond.initialized RX4, Cond.fieldLink RX9 45 "DebtDowry" "matcher" "LDebtDowry$Matcher;"]
def wsX9_init_r2 : List Cond := [Cond.classLink RX9 49 RX5, Cond.instantiable RX5 3, Cond.initialized RX5, Cond.fieldLink RX9 52 "DebtDowry" "planner" "LDebtDowry$Planner;", Cond.classLink RX9 56 RX1, Cond.instantiable RX1 7, Cond.initialized RX1, Cond.fieldLink RX9 59 "DebtDowry" "cards" "LDebtDowry$Cards;", Cond.classLink RX9 63 RX0, Cond.instantiable RX0 3, Cond.initialized RX0, Cond.fieldLink RX9 66 "DebtDowry" "book" "LDebtDowry$Book;", Cond.classLink RX9 70 RX3, Cond.fieldLink RX9 72 "DebtDowry" "images" "[LDebtDowry$Image;", Cond.instantiable RX3 3, Cond.initialized RX3, Cond.fieldLink RX9 77 "DebtDowry" "luck" "I", Cond.instanceMethod yX6_init, Cond.code yX6_init cX6_init 1 none, Cond.methodLink RX6 3 objectInit, Cond.classLink RX6 9 RX8, Cond.fieldLink RX6 12 "DebtDowry$Reader" "terms" "LDebtDowry$Terms;", Cond.classLink RX6 18 RX7, Cond.fieldLink RX6 23 "DebtDowry$Reader" "state" "LDebtDowry$State;"]
def wsX9_init_r3 : List Cond := [Cond.arrayClass .int, Cond.fieldLink RX6 27 "DebtDowry$Reader" "letters" "[I", Cond.fieldLink RX6 31 "DebtDowry$Reader" "faultAt" "I", Cond.instanceMethod yX8_init, Cond.code yX8_init cX8_init 1 none, Cond.methodLink RX8 3 objectInit, Cond.fieldLink RX8 9 "DebtDowry$Terms" "low" "[I", Cond.fieldLink RX8 15 "DebtDowry$Terms" "high" "[I", Cond.fieldLink RX8 18 "DebtDowry$Terms" "great" "[I", Cond.methodLink RX6 20 yX7_init, Cond.instanceMethod yX7_init, Cond.code yX7_init cX7_init 2 none, Cond.methodLink RX7 3 objectInit, Cond.fieldLink RX7 9 "DebtDowry$State" "owed" "[I", Cond.fieldLink RX7 15 "DebtDowry$State" "purse" "[I", Cond.fieldLink RX7 18 "DebtDowry$State" "insults" "[I", Cond.fieldLink RX7 21 "DebtDowry$State" "spouse" "[I", Cond.fieldLink RX7 24 "DebtDowry$State" "terms" "LDebtDowry$Terms;", Cond.methodLink RX9 25 yX7_init, Cond.methodLink RX9 37 yX2_init, Cond.instanceMethod yX2_init, Cond.code yX2_init cX2_init 3 none, Cond.methodLink RX2 3 objectInit, Cond.classLink RX2 9 RX7]
def wsX9_init_r4 : List Cond := [Cond.fieldLink RX2 11 "DebtDowry$History" "ring" "[LDebtDowry$State;", Cond.methodLink RX2 17 yX7_init, Cond.instanceMethod yX4_init, Cond.code yX4_init cX4_init 1 none, Cond.methodLink RX4 3 objectInit, Cond.fieldLink RX4 9 "DebtDowry$Matcher" "manOf" "[I", Cond.instanceMethod yX5_init, Cond.code yX5_init cX5_init 1 none, Cond.methodLink RX5 3 objectInit, Cond.fieldLink RX5 9 "DebtDowry$Planner" "cost" "[I", Cond.instanceMethod yX1_init, Cond.code yX1_init cX1_init 1 none, Cond.methodLink RX1 3 objectInit, Cond.fieldLink RX1 9 "DebtDowry$Cards" "person" "[I", Cond.fieldLink RX1 15 "DebtDowry$Cards" "creditor" "[I", Cond.fieldLink RX1 18 "DebtDowry$Cards" "quarters" "[I", Cond.arrayClass .boolean, Cond.fieldLink RX1 21 "DebtDowry$Cards" "civil" "[Z", Cond.fieldLink RX1 25 "DebtDowry$Cards" "sums" "[I", Cond.instanceMethod yX0_init, Cond.code yX0_init cX0_init 1 none, Cond.methodLink RX0 3 objectInit, Cond.fieldLink RX0 9 "DebtDowry$Book" "person" "[I", Cond.fieldLink RX0 15 "DebtDowry$Book" "standing" "[I"]
def wsX9_init_r5 : List Cond := [Cond.methodLink RX9 76 yX3_init, Cond.instanceMethod yX3_init, Cond.code yX3_init cX3_init 2 none, Cond.methodLink RX3 1 objectInit, Cond.classLink RX3 7 RX7, Cond.fieldLink RX3 12 "DebtDowry$Image" "state" "LDebtDowry$State;", Cond.methodLink RX3 9 yX7_init]
def wsX9_init : List Cond := .code yX9_init cX9_init 2 none :: ((wsX9_init_r1 ++ (wsX9_init_r2 ++ (wsX9_init_r3 ++ (wsX9_init_r4 ++ wsX9_init_r5)))) ++ wsX60 ++ wsX90 ++ wsX80 ++ wsX70 ++ wsX20 ++ wsX40 ++ wsX50 ++ wsX10 ++ wsX00 ++ wsX30)
def wsX9_feed : List Cond := .code yX9_feed cX9_feed 2 (some .int) :: ([.constant RX9 81 (-1000000002), .fieldLink RX9 10 "DebtDowry" "reader" "LDebtDowry$Reader;", .fieldLink RX9 86 "DebtDowry$Reader" "length" "I", .constant RX9 89 (-1000000004), .methodLink RX9 82 yX6_add, .instanceMethod yX6_add, .selects RX6 yX6_add yX6_add, .initialized RX6, .code yX6_add cX6_add 2 (some .boolean), .fieldLink RX6 35 "DebtDowry$Reader" "length" "I", .fieldLink RX6 27 "DebtDowry$Reader" "letters" "[I"] ++ wsX90 ++ wsX60)
def wsX9_town_r1 : List Cond := [Cond.fieldLink RX9 10 "DebtDowry" "reader" "LDebtDowry$Reader;", Cond.fieldLink RX9 93 "DebtDowry$Reader" "faultKind" "I", Cond.fieldLink RX9 19 "DebtDowry" "terms" "LDebtDowry$Terms;", Cond.fieldLink RX9 96 "DebtDowry$Reader" "terms" "LDebtDowry$Terms;", Cond.fieldLink RX9 28 "DebtDowry" "now" "LDebtDowry$State;", Cond.fieldLink RX9 100 "DebtDowry$Reader" "state" "LDebtDowry$State;", Cond.fieldLink RX9 38 "DebtDowry" "history" "LDebtDowry$History;", Cond.fieldLink RX9 59 "DebtDowry" "cards" "LDebtDowry$Cards;", Cond.fieldLink RX9 109 "DebtDowry$Cards" "count" "I", Cond.fieldLink RX9 66 "DebtDowry" "book" "LDebtDowry$Book;", Cond.fieldLink RX9 112 "DebtDowry$Book" "count" "I", Cond.fieldLink RX9 72 "DebtDowry" "images" "[LDebtDowry$Image;", Cond.fieldLink RX9 113 "DebtDowry$Image" "kept" "Z", Cond.fieldLink RX9 117 "DebtDowry$Terms" "persons" "I", Cond.methodLink RX9 90 yX6_readAll, Cond.instanceMethod yX6_readAll, Cond.selects RX6 yX6_readAll yX6_readAll, Cond.initialized RX6, Cond.code yX6_readAll cX6_readAll 1 none, Cond.fieldLink RX6 12 "DebtDowry$Reader" "terms" "LDebtDowry$Terms;", Cond.fieldLink RX6 23 "DebtDowry$Reader" "state" "LDebtDowry$State;", Cond.fieldLink RX6 42 "DebtDowry$Reader" "faultKind" "I", Cond.fieldLink RX6 31 "DebtDowry$Reader" "faultAt" "I", Cond.fieldLink RX6 45 "DebtDowry$Reader" "at" "I"]
def wsX9_town_r2 : List Cond := [Cond.fieldLink RX6 52 "DebtDowry$Terms" "there" "Z", Cond.fieldLink RX6 35 "DebtDowry$Reader" "length" "I", Cond.methodLink RX6 38 yX8_clear, Cond.instanceMethod yX8_clear, Cond.selects RX8 yX8_clear yX8_clear, Cond.initialized RX8, Cond.code yX8_clear cX8_clear 1 none, Cond.fieldLink RX8 21 "DebtDowry$Terms" "there" "Z", Cond.fieldLink RX8 25 "DebtDowry$Terms" "interest" "I", Cond.fieldLink RX8 29 "DebtDowry$Terms" "mildness" "I", Cond.fieldLink RX8 32 "DebtDowry$Terms" "creditors" "I", Cond.fieldLink RX8 35 "DebtDowry$Terms" "persons" "I", Cond.fieldLink RX8 38 "DebtDowry$Terms" "girls" "I", Cond.methodLink RX6 41 yX7_clear, Cond.instanceMethod yX7_clear, Cond.selects RX7 yX7_clear yX7_clear, Cond.initialized RX7, Cond.code yX7_clear cX7_clear 2 none, Cond.fieldLink RX7 9 "DebtDowry$State" "owed" "[I", Cond.fieldLink RX7 15 "DebtDowry$State" "purse" "[I", Cond.fieldLink RX7 18 "DebtDowry$State" "insults" "[I", Cond.fieldLink RX7 21 "DebtDowry$State" "spouse" "[I", Cond.fieldLink RX7 28 "DebtDowry$State" "failed" "I", Cond.fieldLink RX7 32 "DebtDowry$State" "quarters" "I"]
def wsX9_town_r3 : List Cond := [Cond.methodLink RX6 48 yX6_nextSign, Cond.instanceMethod yX6_nextSign, Cond.selects RX6 yX6_nextSign yX6_nextSign, Cond.code yX6_nextSign cX6_nextSign 1 (some .int), Cond.fieldLink RX6 27 "DebtDowry$Reader" "letters" "[I", Cond.methodLink RX6 56 yX6_readInterest, Cond.instanceMethod yX6_readInterest, Cond.selects RX6 yX6_readInterest yX6_readInterest, Cond.code yX6_readInterest cX6_readInterest 1 none, Cond.fieldLink RX6 70 "DebtDowry$Terms" "interest" "I", Cond.fieldLink RX6 73 "DebtDowry$Terms" "mildness" "I", Cond.methodLink RX6 62 yX6_blame, Cond.instanceMethod yX6_blame, Cond.selects RX6 yX6_blame yX6_blame, Cond.code yX6_blame cX6_blame 3 none, Cond.methodLink RX6 66 yX6_readNumber, Cond.instanceMethod yX6_readNumber, Cond.selects RX6 yX6_readNumber yX6_readNumber, Cond.code yX6_readNumber cX6_readNumber 5 (some .int), Cond.fieldLink RX6 105 "DebtDowry$Reader" "numberAt" "I", Cond.methodLink RX6 118 yX6_isFigure, Cond.static yX6_isFigure, Cond.code yX6_isFigure cX6_isFigure 1 (some .boolean), Cond.methodLink RX6 76 yX6_readSign]
def wsX9_town_r4 : List Cond := [Cond.instanceMethod yX6_readSign, Cond.selects RX6 yX6_readSign yX6_readSign, Cond.code yX6_readSign cX6_readSign 2 none, Cond.methodLink RX6 59 yX6_readOthers, Cond.instanceMethod yX6_readOthers, Cond.selects RX6 yX6_readOthers yX6_readOthers, Cond.code yX6_readOthers cX6_readOthers 3 none, Cond.methodLink RX6 80 yX6_readClause, Cond.instanceMethod yX6_readClause, Cond.selects RX6 yX6_readClause yX6_readClause, Cond.code yX6_readClause cX6_readClause 2 none, Cond.methodLink RX6 83 yX6_readCreditor, Cond.instanceMethod yX6_readCreditor, Cond.selects RX6 yX6_readCreditor yX6_readCreditor, Cond.code yX6_readCreditor cX6_readCreditor 2 none, Cond.fieldLink RX6 90 "DebtDowry$Terms" "creditors" "I", Cond.fieldLink RX6 93 "DebtDowry$Terms" "persons" "I", Cond.fieldLink RX6 96 "DebtDowry$State" "purse" "[I", Cond.fieldLink RX6 99 "DebtDowry$Terms" "low" "[I", Cond.fieldLink RX6 102 "DebtDowry$Terms" "high" "[I", Cond.fieldLink RX6 108 "DebtDowry$Terms" "great" "[I", Cond.methodLink RX6 86 yX6_readPerson, Cond.instanceMethod yX6_readPerson, Cond.selects RX6 yX6_readPerson yX6_readPerson]
def wsX9_town_r5 : List Cond := [Cond.code yX6_readPerson cX6_readPerson 4 none, Cond.fieldLink RX6 115 "DebtDowry$Terms" "girls" "I", Cond.methodLink RX6 111 yX7_setOwed, Cond.instanceMethod yX7_setOwed, Cond.selects RX7 yX7_setOwed yX7_setOwed, Cond.code yX7_setOwed cX7_setOwed 4 none, Cond.methodLink RX7 41 Lib.Math.min.name, Cond.static Lib.Math.min.name, Cond.initialized "java/lang/Math", Cond.code Lib.Math.min.name Lib.Math.min.code 2 (some .int), Cond.methodLink RX9 97 yX8_take, Cond.instanceMethod yX8_take, Cond.selects RX8 yX8_take yX8_take, Cond.code yX8_take cX8_take 2 none, Cond.fieldLink RX8 9 "DebtDowry$Terms" "low" "[I", Cond.methodLink RX8 41 arraycopyName, Cond.native arraycopyName, Cond.static arraycopyName, Cond.initialized "java/lang/System", Cond.fieldLink RX8 15 "DebtDowry$Terms" "high" "[I", Cond.fieldLink RX8 18 "DebtDowry$Terms" "great" "[I", Cond.methodLink RX9 103 yX7_take, Cond.instanceMethod yX7_take, Cond.selects RX7 yX7_take yX7_take]
def wsX9_town_r6 : List Cond := [Cond.code yX7_take cX7_take 2 none, Cond.methodLink RX7 35 arraycopyName, Cond.methodLink RX9 106 yX2_forget, Cond.instanceMethod yX2_forget, Cond.selects RX2 yX2_forget yX2_forget, Cond.initialized RX2, Cond.code yX2_forget cX2_forget 1 none, Cond.fieldLink RX2 20 "DebtDowry$History" "count" "I"]
def wsX9_town : List Cond := .code yX9_town cX9_town 2 (some .int) :: ((wsX9_town_r1 ++ (wsX9_town_r2 ++ (wsX9_town_r3 ++ (wsX9_town_r4 ++ (wsX9_town_r5 ++ wsX9_town_r6))))) ++ wsX90 ++ wsX60 ++ wsX10 ++ wsX00 ++ wsX30 ++ wsX80 ++ wsX70 ++ wsX20)
def wsX9_fault : List Cond := .code yX9_fault cX9_fault 1 (some .int) :: ([.fieldLink RX9 10 "DebtDowry" "reader" "LDebtDowry$Reader;", .fieldLink RX9 120 "DebtDowry$Reader" "faultAt" "I"] ++ wsX90 ++ wsX60)
def wsX9_told_r1 : List Cond := [Cond.fieldLink RX9 19 "DebtDowry" "terms" "LDebtDowry$Terms;", Cond.fieldLink RX9 123 "DebtDowry$Terms" "there" "Z", Cond.fieldLink RX9 126 "DebtDowry$Terms" "interest" "I", Cond.fieldLink RX9 129 "DebtDowry$Terms" "mildness" "I", Cond.fieldLink RX9 132 "DebtDowry$Terms" "creditors" "I", Cond.fieldLink RX9 117 "DebtDowry$Terms" "persons" "I", Cond.fieldLink RX9 10 "DebtDowry" "reader" "LDebtDowry$Reader;", Cond.fieldLink RX9 86 "DebtDowry$Reader" "length" "I", Cond.fieldLink RX9 28 "DebtDowry" "now" "LDebtDowry$State;", Cond.fieldLink RX9 135 "DebtDowry$State" "quarters" "I", Cond.fieldLink RX9 138 "DebtDowry$Terms" "girls" "I", Cond.fieldLink RX9 145 "DebtDowry$State" "failed" "I", Cond.fieldLink RX9 59 "DebtDowry" "cards" "LDebtDowry$Cards;", Cond.fieldLink RX9 109 "DebtDowry$Cards" "count" "I", Cond.fieldLink RX9 66 "DebtDowry" "book" "LDebtDowry$Book;", Cond.fieldLink RX9 112 "DebtDowry$Book" "count" "I", Cond.fieldLink RX9 38 "DebtDowry" "history" "LDebtDowry$History;", Cond.fieldLink RX9 151 "DebtDowry$History" "count" "I", Cond.constant RX9 81 (-1000000002), Cond.methodLink RX9 141 yX7_wedSet, Cond.instanceMethod yX7_wedSet, Cond.selects RX7 yX7_wedSet yX7_wedSet, Cond.initialized RX7, Cond.code yX7_wedSet cX7_wedSet 3 (some .int)]
def wsX9_told_r2 : List Cond := [Cond.fieldLink RX7 24 "DebtDowry$State" "terms" "LDebtDowry$Terms;", Cond.fieldLink RX7 55 "DebtDowry$Terms" "persons" "I", Cond.fieldLink RX7 21 "DebtDowry$State" "spouse" "[I", Cond.methodLink RX9 148 yX7_owedInAll, Cond.instanceMethod yX7_owedInAll, Cond.selects RX7 yX7_owedInAll yX7_owedInAll, Cond.code yX7_owedInAll cX7_owedInAll 3 (some .int), Cond.methodLink RX7 58 yX7_owedTogether, Cond.instanceMethod yX7_owedTogether, Cond.selects RX7 yX7_owedTogether yX7_owedTogether, Cond.code yX7_owedTogether cX7_owedTogether 4 (some .int), Cond.fieldLink RX7 47 "DebtDowry$Terms" "creditors" "I", Cond.methodLink RX7 52 yX7_owedTo, Cond.instanceMethod yX7_owedTo, Cond.selects RX7 yX7_owedTo yX7_owedTo, Cond.code yX7_owedTo cX7_owedTo 3 (some .int), Cond.fieldLink RX7 9 "DebtDowry$State" "owed" "[I"]
def wsX9_told : List Cond := .code yX9_told cX9_told 2 (some .int) :: ((wsX9_told_r1 ++ wsX9_told_r2) ++ wsX90 ++ wsX80 ++ wsX60 ++ wsX70 ++ wsX10 ++ wsX00 ++ wsX20)
def wsX9_creditor_r1 : List Cond := [Cond.fieldLink RX9 19 "DebtDowry" "terms" "LDebtDowry$Terms;", Cond.constant RX9 155 (-1000000001), Cond.fieldLink RX9 28 "DebtDowry" "now" "LDebtDowry$State;", Cond.fieldLink RX9 156 "DebtDowry$State" "purse" "[I", Cond.fieldLink RX9 160 "DebtDowry$Terms" "low" "[I", Cond.fieldLink RX9 163 "DebtDowry$Terms" "high" "[I", Cond.fieldLink RX9 166 "DebtDowry$Terms" "great" "[I", Cond.constant RX9 81 (-1000000002), Cond.methodLink RX9 152 yX8_hasCreditor, Cond.instanceMethod yX8_hasCreditor, Cond.selects RX8 yX8_hasCreditor yX8_hasCreditor, Cond.initialized RX8, Cond.code yX8_hasCreditor cX8_hasCreditor 2 (some .boolean), Cond.fieldLink RX8 32 "DebtDowry$Terms" "creditors" "I", Cond.methodLink RX9 169 yX7_personsByMood, Cond.instanceMethod yX7_personsByMood, Cond.selects RX7 yX7_personsByMood yX7_personsByMood, Cond.initialized RX7, Cond.code yX7_personsByMood cX7_personsByMood 5 (some .int), Cond.fieldLink RX7 24 "DebtDowry$State" "terms" "LDebtDowry$Terms;", Cond.fieldLink RX7 55 "DebtDowry$Terms" "persons" "I", Cond.methodLink RX7 83 yX7_moodTo, Cond.instanceMethod yX7_moodTo, Cond.selects RX7 yX7_moodTo yX7_moodTo]
def wsX9_creditor_r2 : List Cond := [Cond.code yX7_moodTo cX7_moodTo 3 (some .int), Cond.methodLink RX7 52 yX7_owedTo, Cond.instanceMethod yX7_owedTo, Cond.selects RX7 yX7_owedTo yX7_owedTo, Cond.code yX7_owedTo cX7_owedTo 3 (some .int), Cond.fieldLink RX7 9 "DebtDowry$State" "owed" "[I", Cond.methodLink RX7 75 yX7_hasInsulted, Cond.instanceMethod yX7_hasInsulted, Cond.selects RX7 yX7_hasInsulted yX7_hasInsulted, Cond.code yX7_hasInsulted cX7_hasInsulted 3 (some .boolean), Cond.fieldLink RX7 18 "DebtDowry$State" "insults" "[I", Cond.methodLink RX7 79 yX7_moodBy, Cond.instanceMethod yX7_moodBy, Cond.selects RX7 yX7_moodBy yX7_moodBy, Cond.code yX7_moodBy cX7_moodBy 4 (some .int), Cond.fieldLink RX7 69 "DebtDowry$Terms" "low" "[I", Cond.fieldLink RX7 72 "DebtDowry$Terms" "high" "[I", Cond.methodLink RX7 66 yX7_hasFailed, Cond.instanceMethod yX7_hasFailed, Cond.selects RX7 yX7_hasFailed yX7_hasFailed, Cond.code yX7_hasFailed cX7_hasFailed 2 (some .boolean), Cond.fieldLink RX7 28 "DebtDowry$State" "failed" "I"]
def wsX9_creditor : List Cond := .code yX9_creditor cX9_creditor 3 (some .int) :: ((wsX9_creditor_r1 ++ wsX9_creditor_r2) ++ wsX90 ++ wsX70 ++ wsX80)
def wsX9_person_r1 : List Cond := [Cond.fieldLink RX9 19 "DebtDowry" "terms" "LDebtDowry$Terms;", Cond.constant RX9 155 (-1000000001), Cond.fieldLink RX9 28 "DebtDowry" "now" "LDebtDowry$State;", Cond.fieldLink RX9 179 "DebtDowry$State" "spouse" "[I", Cond.fieldLink RX9 189 "DebtDowry$State" "insults" "[I", Cond.constant RX9 81 (-1000000002), Cond.methodLink RX9 173 yX8_hasPerson, Cond.instanceMethod yX8_hasPerson, Cond.selects RX8 yX8_hasPerson yX8_hasPerson, Cond.initialized RX8, Cond.code yX8_hasPerson cX8_hasPerson 2 (some .boolean), Cond.fieldLink RX8 35 "DebtDowry$Terms" "persons" "I", Cond.methodLink RX9 176 yX8_isGirl, Cond.instanceMethod yX8_isGirl, Cond.selects RX8 yX8_isGirl yX8_isGirl, Cond.code yX8_isGirl cX8_isGirl 2 (some .boolean), Cond.fieldLink RX8 38 "DebtDowry$Terms" "girls" "I", Cond.methodLink RX8 47 yX8_hasPerson, Cond.methodLink RX9 182 yX7_owedTogether, Cond.instanceMethod yX7_owedTogether, Cond.selects RX7 yX7_owedTogether yX7_owedTogether, Cond.initialized RX7, Cond.code yX7_owedTogether cX7_owedTogether 4 (some .int), Cond.fieldLink RX7 24 "DebtDowry$State" "terms" "LDebtDowry$Terms;"]
def wsX9_person_r2 : List Cond := [Cond.fieldLink RX7 47 "DebtDowry$Terms" "creditors" "I", Cond.methodLink RX7 52 yX7_owedTo, Cond.instanceMethod yX7_owedTo, Cond.selects RX7 yX7_owedTo yX7_owedTo, Cond.code yX7_owedTo cX7_owedTo 3 (some .int), Cond.fieldLink RX7 9 "DebtDowry$State" "owed" "[I", Cond.methodLink RX9 186 yX7_standingOf, Cond.instanceMethod yX7_standingOf, Cond.selects RX7 yX7_standingOf yX7_standingOf, Cond.code yX7_standingOf cX7_standingOf 4 (some .int), Cond.methodLink RX7 83 yX7_moodTo, Cond.instanceMethod yX7_moodTo, Cond.selects RX7 yX7_moodTo yX7_moodTo, Cond.code yX7_moodTo cX7_moodTo 3 (some .int), Cond.methodLink RX7 75 yX7_hasInsulted, Cond.instanceMethod yX7_hasInsulted, Cond.selects RX7 yX7_hasInsulted yX7_hasInsulted, Cond.code yX7_hasInsulted cX7_hasInsulted 3 (some .boolean), Cond.fieldLink RX7 18 "DebtDowry$State" "insults" "[I", Cond.methodLink RX7 79 yX7_moodBy, Cond.instanceMethod yX7_moodBy, Cond.selects RX7 yX7_moodBy yX7_moodBy, Cond.code yX7_moodBy cX7_moodBy 4 (some .int), Cond.fieldLink RX7 69 "DebtDowry$Terms" "low" "[I"]
def wsX9_person_r3 : List Cond := [Cond.fieldLink RX7 72 "DebtDowry$Terms" "high" "[I", Cond.methodLink RX7 66 yX7_hasFailed, Cond.instanceMethod yX7_hasFailed, Cond.selects RX7 yX7_hasFailed yX7_hasFailed, Cond.code yX7_hasFailed cX7_hasFailed 2 (some .boolean), Cond.fieldLink RX7 28 "DebtDowry$State" "failed" "I", Cond.methodLink RX7 89 yX7_worthOf, Cond.instanceMethod yX7_worthOf, Cond.selects RX7 yX7_worthOf yX7_worthOf, Cond.code yX7_worthOf cX7_worthOf 3 (some .int), Cond.fieldLink RX7 86 "DebtDowry$Terms" "great" "[I"]
def wsX9_person : List Cond := .code yX9_person cX9_person 3 (some .int) :: ((wsX9_person_r1 ++ (wsX9_person_r2 ++ wsX9_person_r3)) ++ wsX90 ++ wsX70 ++ wsX80)
def wsX9_owes : List Cond := .code yX9_owes cX9_owes 3 (some .int) :: ([.fieldLink RX9 19 "DebtDowry" "terms" "LDebtDowry$Terms;", .fieldLink RX9 28 "DebtDowry" "now" "LDebtDowry$State;", .constant RX9 155 (-1000000001), .methodLink RX9 192 yX8_hasBoth, .instanceMethod yX8_hasBoth, .selects RX8 yX8_hasBoth yX8_hasBoth, .initialized RX8, .code yX8_hasBoth cX8_hasBoth 3 (some .boolean), .methodLink RX8 47 yX8_hasPerson, .instanceMethod yX8_hasPerson, .selects RX8 yX8_hasPerson yX8_hasPerson, .code yX8_hasPerson cX8_hasPerson 2 (some .boolean), .fieldLink RX8 35 "DebtDowry$Terms" "persons" "I", .methodLink RX8 51 yX8_hasCreditor, .instanceMethod yX8_hasCreditor, .selects RX8 yX8_hasCreditor yX8_hasCreditor, .code yX8_hasCreditor cX8_hasCreditor 2 (some .boolean), .fieldLink RX8 32 "DebtDowry$Terms" "creditors" "I", .methodLink RX9 196 yX7_owedTo, .instanceMethod yX7_owedTo, .selects RX7 yX7_owedTo yX7_owedTo, .initialized RX7, .code yX7_owedTo cX7_owedTo 3 (some .int), .fieldLink RX7 9 "DebtDowry$State" "owed" "[I"] ++ wsX90 ++ wsX80 ++ wsX70)
def wsX9_temper_r1 : List Cond := [Cond.fieldLink RX9 19 "DebtDowry" "terms" "LDebtDowry$Terms;", Cond.fieldLink RX9 28 "DebtDowry" "now" "LDebtDowry$State;", Cond.constant RX9 155 (-1000000001), Cond.methodLink RX9 192 yX8_hasBoth, Cond.instanceMethod yX8_hasBoth, Cond.selects RX8 yX8_hasBoth yX8_hasBoth, Cond.initialized RX8, Cond.code yX8_hasBoth cX8_hasBoth 3 (some .boolean), Cond.methodLink RX8 47 yX8_hasPerson, Cond.instanceMethod yX8_hasPerson, Cond.selects RX8 yX8_hasPerson yX8_hasPerson, Cond.code yX8_hasPerson cX8_hasPerson 2 (some .boolean), Cond.fieldLink RX8 35 "DebtDowry$Terms" "persons" "I", Cond.methodLink RX8 51 yX8_hasCreditor, Cond.instanceMethod yX8_hasCreditor, Cond.selects RX8 yX8_hasCreditor yX8_hasCreditor, Cond.code yX8_hasCreditor cX8_hasCreditor 2 (some .boolean), Cond.fieldLink RX8 32 "DebtDowry$Terms" "creditors" "I", Cond.methodLink RX9 199 yX7_moodTo, Cond.instanceMethod yX7_moodTo, Cond.selects RX7 yX7_moodTo yX7_moodTo, Cond.initialized RX7, Cond.code yX7_moodTo cX7_moodTo 3 (some .int), Cond.methodLink RX7 52 yX7_owedTo]
def wsX9_temper_r2 : List Cond := [Cond.instanceMethod yX7_owedTo, Cond.selects RX7 yX7_owedTo yX7_owedTo, Cond.code yX7_owedTo cX7_owedTo 3 (some .int), Cond.fieldLink RX7 9 "DebtDowry$State" "owed" "[I", Cond.methodLink RX7 75 yX7_hasInsulted, Cond.instanceMethod yX7_hasInsulted, Cond.selects RX7 yX7_hasInsulted yX7_hasInsulted, Cond.code yX7_hasInsulted cX7_hasInsulted 3 (some .boolean), Cond.fieldLink RX7 18 "DebtDowry$State" "insults" "[I", Cond.methodLink RX7 79 yX7_moodBy, Cond.instanceMethod yX7_moodBy, Cond.selects RX7 yX7_moodBy yX7_moodBy, Cond.code yX7_moodBy cX7_moodBy 4 (some .int), Cond.fieldLink RX7 24 "DebtDowry$State" "terms" "LDebtDowry$Terms;", Cond.fieldLink RX7 69 "DebtDowry$Terms" "low" "[I", Cond.fieldLink RX7 72 "DebtDowry$Terms" "high" "[I", Cond.methodLink RX7 66 yX7_hasFailed, Cond.instanceMethod yX7_hasFailed, Cond.selects RX7 yX7_hasFailed yX7_hasFailed, Cond.code yX7_hasFailed cX7_hasFailed 2 (some .boolean), Cond.fieldLink RX7 28 "DebtDowry$State" "failed" "I"]
def wsX9_temper : List Cond := .code yX9_temper cX9_temper 3 (some .int) :: ((wsX9_temper_r1 ++ wsX9_temper_r2) ++ wsX90 ++ wsX80 ++ wsX70)
def wsX9_borrow_r1 : List Cond := [Cond.fieldLink RX9 19 "DebtDowry" "terms" "LDebtDowry$Terms;", Cond.constant RX9 155 (-1000000001), Cond.constant RX9 81 (-1000000002), Cond.fieldLink RX9 28 "DebtDowry" "now" "LDebtDowry$State;", Cond.constant RX9 206 (-1000000003), Cond.fieldLink RX9 38 "DebtDowry" "history" "LDebtDowry$History;", Cond.methodLink RX9 192 yX8_hasBoth, Cond.instanceMethod yX8_hasBoth, Cond.selects RX8 yX8_hasBoth yX8_hasBoth, Cond.initialized RX8, Cond.code yX8_hasBoth cX8_hasBoth 3 (some .boolean), Cond.methodLink RX8 47 yX8_hasPerson, Cond.instanceMethod yX8_hasPerson, Cond.selects RX8 yX8_hasPerson yX8_hasPerson, Cond.code yX8_hasPerson cX8_hasPerson 2 (some .boolean), Cond.fieldLink RX8 35 "DebtDowry$Terms" "persons" "I", Cond.methodLink RX8 51 yX8_hasCreditor, Cond.instanceMethod yX8_hasCreditor, Cond.selects RX8 yX8_hasCreditor yX8_hasCreditor, Cond.code yX8_hasCreditor cX8_hasCreditor 2 (some .boolean), Cond.fieldLink RX8 32 "DebtDowry$Terms" "creditors" "I", Cond.methodLink RX9 202 yX7_mayBorrow, Cond.instanceMethod yX7_mayBorrow, Cond.selects RX7 yX7_mayBorrow yX7_mayBorrow]
def wsX9_borrow_r2 : List Cond := [Cond.initialized RX7, Cond.code yX7_mayBorrow cX7_mayBorrow 4 (some .boolean), Cond.fieldLink RX7 15 "DebtDowry$State" "purse" "[I", Cond.methodLink RX7 92 yX7_isWedMan, Cond.instanceMethod yX7_isWedMan, Cond.selects RX7 yX7_isWedMan yX7_isWedMan, Cond.code yX7_isWedMan cX7_isWedMan 2 (some .boolean), Cond.fieldLink RX7 24 "DebtDowry$State" "terms" "LDebtDowry$Terms;", Cond.fieldLink RX7 21 "DebtDowry$State" "spouse" "[I", Cond.methodLink RX7 62 yX8_isMan, Cond.instanceMethod yX8_isMan, Cond.selects RX8 yX8_isMan yX8_isMan, Cond.code yX8_isMan cX8_isMan 2 (some .boolean), Cond.fieldLink RX8 38 "DebtDowry$Terms" "girls" "I", Cond.methodLink RX7 66 yX7_hasFailed, Cond.instanceMethod yX7_hasFailed, Cond.selects RX7 yX7_hasFailed yX7_hasFailed, Cond.code yX7_hasFailed cX7_hasFailed 2 (some .boolean), Cond.fieldLink RX7 28 "DebtDowry$State" "failed" "I", Cond.methodLink RX9 207 yX2_note, Cond.instanceMethod yX2_note, Cond.selects RX2 yX2_note yX2_note, Cond.initialized RX2, Cond.code yX2_note cX2_note 2 none]
def wsX9_borrow_r3 : List Cond := [Cond.fieldLink RX2 11 "DebtDowry$History" "ring" "[LDebtDowry$State;", Cond.fieldLink RX2 24 "DebtDowry$History" "oldest" "I", Cond.fieldLink RX2 20 "DebtDowry$History" "count" "I", Cond.methodLink RX2 27 yX7_take, Cond.instanceMethod yX7_take, Cond.selects RX7 yX7_take yX7_take, Cond.code yX7_take cX7_take 2 none, Cond.fieldLink RX7 9 "DebtDowry$State" "owed" "[I", Cond.methodLink RX7 35 arraycopyName, Cond.native arraycopyName, Cond.static arraycopyName, Cond.initialized "java/lang/System", Cond.fieldLink RX7 18 "DebtDowry$State" "insults" "[I", Cond.fieldLink RX7 32 "DebtDowry$State" "quarters" "I", Cond.methodLink RX9 210 yX7_lend, Cond.instanceMethod yX7_lend, Cond.selects RX7 yX7_lend yX7_lend, Cond.code yX7_lend cX7_lend 4 none, Cond.methodLink RX7 52 yX7_owedTo, Cond.instanceMethod yX7_owedTo, Cond.selects RX7 yX7_owedTo yX7_owedTo, Cond.code yX7_owedTo cX7_owedTo 3 (some .int), Cond.methodLink RX7 95 yX7_setOwed, Cond.instanceMethod yX7_setOwed]
def wsX9_borrow_r4 : List Cond := [Cond.selects RX7 yX7_setOwed yX7_setOwed, Cond.code yX7_setOwed cX7_setOwed 4 none, Cond.methodLink RX7 41 Lib.Math.min.name, Cond.static Lib.Math.min.name, Cond.initialized "java/lang/Math", Cond.code Lib.Math.min.name Lib.Math.min.code 2 (some .int), Cond.methodLink RX9 196 yX7_owedTo]
def wsX9_borrow : List Cond := .code yX9_borrow cX9_borrow 4 (some .int) :: ((wsX9_borrow_r1 ++ (wsX9_borrow_r2 ++ (wsX9_borrow_r3 ++ wsX9_borrow_r4))) ++ wsX90 ++ wsX80 ++ wsX70 ++ wsX20)
def wsX9_pay_r1 : List Cond := [Cond.fieldLink RX9 19 "DebtDowry" "terms" "LDebtDowry$Terms;", Cond.constant RX9 155 (-1000000001), Cond.constant RX9 81 (-1000000002), Cond.fieldLink RX9 28 "DebtDowry" "now" "LDebtDowry$State;", Cond.constant RX9 206 (-1000000003), Cond.fieldLink RX9 38 "DebtDowry" "history" "LDebtDowry$History;", Cond.methodLink RX9 192 yX8_hasBoth, Cond.instanceMethod yX8_hasBoth, Cond.selects RX8 yX8_hasBoth yX8_hasBoth, Cond.initialized RX8, Cond.code yX8_hasBoth cX8_hasBoth 3 (some .boolean), Cond.methodLink RX8 47 yX8_hasPerson, Cond.instanceMethod yX8_hasPerson, Cond.selects RX8 yX8_hasPerson yX8_hasPerson, Cond.code yX8_hasPerson cX8_hasPerson 2 (some .boolean), Cond.fieldLink RX8 35 "DebtDowry$Terms" "persons" "I", Cond.methodLink RX8 51 yX8_hasCreditor, Cond.instanceMethod yX8_hasCreditor, Cond.selects RX8 yX8_hasCreditor yX8_hasCreditor, Cond.code yX8_hasCreditor cX8_hasCreditor 2 (some .boolean), Cond.fieldLink RX8 32 "DebtDowry$Terms" "creditors" "I", Cond.methodLink RX9 196 yX7_owedTo, Cond.instanceMethod yX7_owedTo, Cond.selects RX7 yX7_owedTo yX7_owedTo]
def wsX9_pay_r2 : List Cond := [Cond.initialized RX7, Cond.code yX7_owedTo cX7_owedTo 3 (some .int), Cond.fieldLink RX7 9 "DebtDowry$State" "owed" "[I", Cond.methodLink RX9 207 yX2_note, Cond.instanceMethod yX2_note, Cond.selects RX2 yX2_note yX2_note, Cond.initialized RX2, Cond.code yX2_note cX2_note 2 none, Cond.fieldLink RX2 11 "DebtDowry$History" "ring" "[LDebtDowry$State;", Cond.fieldLink RX2 24 "DebtDowry$History" "oldest" "I", Cond.fieldLink RX2 20 "DebtDowry$History" "count" "I", Cond.methodLink RX2 27 yX7_take, Cond.instanceMethod yX7_take, Cond.selects RX7 yX7_take yX7_take, Cond.code yX7_take cX7_take 2 none, Cond.methodLink RX7 35 arraycopyName, Cond.native arraycopyName, Cond.static arraycopyName, Cond.initialized "java/lang/System", Cond.fieldLink RX7 15 "DebtDowry$State" "purse" "[I", Cond.fieldLink RX7 18 "DebtDowry$State" "insults" "[I", Cond.fieldLink RX7 21 "DebtDowry$State" "spouse" "[I", Cond.fieldLink RX7 28 "DebtDowry$State" "failed" "I", Cond.fieldLink RX7 32 "DebtDowry$State" "quarters" "I"]
def wsX9_pay_r3 : List Cond := [Cond.methodLink RX9 214 yX7_settle, Cond.instanceMethod yX7_settle, Cond.selects RX7 yX7_settle yX7_settle, Cond.code yX7_settle cX7_settle 5 none, Cond.fieldLink RX7 24 "DebtDowry$State" "terms" "LDebtDowry$Terms;", Cond.fieldLink RX7 99 "DebtDowry$Terms" "mildness" "I", Cond.methodLink RX7 41 Lib.Math.min.name, Cond.static Lib.Math.min.name, Cond.initialized "java/lang/Math", Cond.code Lib.Math.min.name Lib.Math.min.code 2 (some .int), Cond.methodLink RX7 52 yX7_owedTo, Cond.methodLink RX7 95 yX7_setOwed, Cond.instanceMethod yX7_setOwed, Cond.selects RX7 yX7_setOwed yX7_setOwed, Cond.code yX7_setOwed cX7_setOwed 4 none]
def wsX9_pay : List Cond := .code yX9_pay cX9_pay 4 (some .int) :: ((wsX9_pay_r1 ++ (wsX9_pay_r2 ++ wsX9_pay_r3)) ++ wsX90 ++ wsX80 ++ wsX70 ++ wsX20)
def wsX9_refusalOfQuarters : List Cond := .code yX9_refusalOfQuarters cX9_refusalOfQuarters 2 (some .int) :: ([.constant RX9 81 (-1000000002), .fieldLink RX9 19 "DebtDowry" "terms" "LDebtDowry$Terms;", .fieldLink RX9 123 "DebtDowry$Terms" "there" "Z", .constant RX9 206 (-1000000003), .fieldLink RX9 28 "DebtDowry" "now" "LDebtDowry$State;", .fieldLink RX9 135 "DebtDowry$State" "quarters" "I", .constant RX9 89 (-1000000004)] ++ wsX90 ++ wsX80 ++ wsX70)
def wsJ6_bitCount_0f7a4 : List Cond := .code yJ6_bitCount_0f7a4 cJ6_bitCount_0f7a4 1 (some .int) :: ([.constant RJ6 265 (1431655765), .constant RJ6 266 (858993459), .constant RJ6 267 (252645135)])
def wsX9_quarter_r1 : List Cond := [Cond.fieldLink RX9 38 "DebtDowry" "history" "LDebtDowry$History;", Cond.fieldLink RX9 28 "DebtDowry" "now" "LDebtDowry$State;", Cond.methodLink RX9 217 yX9_refusalOfQuarters, Cond.instanceMethod yX9_refusalOfQuarters, Cond.selects RX9 yX9_refusalOfQuarters yX9_refusalOfQuarters, Cond.initialized RX9, Cond.code yX9_refusalOfQuarters cX9_refusalOfQuarters 2 (some .int), Cond.constant RX9 81 (-1000000002), Cond.fieldLink RX9 19 "DebtDowry" "terms" "LDebtDowry$Terms;", Cond.fieldLink RX9 123 "DebtDowry$Terms" "there" "Z", Cond.constant RX9 206 (-1000000003), Cond.fieldLink RX9 135 "DebtDowry$State" "quarters" "I", Cond.constant RX9 89 (-1000000004), Cond.methodLink RX9 207 yX2_note, Cond.instanceMethod yX2_note, Cond.selects RX2 yX2_note yX2_note, Cond.initialized RX2, Cond.code yX2_note cX2_note 2 none, Cond.fieldLink RX2 11 "DebtDowry$History" "ring" "[LDebtDowry$State;", Cond.fieldLink RX2 24 "DebtDowry$History" "oldest" "I", Cond.fieldLink RX2 20 "DebtDowry$History" "count" "I", Cond.methodLink RX2 27 yX7_take, Cond.instanceMethod yX7_take, Cond.selects RX7 yX7_take yX7_take]
def wsX9_quarter_r2 : List Cond := [Cond.initialized RX7, Cond.code yX7_take cX7_take 2 none, Cond.fieldLink RX7 9 "DebtDowry$State" "owed" "[I", Cond.methodLink RX7 35 arraycopyName, Cond.native arraycopyName, Cond.static arraycopyName, Cond.initialized "java/lang/System", Cond.fieldLink RX7 15 "DebtDowry$State" "purse" "[I", Cond.fieldLink RX7 18 "DebtDowry$State" "insults" "[I", Cond.fieldLink RX7 21 "DebtDowry$State" "spouse" "[I", Cond.fieldLink RX7 28 "DebtDowry$State" "failed" "I", Cond.fieldLink RX7 32 "DebtDowry$State" "quarters" "I", Cond.methodLink RX9 220 yX7_passQuarter, Cond.instanceMethod yX7_passQuarter, Cond.selects RX7 yX7_passQuarter yX7_passQuarter, Cond.code yX7_passQuarter cX7_passQuarter 3 (some .int), Cond.fieldLink RX7 24 "DebtDowry$State" "terms" "LDebtDowry$Terms;", Cond.fieldLink RX7 55 "DebtDowry$Terms" "persons" "I", Cond.fieldLink RX7 47 "DebtDowry$Terms" "creditors" "I", Cond.methodLink RX7 52 yX7_owedTo, Cond.instanceMethod yX7_owedTo, Cond.selects RX7 yX7_owedTo yX7_owedTo, Cond.code yX7_owedTo cX7_owedTo 3 (some .int), Cond.methodLink RX7 102 yX8_grown]
def wsX9_quarter_r3 : List Cond := [Cond.instanceMethod yX8_grown, Cond.selects RX8 yX8_grown yX8_grown, Cond.initialized RX8, Cond.code yX8_grown cX8_grown 2 (some .int), Cond.fieldLink RX8 25 "DebtDowry$Terms" "interest" "I", Cond.methodLink RX8 54 Lib.Math.min.name, Cond.static Lib.Math.min.name, Cond.initialized "java/lang/Math", Cond.code Lib.Math.min.name Lib.Math.min.code 2 (some .int), Cond.methodLink RX7 95 yX7_setOwed, Cond.instanceMethod yX7_setOwed, Cond.selects RX7 yX7_setOwed yX7_setOwed, Cond.code yX7_setOwed cX7_setOwed 4 none, Cond.methodLink RX7 41 Lib.Math.min.name, Cond.methodLink RX7 66 yX7_hasFailed, Cond.instanceMethod yX7_hasFailed, Cond.selects RX7 yX7_hasFailed yX7_hasFailed, Cond.code yX7_hasFailed cX7_hasFailed 2 (some .boolean), Cond.methodLink RX7 105 yX7_owedSourly, Cond.instanceMethod yX7_owedSourly, Cond.selects RX7 yX7_owedSourly yX7_owedSourly, Cond.code yX7_owedSourly cX7_owedSourly 4 (some .int), Cond.methodLink RX7 83 yX7_moodTo, Cond.instanceMethod yX7_moodTo]
def wsX9_quarter_r4 : List Cond := [Cond.selects RX7 yX7_moodTo yX7_moodTo, Cond.code yX7_moodTo cX7_moodTo 3 (some .int), Cond.methodLink RX7 75 yX7_hasInsulted, Cond.instanceMethod yX7_hasInsulted, Cond.selects RX7 yX7_hasInsulted yX7_hasInsulted, Cond.code yX7_hasInsulted cX7_hasInsulted 3 (some .boolean), Cond.methodLink RX7 79 yX7_moodBy, Cond.instanceMethod yX7_moodBy, Cond.selects RX7 yX7_moodBy yX7_moodBy, Cond.code yX7_moodBy cX7_moodBy 4 (some .int), Cond.fieldLink RX7 69 "DebtDowry$Terms" "low" "[I", Cond.fieldLink RX7 72 "DebtDowry$Terms" "high" "[I", Cond.methodLink RX7 108 yX7_forgive, Cond.instanceMethod yX7_forgive, Cond.selects RX7 yX7_forgive yX7_forgive, Cond.code yX7_forgive cX7_forgive 3 none, Cond.methodLink RX9 223 yJ6_bitCount_0f7a4, Cond.static yJ6_bitCount_0f7a4, Cond.initialized RJ6, Cond.code yJ6_bitCount_0f7a4 cJ6_bitCount_0f7a4 1 (some .int), Cond.constant RJ6 265 (1431655765), Cond.constant RJ6 266 (858993459), Cond.constant RJ6 267 (252645135)]
def wsX9_quarter : List Cond := .code yX9_quarter cX9_quarter 5 (some .int) :: ((wsX9_quarter_r1 ++ (wsX9_quarter_r2 ++ (wsX9_quarter_r3 ++ wsX9_quarter_r4))) ++ wsX90 ++ wsX80 ++ wsX70 ++ wsX20)
def wsX9_refusalOfPair : List Cond := .code yX9_refusalOfPair cX9_refusalOfPair 3 (some .int) :: ([.fieldLink RX9 19 "DebtDowry" "terms" "LDebtDowry$Terms;", .constant RX9 155 (-1000000001), .fieldLink RX9 28 "DebtDowry" "now" "LDebtDowry$State;", .fieldLink RX9 179 "DebtDowry$State" "spouse" "[I", .constant RX9 206 (-1000000003), .methodLink RX9 176 yX8_isGirl, .instanceMethod yX8_isGirl, .selects RX8 yX8_isGirl yX8_isGirl, .initialized RX8, .code yX8_isGirl cX8_isGirl 2 (some .boolean), .fieldLink RX8 38 "DebtDowry$Terms" "girls" "I", .methodLink RX8 47 yX8_hasPerson, .instanceMethod yX8_hasPerson, .selects RX8 yX8_hasPerson yX8_hasPerson, .code yX8_hasPerson cX8_hasPerson 2 (some .boolean), .fieldLink RX8 35 "DebtDowry$Terms" "persons" "I", .methodLink RX9 320 yX8_isMan, .instanceMethod yX8_isMan, .selects RX8 yX8_isMan yX8_isMan, .code yX8_isMan cX8_isMan 2 (some .boolean)] ++ wsX90 ++ wsX70 ++ wsX80)
def wsX9_wed_r1 : List Cond := [Cond.fieldLink RX9 38 "DebtDowry" "history" "LDebtDowry$History;", Cond.fieldLink RX9 28 "DebtDowry" "now" "LDebtDowry$State;", Cond.methodLink RX9 228 yX9_refusalOfPair, Cond.instanceMethod yX9_refusalOfPair, Cond.selects RX9 yX9_refusalOfPair yX9_refusalOfPair, Cond.initialized RX9, Cond.code yX9_refusalOfPair cX9_refusalOfPair 3 (some .int), Cond.fieldLink RX9 19 "DebtDowry" "terms" "LDebtDowry$Terms;", Cond.constant RX9 155 (-1000000001), Cond.fieldLink RX9 179 "DebtDowry$State" "spouse" "[I", Cond.constant RX9 206 (-1000000003), Cond.methodLink RX9 176 yX8_isGirl, Cond.instanceMethod yX8_isGirl, Cond.selects RX8 yX8_isGirl yX8_isGirl, Cond.initialized RX8, Cond.code yX8_isGirl cX8_isGirl 2 (some .boolean), Cond.fieldLink RX8 38 "DebtDowry$Terms" "girls" "I", Cond.methodLink RX8 47 yX8_hasPerson, Cond.instanceMethod yX8_hasPerson, Cond.selects RX8 yX8_hasPerson yX8_hasPerson, Cond.code yX8_hasPerson cX8_hasPerson 2 (some .boolean), Cond.fieldLink RX8 35 "DebtDowry$Terms" "persons" "I", Cond.methodLink RX9 320 yX8_isMan, Cond.instanceMethod yX8_isMan]
def wsX9_wed_r2 : List Cond := [Cond.selects RX8 yX8_isMan yX8_isMan, Cond.code yX8_isMan cX8_isMan 2 (some .boolean), Cond.methodLink RX9 207 yX2_note, Cond.instanceMethod yX2_note, Cond.selects RX2 yX2_note yX2_note, Cond.initialized RX2, Cond.code yX2_note cX2_note 2 none, Cond.fieldLink RX2 11 "DebtDowry$History" "ring" "[LDebtDowry$State;", Cond.fieldLink RX2 24 "DebtDowry$History" "oldest" "I", Cond.fieldLink RX2 20 "DebtDowry$History" "count" "I", Cond.methodLink RX2 27 yX7_take, Cond.instanceMethod yX7_take, Cond.selects RX7 yX7_take yX7_take, Cond.initialized RX7, Cond.code yX7_take cX7_take 2 none, Cond.fieldLink RX7 9 "DebtDowry$State" "owed" "[I", Cond.methodLink RX7 35 arraycopyName, Cond.native arraycopyName, Cond.static arraycopyName, Cond.initialized "java/lang/System", Cond.fieldLink RX7 15 "DebtDowry$State" "purse" "[I", Cond.fieldLink RX7 18 "DebtDowry$State" "insults" "[I", Cond.fieldLink RX7 21 "DebtDowry$State" "spouse" "[I", Cond.fieldLink RX7 28 "DebtDowry$State" "failed" "I"]
def wsX9_wed_r3 : List Cond := [Cond.fieldLink RX7 32 "DebtDowry$State" "quarters" "I", Cond.methodLink RX9 231 yX7_unite, Cond.instanceMethod yX7_unite, Cond.selects RX7 yX7_unite yX7_unite, Cond.code yX7_unite cX7_unite 4 none, Cond.fieldLink RX7 24 "DebtDowry$State" "terms" "LDebtDowry$Terms;", Cond.fieldLink RX7 47 "DebtDowry$Terms" "creditors" "I", Cond.methodLink RX7 52 yX7_owedTo, Cond.instanceMethod yX7_owedTo, Cond.selects RX7 yX7_owedTo yX7_owedTo, Cond.code yX7_owedTo cX7_owedTo 3 (some .int), Cond.methodLink RX7 95 yX7_setOwed, Cond.instanceMethod yX7_setOwed, Cond.selects RX7 yX7_setOwed yX7_setOwed, Cond.code yX7_setOwed cX7_setOwed 4 none, Cond.methodLink RX7 41 Lib.Math.min.name, Cond.static Lib.Math.min.name, Cond.initialized "java/lang/Math", Cond.code Lib.Math.min.name Lib.Math.min.code 2 (some .int), Cond.methodLink RX9 186 yX7_standingOf, Cond.instanceMethod yX7_standingOf, Cond.selects RX7 yX7_standingOf yX7_standingOf, Cond.code yX7_standingOf cX7_standingOf 4 (some .int), Cond.methodLink RX7 83 yX7_moodTo]
def wsX9_wed_r4 : List Cond := [Cond.instanceMethod yX7_moodTo, Cond.selects RX7 yX7_moodTo yX7_moodTo, Cond.code yX7_moodTo cX7_moodTo 3 (some .int), Cond.methodLink RX7 75 yX7_hasInsulted, Cond.instanceMethod yX7_hasInsulted, Cond.selects RX7 yX7_hasInsulted yX7_hasInsulted, Cond.code yX7_hasInsulted cX7_hasInsulted 3 (some .boolean), Cond.methodLink RX7 79 yX7_moodBy, Cond.instanceMethod yX7_moodBy, Cond.selects RX7 yX7_moodBy yX7_moodBy, Cond.code yX7_moodBy cX7_moodBy 4 (some .int), Cond.fieldLink RX7 69 "DebtDowry$Terms" "low" "[I", Cond.fieldLink RX7 72 "DebtDowry$Terms" "high" "[I", Cond.methodLink RX7 66 yX7_hasFailed, Cond.instanceMethod yX7_hasFailed, Cond.selects RX7 yX7_hasFailed yX7_hasFailed, Cond.code yX7_hasFailed cX7_hasFailed 2 (some .boolean), Cond.methodLink RX7 89 yX7_worthOf, Cond.instanceMethod yX7_worthOf, Cond.selects RX7 yX7_worthOf yX7_worthOf, Cond.code yX7_worthOf cX7_worthOf 3 (some .int), Cond.fieldLink RX7 86 "DebtDowry$Terms" "great" "[I"]
def wsX9_wed : List Cond := .code yX9_wed cX9_wed 4 (some .int) :: ((wsX9_wed_r1 ++ (wsX9_wed_r2 ++ (wsX9_wed_r3 ++ wsX9_wed_r4))) ++ wsX90 ++ wsX70 ++ wsX80 ++ wsX20)
def wsX9_divorce_r1 : List Cond := [Cond.fieldLink RX9 19 "DebtDowry" "terms" "LDebtDowry$Terms;", Cond.constant RX9 155 (-1000000001), Cond.fieldLink RX9 28 "DebtDowry" "now" "LDebtDowry$State;", Cond.fieldLink RX9 179 "DebtDowry$State" "spouse" "[I", Cond.constant RX9 206 (-1000000003), Cond.fieldLink RX9 38 "DebtDowry" "history" "LDebtDowry$History;", Cond.methodLink RX9 176 yX8_isGirl, Cond.instanceMethod yX8_isGirl, Cond.selects RX8 yX8_isGirl yX8_isGirl, Cond.initialized RX8, Cond.code yX8_isGirl cX8_isGirl 2 (some .boolean), Cond.fieldLink RX8 38 "DebtDowry$Terms" "girls" "I", Cond.methodLink RX8 47 yX8_hasPerson, Cond.instanceMethod yX8_hasPerson, Cond.selects RX8 yX8_hasPerson yX8_hasPerson, Cond.code yX8_hasPerson cX8_hasPerson 2 (some .boolean), Cond.fieldLink RX8 35 "DebtDowry$Terms" "persons" "I", Cond.methodLink RX9 173 yX8_hasPerson, Cond.methodLink RX9 207 yX2_note, Cond.instanceMethod yX2_note, Cond.selects RX2 yX2_note yX2_note, Cond.initialized RX2, Cond.code yX2_note cX2_note 2 none, Cond.fieldLink RX2 11 "DebtDowry$History" "ring" "[LDebtDowry$State;"]
def wsX9_divorce_r2 : List Cond := [Cond.fieldLink RX2 24 "DebtDowry$History" "oldest" "I", Cond.fieldLink RX2 20 "DebtDowry$History" "count" "I", Cond.methodLink RX2 27 yX7_take, Cond.instanceMethod yX7_take, Cond.selects RX7 yX7_take yX7_take, Cond.initialized RX7, Cond.code yX7_take cX7_take 2 none, Cond.fieldLink RX7 9 "DebtDowry$State" "owed" "[I", Cond.methodLink RX7 35 arraycopyName, Cond.native arraycopyName, Cond.static arraycopyName, Cond.initialized "java/lang/System", Cond.fieldLink RX7 15 "DebtDowry$State" "purse" "[I", Cond.fieldLink RX7 18 "DebtDowry$State" "insults" "[I", Cond.fieldLink RX7 21 "DebtDowry$State" "spouse" "[I", Cond.fieldLink RX7 28 "DebtDowry$State" "failed" "I", Cond.fieldLink RX7 32 "DebtDowry$State" "quarters" "I", Cond.methodLink RX9 235 yX7_part, Cond.instanceMethod yX7_part, Cond.selects RX7 yX7_part yX7_part, Cond.code yX7_part cX7_part 5 none, Cond.fieldLink RX7 24 "DebtDowry$State" "terms" "LDebtDowry$Terms;", Cond.fieldLink RX7 47 "DebtDowry$Terms" "creditors" "I", Cond.methodLink RX7 52 yX7_owedTo]
def wsX9_divorce_r3 : List Cond := [Cond.instanceMethod yX7_owedTo, Cond.selects RX7 yX7_owedTo yX7_owedTo, Cond.code yX7_owedTo cX7_owedTo 3 (some .int), Cond.methodLink RX7 95 yX7_setOwed, Cond.instanceMethod yX7_setOwed, Cond.selects RX7 yX7_setOwed yX7_setOwed, Cond.code yX7_setOwed cX7_setOwed 4 none, Cond.methodLink RX7 41 Lib.Math.min.name, Cond.static Lib.Math.min.name, Cond.initialized "java/lang/Math", Cond.code Lib.Math.min.name Lib.Math.min.code 2 (some .int), Cond.methodLink RX9 182 yX7_owedTogether, Cond.instanceMethod yX7_owedTogether, Cond.selects RX7 yX7_owedTogether yX7_owedTogether, Cond.code yX7_owedTogether cX7_owedTogether 4 (some .int)]
def wsX9_divorce : List Cond := .code yX9_divorce cX9_divorce 3 (some .int) :: ((wsX9_divorce_r1 ++ (wsX9_divorce_r2 ++ wsX9_divorce_r3)) ++ wsX90 ++ wsX70 ++ wsX80 ++ wsX20)
def wsX9_drawOf : List Cond := .code yX9_drawOf cX9_drawOf 2 (some .int) :: ([.fieldLink RX9 77 "DebtDowry" "luck" "I", .constantLong RX9 323 (1103515245), .constantLong RX9 325 (12345), .constantLong RX9 327 (2147483647), .constant RX9 329 (65536)] ++ wsX90)
def wsX9_borrowByDraws_r1 : List Cond := [Cond.fieldLink RX9 19 "DebtDowry" "terms" "LDebtDowry$Terms;", Cond.fieldLink RX9 117 "DebtDowry$Terms" "persons" "I", Cond.fieldLink RX9 132 "DebtDowry$Terms" "creditors" "I", Cond.fieldLink RX9 28 "DebtDowry" "now" "LDebtDowry$State;", Cond.methodLink RX9 330 yX9_drawOf, Cond.instanceMethod yX9_drawOf, Cond.selects RX9 yX9_drawOf yX9_drawOf, Cond.initialized RX9, Cond.code yX9_drawOf cX9_drawOf 2 (some .int), Cond.fieldLink RX9 77 "DebtDowry" "luck" "I", Cond.constantLong RX9 323 (1103515245), Cond.constantLong RX9 325 (12345), Cond.constantLong RX9 327 (2147483647), Cond.constant RX9 329 (65536), Cond.methodLink RX9 192 yX8_hasBoth, Cond.instanceMethod yX8_hasBoth, Cond.selects RX8 yX8_hasBoth yX8_hasBoth, Cond.initialized RX8, Cond.code yX8_hasBoth cX8_hasBoth 3 (some .boolean), Cond.methodLink RX8 47 yX8_hasPerson, Cond.instanceMethod yX8_hasPerson, Cond.selects RX8 yX8_hasPerson yX8_hasPerson, Cond.code yX8_hasPerson cX8_hasPerson 2 (some .boolean), Cond.fieldLink RX8 35 "DebtDowry$Terms" "persons" "I"]
def wsX9_borrowByDraws_r2 : List Cond := [Cond.methodLink RX8 51 yX8_hasCreditor, Cond.instanceMethod yX8_hasCreditor, Cond.selects RX8 yX8_hasCreditor yX8_hasCreditor, Cond.code yX8_hasCreditor cX8_hasCreditor 2 (some .boolean), Cond.fieldLink RX8 32 "DebtDowry$Terms" "creditors" "I", Cond.methodLink RX9 202 yX7_mayBorrow, Cond.instanceMethod yX7_mayBorrow, Cond.selects RX7 yX7_mayBorrow yX7_mayBorrow, Cond.initialized RX7, Cond.code yX7_mayBorrow cX7_mayBorrow 4 (some .boolean), Cond.fieldLink RX7 15 "DebtDowry$State" "purse" "[I", Cond.methodLink RX7 92 yX7_isWedMan, Cond.instanceMethod yX7_isWedMan, Cond.selects RX7 yX7_isWedMan yX7_isWedMan, Cond.code yX7_isWedMan cX7_isWedMan 2 (some .boolean), Cond.fieldLink RX7 24 "DebtDowry$State" "terms" "LDebtDowry$Terms;", Cond.fieldLink RX7 21 "DebtDowry$State" "spouse" "[I", Cond.methodLink RX7 62 yX8_isMan, Cond.instanceMethod yX8_isMan, Cond.selects RX8 yX8_isMan yX8_isMan, Cond.code yX8_isMan cX8_isMan 2 (some .boolean), Cond.fieldLink RX8 38 "DebtDowry$Terms" "girls" "I", Cond.methodLink RX7 66 yX7_hasFailed, Cond.instanceMethod yX7_hasFailed]
def wsX9_borrowByDraws_r3 : List Cond := [Cond.selects RX7 yX7_hasFailed yX7_hasFailed, Cond.code yX7_hasFailed cX7_hasFailed 2 (some .boolean), Cond.fieldLink RX7 28 "DebtDowry$State" "failed" "I", Cond.methodLink RX9 210 yX7_lend, Cond.instanceMethod yX7_lend, Cond.selects RX7 yX7_lend yX7_lend, Cond.code yX7_lend cX7_lend 4 none, Cond.methodLink RX7 52 yX7_owedTo, Cond.instanceMethod yX7_owedTo, Cond.selects RX7 yX7_owedTo yX7_owedTo, Cond.code yX7_owedTo cX7_owedTo 3 (some .int), Cond.fieldLink RX7 9 "DebtDowry$State" "owed" "[I", Cond.methodLink RX7 95 yX7_setOwed, Cond.instanceMethod yX7_setOwed, Cond.selects RX7 yX7_setOwed yX7_setOwed, Cond.code yX7_setOwed cX7_setOwed 4 none, Cond.methodLink RX7 41 Lib.Math.min.name, Cond.static Lib.Math.min.name, Cond.initialized "java/lang/Math", Cond.code Lib.Math.min.name Lib.Math.min.code 2 (some .int)]
def wsX9_borrowByDraws : List Cond := .code yX9_borrowByDraws cX9_borrowByDraws 4 none :: ((wsX9_borrowByDraws_r1 ++ (wsX9_borrowByDraws_r2 ++ wsX9_borrowByDraws_r3)) ++ wsX90 ++ wsX80 ++ wsX70)
def wsX9_drift_r1 : List Cond := [Cond.fieldLink RX9 38 "DebtDowry" "history" "LDebtDowry$History;", Cond.fieldLink RX9 28 "DebtDowry" "now" "LDebtDowry$State;", Cond.methodLink RX9 217 yX9_refusalOfQuarters, Cond.instanceMethod yX9_refusalOfQuarters, Cond.selects RX9 yX9_refusalOfQuarters yX9_refusalOfQuarters, Cond.initialized RX9, Cond.code yX9_refusalOfQuarters cX9_refusalOfQuarters 2 (some .int), Cond.constant RX9 81 (-1000000002), Cond.fieldLink RX9 19 "DebtDowry" "terms" "LDebtDowry$Terms;", Cond.fieldLink RX9 123 "DebtDowry$Terms" "there" "Z", Cond.constant RX9 206 (-1000000003), Cond.fieldLink RX9 135 "DebtDowry$State" "quarters" "I", Cond.constant RX9 89 (-1000000004), Cond.methodLink RX9 207 yX2_note, Cond.instanceMethod yX2_note, Cond.selects RX2 yX2_note yX2_note, Cond.initialized RX2, Cond.code yX2_note cX2_note 2 none, Cond.fieldLink RX2 11 "DebtDowry$History" "ring" "[LDebtDowry$State;", Cond.fieldLink RX2 24 "DebtDowry$History" "oldest" "I", Cond.fieldLink RX2 20 "DebtDowry$History" "count" "I", Cond.methodLink RX2 27 yX7_take, Cond.instanceMethod yX7_take, Cond.selects RX7 yX7_take yX7_take]
def wsX9_drift_r2 : List Cond := [Cond.initialized RX7, Cond.code yX7_take cX7_take 2 none, Cond.fieldLink RX7 9 "DebtDowry$State" "owed" "[I", Cond.methodLink RX7 35 arraycopyName, Cond.native arraycopyName, Cond.static arraycopyName, Cond.initialized "java/lang/System", Cond.fieldLink RX7 15 "DebtDowry$State" "purse" "[I", Cond.fieldLink RX7 18 "DebtDowry$State" "insults" "[I", Cond.fieldLink RX7 21 "DebtDowry$State" "spouse" "[I", Cond.fieldLink RX7 28 "DebtDowry$State" "failed" "I", Cond.fieldLink RX7 32 "DebtDowry$State" "quarters" "I", Cond.methodLink RX9 238 yX9_borrowByDraws, Cond.instanceMethod yX9_borrowByDraws, Cond.selects RX9 yX9_borrowByDraws yX9_borrowByDraws, Cond.code yX9_borrowByDraws cX9_borrowByDraws 4 none, Cond.fieldLink RX9 117 "DebtDowry$Terms" "persons" "I", Cond.fieldLink RX9 132 "DebtDowry$Terms" "creditors" "I", Cond.methodLink RX9 330 yX9_drawOf, Cond.instanceMethod yX9_drawOf, Cond.selects RX9 yX9_drawOf yX9_drawOf, Cond.code yX9_drawOf cX9_drawOf 2 (some .int), Cond.fieldLink RX9 77 "DebtDowry" "luck" "I", Cond.constantLong RX9 323 (1103515245)]
def wsX9_drift_r3 : List Cond := [Cond.constantLong RX9 325 (12345), Cond.constantLong RX9 327 (2147483647), Cond.constant RX9 329 (65536), Cond.methodLink RX9 192 yX8_hasBoth, Cond.instanceMethod yX8_hasBoth, Cond.selects RX8 yX8_hasBoth yX8_hasBoth, Cond.initialized RX8, Cond.code yX8_hasBoth cX8_hasBoth 3 (some .boolean), Cond.methodLink RX8 47 yX8_hasPerson, Cond.instanceMethod yX8_hasPerson, Cond.selects RX8 yX8_hasPerson yX8_hasPerson, Cond.code yX8_hasPerson cX8_hasPerson 2 (some .boolean), Cond.fieldLink RX8 35 "DebtDowry$Terms" "persons" "I", Cond.methodLink RX8 51 yX8_hasCreditor, Cond.instanceMethod yX8_hasCreditor, Cond.selects RX8 yX8_hasCreditor yX8_hasCreditor, Cond.code yX8_hasCreditor cX8_hasCreditor 2 (some .boolean), Cond.fieldLink RX8 32 "DebtDowry$Terms" "creditors" "I", Cond.methodLink RX9 202 yX7_mayBorrow, Cond.instanceMethod yX7_mayBorrow, Cond.selects RX7 yX7_mayBorrow yX7_mayBorrow, Cond.code yX7_mayBorrow cX7_mayBorrow 4 (some .boolean), Cond.methodLink RX7 92 yX7_isWedMan, Cond.instanceMethod yX7_isWedMan]
def wsX9_drift_r4 : List Cond := [Cond.selects RX7 yX7_isWedMan yX7_isWedMan, Cond.code yX7_isWedMan cX7_isWedMan 2 (some .boolean), Cond.fieldLink RX7 24 "DebtDowry$State" "terms" "LDebtDowry$Terms;", Cond.methodLink RX7 62 yX8_isMan, Cond.instanceMethod yX8_isMan, Cond.selects RX8 yX8_isMan yX8_isMan, Cond.code yX8_isMan cX8_isMan 2 (some .boolean), Cond.fieldLink RX8 38 "DebtDowry$Terms" "girls" "I", Cond.methodLink RX7 66 yX7_hasFailed, Cond.instanceMethod yX7_hasFailed, Cond.selects RX7 yX7_hasFailed yX7_hasFailed, Cond.code yX7_hasFailed cX7_hasFailed 2 (some .boolean), Cond.methodLink RX9 210 yX7_lend, Cond.instanceMethod yX7_lend, Cond.selects RX7 yX7_lend yX7_lend, Cond.code yX7_lend cX7_lend 4 none, Cond.methodLink RX7 52 yX7_owedTo, Cond.instanceMethod yX7_owedTo, Cond.selects RX7 yX7_owedTo yX7_owedTo, Cond.code yX7_owedTo cX7_owedTo 3 (some .int), Cond.methodLink RX7 95 yX7_setOwed, Cond.instanceMethod yX7_setOwed, Cond.selects RX7 yX7_setOwed yX7_setOwed, Cond.code yX7_setOwed cX7_setOwed 4 none]
def wsX9_drift_r5 : List Cond := [Cond.methodLink RX7 41 Lib.Math.min.name, Cond.static Lib.Math.min.name, Cond.initialized "java/lang/Math", Cond.code Lib.Math.min.name Lib.Math.min.code 2 (some .int), Cond.methodLink RX9 220 yX7_passQuarter, Cond.instanceMethod yX7_passQuarter, Cond.selects RX7 yX7_passQuarter yX7_passQuarter, Cond.code yX7_passQuarter cX7_passQuarter 3 (some .int), Cond.fieldLink RX7 55 "DebtDowry$Terms" "persons" "I", Cond.fieldLink RX7 47 "DebtDowry$Terms" "creditors" "I", Cond.methodLink RX7 102 yX8_grown, Cond.instanceMethod yX8_grown, Cond.selects RX8 yX8_grown yX8_grown, Cond.code yX8_grown cX8_grown 2 (some .int), Cond.fieldLink RX8 25 "DebtDowry$Terms" "interest" "I", Cond.methodLink RX8 54 Lib.Math.min.name, Cond.methodLink RX7 105 yX7_owedSourly, Cond.instanceMethod yX7_owedSourly, Cond.selects RX7 yX7_owedSourly yX7_owedSourly, Cond.code yX7_owedSourly cX7_owedSourly 4 (some .int), Cond.methodLink RX7 83 yX7_moodTo, Cond.instanceMethod yX7_moodTo, Cond.selects RX7 yX7_moodTo yX7_moodTo, Cond.code yX7_moodTo cX7_moodTo 3 (some .int)]
def wsX9_drift_r6 : List Cond := [Cond.methodLink RX7 75 yX7_hasInsulted, Cond.instanceMethod yX7_hasInsulted, Cond.selects RX7 yX7_hasInsulted yX7_hasInsulted, Cond.code yX7_hasInsulted cX7_hasInsulted 3 (some .boolean), Cond.methodLink RX7 79 yX7_moodBy, Cond.instanceMethod yX7_moodBy, Cond.selects RX7 yX7_moodBy yX7_moodBy, Cond.code yX7_moodBy cX7_moodBy 4 (some .int), Cond.fieldLink RX7 69 "DebtDowry$Terms" "low" "[I", Cond.fieldLink RX7 72 "DebtDowry$Terms" "high" "[I", Cond.methodLink RX7 108 yX7_forgive, Cond.instanceMethod yX7_forgive, Cond.selects RX7 yX7_forgive yX7_forgive, Cond.code yX7_forgive cX7_forgive 3 none, Cond.methodLink RX9 148 yX7_owedInAll, Cond.instanceMethod yX7_owedInAll, Cond.selects RX7 yX7_owedInAll yX7_owedInAll, Cond.code yX7_owedInAll cX7_owedInAll 3 (some .int), Cond.methodLink RX7 58 yX7_owedTogether, Cond.instanceMethod yX7_owedTogether, Cond.selects RX7 yX7_owedTogether yX7_owedTogether, Cond.code yX7_owedTogether cX7_owedTogether 4 (some .int)]
def wsX9_drift : List Cond := .code yX9_drift cX9_drift 4 (some .int) :: ((wsX9_drift_r1 ++ (wsX9_drift_r2 ++ (wsX9_drift_r3 ++ (wsX9_drift_r4 ++ (wsX9_drift_r5 ++ wsX9_drift_r6))))) ++ wsX90 ++ wsX80 ++ wsX70 ++ wsX20)
def wsX9_undo_r1 : List Cond := [Cond.constant RX9 81 (-1000000002), Cond.fieldLink RX9 38 "DebtDowry" "history" "LDebtDowry$History;", Cond.fieldLink RX9 151 "DebtDowry$History" "count" "I", Cond.constant RX9 206 (-1000000003), Cond.fieldLink RX9 28 "DebtDowry" "now" "LDebtDowry$State;", Cond.fieldLink RX9 135 "DebtDowry$State" "quarters" "I", Cond.methodLink RX9 241 yX2_restore, Cond.instanceMethod yX2_restore, Cond.selects RX2 yX2_restore yX2_restore, Cond.initialized RX2, Cond.code yX2_restore cX2_restore 3 none, Cond.fieldLink RX2 20 "DebtDowry$History" "count" "I", Cond.fieldLink RX2 11 "DebtDowry$History" "ring" "[LDebtDowry$State;", Cond.fieldLink RX2 24 "DebtDowry$History" "oldest" "I", Cond.methodLink RX2 27 yX7_take, Cond.instanceMethod yX7_take, Cond.selects RX7 yX7_take yX7_take, Cond.initialized RX7, Cond.code yX7_take cX7_take 2 none, Cond.fieldLink RX7 9 "DebtDowry$State" "owed" "[I", Cond.methodLink RX7 35 arraycopyName, Cond.native arraycopyName, Cond.static arraycopyName, Cond.initialized "java/lang/System"]
def wsX9_undo_r2 : List Cond := [Cond.fieldLink RX7 15 "DebtDowry$State" "purse" "[I", Cond.fieldLink RX7 18 "DebtDowry$State" "insults" "[I", Cond.fieldLink RX7 21 "DebtDowry$State" "spouse" "[I", Cond.fieldLink RX7 28 "DebtDowry$State" "failed" "I", Cond.fieldLink RX7 32 "DebtDowry$State" "quarters" "I"]
def wsX9_undo : List Cond := .code yX9_undo cX9_undo 2 (some .int) :: ((wsX9_undo_r1 ++ wsX9_undo_r2) ++ wsX90 ++ wsX20 ++ wsX70)
def wsX9_joined_r1 : List Cond := [Cond.fieldLink RX9 28 "DebtDowry" "now" "LDebtDowry$State;", Cond.methodLink RX9 228 yX9_refusalOfPair, Cond.instanceMethod yX9_refusalOfPair, Cond.selects RX9 yX9_refusalOfPair yX9_refusalOfPair, Cond.initialized RX9, Cond.code yX9_refusalOfPair cX9_refusalOfPair 3 (some .int), Cond.fieldLink RX9 19 "DebtDowry" "terms" "LDebtDowry$Terms;", Cond.constant RX9 155 (-1000000001), Cond.fieldLink RX9 179 "DebtDowry$State" "spouse" "[I", Cond.constant RX9 206 (-1000000003), Cond.methodLink RX9 176 yX8_isGirl, Cond.instanceMethod yX8_isGirl, Cond.selects RX8 yX8_isGirl yX8_isGirl, Cond.initialized RX8, Cond.code yX8_isGirl cX8_isGirl 2 (some .boolean), Cond.fieldLink RX8 38 "DebtDowry$Terms" "girls" "I", Cond.methodLink RX8 47 yX8_hasPerson, Cond.instanceMethod yX8_hasPerson, Cond.selects RX8 yX8_hasPerson yX8_hasPerson, Cond.code yX8_hasPerson cX8_hasPerson 2 (some .boolean), Cond.fieldLink RX8 35 "DebtDowry$Terms" "persons" "I", Cond.methodLink RX9 320 yX8_isMan, Cond.instanceMethod yX8_isMan, Cond.selects RX8 yX8_isMan yX8_isMan]
def wsX9_joined_r2 : List Cond := [Cond.code yX8_isMan cX8_isMan 2 (some .boolean), Cond.methodLink RX9 245 yX7_standingJoined, Cond.instanceMethod yX7_standingJoined, Cond.selects RX7 yX7_standingJoined yX7_standingJoined, Cond.initialized RX7, Cond.code yX7_standingJoined cX7_standingJoined 7 (some .int), Cond.fieldLink RX7 24 "DebtDowry$State" "terms" "LDebtDowry$Terms;", Cond.fieldLink RX7 47 "DebtDowry$Terms" "creditors" "I", Cond.methodLink RX7 41 Lib.Math.min.name, Cond.static Lib.Math.min.name, Cond.initialized "java/lang/Math", Cond.code Lib.Math.min.name Lib.Math.min.code 2 (some .int), Cond.methodLink RX7 75 yX7_hasInsulted, Cond.instanceMethod yX7_hasInsulted, Cond.selects RX7 yX7_hasInsulted yX7_hasInsulted, Cond.code yX7_hasInsulted cX7_hasInsulted 3 (some .boolean), Cond.fieldLink RX7 18 "DebtDowry$State" "insults" "[I", Cond.methodLink RX7 52 yX7_owedTo, Cond.instanceMethod yX7_owedTo, Cond.selects RX7 yX7_owedTo yX7_owedTo, Cond.code yX7_owedTo cX7_owedTo 3 (some .int), Cond.fieldLink RX7 9 "DebtDowry$State" "owed" "[I", Cond.methodLink RX7 79 yX7_moodBy, Cond.instanceMethod yX7_moodBy]
def wsX9_joined_r3 : List Cond := [Cond.selects RX7 yX7_moodBy yX7_moodBy, Cond.code yX7_moodBy cX7_moodBy 4 (some .int), Cond.fieldLink RX7 69 "DebtDowry$Terms" "low" "[I", Cond.fieldLink RX7 72 "DebtDowry$Terms" "high" "[I", Cond.methodLink RX7 66 yX7_hasFailed, Cond.instanceMethod yX7_hasFailed, Cond.selects RX7 yX7_hasFailed yX7_hasFailed, Cond.code yX7_hasFailed cX7_hasFailed 2 (some .boolean), Cond.fieldLink RX7 28 "DebtDowry$State" "failed" "I", Cond.methodLink RX7 89 yX7_worthOf, Cond.instanceMethod yX7_worthOf, Cond.selects RX7 yX7_worthOf yX7_worthOf, Cond.code yX7_worthOf cX7_worthOf 3 (some .int), Cond.fieldLink RX7 86 "DebtDowry$Terms" "great" "[I"]
def wsX9_joined : List Cond := .code yX9_joined cX9_joined 4 (some .int) :: ((wsX9_joined_r1 ++ (wsX9_joined_r2 ++ wsX9_joined_r3)) ++ wsX90 ++ wsX70 ++ wsX80)
def wsX9_least_r1 : List Cond := [Cond.fieldLink RX9 19 "DebtDowry" "terms" "LDebtDowry$Terms;", Cond.constant RX9 155 (-1000000001), Cond.constant RX9 81 (-1000000002), Cond.fieldLink RX9 28 "DebtDowry" "now" "LDebtDowry$State;", Cond.constant RX9 206 (-1000000003), Cond.methodLink RX9 173 yX8_hasPerson, Cond.instanceMethod yX8_hasPerson, Cond.selects RX8 yX8_hasPerson yX8_hasPerson, Cond.initialized RX8, Cond.code yX8_hasPerson cX8_hasPerson 2 (some .boolean), Cond.fieldLink RX8 35 "DebtDowry$Terms" "persons" "I", Cond.methodLink RX9 248 yX7_isWedMan, Cond.instanceMethod yX7_isWedMan, Cond.selects RX7 yX7_isWedMan yX7_isWedMan, Cond.initialized RX7, Cond.code yX7_isWedMan cX7_isWedMan 2 (some .boolean), Cond.fieldLink RX7 24 "DebtDowry$State" "terms" "LDebtDowry$Terms;", Cond.fieldLink RX7 21 "DebtDowry$State" "spouse" "[I", Cond.methodLink RX7 62 yX8_isMan, Cond.instanceMethod yX8_isMan, Cond.selects RX8 yX8_isMan yX8_isMan, Cond.code yX8_isMan cX8_isMan 2 (some .boolean), Cond.fieldLink RX8 38 "DebtDowry$Terms" "girls" "I", Cond.methodLink RX8 47 yX8_hasPerson]
def wsX9_least_r2 : List Cond := [Cond.methodLink RX9 251 yX7_cheapestSet, Cond.instanceMethod yX7_cheapestSet, Cond.selects RX7 yX7_cheapestSet yX7_cheapestSet, Cond.code yX7_cheapestSet cX7_cheapestSet 9 (some .int), Cond.fieldLink RX7 47 "DebtDowry$Terms" "creditors" "I", Cond.constant RX7 122 (1000000), Cond.methodLink RX7 116 yX7_mayReachLow, Cond.instanceMethod yX7_mayReachLow, Cond.selects RX7 yX7_mayReachLow yX7_mayReachLow, Cond.code yX7_mayReachLow cX7_mayReachLow 4 (some .boolean), Cond.fieldLink RX7 69 "DebtDowry$Terms" "low" "[I", Cond.methodLink RX7 83 yX7_moodTo, Cond.instanceMethod yX7_moodTo, Cond.selects RX7 yX7_moodTo yX7_moodTo, Cond.code yX7_moodTo cX7_moodTo 3 (some .int), Cond.methodLink RX7 52 yX7_owedTo, Cond.instanceMethod yX7_owedTo, Cond.selects RX7 yX7_owedTo yX7_owedTo, Cond.code yX7_owedTo cX7_owedTo 3 (some .int), Cond.fieldLink RX7 9 "DebtDowry$State" "owed" "[I", Cond.methodLink RX7 75 yX7_hasInsulted, Cond.instanceMethod yX7_hasInsulted, Cond.selects RX7 yX7_hasInsulted yX7_hasInsulted, Cond.code yX7_hasInsulted cX7_hasInsulted 3 (some .boolean)]
def wsX9_least_r3 : List Cond := [Cond.fieldLink RX7 18 "DebtDowry$State" "insults" "[I", Cond.methodLink RX7 79 yX7_moodBy, Cond.instanceMethod yX7_moodBy, Cond.selects RX7 yX7_moodBy yX7_moodBy, Cond.code yX7_moodBy cX7_moodBy 4 (some .int), Cond.fieldLink RX7 72 "DebtDowry$Terms" "high" "[I", Cond.methodLink RX7 66 yX7_hasFailed, Cond.instanceMethod yX7_hasFailed, Cond.selects RX7 yX7_hasFailed yX7_hasFailed, Cond.code yX7_hasFailed cX7_hasFailed 2 (some .boolean), Cond.fieldLink RX7 28 "DebtDowry$State" "failed" "I", Cond.methodLink RX7 112 yX7_mayBorrow, Cond.instanceMethod yX7_mayBorrow, Cond.selects RX7 yX7_mayBorrow yX7_mayBorrow, Cond.code yX7_mayBorrow cX7_mayBorrow 4 (some .boolean), Cond.fieldLink RX7 15 "DebtDowry$State" "purse" "[I", Cond.methodLink RX7 92 yX7_isWedMan, Cond.methodLink RX7 119 yX7_standingOf, Cond.instanceMethod yX7_standingOf, Cond.selects RX7 yX7_standingOf yX7_standingOf, Cond.code yX7_standingOf cX7_standingOf 4 (some .int), Cond.methodLink RX7 89 yX7_worthOf, Cond.instanceMethod yX7_worthOf, Cond.selects RX7 yX7_worthOf yX7_worthOf]
def wsX9_least_r4 : List Cond := [Cond.code yX7_worthOf cX7_worthOf 3 (some .int), Cond.fieldLink RX7 86 "DebtDowry$Terms" "great" "[I", Cond.methodLink RX7 123 yX7_worthOfSet, Cond.instanceMethod yX7_worthOfSet, Cond.selects RX7 yX7_worthOfSet yX7_worthOfSet, Cond.code yX7_worthOfSet cX7_worthOfSet 4 (some .int), Cond.methodLink RX7 126 yX7_coinsFor, Cond.instanceMethod yX7_coinsFor, Cond.selects RX7 yX7_coinsFor yX7_coinsFor, Cond.code yX7_coinsFor cX7_coinsFor 5 (some .int), Cond.methodLink RX9 254 yX7_coinsFor]
def wsX9_least : List Cond := .code yX9_least cX9_least 5 (some .int) :: ((wsX9_least_r1 ++ (wsX9_least_r2 ++ (wsX9_least_r3 ++ wsX9_least_r4))) ++ wsX90 ++ wsX80 ++ wsX70)
def wsX9_plan_r1 : List Cond := [Cond.fieldLink RX9 19 "DebtDowry" "terms" "LDebtDowry$Terms;", Cond.constant RX9 155 (-1000000001), Cond.constant RX9 81 (-1000000002), Cond.fieldLink RX9 28 "DebtDowry" "now" "LDebtDowry$State;", Cond.fieldLink RX9 52 "DebtDowry" "planner" "LDebtDowry$Planner;", Cond.fieldLink RX9 264 "DebtDowry$Planner" "together" "I", Cond.fieldLink RX9 267 "DebtDowry$Planner" "first" "I", Cond.methodLink RX9 192 yX8_hasBoth, Cond.instanceMethod yX8_hasBoth, Cond.selects RX8 yX8_hasBoth yX8_hasBoth, Cond.initialized RX8, Cond.code yX8_hasBoth cX8_hasBoth 3 (some .boolean), Cond.methodLink RX8 47 yX8_hasPerson, Cond.instanceMethod yX8_hasPerson, Cond.selects RX8 yX8_hasPerson yX8_hasPerson, Cond.code yX8_hasPerson cX8_hasPerson 2 (some .boolean), Cond.fieldLink RX8 35 "DebtDowry$Terms" "persons" "I", Cond.methodLink RX8 51 yX8_hasCreditor, Cond.instanceMethod yX8_hasCreditor, Cond.selects RX8 yX8_hasCreditor yX8_hasCreditor, Cond.code yX8_hasCreditor cX8_hasCreditor 2 (some .boolean), Cond.fieldLink RX8 32 "DebtDowry$Terms" "creditors" "I", Cond.methodLink RX9 257 yX7_hasFailed, Cond.instanceMethod yX7_hasFailed]
def wsX9_plan_r2 : List Cond := [Cond.selects RX7 yX7_hasFailed yX7_hasFailed, Cond.initialized RX7, Cond.code yX7_hasFailed cX7_hasFailed 2 (some .boolean), Cond.fieldLink RX7 28 "DebtDowry$State" "failed" "I", Cond.methodLink RX9 196 yX7_owedTo, Cond.instanceMethod yX7_owedTo, Cond.selects RX7 yX7_owedTo yX7_owedTo, Cond.code yX7_owedTo cX7_owedTo 3 (some .int), Cond.fieldLink RX7 9 "DebtDowry$State" "owed" "[I", Cond.methodLink RX9 260 yX5_work, Cond.instanceMethod yX5_work, Cond.selects RX5 yX5_work yX5_work, Cond.initialized RX5, Cond.code yX5_work cX5_work 8 (some .boolean), Cond.fieldLink RX5 9 "DebtDowry$Planner" "cost" "[I", Cond.constant RX5 19 (1000000), Cond.fieldLink RX5 20 "DebtDowry$Planner" "together" "I", Cond.fieldLink RX5 24 "DebtDowry$Terms" "high" "[I", Cond.methodLink RX5 29 Lib.Math.min.name, Cond.static Lib.Math.min.name, Cond.initialized "java/lang/Math", Cond.code Lib.Math.min.name Lib.Math.min.code 2 (some .int), Cond.fieldLink RX5 39 "DebtDowry$Planner" "first" "I", Cond.methodLink RX5 15 yX5_addQuarter]
def wsX9_plan_r3 : List Cond := [Cond.instanceMethod yX5_addQuarter, Cond.selects RX5 yX5_addQuarter yX5_addQuarter, Cond.code yX5_addQuarter cX5_addQuarter 6 none, Cond.methodLink RX5 35 yX5_costFrom, Cond.instanceMethod yX5_costFrom, Cond.selects RX5 yX5_costFrom yX5_costFrom, Cond.code yX5_costFrom cX5_costFrom 6 (some .int), Cond.methodLink RX5 42 yX8_grown, Cond.instanceMethod yX8_grown, Cond.selects RX8 yX8_grown yX8_grown, Cond.code yX8_grown cX8_grown 2 (some .int), Cond.fieldLink RX8 25 "DebtDowry$Terms" "interest" "I", Cond.methodLink RX8 54 Lib.Math.min.name, Cond.methodLink RX5 46 yX8_within, Cond.instanceMethod yX8_within, Cond.selects RX8 yX8_within yX8_within, Cond.code yX8_within cX8_within 3 (some .boolean), Cond.fieldLink RX8 9 "DebtDowry$Terms" "low" "[I", Cond.fieldLink RX8 15 "DebtDowry$Terms" "high" "[I"]
def wsX9_plan : List Cond := .code yX9_plan cX9_plan 5 (some .int) :: ((wsX9_plan_r1 ++ (wsX9_plan_r2 ++ wsX9_plan_r3)) ++ wsX90 ++ wsX50 ++ wsX80 ++ wsX70)
def wsX9_matches_r1 : List Cond := [Cond.fieldLink RX9 19 "DebtDowry" "terms" "LDebtDowry$Terms;", Cond.constant RX9 155 (-1000000001), Cond.fieldLink RX9 45 "DebtDowry" "matcher" "LDebtDowry$Matcher;", Cond.fieldLink RX9 28 "DebtDowry" "now" "LDebtDowry$State;", Cond.fieldLink RX9 274 "DebtDowry$Matcher" "manOf" "[I", Cond.methodLink RX9 176 yX8_isGirl, Cond.instanceMethod yX8_isGirl, Cond.selects RX8 yX8_isGirl yX8_isGirl, Cond.initialized RX8, Cond.code yX8_isGirl cX8_isGirl 2 (some .boolean), Cond.fieldLink RX8 38 "DebtDowry$Terms" "girls" "I", Cond.methodLink RX8 47 yX8_hasPerson, Cond.instanceMethod yX8_hasPerson, Cond.selects RX8 yX8_hasPerson yX8_hasPerson, Cond.code yX8_hasPerson cX8_hasPerson 2 (some .boolean), Cond.fieldLink RX8 35 "DebtDowry$Terms" "persons" "I", Cond.methodLink RX9 270 yX4_pairAll, Cond.instanceMethod yX4_pairAll, Cond.selects RX4 yX4_pairAll yX4_pairAll, Cond.initialized RX4, Cond.code yX4_pairAll cX4_pairAll 7 (some .int), Cond.fieldLink RX4 9 "DebtDowry$Matcher" "manOf" "[I", Cond.methodLink RX4 15 yX7_wedSet, Cond.instanceMethod yX7_wedSet]
def wsX9_matches_r2 : List Cond := [Cond.selects RX7 yX7_wedSet yX7_wedSet, Cond.initialized RX7, Cond.code yX7_wedSet cX7_wedSet 3 (some .int), Cond.fieldLink RX7 24 "DebtDowry$State" "terms" "LDebtDowry$Terms;", Cond.fieldLink RX7 55 "DebtDowry$Terms" "persons" "I", Cond.fieldLink RX7 21 "DebtDowry$State" "spouse" "[I", Cond.methodLink RX4 21 yX4_bestPair, Cond.static yX4_bestPair, Cond.code yX4_bestPair cX4_bestPair 9 (some .int), Cond.constant RX4 25 (-1000000001), Cond.fieldLink RX4 26 "DebtDowry$State" "terms" "LDebtDowry$Terms;", Cond.fieldLink RX4 30 "DebtDowry$Terms" "persons" "I", Cond.methodLink RX4 36 yX8_isGirl, Cond.methodLink RX4 40 yX8_isMan, Cond.instanceMethod yX8_isMan, Cond.selects RX8 yX8_isMan yX8_isMan, Cond.code yX8_isMan cX8_isMan 2 (some .boolean), Cond.methodLink RX4 43 yX7_standingJoined, Cond.instanceMethod yX7_standingJoined, Cond.selects RX7 yX7_standingJoined yX7_standingJoined, Cond.code yX7_standingJoined cX7_standingJoined 7 (some .int), Cond.fieldLink RX7 47 "DebtDowry$Terms" "creditors" "I", Cond.methodLink RX7 41 Lib.Math.min.name, Cond.static Lib.Math.min.name]
def wsX9_matches_r3 : List Cond := [Cond.initialized "java/lang/Math", Cond.code Lib.Math.min.name Lib.Math.min.code 2 (some .int), Cond.methodLink RX7 75 yX7_hasInsulted, Cond.instanceMethod yX7_hasInsulted, Cond.selects RX7 yX7_hasInsulted yX7_hasInsulted, Cond.code yX7_hasInsulted cX7_hasInsulted 3 (some .boolean), Cond.fieldLink RX7 18 "DebtDowry$State" "insults" "[I", Cond.methodLink RX7 52 yX7_owedTo, Cond.instanceMethod yX7_owedTo, Cond.selects RX7 yX7_owedTo yX7_owedTo, Cond.code yX7_owedTo cX7_owedTo 3 (some .int), Cond.fieldLink RX7 9 "DebtDowry$State" "owed" "[I", Cond.methodLink RX7 79 yX7_moodBy, Cond.instanceMethod yX7_moodBy, Cond.selects RX7 yX7_moodBy yX7_moodBy, Cond.code yX7_moodBy cX7_moodBy 4 (some .int), Cond.fieldLink RX7 69 "DebtDowry$Terms" "low" "[I", Cond.fieldLink RX7 72 "DebtDowry$Terms" "high" "[I", Cond.methodLink RX7 66 yX7_hasFailed, Cond.instanceMethod yX7_hasFailed, Cond.selects RX7 yX7_hasFailed yX7_hasFailed, Cond.code yX7_hasFailed cX7_hasFailed 2 (some .boolean), Cond.fieldLink RX7 28 "DebtDowry$State" "failed" "I", Cond.methodLink RX7 89 yX7_worthOf]
def wsX9_matches_r4 : List Cond := [Cond.instanceMethod yX7_worthOf, Cond.selects RX7 yX7_worthOf yX7_worthOf, Cond.code yX7_worthOf cX7_worthOf 3 (some .int), Cond.fieldLink RX7 86 "DebtDowry$Terms" "great" "[I", Cond.methodLink RX4 47 yX7_standingOf, Cond.instanceMethod yX7_standingOf, Cond.selects RX7 yX7_standingOf yX7_standingOf, Cond.code yX7_standingOf cX7_standingOf 4 (some .int), Cond.methodLink RX7 83 yX7_moodTo, Cond.instanceMethod yX7_moodTo, Cond.selects RX7 yX7_moodTo yX7_moodTo, Cond.code yX7_moodTo cX7_moodTo 3 (some .int)]
def wsX9_matches : List Cond := .code yX9_matches cX9_matches 3 (some .int) :: ((wsX9_matches_r1 ++ (wsX9_matches_r2 ++ (wsX9_matches_r3 ++ wsX9_matches_r4))) ++ wsX90 ++ wsX40 ++ wsX80 ++ wsX70)
def wsX9_failing_r1 : List Cond := [Cond.fieldLink RX9 32 "DebtDowry" "tried" "LDebtDowry$State;", Cond.fieldLink RX9 28 "DebtDowry" "now" "LDebtDowry$State;", Cond.methodLink RX9 103 yX7_take, Cond.instanceMethod yX7_take, Cond.selects RX7 yX7_take yX7_take, Cond.initialized RX7, Cond.code yX7_take cX7_take 2 none, Cond.fieldLink RX7 9 "DebtDowry$State" "owed" "[I", Cond.methodLink RX7 35 arraycopyName, Cond.native arraycopyName, Cond.static arraycopyName, Cond.initialized "java/lang/System", Cond.fieldLink RX7 15 "DebtDowry$State" "purse" "[I", Cond.fieldLink RX7 18 "DebtDowry$State" "insults" "[I", Cond.fieldLink RX7 21 "DebtDowry$State" "spouse" "[I", Cond.fieldLink RX7 28 "DebtDowry$State" "failed" "I", Cond.fieldLink RX7 32 "DebtDowry$State" "quarters" "I", Cond.methodLink RX9 220 yX7_passQuarter, Cond.instanceMethod yX7_passQuarter, Cond.selects RX7 yX7_passQuarter yX7_passQuarter, Cond.code yX7_passQuarter cX7_passQuarter 3 (some .int), Cond.fieldLink RX7 24 "DebtDowry$State" "terms" "LDebtDowry$Terms;", Cond.fieldLink RX7 55 "DebtDowry$Terms" "persons" "I", Cond.fieldLink RX7 47 "DebtDowry$Terms" "creditors" "I"]
def wsX9_failing_r2 : List Cond := [Cond.methodLink RX7 52 yX7_owedTo, Cond.instanceMethod yX7_owedTo, Cond.selects RX7 yX7_owedTo yX7_owedTo, Cond.code yX7_owedTo cX7_owedTo 3 (some .int), Cond.methodLink RX7 102 yX8_grown, Cond.instanceMethod yX8_grown, Cond.selects RX8 yX8_grown yX8_grown, Cond.initialized RX8, Cond.code yX8_grown cX8_grown 2 (some .int), Cond.fieldLink RX8 25 "DebtDowry$Terms" "interest" "I", Cond.methodLink RX8 54 Lib.Math.min.name, Cond.static Lib.Math.min.name, Cond.initialized "java/lang/Math", Cond.code Lib.Math.min.name Lib.Math.min.code 2 (some .int), Cond.methodLink RX7 95 yX7_setOwed, Cond.instanceMethod yX7_setOwed, Cond.selects RX7 yX7_setOwed yX7_setOwed, Cond.code yX7_setOwed cX7_setOwed 4 none, Cond.methodLink RX7 41 Lib.Math.min.name, Cond.methodLink RX7 66 yX7_hasFailed, Cond.instanceMethod yX7_hasFailed, Cond.selects RX7 yX7_hasFailed yX7_hasFailed, Cond.code yX7_hasFailed cX7_hasFailed 2 (some .boolean), Cond.methodLink RX7 105 yX7_owedSourly]
def wsX9_failing_r3 : List Cond := [Cond.instanceMethod yX7_owedSourly, Cond.selects RX7 yX7_owedSourly yX7_owedSourly, Cond.code yX7_owedSourly cX7_owedSourly 4 (some .int), Cond.methodLink RX7 83 yX7_moodTo, Cond.instanceMethod yX7_moodTo, Cond.selects RX7 yX7_moodTo yX7_moodTo, Cond.code yX7_moodTo cX7_moodTo 3 (some .int), Cond.methodLink RX7 75 yX7_hasInsulted, Cond.instanceMethod yX7_hasInsulted, Cond.selects RX7 yX7_hasInsulted yX7_hasInsulted, Cond.code yX7_hasInsulted cX7_hasInsulted 3 (some .boolean), Cond.methodLink RX7 79 yX7_moodBy, Cond.instanceMethod yX7_moodBy, Cond.selects RX7 yX7_moodBy yX7_moodBy, Cond.code yX7_moodBy cX7_moodBy 4 (some .int), Cond.fieldLink RX7 69 "DebtDowry$Terms" "low" "[I", Cond.fieldLink RX7 72 "DebtDowry$Terms" "high" "[I", Cond.methodLink RX7 108 yX7_forgive, Cond.instanceMethod yX7_forgive, Cond.selects RX7 yX7_forgive yX7_forgive, Cond.code yX7_forgive cX7_forgive 3 none]
def wsX9_failing : List Cond := .code yX9_failing cX9_failing 1 (some .int) :: ((wsX9_failing_r1 ++ (wsX9_failing_r2 ++ wsX9_failing_r3)) ++ wsX90 ++ wsX70 ++ wsX80)
def wsX9_run_r1 : List Cond := [Cond.constant RX9 81 (-1000000002), Cond.fieldLink RX9 32 "DebtDowry" "tried" "LDebtDowry$State;", Cond.fieldLink RX9 28 "DebtDowry" "now" "LDebtDowry$State;", Cond.fieldLink RX9 145 "DebtDowry$State" "failed" "I", Cond.methodLink RX9 103 yX7_take, Cond.instanceMethod yX7_take, Cond.selects RX7 yX7_take yX7_take, Cond.initialized RX7, Cond.code yX7_take cX7_take 2 none, Cond.fieldLink RX7 9 "DebtDowry$State" "owed" "[I", Cond.methodLink RX7 35 arraycopyName, Cond.native arraycopyName, Cond.static arraycopyName, Cond.initialized "java/lang/System", Cond.fieldLink RX7 15 "DebtDowry$State" "purse" "[I", Cond.fieldLink RX7 18 "DebtDowry$State" "insults" "[I", Cond.fieldLink RX7 21 "DebtDowry$State" "spouse" "[I", Cond.fieldLink RX7 28 "DebtDowry$State" "failed" "I", Cond.fieldLink RX7 32 "DebtDowry$State" "quarters" "I", Cond.methodLink RX9 220 yX7_passQuarter, Cond.instanceMethod yX7_passQuarter, Cond.selects RX7 yX7_passQuarter yX7_passQuarter, Cond.code yX7_passQuarter cX7_passQuarter 3 (some .int), Cond.fieldLink RX7 24 "DebtDowry$State" "terms" "LDebtDowry$Terms;"]
def wsX9_run_r2 : List Cond := [Cond.fieldLink RX7 55 "DebtDowry$Terms" "persons" "I", Cond.fieldLink RX7 47 "DebtDowry$Terms" "creditors" "I", Cond.methodLink RX7 52 yX7_owedTo, Cond.instanceMethod yX7_owedTo, Cond.selects RX7 yX7_owedTo yX7_owedTo, Cond.code yX7_owedTo cX7_owedTo 3 (some .int), Cond.methodLink RX7 102 yX8_grown, Cond.instanceMethod yX8_grown, Cond.selects RX8 yX8_grown yX8_grown, Cond.initialized RX8, Cond.code yX8_grown cX8_grown 2 (some .int), Cond.fieldLink RX8 25 "DebtDowry$Terms" "interest" "I", Cond.methodLink RX8 54 Lib.Math.min.name, Cond.static Lib.Math.min.name, Cond.initialized "java/lang/Math", Cond.code Lib.Math.min.name Lib.Math.min.code 2 (some .int), Cond.methodLink RX7 95 yX7_setOwed, Cond.instanceMethod yX7_setOwed, Cond.selects RX7 yX7_setOwed yX7_setOwed, Cond.code yX7_setOwed cX7_setOwed 4 none, Cond.methodLink RX7 41 Lib.Math.min.name, Cond.methodLink RX7 66 yX7_hasFailed, Cond.instanceMethod yX7_hasFailed, Cond.selects RX7 yX7_hasFailed yX7_hasFailed]
def wsX9_run_r3 : List Cond := [Cond.code yX7_hasFailed cX7_hasFailed 2 (some .boolean), Cond.methodLink RX7 105 yX7_owedSourly, Cond.instanceMethod yX7_owedSourly, Cond.selects RX7 yX7_owedSourly yX7_owedSourly, Cond.code yX7_owedSourly cX7_owedSourly 4 (some .int), Cond.methodLink RX7 83 yX7_moodTo, Cond.instanceMethod yX7_moodTo, Cond.selects RX7 yX7_moodTo yX7_moodTo, Cond.code yX7_moodTo cX7_moodTo 3 (some .int), Cond.methodLink RX7 75 yX7_hasInsulted, Cond.instanceMethod yX7_hasInsulted, Cond.selects RX7 yX7_hasInsulted yX7_hasInsulted, Cond.code yX7_hasInsulted cX7_hasInsulted 3 (some .boolean), Cond.methodLink RX7 79 yX7_moodBy, Cond.instanceMethod yX7_moodBy, Cond.selects RX7 yX7_moodBy yX7_moodBy, Cond.code yX7_moodBy cX7_moodBy 4 (some .int), Cond.fieldLink RX7 69 "DebtDowry$Terms" "low" "[I", Cond.fieldLink RX7 72 "DebtDowry$Terms" "high" "[I", Cond.methodLink RX7 108 yX7_forgive, Cond.instanceMethod yX7_forgive, Cond.selects RX7 yX7_forgive yX7_forgive, Cond.code yX7_forgive cX7_forgive 3 none]
def wsX9_run : List Cond := .code yX9_run cX9_run 3 (some .int) :: ((wsX9_run_r1 ++ (wsX9_run_r2 ++ wsX9_run_r3)) ++ wsX90 ++ wsX70 ++ wsX80)
def wsX9_credit_r1 : List Cond := [Cond.fieldLink RX9 19 "DebtDowry" "terms" "LDebtDowry$Terms;", Cond.constant RX9 155 (-1000000001), Cond.fieldLink RX9 28 "DebtDowry" "now" "LDebtDowry$State;", Cond.fieldLink RX9 156 "DebtDowry$State" "purse" "[I", Cond.fieldLink RX9 163 "DebtDowry$Terms" "high" "[I", Cond.methodLink RX9 277 Lib.Math.min.name, Cond.static Lib.Math.min.name, Cond.initialized "java/lang/Math", Cond.code Lib.Math.min.name Lib.Math.min.code 2 (some .int), Cond.methodLink RX9 192 yX8_hasBoth, Cond.instanceMethod yX8_hasBoth, Cond.selects RX8 yX8_hasBoth yX8_hasBoth, Cond.initialized RX8, Cond.code yX8_hasBoth cX8_hasBoth 3 (some .boolean), Cond.methodLink RX8 47 yX8_hasPerson, Cond.instanceMethod yX8_hasPerson, Cond.selects RX8 yX8_hasPerson yX8_hasPerson, Cond.code yX8_hasPerson cX8_hasPerson 2 (some .boolean), Cond.fieldLink RX8 35 "DebtDowry$Terms" "persons" "I", Cond.methodLink RX8 51 yX8_hasCreditor, Cond.instanceMethod yX8_hasCreditor, Cond.selects RX8 yX8_hasCreditor yX8_hasCreditor, Cond.code yX8_hasCreditor cX8_hasCreditor 2 (some .boolean), Cond.fieldLink RX8 32 "DebtDowry$Terms" "creditors" "I"]
def wsX9_credit_r2 : List Cond := [Cond.methodLink RX9 196 yX7_owedTo, Cond.instanceMethod yX7_owedTo, Cond.selects RX7 yX7_owedTo yX7_owedTo, Cond.initialized RX7, Cond.code yX7_owedTo cX7_owedTo 3 (some .int), Cond.fieldLink RX7 9 "DebtDowry$State" "owed" "[I", Cond.methodLink RX9 202 yX7_mayBorrow, Cond.instanceMethod yX7_mayBorrow, Cond.selects RX7 yX7_mayBorrow yX7_mayBorrow, Cond.code yX7_mayBorrow cX7_mayBorrow 4 (some .boolean), Cond.fieldLink RX7 15 "DebtDowry$State" "purse" "[I", Cond.methodLink RX7 92 yX7_isWedMan, Cond.instanceMethod yX7_isWedMan, Cond.selects RX7 yX7_isWedMan yX7_isWedMan, Cond.code yX7_isWedMan cX7_isWedMan 2 (some .boolean), Cond.fieldLink RX7 24 "DebtDowry$State" "terms" "LDebtDowry$Terms;", Cond.fieldLink RX7 21 "DebtDowry$State" "spouse" "[I", Cond.methodLink RX7 62 yX8_isMan, Cond.instanceMethod yX8_isMan, Cond.selects RX8 yX8_isMan yX8_isMan, Cond.code yX8_isMan cX8_isMan 2 (some .boolean), Cond.fieldLink RX8 38 "DebtDowry$Terms" "girls" "I", Cond.methodLink RX7 66 yX7_hasFailed, Cond.instanceMethod yX7_hasFailed]
def wsX9_credit_r3 : List Cond := [Cond.selects RX7 yX7_hasFailed yX7_hasFailed, Cond.code yX7_hasFailed cX7_hasFailed 2 (some .boolean), Cond.fieldLink RX7 28 "DebtDowry$State" "failed" "I", Cond.methodLink RX9 282 yX7_hasInsulted, Cond.instanceMethod yX7_hasInsulted, Cond.selects RX7 yX7_hasInsulted yX7_hasInsulted, Cond.code yX7_hasInsulted cX7_hasInsulted 3 (some .boolean), Cond.fieldLink RX7 18 "DebtDowry$State" "insults" "[I", Cond.methodLink RX9 285 yX7_moodBy, Cond.instanceMethod yX7_moodBy, Cond.selects RX7 yX7_moodBy yX7_moodBy, Cond.code yX7_moodBy cX7_moodBy 4 (some .int), Cond.fieldLink RX7 69 "DebtDowry$Terms" "low" "[I", Cond.fieldLink RX7 72 "DebtDowry$Terms" "high" "[I"]
def wsX9_credit : List Cond := .code yX9_credit cX9_credit 5 (some .int) :: ((wsX9_credit_r1 ++ (wsX9_credit_r2 ++ wsX9_credit_r3)) ++ wsX90 ++ wsX70 ++ wsX80)
def wsX9_rumours : List Cond := .code yX9_rumours cX9_rumours 6 (some .int) :: ([.constant RX9 81 (-1000000002), .constantLong RX9 289 (1000000000), .constantLong RX9 291 (100)])
def wsX9_card_r1 : List Cond := [Cond.fieldLink RX9 19 "DebtDowry" "terms" "LDebtDowry$Terms;", Cond.constant RX9 155 (-1000000001), Cond.constant RX9 81 (-1000000002), Cond.fieldLink RX9 59 "DebtDowry" "cards" "LDebtDowry$Cards;", Cond.fieldLink RX9 109 "DebtDowry$Cards" "count" "I", Cond.constant RX9 89 (-1000000004), Cond.methodLink RX9 192 yX8_hasBoth, Cond.instanceMethod yX8_hasBoth, Cond.selects RX8 yX8_hasBoth yX8_hasBoth, Cond.initialized RX8, Cond.code yX8_hasBoth cX8_hasBoth 3 (some .boolean), Cond.methodLink RX8 47 yX8_hasPerson, Cond.instanceMethod yX8_hasPerson, Cond.selects RX8 yX8_hasPerson yX8_hasPerson, Cond.code yX8_hasPerson cX8_hasPerson 2 (some .boolean), Cond.fieldLink RX8 35 "DebtDowry$Terms" "persons" "I", Cond.methodLink RX8 51 yX8_hasCreditor, Cond.instanceMethod yX8_hasCreditor, Cond.selects RX8 yX8_hasCreditor yX8_hasCreditor, Cond.code yX8_hasCreditor cX8_hasCreditor 2 (some .boolean), Cond.fieldLink RX8 32 "DebtDowry$Terms" "creditors" "I", Cond.methodLink RX9 293 yX1_add, Cond.instanceMethod yX1_add, Cond.selects RX1 yX1_add yX1_add]
def wsX9_card_r2 : List Cond := [Cond.initialized RX1, Cond.code yX1_add cX1_add 5 (some .boolean), Cond.fieldLink RX1 28 "DebtDowry$Cards" "count" "I", Cond.fieldLink RX1 9 "DebtDowry$Cards" "person" "[I", Cond.fieldLink RX1 15 "DebtDowry$Cards" "creditor" "[I", Cond.fieldLink RX1 18 "DebtDowry$Cards" "quarters" "[I", Cond.fieldLink RX1 21 "DebtDowry$Cards" "civil" "[Z"]
def wsX9_card : List Cond := .code yX9_card cX9_card 5 (some .int) :: ((wsX9_card_r1 ++ wsX9_card_r2) ++ wsX90 ++ wsX10 ++ wsX80)
def wsX9_had_r1 : List Cond := [Cond.fieldLink RX9 19 "DebtDowry" "terms" "LDebtDowry$Terms;", Cond.constant RX9 155 (-1000000001), Cond.constant RX9 81 (-1000000002), Cond.fieldLink RX9 59 "DebtDowry" "cards" "LDebtDowry$Cards;", Cond.fieldLink RX9 300 "DebtDowry$Cards" "fitting" "I", Cond.methodLink RX9 192 yX8_hasBoth, Cond.instanceMethod yX8_hasBoth, Cond.selects RX8 yX8_hasBoth yX8_hasBoth, Cond.initialized RX8, Cond.code yX8_hasBoth cX8_hasBoth 3 (some .boolean), Cond.methodLink RX8 47 yX8_hasPerson, Cond.instanceMethod yX8_hasPerson, Cond.selects RX8 yX8_hasPerson yX8_hasPerson, Cond.code yX8_hasPerson cX8_hasPerson 2 (some .boolean), Cond.fieldLink RX8 35 "DebtDowry$Terms" "persons" "I", Cond.methodLink RX8 51 yX8_hasCreditor, Cond.instanceMethod yX8_hasCreditor, Cond.selects RX8 yX8_hasCreditor yX8_hasCreditor, Cond.code yX8_hasCreditor cX8_hasCreditor 2 (some .boolean), Cond.fieldLink RX8 32 "DebtDowry$Terms" "creditors" "I", Cond.methodLink RX9 296 yX1_sift, Cond.instanceMethod yX1_sift, Cond.selects RX1 yX1_sift yX1_sift, Cond.initialized RX1]
def wsX9_had_r2 : List Cond := [Cond.code yX1_sift cX1_sift 5 none, Cond.fieldLink RX1 32 "DebtDowry$Cards" "fitting" "I", Cond.fieldLink RX1 25 "DebtDowry$Cards" "sums" "[I", Cond.methodLink RX1 35 yX1_fits, Cond.instanceMethod yX1_fits, Cond.selects RX1 yX1_fits yX1_fits, Cond.code yX1_fits cX1_fits 7 (some .boolean), Cond.fieldLink RX1 28 "DebtDowry$Cards" "count" "I", Cond.fieldLink RX1 9 "DebtDowry$Cards" "person" "[I", Cond.fieldLink RX1 15 "DebtDowry$Cards" "creditor" "[I", Cond.fieldLink RX1 18 "DebtDowry$Cards" "quarters" "[I", Cond.fieldLink RX1 21 "DebtDowry$Cards" "civil" "[Z", Cond.methodLink RX1 39 yX1_behind, Cond.static yX1_behind, Cond.code yX1_behind cX1_behind 5 (some .int), Cond.methodLink RX1 49 yX8_grown, Cond.instanceMethod yX8_grown, Cond.selects RX8 yX8_grown yX8_grown, Cond.code yX8_grown cX8_grown 2 (some .int), Cond.fieldLink RX8 25 "DebtDowry$Terms" "interest" "I", Cond.methodLink RX8 54 Lib.Math.min.name, Cond.static Lib.Math.min.name, Cond.initialized "java/lang/Math", Cond.code Lib.Math.min.name Lib.Math.min.code 2 (some .int)]
def wsX9_had_r3 : List Cond := [Cond.methodLink RX1 43 yX8_within, Cond.instanceMethod yX8_within, Cond.selects RX8 yX8_within yX8_within, Cond.code yX8_within cX8_within 3 (some .boolean), Cond.fieldLink RX8 9 "DebtDowry$Terms" "low" "[I", Cond.fieldLink RX8 15 "DebtDowry$Terms" "high" "[I", Cond.methodLink RX9 303 yX1_leastSum, Cond.instanceMethod yX1_leastSum, Cond.selects RX1 yX1_leastSum yX1_leastSum, Cond.code yX1_leastSum cX1_leastSum 1 (some .int), Cond.methodLink RX9 306 yX1_mostSum, Cond.instanceMethod yX1_mostSum, Cond.selects RX1 yX1_mostSum yX1_mostSum, Cond.code yX1_mostSum cX1_mostSum 1 (some .int)]
def wsX9_had : List Cond := .code yX9_had cX9_had 4 (some .int) :: ((wsX9_had_r1 ++ (wsX9_had_r2 ++ wsX9_had_r3)) ++ wsX90 ++ wsX10 ++ wsX80)
def wsX9_lookAt_r1 : List Cond := [Cond.fieldLink RX9 19 "DebtDowry" "terms" "LDebtDowry$Terms;", Cond.constant RX9 155 (-1000000001), Cond.fieldLink RX9 59 "DebtDowry" "cards" "LDebtDowry$Cards;", Cond.methodLink RX9 192 yX8_hasBoth, Cond.instanceMethod yX8_hasBoth, Cond.selects RX8 yX8_hasBoth yX8_hasBoth, Cond.initialized RX8, Cond.code yX8_hasBoth cX8_hasBoth 3 (some .boolean), Cond.methodLink RX8 47 yX8_hasPerson, Cond.instanceMethod yX8_hasPerson, Cond.selects RX8 yX8_hasPerson yX8_hasPerson, Cond.code yX8_hasPerson cX8_hasPerson 2 (some .boolean), Cond.fieldLink RX8 35 "DebtDowry$Terms" "persons" "I", Cond.methodLink RX8 51 yX8_hasCreditor, Cond.instanceMethod yX8_hasCreditor, Cond.selects RX8 yX8_hasCreditor yX8_hasCreditor, Cond.code yX8_hasCreditor cX8_hasCreditor 2 (some .boolean), Cond.fieldLink RX8 32 "DebtDowry$Terms" "creditors" "I", Cond.methodLink RX9 296 yX1_sift, Cond.instanceMethod yX1_sift, Cond.selects RX1 yX1_sift yX1_sift, Cond.initialized RX1, Cond.code yX1_sift cX1_sift 5 none, Cond.fieldLink RX1 32 "DebtDowry$Cards" "fitting" "I"]
def wsX9_lookAt_r2 : List Cond := [Cond.fieldLink RX1 25 "DebtDowry$Cards" "sums" "[I", Cond.methodLink RX1 35 yX1_fits, Cond.instanceMethod yX1_fits, Cond.selects RX1 yX1_fits yX1_fits, Cond.code yX1_fits cX1_fits 7 (some .boolean), Cond.fieldLink RX1 28 "DebtDowry$Cards" "count" "I", Cond.fieldLink RX1 9 "DebtDowry$Cards" "person" "[I", Cond.fieldLink RX1 15 "DebtDowry$Cards" "creditor" "[I", Cond.fieldLink RX1 18 "DebtDowry$Cards" "quarters" "[I", Cond.fieldLink RX1 21 "DebtDowry$Cards" "civil" "[Z", Cond.methodLink RX1 39 yX1_behind, Cond.static yX1_behind, Cond.code yX1_behind cX1_behind 5 (some .int), Cond.methodLink RX1 49 yX8_grown, Cond.instanceMethod yX8_grown, Cond.selects RX8 yX8_grown yX8_grown, Cond.code yX8_grown cX8_grown 2 (some .int), Cond.fieldLink RX8 25 "DebtDowry$Terms" "interest" "I", Cond.methodLink RX8 54 Lib.Math.min.name, Cond.static Lib.Math.min.name, Cond.initialized "java/lang/Math", Cond.code Lib.Math.min.name Lib.Math.min.code 2 (some .int), Cond.methodLink RX1 43 yX8_within, Cond.instanceMethod yX8_within]
def wsX9_lookAt_r3 : List Cond := [Cond.selects RX8 yX8_within yX8_within, Cond.code yX8_within cX8_within 3 (some .boolean), Cond.fieldLink RX8 9 "DebtDowry$Terms" "low" "[I", Cond.fieldLink RX8 15 "DebtDowry$Terms" "high" "[I", Cond.methodLink RX9 309 yX1_bestLook, Cond.instanceMethod yX1_bestLook, Cond.selects RX1 yX1_bestLook yX1_bestLook, Cond.code yX1_bestLook cX1_bestLook 8 (some .int), Cond.methodLink RX1 53 Lib.Math.max.name, Cond.static Lib.Math.max.name, Cond.code Lib.Math.max.name Lib.Math.max.code 2 (some .int)]
def wsX9_lookAt : List Cond := .code yX9_lookAt cX9_lookAt 3 (some .int) :: ((wsX9_lookAt_r1 ++ (wsX9_lookAt_r2 ++ wsX9_lookAt_r3)) ++ wsX90 ++ wsX80 ++ wsX10)
def wsX9_write : List Cond := .code yX9_write cX9_write 3 (some .int) :: ([.fieldLink RX9 19 "DebtDowry" "terms" "LDebtDowry$Terms;", .constant RX9 155 (-1000000001), .constant RX9 81 (-1000000002), .fieldLink RX9 66 "DebtDowry" "book" "LDebtDowry$Book;", .fieldLink RX9 112 "DebtDowry$Book" "count" "I", .constant RX9 89 (-1000000004), .methodLink RX9 173 yX8_hasPerson, .instanceMethod yX8_hasPerson, .selects RX8 yX8_hasPerson yX8_hasPerson, .initialized RX8, .code yX8_hasPerson cX8_hasPerson 2 (some .boolean), .fieldLink RX8 35 "DebtDowry$Terms" "persons" "I", .methodLink RX9 313 yX0_add, .instanceMethod yX0_add, .selects RX0 yX0_add yX0_add, .initialized RX0, .code yX0_add cX0_add 3 (some .boolean), .fieldLink RX0 18 "DebtDowry$Book" "count" "I", .fieldLink RX0 9 "DebtDowry$Book" "person" "[I", .fieldLink RX0 15 "DebtDowry$Book" "standing" "[I"] ++ wsX90 ++ wsX00 ++ wsX80)
def wsX9_judge_r1 : List Cond := [Cond.fieldLink RX9 66 "DebtDowry" "book" "LDebtDowry$Book;", Cond.fieldLink RX9 28 "DebtDowry" "now" "LDebtDowry$State;", Cond.methodLink RX9 315 yX0_firstWrong, Cond.instanceMethod yX0_firstWrong, Cond.selects RX0 yX0_firstWrong yX0_firstWrong, Cond.initialized RX0, Cond.code yX0_firstWrong cX0_firstWrong 3 (some .int), Cond.fieldLink RX0 18 "DebtDowry$Book" "count" "I", Cond.fieldLink RX0 9 "DebtDowry$Book" "person" "[I", Cond.fieldLink RX0 15 "DebtDowry$Book" "standing" "[I", Cond.methodLink RX0 22 yX7_standingOf, Cond.instanceMethod yX7_standingOf, Cond.selects RX7 yX7_standingOf yX7_standingOf, Cond.initialized RX7, Cond.code yX7_standingOf cX7_standingOf 4 (some .int), Cond.fieldLink RX7 24 "DebtDowry$State" "terms" "LDebtDowry$Terms;", Cond.fieldLink RX7 47 "DebtDowry$Terms" "creditors" "I", Cond.methodLink RX7 83 yX7_moodTo, Cond.instanceMethod yX7_moodTo, Cond.selects RX7 yX7_moodTo yX7_moodTo, Cond.code yX7_moodTo cX7_moodTo 3 (some .int), Cond.methodLink RX7 52 yX7_owedTo, Cond.instanceMethod yX7_owedTo, Cond.selects RX7 yX7_owedTo yX7_owedTo]
def wsX9_judge_r2 : List Cond := [Cond.code yX7_owedTo cX7_owedTo 3 (some .int), Cond.fieldLink RX7 9 "DebtDowry$State" "owed" "[I", Cond.methodLink RX7 75 yX7_hasInsulted, Cond.instanceMethod yX7_hasInsulted, Cond.selects RX7 yX7_hasInsulted yX7_hasInsulted, Cond.code yX7_hasInsulted cX7_hasInsulted 3 (some .boolean), Cond.fieldLink RX7 18 "DebtDowry$State" "insults" "[I", Cond.methodLink RX7 79 yX7_moodBy, Cond.instanceMethod yX7_moodBy, Cond.selects RX7 yX7_moodBy yX7_moodBy, Cond.code yX7_moodBy cX7_moodBy 4 (some .int), Cond.fieldLink RX7 69 "DebtDowry$Terms" "low" "[I", Cond.fieldLink RX7 72 "DebtDowry$Terms" "high" "[I", Cond.methodLink RX7 66 yX7_hasFailed, Cond.instanceMethod yX7_hasFailed, Cond.selects RX7 yX7_hasFailed yX7_hasFailed, Cond.code yX7_hasFailed cX7_hasFailed 2 (some .boolean), Cond.fieldLink RX7 28 "DebtDowry$State" "failed" "I", Cond.methodLink RX7 89 yX7_worthOf, Cond.instanceMethod yX7_worthOf, Cond.selects RX7 yX7_worthOf yX7_worthOf, Cond.code yX7_worthOf cX7_worthOf 3 (some .int), Cond.fieldLink RX7 86 "DebtDowry$Terms" "great" "[I"]
def wsX9_judge : List Cond := .code yX9_judge cX9_judge 1 (some .int) :: ((wsX9_judge_r1 ++ wsX9_judge_r2) ++ wsX90 ++ wsX00 ++ wsX70 ++ wsX80)
def wsX9_tear : List Cond := .code yX9_tear cX9_tear 2 (some .int) :: ([.fieldLink RX9 59 "DebtDowry" "cards" "LDebtDowry$Cards;", .fieldLink RX9 109 "DebtDowry$Cards" "count" "I", .fieldLink RX9 66 "DebtDowry" "book" "LDebtDowry$Book;", .fieldLink RX9 112 "DebtDowry$Book" "count" "I"] ++ wsX90 ++ wsX10 ++ wsX00)
def wsX9_seed : List Cond := .code yX9_seed cX9_seed 3 (some .int) :: ([.constant RX9 81 (-1000000002), .fieldLink RX9 77 "DebtDowry" "luck" "I"] ++ wsX90)
def wsX9_keep_r1 : List Cond := [Cond.constant RX9 155 (-1000000001), Cond.fieldLink RX9 72 "DebtDowry" "images" "[LDebtDowry$Image;", Cond.fieldLink RX9 318 "DebtDowry$Image" "state" "LDebtDowry$State;", Cond.fieldLink RX9 28 "DebtDowry" "now" "LDebtDowry$State;", Cond.fieldLink RX9 77 "DebtDowry" "luck" "I", Cond.fieldLink RX9 319 "DebtDowry$Image" "luck" "I", Cond.fieldLink RX9 113 "DebtDowry$Image" "kept" "Z", Cond.fieldLink RX9 38 "DebtDowry" "history" "LDebtDowry$History;", Cond.methodLink RX9 103 yX7_take, Cond.instanceMethod yX7_take, Cond.selects RX7 yX7_take yX7_take, Cond.initialized RX7, Cond.code yX7_take cX7_take 2 none, Cond.fieldLink RX7 9 "DebtDowry$State" "owed" "[I", Cond.methodLink RX7 35 arraycopyName, Cond.native arraycopyName, Cond.static arraycopyName, Cond.initialized "java/lang/System", Cond.fieldLink RX7 15 "DebtDowry$State" "purse" "[I", Cond.fieldLink RX7 18 "DebtDowry$State" "insults" "[I", Cond.fieldLink RX7 21 "DebtDowry$State" "spouse" "[I", Cond.fieldLink RX7 28 "DebtDowry$State" "failed" "I", Cond.fieldLink RX7 32 "DebtDowry$State" "quarters" "I", Cond.methodLink RX9 106 yX2_forget]
def wsX9_keep_r2 : List Cond := [Cond.instanceMethod yX2_forget, Cond.selects RX2 yX2_forget yX2_forget, Cond.initialized RX2, Cond.code yX2_forget cX2_forget 1 none, Cond.fieldLink RX2 20 "DebtDowry$History" "count" "I"]
def wsX9_keep : List Cond := .code yX9_keep cX9_keep 2 (some .int) :: ((wsX9_keep_r1 ++ wsX9_keep_r2) ++ wsX90 ++ wsX30 ++ wsX70 ++ wsX20)
def wsX9_goBack_r1 : List Cond := [Cond.constant RX9 155 (-1000000001), Cond.fieldLink RX9 72 "DebtDowry" "images" "[LDebtDowry$Image;", Cond.fieldLink RX9 113 "DebtDowry$Image" "kept" "Z", Cond.constant RX9 206 (-1000000003), Cond.fieldLink RX9 28 "DebtDowry" "now" "LDebtDowry$State;", Cond.fieldLink RX9 318 "DebtDowry$Image" "state" "LDebtDowry$State;", Cond.fieldLink RX9 319 "DebtDowry$Image" "luck" "I", Cond.fieldLink RX9 77 "DebtDowry" "luck" "I", Cond.fieldLink RX9 38 "DebtDowry" "history" "LDebtDowry$History;", Cond.methodLink RX9 103 yX7_take, Cond.instanceMethod yX7_take, Cond.selects RX7 yX7_take yX7_take, Cond.initialized RX7, Cond.code yX7_take cX7_take 2 none, Cond.fieldLink RX7 9 "DebtDowry$State" "owed" "[I", Cond.methodLink RX7 35 arraycopyName, Cond.native arraycopyName, Cond.static arraycopyName, Cond.initialized "java/lang/System", Cond.fieldLink RX7 15 "DebtDowry$State" "purse" "[I", Cond.fieldLink RX7 18 "DebtDowry$State" "insults" "[I", Cond.fieldLink RX7 21 "DebtDowry$State" "spouse" "[I", Cond.fieldLink RX7 28 "DebtDowry$State" "failed" "I", Cond.fieldLink RX7 32 "DebtDowry$State" "quarters" "I"]
def wsX9_goBack_r2 : List Cond := [Cond.methodLink RX9 106 yX2_forget, Cond.instanceMethod yX2_forget, Cond.selects RX2 yX2_forget yX2_forget, Cond.initialized RX2, Cond.code yX2_forget cX2_forget 1 none, Cond.fieldLink RX2 20 "DebtDowry$History" "count" "I"]
def wsX9_goBack : List Cond := .code yX9_goBack cX9_goBack 2 (some .int) :: ((wsX9_goBack_r1 ++ wsX9_goBack_r2) ++ wsX90 ++ wsX30 ++ wsX70 ++ wsX20)
def wsX10_copies : List Cond := .code yX10_copies cX10_copies 6 none :: ([])
def wsX10_in : List Cond := .code yX10_in cX10_in 6 (some .boolean) :: ([])
def wsX10_begins : List Cond := .code yX10_begins cX10_begins 2 none :: ([.fieldLink RX10 7 "DebtDowryModel" "town" "[I", .fieldLink RX10 16 "DebtDowryModel" "now" "[I", .constantLong RX10 61 (44), .constantLong RX10 63 (51), .fieldLink RX10 69 "DebtDowryModel" "undos" "I", .fieldLink RX10 72 "DebtDowryModel" "cardMany" "I", .fieldLink RX10 75 "DebtDowryModel" "bookMany" "I", .fieldLink RX10 28 "DebtDowryModel" "kept" "[Z", .methodLink RX10 57 yX10_copies, .static yX10_copies, .initialized RX10, .code yX10_copies cX10_copies 6 none, .methodLink RX10 65 yX10_in, .static yX10_in, .code yX10_in cX10_in 6 (some .boolean)] ++ wsX100)
def wsX10_init_r1 : List Cond := [Cond.methodLink RX10 1 objectInit, Cond.instanceMethod objectInit, Cond.code objectInit ⟨#[0xb1]⟩ 1 none, Cond.arrayClass .int, Cond.fieldLink RX10 7 "DebtDowryModel" "town" "[I", Cond.fieldLink RX10 13 "DebtDowryModel" "read" "[I", Cond.fieldLink RX10 16 "DebtDowryModel" "now" "[I", Cond.fieldLink RX10 19 "DebtDowryModel" "aside" "[I", Cond.fieldLink RX10 22 "DebtDowryModel" "past" "[I", Cond.fieldLink RX10 25 "DebtDowryModel" "images" "[I", Cond.arrayClass .boolean, Cond.fieldLink RX10 28 "DebtDowryModel" "kept" "[Z", Cond.fieldLink RX10 32 "DebtDowryModel" "text" "[I", Cond.fieldLink RX10 35 "DebtDowryModel" "fault" "I", Cond.fieldLink RX10 39 "DebtDowryModel" "cards" "[I", Cond.fieldLink RX10 42 "DebtDowryModel" "book" "[I", Cond.fieldLink RX10 45 "DebtDowryModel" "pays" "[I", Cond.fieldLink RX10 48 "DebtDowryModel" "paysThen" "[I", Cond.fieldLink RX10 51 "DebtDowryModel" "mates" "[I", Cond.methodLink RX10 54 yX10_begins, Cond.instanceMethod yX10_begins, Cond.selects RX10 yX10_begins yX10_begins, Cond.initialized RX10, Cond.code yX10_begins cX10_begins 2 none]
def wsX10_init_r2 : List Cond := [Cond.constantLong RX10 61 (44), Cond.constantLong RX10 63 (51), Cond.fieldLink RX10 69 "DebtDowryModel" "undos" "I", Cond.fieldLink RX10 72 "DebtDowryModel" "cardMany" "I", Cond.fieldLink RX10 75 "DebtDowryModel" "bookMany" "I", Cond.methodLink RX10 57 yX10_copies, Cond.static yX10_copies, Cond.code yX10_copies cX10_copies 6 none, Cond.methodLink RX10 65 yX10_in, Cond.static yX10_in, Cond.code yX10_in cX10_in 6 (some .boolean)]
def wsX10_init : List Cond := .code yX10_init cX10_init 1 none :: ((wsX10_init_r1 ++ wsX10_init_r2) ++ wsX100)
def wsX10_has : List Cond := .code yX10_has cX10_has 2 (some .boolean) :: ([])
def wsX10_bits : List Cond := .code yX10_bits cX10_bits 3 (some .int) :: ([])
def wsX10_lesser : List Cond := .code yX10_lesser cX10_lesser 2 (some .int) :: ([])
def wsX10_feed : List Cond := .code yX10_feed cX10_feed 2 (some .int) :: ([.constantLong RX10 78 (255), .constant RX10 80 (-1000000002), .fieldLink RX10 81 "DebtDowryModel" "size" "I", .constant RX10 84 (-1000000004), .fieldLink RX10 32 "DebtDowryModel" "text" "[I", .methodLink RX10 65 yX10_in, .static yX10_in, .initialized RX10, .code yX10_in cX10_in 6 (some .boolean)] ++ wsX100)
def wsX10_here : List Cond := .code yX10_here cX10_here 1 (some .int) :: ([.fieldLink RX10 85 "DebtDowryModel" "at" "I", .fieldLink RX10 81 "DebtDowryModel" "size" "I", .fieldLink RX10 32 "DebtDowryModel" "text" "[I"] ++ wsX100)
def wsX10_step : List Cond := .code yX10_step cX10_step 1 none :: ([.fieldLink RX10 85 "DebtDowryModel" "at" "I", .fieldLink RX10 92 "DebtDowryModel" "begin" "I", .fieldLink RX10 95 "DebtDowryModel" "sign" "I", .fieldLink RX10 98 "DebtDowryModel" "figures" "I", .fieldLink RX10 101 "DebtDowryModel" "value" "I", .constantLong RX10 104 (48), .constantLong RX10 106 (57), .methodLink RX10 88 yX10_here, .instanceMethod yX10_here, .selects RX10 yX10_here yX10_here, .initialized RX10, .code yX10_here cX10_here 1 (some .int), .fieldLink RX10 81 "DebtDowryModel" "size" "I", .fieldLink RX10 32 "DebtDowryModel" "text" "[I", .methodLink RX10 65 yX10_in, .static yX10_in, .code yX10_in cX10_in 6 (some .boolean)] ++ wsX100)
def wsX10_fails : List Cond := .code yX10_fails cX10_fails 2 (some .boolean) :: ([.fieldLink RX10 108 "DebtDowryModel" "wrong" "I"] ++ wsX100)
def wsX10_number_r1 : List Cond := [Cond.fieldLink RX10 95 "DebtDowryModel" "sign" "I", Cond.fieldLink RX10 98 "DebtDowryModel" "figures" "I", Cond.fieldLink RX10 101 "DebtDowryModel" "value" "I", Cond.fieldLink RX10 13 "DebtDowryModel" "read" "[I", Cond.methodLink RX10 111 yX10_step, Cond.instanceMethod yX10_step, Cond.selects RX10 yX10_step yX10_step, Cond.initialized RX10, Cond.code yX10_step cX10_step 1 none, Cond.fieldLink RX10 85 "DebtDowryModel" "at" "I", Cond.fieldLink RX10 92 "DebtDowryModel" "begin" "I", Cond.constantLong RX10 104 (48), Cond.constantLong RX10 106 (57), Cond.methodLink RX10 88 yX10_here, Cond.instanceMethod yX10_here, Cond.selects RX10 yX10_here yX10_here, Cond.code yX10_here cX10_here 1 (some .int), Cond.fieldLink RX10 81 "DebtDowryModel" "size" "I", Cond.fieldLink RX10 32 "DebtDowryModel" "text" "[I", Cond.methodLink RX10 65 yX10_in, Cond.static yX10_in, Cond.code yX10_in cX10_in 6 (some .boolean), Cond.methodLink RX10 114 yX10_fails, Cond.instanceMethod yX10_fails]
def wsX10_number_r2 : List Cond := [Cond.selects RX10 yX10_fails yX10_fails, Cond.code yX10_fails cX10_fails 2 (some .boolean), Cond.fieldLink RX10 108 "DebtDowryModel" "wrong" "I"]
def wsX10_number : List Cond := .code yX10_number cX10_number 4 (some .boolean) :: ((wsX10_number_r1 ++ wsX10_number_r2) ++ wsX100)
def wsX10_ends_r1 : List Cond := [Cond.fieldLink RX10 95 "DebtDowryModel" "sign" "I", Cond.methodLink RX10 111 yX10_step, Cond.instanceMethod yX10_step, Cond.selects RX10 yX10_step yX10_step, Cond.initialized RX10, Cond.code yX10_step cX10_step 1 none, Cond.fieldLink RX10 85 "DebtDowryModel" "at" "I", Cond.fieldLink RX10 92 "DebtDowryModel" "begin" "I", Cond.fieldLink RX10 98 "DebtDowryModel" "figures" "I", Cond.fieldLink RX10 101 "DebtDowryModel" "value" "I", Cond.constantLong RX10 104 (48), Cond.constantLong RX10 106 (57), Cond.methodLink RX10 88 yX10_here, Cond.instanceMethod yX10_here, Cond.selects RX10 yX10_here yX10_here, Cond.code yX10_here cX10_here 1 (some .int), Cond.fieldLink RX10 81 "DebtDowryModel" "size" "I", Cond.fieldLink RX10 32 "DebtDowryModel" "text" "[I", Cond.methodLink RX10 65 yX10_in, Cond.static yX10_in, Cond.code yX10_in cX10_in 6 (some .boolean), Cond.methodLink RX10 114 yX10_fails, Cond.instanceMethod yX10_fails, Cond.selects RX10 yX10_fails yX10_fails]
def wsX10_ends_r2 : List Cond := [Cond.code yX10_fails cX10_fails 2 (some .boolean), Cond.fieldLink RX10 108 "DebtDowryModel" "wrong" "I"]
def wsX10_ends : List Cond := .code yX10_ends cX10_ends 1 (some .boolean) :: ((wsX10_ends_r1 ++ wsX10_ends_r2) ++ wsX100)
def wsX10_readsInterest_r1 : List Cond := [Cond.fieldLink RX10 13 "DebtDowryModel" "read" "[I", Cond.methodLink RX10 114 yX10_fails, Cond.instanceMethod yX10_fails, Cond.selects RX10 yX10_fails yX10_fails, Cond.initialized RX10, Cond.code yX10_fails cX10_fails 2 (some .boolean), Cond.fieldLink RX10 108 "DebtDowryModel" "wrong" "I", Cond.methodLink RX10 118 yX10_number, Cond.instanceMethod yX10_number, Cond.selects RX10 yX10_number yX10_number, Cond.code yX10_number cX10_number 4 (some .boolean), Cond.fieldLink RX10 95 "DebtDowryModel" "sign" "I", Cond.fieldLink RX10 98 "DebtDowryModel" "figures" "I", Cond.fieldLink RX10 101 "DebtDowryModel" "value" "I", Cond.methodLink RX10 111 yX10_step, Cond.instanceMethod yX10_step, Cond.selects RX10 yX10_step yX10_step, Cond.code yX10_step cX10_step 1 none, Cond.fieldLink RX10 85 "DebtDowryModel" "at" "I", Cond.fieldLink RX10 92 "DebtDowryModel" "begin" "I", Cond.constantLong RX10 104 (48), Cond.constantLong RX10 106 (57), Cond.methodLink RX10 88 yX10_here, Cond.instanceMethod yX10_here]
def wsX10_readsInterest_r2 : List Cond := [Cond.selects RX10 yX10_here yX10_here, Cond.code yX10_here cX10_here 1 (some .int), Cond.fieldLink RX10 81 "DebtDowryModel" "size" "I", Cond.fieldLink RX10 32 "DebtDowryModel" "text" "[I", Cond.methodLink RX10 65 yX10_in, Cond.static yX10_in, Cond.code yX10_in cX10_in 6 (some .boolean), Cond.methodLink RX10 122 yX10_ends, Cond.instanceMethod yX10_ends, Cond.selects RX10 yX10_ends yX10_ends, Cond.code yX10_ends cX10_ends 1 (some .boolean)]
def wsX10_readsInterest : List Cond := .code yX10_readsInterest cX10_readsInterest 1 (some .boolean) :: ((wsX10_readsInterest_r1 ++ wsX10_readsInterest_r2) ++ wsX100)
def wsX10_readsCreditor_r1 : List Cond := [Cond.fieldLink RX10 13 "DebtDowryModel" "read" "[I", Cond.methodLink RX10 114 yX10_fails, Cond.instanceMethod yX10_fails, Cond.selects RX10 yX10_fails yX10_fails, Cond.initialized RX10, Cond.code yX10_fails cX10_fails 2 (some .boolean), Cond.fieldLink RX10 108 "DebtDowryModel" "wrong" "I", Cond.methodLink RX10 118 yX10_number, Cond.instanceMethod yX10_number, Cond.selects RX10 yX10_number yX10_number, Cond.code yX10_number cX10_number 4 (some .boolean), Cond.fieldLink RX10 95 "DebtDowryModel" "sign" "I", Cond.fieldLink RX10 98 "DebtDowryModel" "figures" "I", Cond.fieldLink RX10 101 "DebtDowryModel" "value" "I", Cond.methodLink RX10 111 yX10_step, Cond.instanceMethod yX10_step, Cond.selects RX10 yX10_step yX10_step, Cond.code yX10_step cX10_step 1 none, Cond.fieldLink RX10 85 "DebtDowryModel" "at" "I", Cond.fieldLink RX10 92 "DebtDowryModel" "begin" "I", Cond.constantLong RX10 104 (48), Cond.constantLong RX10 106 (57), Cond.methodLink RX10 88 yX10_here, Cond.instanceMethod yX10_here]
def wsX10_readsCreditor_r2 : List Cond := [Cond.selects RX10 yX10_here yX10_here, Cond.code yX10_here cX10_here 1 (some .int), Cond.fieldLink RX10 81 "DebtDowryModel" "size" "I", Cond.fieldLink RX10 32 "DebtDowryModel" "text" "[I", Cond.methodLink RX10 65 yX10_in, Cond.static yX10_in, Cond.code yX10_in cX10_in 6 (some .boolean), Cond.methodLink RX10 122 yX10_ends, Cond.instanceMethod yX10_ends, Cond.selects RX10 yX10_ends yX10_ends, Cond.code yX10_ends cX10_ends 1 (some .boolean)]
def wsX10_readsCreditor : List Cond := .code yX10_readsCreditor cX10_readsCreditor 2 (some .boolean) :: ((wsX10_readsCreditor_r1 ++ wsX10_readsCreditor_r2) ++ wsX100)
def wsX10_readsPerson_r1 : List Cond := [Cond.fieldLink RX10 13 "DebtDowryModel" "read" "[I", Cond.fieldLink RX10 95 "DebtDowryModel" "sign" "I", Cond.methodLink RX10 114 yX10_fails, Cond.instanceMethod yX10_fails, Cond.selects RX10 yX10_fails yX10_fails, Cond.initialized RX10, Cond.code yX10_fails cX10_fails 2 (some .boolean), Cond.fieldLink RX10 108 "DebtDowryModel" "wrong" "I", Cond.methodLink RX10 118 yX10_number, Cond.instanceMethod yX10_number, Cond.selects RX10 yX10_number yX10_number, Cond.code yX10_number cX10_number 4 (some .boolean), Cond.fieldLink RX10 98 "DebtDowryModel" "figures" "I", Cond.fieldLink RX10 101 "DebtDowryModel" "value" "I", Cond.methodLink RX10 111 yX10_step, Cond.instanceMethod yX10_step, Cond.selects RX10 yX10_step yX10_step, Cond.code yX10_step cX10_step 1 none, Cond.fieldLink RX10 85 "DebtDowryModel" "at" "I", Cond.fieldLink RX10 92 "DebtDowryModel" "begin" "I", Cond.constantLong RX10 104 (48), Cond.constantLong RX10 106 (57), Cond.methodLink RX10 88 yX10_here, Cond.instanceMethod yX10_here]
def wsX10_readsPerson_r2 : List Cond := [Cond.selects RX10 yX10_here yX10_here, Cond.code yX10_here cX10_here 1 (some .int), Cond.fieldLink RX10 81 "DebtDowryModel" "size" "I", Cond.fieldLink RX10 32 "DebtDowryModel" "text" "[I", Cond.methodLink RX10 65 yX10_in, Cond.static yX10_in, Cond.code yX10_in cX10_in 6 (some .boolean)]
def wsX10_readsPerson : List Cond := .code yX10_readsPerson cX10_readsPerson 4 (some .boolean) :: ((wsX10_readsPerson_r1 ++ wsX10_readsPerson_r2) ++ wsX100)
def wsX10_readsClause_r1 : List Cond := [Cond.fieldLink RX10 95 "DebtDowryModel" "sign" "I", Cond.fieldLink RX10 13 "DebtDowryModel" "read" "[I", Cond.methodLink RX10 126 yX10_readsInterest, Cond.instanceMethod yX10_readsInterest, Cond.selects RX10 yX10_readsInterest yX10_readsInterest, Cond.initialized RX10, Cond.code yX10_readsInterest cX10_readsInterest 1 (some .boolean), Cond.methodLink RX10 114 yX10_fails, Cond.instanceMethod yX10_fails, Cond.selects RX10 yX10_fails yX10_fails, Cond.code yX10_fails cX10_fails 2 (some .boolean), Cond.fieldLink RX10 108 "DebtDowryModel" "wrong" "I", Cond.methodLink RX10 118 yX10_number, Cond.instanceMethod yX10_number, Cond.selects RX10 yX10_number yX10_number, Cond.code yX10_number cX10_number 4 (some .boolean), Cond.fieldLink RX10 98 "DebtDowryModel" "figures" "I", Cond.fieldLink RX10 101 "DebtDowryModel" "value" "I", Cond.methodLink RX10 111 yX10_step, Cond.instanceMethod yX10_step, Cond.selects RX10 yX10_step yX10_step, Cond.code yX10_step cX10_step 1 none, Cond.fieldLink RX10 85 "DebtDowryModel" "at" "I", Cond.fieldLink RX10 92 "DebtDowryModel" "begin" "I"]
def wsX10_readsClause_r2 : List Cond := [Cond.constantLong RX10 104 (48), Cond.constantLong RX10 106 (57), Cond.methodLink RX10 88 yX10_here, Cond.instanceMethod yX10_here, Cond.selects RX10 yX10_here yX10_here, Cond.code yX10_here cX10_here 1 (some .int), Cond.fieldLink RX10 81 "DebtDowryModel" "size" "I", Cond.fieldLink RX10 32 "DebtDowryModel" "text" "[I", Cond.methodLink RX10 65 yX10_in, Cond.static yX10_in, Cond.code yX10_in cX10_in 6 (some .boolean), Cond.methodLink RX10 122 yX10_ends, Cond.instanceMethod yX10_ends, Cond.selects RX10 yX10_ends yX10_ends, Cond.code yX10_ends cX10_ends 1 (some .boolean), Cond.methodLink RX10 129 yX10_readsCreditor, Cond.instanceMethod yX10_readsCreditor, Cond.selects RX10 yX10_readsCreditor yX10_readsCreditor, Cond.code yX10_readsCreditor cX10_readsCreditor 2 (some .boolean), Cond.methodLink RX10 132 yX10_readsPerson, Cond.instanceMethod yX10_readsPerson, Cond.selects RX10 yX10_readsPerson yX10_readsPerson, Cond.code yX10_readsPerson cX10_readsPerson 4 (some .boolean)]
def wsX10_readsClause : List Cond := .code yX10_readsClause cX10_readsClause 1 (some .boolean) :: ((wsX10_readsClause_r1 ++ wsX10_readsClause_r2) ++ wsX100)
def wsX10_town_r1 : List Cond := [Cond.fieldLink RX10 13 "DebtDowryModel" "read" "[I", Cond.fieldLink RX10 85 "DebtDowryModel" "at" "I", Cond.fieldLink RX10 35 "DebtDowryModel" "fault" "I", Cond.fieldLink RX10 95 "DebtDowryModel" "sign" "I", Cond.fieldLink RX10 81 "DebtDowryModel" "size" "I", Cond.fieldLink RX10 92 "DebtDowryModel" "begin" "I", Cond.fieldLink RX10 108 "DebtDowryModel" "wrong" "I", Cond.fieldLink RX10 7 "DebtDowryModel" "town" "[I", Cond.methodLink RX10 111 yX10_step, Cond.instanceMethod yX10_step, Cond.selects RX10 yX10_step yX10_step, Cond.initialized RX10, Cond.code yX10_step cX10_step 1 none, Cond.fieldLink RX10 98 "DebtDowryModel" "figures" "I", Cond.fieldLink RX10 101 "DebtDowryModel" "value" "I", Cond.constantLong RX10 104 (48), Cond.constantLong RX10 106 (57), Cond.methodLink RX10 88 yX10_here, Cond.instanceMethod yX10_here, Cond.selects RX10 yX10_here yX10_here, Cond.code yX10_here cX10_here 1 (some .int), Cond.fieldLink RX10 32 "DebtDowryModel" "text" "[I", Cond.methodLink RX10 65 yX10_in, Cond.static yX10_in]
def wsX10_town_r2 : List Cond := [Cond.code yX10_in cX10_in 6 (some .boolean), Cond.methodLink RX10 136 yX10_readsClause, Cond.instanceMethod yX10_readsClause, Cond.selects RX10 yX10_readsClause yX10_readsClause, Cond.code yX10_readsClause cX10_readsClause 1 (some .boolean), Cond.methodLink RX10 126 yX10_readsInterest, Cond.instanceMethod yX10_readsInterest, Cond.selects RX10 yX10_readsInterest yX10_readsInterest, Cond.code yX10_readsInterest cX10_readsInterest 1 (some .boolean), Cond.methodLink RX10 114 yX10_fails, Cond.instanceMethod yX10_fails, Cond.selects RX10 yX10_fails yX10_fails, Cond.code yX10_fails cX10_fails 2 (some .boolean), Cond.methodLink RX10 118 yX10_number, Cond.instanceMethod yX10_number, Cond.selects RX10 yX10_number yX10_number, Cond.code yX10_number cX10_number 4 (some .boolean), Cond.methodLink RX10 122 yX10_ends, Cond.instanceMethod yX10_ends, Cond.selects RX10 yX10_ends yX10_ends, Cond.code yX10_ends cX10_ends 1 (some .boolean), Cond.methodLink RX10 129 yX10_readsCreditor, Cond.instanceMethod yX10_readsCreditor, Cond.selects RX10 yX10_readsCreditor yX10_readsCreditor]
def wsX10_town_r3 : List Cond := [Cond.code yX10_readsCreditor cX10_readsCreditor 2 (some .boolean), Cond.methodLink RX10 132 yX10_readsPerson, Cond.instanceMethod yX10_readsPerson, Cond.selects RX10 yX10_readsPerson yX10_readsPerson, Cond.code yX10_readsPerson cX10_readsPerson 4 (some .boolean), Cond.methodLink RX10 57 yX10_copies, Cond.static yX10_copies, Cond.code yX10_copies cX10_copies 6 none, Cond.methodLink RX10 54 yX10_begins, Cond.instanceMethod yX10_begins, Cond.selects RX10 yX10_begins yX10_begins, Cond.code yX10_begins cX10_begins 2 none, Cond.fieldLink RX10 16 "DebtDowryModel" "now" "[I", Cond.constantLong RX10 61 (44), Cond.constantLong RX10 63 (51), Cond.fieldLink RX10 69 "DebtDowryModel" "undos" "I", Cond.fieldLink RX10 72 "DebtDowryModel" "cardMany" "I", Cond.fieldLink RX10 75 "DebtDowryModel" "bookMany" "I", Cond.fieldLink RX10 28 "DebtDowryModel" "kept" "[Z"]
def wsX10_town : List Cond := .code yX10_town cX10_town 2 (some .int) :: ((wsX10_town_r1 ++ (wsX10_town_r2 ++ wsX10_town_r3)) ++ wsX100)
def wsX10_fault : List Cond := .code yX10_fault cX10_fault 1 (some .int) :: ([.fieldLink RX10 35 "DebtDowryModel" "fault" "I"] ++ wsX100)
def wsX10_isCreditor : List Cond := .code yX10_isCreditor cX10_isCreditor 2 (some .boolean) :: ([.fieldLink RX10 7 "DebtDowryModel" "town" "[I", .methodLink RX10 65 yX10_in, .static yX10_in, .initialized RX10, .code yX10_in cX10_in 6 (some .boolean)] ++ wsX100)
def wsX10_isPerson : List Cond := .code yX10_isPerson cX10_isPerson 2 (some .boolean) :: ([.fieldLink RX10 7 "DebtDowryModel" "town" "[I", .methodLink RX10 65 yX10_in, .static yX10_in, .initialized RX10, .code yX10_in cX10_in 6 (some .boolean)] ++ wsX100)
def wsX10_isGirl : List Cond := .code yX10_isGirl cX10_isGirl 2 (some .boolean) :: ([.fieldLink RX10 7 "DebtDowryModel" "town" "[I", .methodLink RX10 139 yX10_isPerson, .instanceMethod yX10_isPerson, .selects RX10 yX10_isPerson yX10_isPerson, .initialized RX10, .code yX10_isPerson cX10_isPerson 2 (some .boolean), .methodLink RX10 65 yX10_in, .static yX10_in, .code yX10_in cX10_in 6 (some .boolean), .methodLink RX10 142 yX10_has, .static yX10_has, .code yX10_has cX10_has 2 (some .boolean)] ++ wsX100)
def wsX10_isMan : List Cond := .code yX10_isMan cX10_isMan 2 (some .boolean) :: ([.fieldLink RX10 7 "DebtDowryModel" "town" "[I", .methodLink RX10 139 yX10_isPerson, .instanceMethod yX10_isPerson, .selects RX10 yX10_isPerson yX10_isPerson, .initialized RX10, .code yX10_isPerson cX10_isPerson 2 (some .boolean), .methodLink RX10 65 yX10_in, .static yX10_in, .code yX10_in cX10_in 6 (some .boolean), .methodLink RX10 142 yX10_has, .static yX10_has, .code yX10_has cX10_has 2 (some .boolean)] ++ wsX100)
def wsX10_temperOf : List Cond := .code yX10_temperOf cX10_temperOf 5 (some .int) :: ([.fieldLink RX10 7 "DebtDowryModel" "town" "[I", .methodLink RX10 142 yX10_has, .static yX10_has, .initialized RX10, .code yX10_has cX10_has 2 (some .boolean)] ++ wsX100)
def wsX10_standing : List Cond := .code yX10_standing cX10_standing 6 (some .int) :: ([.fieldLink RX10 7 "DebtDowryModel" "town" "[I", .methodLink RX10 146 yX10_temperOf, .instanceMethod yX10_temperOf, .selects RX10 yX10_temperOf yX10_temperOf, .initialized RX10, .code yX10_temperOf cX10_temperOf 5 (some .int), .methodLink RX10 142 yX10_has, .static yX10_has, .code yX10_has cX10_has 2 (some .boolean)] ++ wsX100)
def wsX10_sumOf : List Cond := .code yX10_sumOf cX10_sumOf 5 (some .int) :: ([])
def wsX10_grows : List Cond := .code yX10_grows cX10_grows 2 (some .int) :: ([.fieldLink RX10 7 "DebtDowryModel" "town" "[I", .methodLink RX10 150 yX10_lesser, .static yX10_lesser, .initialized RX10, .code yX10_lesser cX10_lesser 2 (some .int)] ++ wsX100)
def wsX10_sours : List Cond := .code yX10_sours cX10_sours 6 (some .int) :: ([.fieldLink RX10 7 "DebtDowryModel" "town" "[I", .methodLink RX10 146 yX10_temperOf, .instanceMethod yX10_temperOf, .selects RX10 yX10_temperOf yX10_temperOf, .initialized RX10, .code yX10_temperOf cX10_temperOf 5 (some .int), .methodLink RX10 142 yX10_has, .static yX10_has, .code yX10_has cX10_has 2 (some .boolean)] ++ wsX100)
def wsX10_quarterGoes : List Cond := .code yX10_quarterGoes cX10_quarterGoes 3 none :: ([.methodLink RX10 154 yX10_grows, .instanceMethod yX10_grows, .selects RX10 yX10_grows yX10_grows, .initialized RX10, .code yX10_grows cX10_grows 2 (some .int), .fieldLink RX10 7 "DebtDowryModel" "town" "[I", .methodLink RX10 150 yX10_lesser, .static yX10_lesser, .code yX10_lesser cX10_lesser 2 (some .int), .methodLink RX10 158 yX10_sours, .instanceMethod yX10_sours, .selects RX10 yX10_sours yX10_sours, .code yX10_sours cX10_sours 6 (some .int), .methodLink RX10 146 yX10_temperOf, .instanceMethod yX10_temperOf, .selects RX10 yX10_temperOf yX10_temperOf, .code yX10_temperOf cX10_temperOf 5 (some .int), .methodLink RX10 142 yX10_has, .static yX10_has, .code yX10_has cX10_has 2 (some .boolean)] ++ wsX100)
def wsX10_weds : List Cond := .code yX10_weds cX10_weds 5 none :: ([.methodLink RX10 150 yX10_lesser, .static yX10_lesser, .initialized RX10, .code yX10_lesser cX10_lesser 2 (some .int)])
def wsX10_wedOnes : List Cond := .code yX10_wedOnes cX10_wedOnes 3 (some .int) :: ([.fieldLink RX10 16 "DebtDowryModel" "now" "[I"] ++ wsX100)
def wsX10_owedInAll : List Cond := .code yX10_owedInAll cX10_owedInAll 3 (some .int) :: ([.fieldLink RX10 16 "DebtDowryModel" "now" "[I", .methodLink RX10 162 yX10_sumOf, .instanceMethod yX10_sumOf, .selects RX10 yX10_sumOf yX10_sumOf, .initialized RX10, .code yX10_sumOf cX10_sumOf 5 (some .int)] ++ wsX100)
def wsX10_told : List Cond := .code yX10_told cX10_told 2 (some .int) :: ([.fieldLink RX10 7 "DebtDowryModel" "town" "[I", .fieldLink RX10 81 "DebtDowryModel" "size" "I", .fieldLink RX10 16 "DebtDowryModel" "now" "[I", .fieldLink RX10 72 "DebtDowryModel" "cardMany" "I", .fieldLink RX10 75 "DebtDowryModel" "bookMany" "I", .fieldLink RX10 69 "DebtDowryModel" "undos" "I", .constant RX10 80 (-1000000002), .methodLink RX10 166 yX10_wedOnes, .instanceMethod yX10_wedOnes, .selects RX10 yX10_wedOnes yX10_wedOnes, .initialized RX10, .code yX10_wedOnes cX10_wedOnes 3 (some .int), .methodLink RX10 169 yX10_owedInAll, .instanceMethod yX10_owedInAll, .selects RX10 yX10_owedInAll yX10_owedInAll, .code yX10_owedInAll cX10_owedInAll 3 (some .int), .methodLink RX10 162 yX10_sumOf, .instanceMethod yX10_sumOf, .selects RX10 yX10_sumOf yX10_sumOf, .code yX10_sumOf cX10_sumOf 5 (some .int)] ++ wsX100)
def wsX10_whoAre : List Cond := .code yX10_whoAre cX10_whoAre 5 (some .int) :: ([.fieldLink RX10 7 "DebtDowryModel" "town" "[I", .fieldLink RX10 16 "DebtDowryModel" "now" "[I", .methodLink RX10 146 yX10_temperOf, .instanceMethod yX10_temperOf, .selects RX10 yX10_temperOf yX10_temperOf, .initialized RX10, .code yX10_temperOf cX10_temperOf 5 (some .int), .methodLink RX10 142 yX10_has, .static yX10_has, .code yX10_has cX10_has 2 (some .boolean)] ++ wsX100)
def wsX10_creditor : List Cond := .code yX10_creditor cX10_creditor 3 (some .int) :: ([.constant RX10 175 (-1000000001), .fieldLink RX10 16 "DebtDowryModel" "now" "[I", .fieldLink RX10 7 "DebtDowryModel" "town" "[I", .constant RX10 80 (-1000000002), .methodLink RX10 172 yX10_isCreditor, .instanceMethod yX10_isCreditor, .selects RX10 yX10_isCreditor yX10_isCreditor, .initialized RX10, .code yX10_isCreditor cX10_isCreditor 2 (some .boolean), .methodLink RX10 65 yX10_in, .static yX10_in, .code yX10_in cX10_in 6 (some .boolean), .methodLink RX10 176 yX10_whoAre, .instanceMethod yX10_whoAre, .selects RX10 yX10_whoAre yX10_whoAre, .code yX10_whoAre cX10_whoAre 5 (some .int), .methodLink RX10 146 yX10_temperOf, .instanceMethod yX10_temperOf, .selects RX10 yX10_temperOf yX10_temperOf, .code yX10_temperOf cX10_temperOf 5 (some .int), .methodLink RX10 142 yX10_has, .static yX10_has, .code yX10_has cX10_has 2 (some .boolean)] ++ wsX100)
def wsX10_person_r1 : List Cond := [Cond.constant RX10 175 (-1000000001), Cond.fieldLink RX10 7 "DebtDowryModel" "town" "[I", Cond.fieldLink RX10 16 "DebtDowryModel" "now" "[I", Cond.constant RX10 80 (-1000000002), Cond.methodLink RX10 139 yX10_isPerson, Cond.instanceMethod yX10_isPerson, Cond.selects RX10 yX10_isPerson yX10_isPerson, Cond.initialized RX10, Cond.code yX10_isPerson cX10_isPerson 2 (some .boolean), Cond.methodLink RX10 65 yX10_in, Cond.static yX10_in, Cond.code yX10_in cX10_in 6 (some .boolean), Cond.methodLink RX10 142 yX10_has, Cond.static yX10_has, Cond.code yX10_has cX10_has 2 (some .boolean), Cond.methodLink RX10 162 yX10_sumOf, Cond.instanceMethod yX10_sumOf, Cond.selects RX10 yX10_sumOf yX10_sumOf, Cond.code yX10_sumOf cX10_sumOf 5 (some .int), Cond.methodLink RX10 179 yX10_standing, Cond.instanceMethod yX10_standing, Cond.selects RX10 yX10_standing yX10_standing, Cond.code yX10_standing cX10_standing 6 (some .int), Cond.methodLink RX10 146 yX10_temperOf]
def wsX10_person_r2 : List Cond := [Cond.instanceMethod yX10_temperOf, Cond.selects RX10 yX10_temperOf yX10_temperOf, Cond.code yX10_temperOf cX10_temperOf 5 (some .int)]
def wsX10_person : List Cond := .code yX10_person cX10_person 3 (some .int) :: ((wsX10_person_r1 ++ wsX10_person_r2) ++ wsX100)
def wsX10_owes : List Cond := .code yX10_owes cX10_owes 3 (some .int) :: ([.fieldLink RX10 16 "DebtDowryModel" "now" "[I", .constant RX10 175 (-1000000001), .methodLink RX10 139 yX10_isPerson, .instanceMethod yX10_isPerson, .selects RX10 yX10_isPerson yX10_isPerson, .initialized RX10, .code yX10_isPerson cX10_isPerson 2 (some .boolean), .fieldLink RX10 7 "DebtDowryModel" "town" "[I", .methodLink RX10 65 yX10_in, .static yX10_in, .code yX10_in cX10_in 6 (some .boolean), .methodLink RX10 172 yX10_isCreditor, .instanceMethod yX10_isCreditor, .selects RX10 yX10_isCreditor yX10_isCreditor, .code yX10_isCreditor cX10_isCreditor 2 (some .boolean)] ++ wsX100)
def wsX10_temper : List Cond := .code yX10_temper cX10_temper 3 (some .int) :: ([.fieldLink RX10 16 "DebtDowryModel" "now" "[I", .constant RX10 175 (-1000000001), .methodLink RX10 139 yX10_isPerson, .instanceMethod yX10_isPerson, .selects RX10 yX10_isPerson yX10_isPerson, .initialized RX10, .code yX10_isPerson cX10_isPerson 2 (some .boolean), .fieldLink RX10 7 "DebtDowryModel" "town" "[I", .methodLink RX10 65 yX10_in, .static yX10_in, .code yX10_in cX10_in 6 (some .boolean), .methodLink RX10 172 yX10_isCreditor, .instanceMethod yX10_isCreditor, .selects RX10 yX10_isCreditor yX10_isCreditor, .code yX10_isCreditor cX10_isCreditor 2 (some .boolean), .methodLink RX10 146 yX10_temperOf, .instanceMethod yX10_temperOf, .selects RX10 yX10_temperOf yX10_temperOf, .code yX10_temperOf cX10_temperOf 5 (some .int), .methodLink RX10 142 yX10_has, .static yX10_has, .code yX10_has cX10_has 2 (some .boolean)] ++ wsX100)
def wsX10_remember : List Cond := .code yX10_remember cX10_remember 2 none :: ([.fieldLink RX10 69 "DebtDowryModel" "undos" "I", .fieldLink RX10 22 "DebtDowryModel" "past" "[I", .fieldLink RX10 16 "DebtDowryModel" "now" "[I", .methodLink RX10 57 yX10_copies, .static yX10_copies, .initialized RX10, .code yX10_copies cX10_copies 6 none] ++ wsX100)
def wsX10_isWedMan : List Cond := .code yX10_isWedMan cX10_isWedMan 2 (some .boolean) :: ([.fieldLink RX10 16 "DebtDowryModel" "now" "[I", .methodLink RX10 182 yX10_isMan, .instanceMethod yX10_isMan, .selects RX10 yX10_isMan yX10_isMan, .initialized RX10, .code yX10_isMan cX10_isMan 2 (some .boolean), .fieldLink RX10 7 "DebtDowryModel" "town" "[I", .methodLink RX10 139 yX10_isPerson, .instanceMethod yX10_isPerson, .selects RX10 yX10_isPerson yX10_isPerson, .code yX10_isPerson cX10_isPerson 2 (some .boolean), .methodLink RX10 65 yX10_in, .static yX10_in, .code yX10_in cX10_in 6 (some .boolean), .methodLink RX10 142 yX10_has, .static yX10_has, .code yX10_has cX10_has 2 (some .boolean)] ++ wsX100)
def wsX10_mayBorrow : List Cond := .code yX10_mayBorrow cX10_mayBorrow 4 (some .boolean) :: ([.fieldLink RX10 16 "DebtDowryModel" "now" "[I", .methodLink RX10 185 yX10_isWedMan, .instanceMethod yX10_isWedMan, .selects RX10 yX10_isWedMan yX10_isWedMan, .initialized RX10, .code yX10_isWedMan cX10_isWedMan 2 (some .boolean), .methodLink RX10 182 yX10_isMan, .instanceMethod yX10_isMan, .selects RX10 yX10_isMan yX10_isMan, .code yX10_isMan cX10_isMan 2 (some .boolean), .fieldLink RX10 7 "DebtDowryModel" "town" "[I", .methodLink RX10 139 yX10_isPerson, .instanceMethod yX10_isPerson, .selects RX10 yX10_isPerson yX10_isPerson, .code yX10_isPerson cX10_isPerson 2 (some .boolean), .methodLink RX10 65 yX10_in, .static yX10_in, .code yX10_in cX10_in 6 (some .boolean), .methodLink RX10 142 yX10_has, .static yX10_has, .code yX10_has cX10_has 2 (some .boolean)] ++ wsX100)
def wsX10_borrows : List Cond := .code yX10_borrows cX10_borrows 4 none :: ([.fieldLink RX10 16 "DebtDowryModel" "now" "[I", .methodLink RX10 150 yX10_lesser, .static yX10_lesser, .initialized RX10, .code yX10_lesser cX10_lesser 2 (some .int)] ++ wsX100)
def wsX10_borrow_r1 : List Cond := [Cond.constant RX10 175 (-1000000001), Cond.constantLong RX10 188 (999), Cond.constant RX10 80 (-1000000002), Cond.constant RX10 193 (-1000000003), Cond.fieldLink RX10 16 "DebtDowryModel" "now" "[I", Cond.methodLink RX10 139 yX10_isPerson, Cond.instanceMethod yX10_isPerson, Cond.selects RX10 yX10_isPerson yX10_isPerson, Cond.initialized RX10, Cond.code yX10_isPerson cX10_isPerson 2 (some .boolean), Cond.fieldLink RX10 7 "DebtDowryModel" "town" "[I", Cond.methodLink RX10 65 yX10_in, Cond.static yX10_in, Cond.code yX10_in cX10_in 6 (some .boolean), Cond.methodLink RX10 172 yX10_isCreditor, Cond.instanceMethod yX10_isCreditor, Cond.selects RX10 yX10_isCreditor yX10_isCreditor, Cond.code yX10_isCreditor cX10_isCreditor 2 (some .boolean), Cond.methodLink RX10 190 yX10_mayBorrow, Cond.instanceMethod yX10_mayBorrow, Cond.selects RX10 yX10_mayBorrow yX10_mayBorrow, Cond.code yX10_mayBorrow cX10_mayBorrow 4 (some .boolean), Cond.methodLink RX10 185 yX10_isWedMan, Cond.instanceMethod yX10_isWedMan]
def wsX10_borrow_r2 : List Cond := [Cond.selects RX10 yX10_isWedMan yX10_isWedMan, Cond.code yX10_isWedMan cX10_isWedMan 2 (some .boolean), Cond.methodLink RX10 182 yX10_isMan, Cond.instanceMethod yX10_isMan, Cond.selects RX10 yX10_isMan yX10_isMan, Cond.code yX10_isMan cX10_isMan 2 (some .boolean), Cond.methodLink RX10 142 yX10_has, Cond.static yX10_has, Cond.code yX10_has cX10_has 2 (some .boolean), Cond.methodLink RX10 194 yX10_remember, Cond.instanceMethod yX10_remember, Cond.selects RX10 yX10_remember yX10_remember, Cond.code yX10_remember cX10_remember 2 none, Cond.fieldLink RX10 69 "DebtDowryModel" "undos" "I", Cond.fieldLink RX10 22 "DebtDowryModel" "past" "[I", Cond.methodLink RX10 57 yX10_copies, Cond.static yX10_copies, Cond.code yX10_copies cX10_copies 6 none, Cond.methodLink RX10 197 yX10_borrows, Cond.instanceMethod yX10_borrows, Cond.selects RX10 yX10_borrows yX10_borrows, Cond.code yX10_borrows cX10_borrows 4 none, Cond.methodLink RX10 150 yX10_lesser, Cond.static yX10_lesser]
def wsX10_borrow_r3 : List Cond := [Cond.code yX10_lesser cX10_lesser 2 (some .int)]
def wsX10_borrow : List Cond := .code yX10_borrow cX10_borrow 4 (some .int) :: ((wsX10_borrow_r1 ++ (wsX10_borrow_r2 ++ wsX10_borrow_r3)) ++ wsX100)
def wsX10_pay_r1 : List Cond := [Cond.constant RX10 175 (-1000000001), Cond.constantLong RX10 201 (9999), Cond.constant RX10 80 (-1000000002), Cond.fieldLink RX10 16 "DebtDowryModel" "now" "[I", Cond.constant RX10 193 (-1000000003), Cond.fieldLink RX10 7 "DebtDowryModel" "town" "[I", Cond.methodLink RX10 139 yX10_isPerson, Cond.instanceMethod yX10_isPerson, Cond.selects RX10 yX10_isPerson yX10_isPerson, Cond.initialized RX10, Cond.code yX10_isPerson cX10_isPerson 2 (some .boolean), Cond.methodLink RX10 65 yX10_in, Cond.static yX10_in, Cond.code yX10_in cX10_in 6 (some .boolean), Cond.methodLink RX10 172 yX10_isCreditor, Cond.instanceMethod yX10_isCreditor, Cond.selects RX10 yX10_isCreditor yX10_isCreditor, Cond.code yX10_isCreditor cX10_isCreditor 2 (some .boolean), Cond.methodLink RX10 194 yX10_remember, Cond.instanceMethod yX10_remember, Cond.selects RX10 yX10_remember yX10_remember, Cond.code yX10_remember cX10_remember 2 none, Cond.fieldLink RX10 69 "DebtDowryModel" "undos" "I", Cond.fieldLink RX10 22 "DebtDowryModel" "past" "[I"]
def wsX10_pay_r2 : List Cond := [Cond.methodLink RX10 57 yX10_copies, Cond.static yX10_copies, Cond.code yX10_copies cX10_copies 6 none, Cond.methodLink RX10 150 yX10_lesser, Cond.static yX10_lesser, Cond.code yX10_lesser cX10_lesser 2 (some .int)]
def wsX10_pay : List Cond := .code yX10_pay cX10_pay 5 (some .int) :: ((wsX10_pay_r1 ++ wsX10_pay_r2) ++ wsX100)
def wsX10_refuses : List Cond := .code yX10_refuses cX10_refuses 2 (some .int) :: ([.constantLong RX10 203 (20), .constant RX10 80 (-1000000002), .fieldLink RX10 7 "DebtDowryModel" "town" "[I", .constant RX10 193 (-1000000003), .fieldLink RX10 16 "DebtDowryModel" "now" "[I", .constant RX10 84 (-1000000004), .methodLink RX10 65 yX10_in, .static yX10_in, .initialized RX10, .code yX10_in cX10_in 6 (some .boolean)] ++ wsX100)
def wsX10_quarter_r1 : List Cond := [Cond.fieldLink RX10 16 "DebtDowryModel" "now" "[I", Cond.methodLink RX10 205 yX10_refuses, Cond.instanceMethod yX10_refuses, Cond.selects RX10 yX10_refuses yX10_refuses, Cond.initialized RX10, Cond.code yX10_refuses cX10_refuses 2 (some .int), Cond.constantLong RX10 203 (20), Cond.constant RX10 80 (-1000000002), Cond.fieldLink RX10 7 "DebtDowryModel" "town" "[I", Cond.constant RX10 193 (-1000000003), Cond.constant RX10 84 (-1000000004), Cond.methodLink RX10 65 yX10_in, Cond.static yX10_in, Cond.code yX10_in cX10_in 6 (some .boolean), Cond.methodLink RX10 194 yX10_remember, Cond.instanceMethod yX10_remember, Cond.selects RX10 yX10_remember yX10_remember, Cond.code yX10_remember cX10_remember 2 none, Cond.fieldLink RX10 69 "DebtDowryModel" "undos" "I", Cond.fieldLink RX10 22 "DebtDowryModel" "past" "[I", Cond.methodLink RX10 57 yX10_copies, Cond.static yX10_copies, Cond.code yX10_copies cX10_copies 6 none, Cond.methodLink RX10 208 yX10_quarterGoes]
def wsX10_quarter_r2 : List Cond := [Cond.instanceMethod yX10_quarterGoes, Cond.selects RX10 yX10_quarterGoes yX10_quarterGoes, Cond.code yX10_quarterGoes cX10_quarterGoes 3 none, Cond.methodLink RX10 154 yX10_grows, Cond.instanceMethod yX10_grows, Cond.selects RX10 yX10_grows yX10_grows, Cond.code yX10_grows cX10_grows 2 (some .int), Cond.methodLink RX10 150 yX10_lesser, Cond.static yX10_lesser, Cond.code yX10_lesser cX10_lesser 2 (some .int), Cond.methodLink RX10 158 yX10_sours, Cond.instanceMethod yX10_sours, Cond.selects RX10 yX10_sours yX10_sours, Cond.code yX10_sours cX10_sours 6 (some .int), Cond.methodLink RX10 146 yX10_temperOf, Cond.instanceMethod yX10_temperOf, Cond.selects RX10 yX10_temperOf yX10_temperOf, Cond.code yX10_temperOf cX10_temperOf 5 (some .int), Cond.methodLink RX10 142 yX10_has, Cond.static yX10_has, Cond.code yX10_has cX10_has 2 (some .boolean), Cond.methodLink RX10 212 yX10_bits, Cond.static yX10_bits, Cond.code yX10_bits cX10_bits 3 (some .int)]
def wsX10_quarter : List Cond := .code yX10_quarter cX10_quarter 5 (some .int) :: ((wsX10_quarter_r1 ++ wsX10_quarter_r2) ++ wsX100)
def wsX10_areApart : List Cond := .code yX10_areApart cX10_areApart 3 (some .boolean) :: ([.fieldLink RX10 16 "DebtDowryModel" "now" "[I"] ++ wsX100)
def wsX10_wed_r1 : List Cond := [Cond.constant RX10 175 (-1000000001), Cond.constant RX10 193 (-1000000003), Cond.fieldLink RX10 16 "DebtDowryModel" "now" "[I", Cond.methodLink RX10 215 yX10_isGirl, Cond.instanceMethod yX10_isGirl, Cond.selects RX10 yX10_isGirl yX10_isGirl, Cond.initialized RX10, Cond.code yX10_isGirl cX10_isGirl 2 (some .boolean), Cond.fieldLink RX10 7 "DebtDowryModel" "town" "[I", Cond.methodLink RX10 139 yX10_isPerson, Cond.instanceMethod yX10_isPerson, Cond.selects RX10 yX10_isPerson yX10_isPerson, Cond.code yX10_isPerson cX10_isPerson 2 (some .boolean), Cond.methodLink RX10 65 yX10_in, Cond.static yX10_in, Cond.code yX10_in cX10_in 6 (some .boolean), Cond.methodLink RX10 142 yX10_has, Cond.static yX10_has, Cond.code yX10_has cX10_has 2 (some .boolean), Cond.methodLink RX10 182 yX10_isMan, Cond.instanceMethod yX10_isMan, Cond.selects RX10 yX10_isMan yX10_isMan, Cond.code yX10_isMan cX10_isMan 2 (some .boolean), Cond.methodLink RX10 218 yX10_areApart]
def wsX10_wed_r2 : List Cond := [Cond.instanceMethod yX10_areApart, Cond.selects RX10 yX10_areApart yX10_areApart, Cond.code yX10_areApart cX10_areApart 3 (some .boolean), Cond.methodLink RX10 194 yX10_remember, Cond.instanceMethod yX10_remember, Cond.selects RX10 yX10_remember yX10_remember, Cond.code yX10_remember cX10_remember 2 none, Cond.fieldLink RX10 69 "DebtDowryModel" "undos" "I", Cond.fieldLink RX10 22 "DebtDowryModel" "past" "[I", Cond.methodLink RX10 57 yX10_copies, Cond.static yX10_copies, Cond.code yX10_copies cX10_copies 6 none, Cond.methodLink RX10 221 yX10_weds, Cond.instanceMethod yX10_weds, Cond.selects RX10 yX10_weds yX10_weds, Cond.code yX10_weds cX10_weds 5 none, Cond.methodLink RX10 150 yX10_lesser, Cond.static yX10_lesser, Cond.code yX10_lesser cX10_lesser 2 (some .int), Cond.methodLink RX10 179 yX10_standing, Cond.instanceMethod yX10_standing, Cond.selects RX10 yX10_standing yX10_standing, Cond.code yX10_standing cX10_standing 6 (some .int), Cond.methodLink RX10 146 yX10_temperOf]
def wsX10_wed_r3 : List Cond := [Cond.instanceMethod yX10_temperOf, Cond.selects RX10 yX10_temperOf yX10_temperOf, Cond.code yX10_temperOf cX10_temperOf 5 (some .int)]
def wsX10_wed : List Cond := .code yX10_wed cX10_wed 3 (some .int) :: ((wsX10_wed_r1 ++ (wsX10_wed_r2 ++ wsX10_wed_r3)) ++ wsX100)
def wsX10_divorce_r1 : List Cond := [Cond.constant RX10 175 (-1000000001), Cond.fieldLink RX10 16 "DebtDowryModel" "now" "[I", Cond.constant RX10 193 (-1000000003), Cond.methodLink RX10 215 yX10_isGirl, Cond.instanceMethod yX10_isGirl, Cond.selects RX10 yX10_isGirl yX10_isGirl, Cond.initialized RX10, Cond.code yX10_isGirl cX10_isGirl 2 (some .boolean), Cond.fieldLink RX10 7 "DebtDowryModel" "town" "[I", Cond.methodLink RX10 139 yX10_isPerson, Cond.instanceMethod yX10_isPerson, Cond.selects RX10 yX10_isPerson yX10_isPerson, Cond.code yX10_isPerson cX10_isPerson 2 (some .boolean), Cond.methodLink RX10 65 yX10_in, Cond.static yX10_in, Cond.code yX10_in cX10_in 6 (some .boolean), Cond.methodLink RX10 142 yX10_has, Cond.static yX10_has, Cond.code yX10_has cX10_has 2 (some .boolean), Cond.methodLink RX10 194 yX10_remember, Cond.instanceMethod yX10_remember, Cond.selects RX10 yX10_remember yX10_remember, Cond.code yX10_remember cX10_remember 2 none, Cond.fieldLink RX10 69 "DebtDowryModel" "undos" "I"]
def wsX10_divorce_r2 : List Cond := [Cond.fieldLink RX10 22 "DebtDowryModel" "past" "[I", Cond.methodLink RX10 57 yX10_copies, Cond.static yX10_copies, Cond.code yX10_copies cX10_copies 6 none, Cond.methodLink RX10 162 yX10_sumOf, Cond.instanceMethod yX10_sumOf, Cond.selects RX10 yX10_sumOf yX10_sumOf, Cond.code yX10_sumOf cX10_sumOf 5 (some .int)]
def wsX10_divorce : List Cond := .code yX10_divorce cX10_divorce 5 (some .int) :: ((wsX10_divorce_r1 ++ wsX10_divorce_r2) ++ wsX100)
def wsX10_draw : List Cond := .code yX10_draw cX10_draw 2 (some .int) :: ([.fieldLink RX10 225 "DebtDowryModel" "seed" "J", .constantLong RX10 229 (1103515245), .constantLong RX10 231 (12345), .constantLong RX10 233 (2147483648), .constantLong RX10 235 (65536)] ++ wsX100)
def wsX10_drift_r1 : List Cond := [Cond.fieldLink RX10 7 "DebtDowryModel" "town" "[I", Cond.fieldLink RX10 16 "DebtDowryModel" "now" "[I", Cond.methodLink RX10 205 yX10_refuses, Cond.instanceMethod yX10_refuses, Cond.selects RX10 yX10_refuses yX10_refuses, Cond.initialized RX10, Cond.code yX10_refuses cX10_refuses 2 (some .int), Cond.constantLong RX10 203 (20), Cond.constant RX10 80 (-1000000002), Cond.constant RX10 193 (-1000000003), Cond.constant RX10 84 (-1000000004), Cond.methodLink RX10 65 yX10_in, Cond.static yX10_in, Cond.code yX10_in cX10_in 6 (some .boolean), Cond.methodLink RX10 194 yX10_remember, Cond.instanceMethod yX10_remember, Cond.selects RX10 yX10_remember yX10_remember, Cond.code yX10_remember cX10_remember 2 none, Cond.fieldLink RX10 69 "DebtDowryModel" "undos" "I", Cond.fieldLink RX10 22 "DebtDowryModel" "past" "[I", Cond.methodLink RX10 57 yX10_copies, Cond.static yX10_copies, Cond.code yX10_copies cX10_copies 6 none, Cond.methodLink RX10 237 yX10_draw]
def wsX10_drift_r2 : List Cond := [Cond.instanceMethod yX10_draw, Cond.selects RX10 yX10_draw yX10_draw, Cond.code yX10_draw cX10_draw 2 (some .int), Cond.fieldLink RX10 225 "DebtDowryModel" "seed" "J", Cond.constantLong RX10 229 (1103515245), Cond.constantLong RX10 231 (12345), Cond.constantLong RX10 233 (2147483648), Cond.constantLong RX10 235 (65536), Cond.methodLink RX10 190 yX10_mayBorrow, Cond.instanceMethod yX10_mayBorrow, Cond.selects RX10 yX10_mayBorrow yX10_mayBorrow, Cond.code yX10_mayBorrow cX10_mayBorrow 4 (some .boolean), Cond.methodLink RX10 185 yX10_isWedMan, Cond.instanceMethod yX10_isWedMan, Cond.selects RX10 yX10_isWedMan yX10_isWedMan, Cond.code yX10_isWedMan cX10_isWedMan 2 (some .boolean), Cond.methodLink RX10 182 yX10_isMan, Cond.instanceMethod yX10_isMan, Cond.selects RX10 yX10_isMan yX10_isMan, Cond.code yX10_isMan cX10_isMan 2 (some .boolean), Cond.methodLink RX10 139 yX10_isPerson, Cond.instanceMethod yX10_isPerson, Cond.selects RX10 yX10_isPerson yX10_isPerson, Cond.code yX10_isPerson cX10_isPerson 2 (some .boolean)]
def wsX10_drift_r3 : List Cond := [Cond.methodLink RX10 142 yX10_has, Cond.static yX10_has, Cond.code yX10_has cX10_has 2 (some .boolean), Cond.methodLink RX10 197 yX10_borrows, Cond.instanceMethod yX10_borrows, Cond.selects RX10 yX10_borrows yX10_borrows, Cond.code yX10_borrows cX10_borrows 4 none, Cond.methodLink RX10 150 yX10_lesser, Cond.static yX10_lesser, Cond.code yX10_lesser cX10_lesser 2 (some .int), Cond.methodLink RX10 208 yX10_quarterGoes, Cond.instanceMethod yX10_quarterGoes, Cond.selects RX10 yX10_quarterGoes yX10_quarterGoes, Cond.code yX10_quarterGoes cX10_quarterGoes 3 none, Cond.methodLink RX10 154 yX10_grows, Cond.instanceMethod yX10_grows, Cond.selects RX10 yX10_grows yX10_grows, Cond.code yX10_grows cX10_grows 2 (some .int), Cond.methodLink RX10 158 yX10_sours, Cond.instanceMethod yX10_sours, Cond.selects RX10 yX10_sours yX10_sours, Cond.code yX10_sours cX10_sours 6 (some .int), Cond.methodLink RX10 146 yX10_temperOf, Cond.instanceMethod yX10_temperOf]
def wsX10_drift_r4 : List Cond := [Cond.selects RX10 yX10_temperOf yX10_temperOf, Cond.code yX10_temperOf cX10_temperOf 5 (some .int), Cond.methodLink RX10 169 yX10_owedInAll, Cond.instanceMethod yX10_owedInAll, Cond.selects RX10 yX10_owedInAll yX10_owedInAll, Cond.code yX10_owedInAll cX10_owedInAll 3 (some .int), Cond.methodLink RX10 162 yX10_sumOf, Cond.instanceMethod yX10_sumOf, Cond.selects RX10 yX10_sumOf yX10_sumOf, Cond.code yX10_sumOf cX10_sumOf 5 (some .int)]
def wsX10_drift : List Cond := .code yX10_drift cX10_drift 7 (some .int) :: ((wsX10_drift_r1 ++ (wsX10_drift_r2 ++ (wsX10_drift_r3 ++ wsX10_drift_r4))) ++ wsX100)
def wsX10_undo : List Cond := .code yX10_undo cX10_undo 2 (some .int) :: ([.constantLong RX10 240 (30), .constant RX10 80 (-1000000002), .fieldLink RX10 69 "DebtDowryModel" "undos" "I", .constant RX10 193 (-1000000003), .fieldLink RX10 22 "DebtDowryModel" "past" "[I", .fieldLink RX10 16 "DebtDowryModel" "now" "[I", .methodLink RX10 65 yX10_in, .static yX10_in, .initialized RX10, .code yX10_in cX10_in 6 (some .boolean), .methodLink RX10 57 yX10_copies, .static yX10_copies, .code yX10_copies cX10_copies 6 none] ++ wsX100)
def wsX10_layAside : List Cond := .code yX10_layAside cX10_layAside 1 none :: ([.fieldLink RX10 16 "DebtDowryModel" "now" "[I", .fieldLink RX10 19 "DebtDowryModel" "aside" "[I", .methodLink RX10 57 yX10_copies, .static yX10_copies, .initialized RX10, .code yX10_copies cX10_copies 6 none] ++ wsX100)
def wsX10_joins_r1 : List Cond := [Cond.fieldLink RX10 19 "DebtDowryModel" "aside" "[I", Cond.methodLink RX10 242 yX10_layAside, Cond.instanceMethod yX10_layAside, Cond.selects RX10 yX10_layAside yX10_layAside, Cond.initialized RX10, Cond.code yX10_layAside cX10_layAside 1 none, Cond.fieldLink RX10 16 "DebtDowryModel" "now" "[I", Cond.methodLink RX10 57 yX10_copies, Cond.static yX10_copies, Cond.code yX10_copies cX10_copies 6 none, Cond.methodLink RX10 221 yX10_weds, Cond.instanceMethod yX10_weds, Cond.selects RX10 yX10_weds yX10_weds, Cond.code yX10_weds cX10_weds 5 none, Cond.methodLink RX10 150 yX10_lesser, Cond.static yX10_lesser, Cond.code yX10_lesser cX10_lesser 2 (some .int), Cond.methodLink RX10 179 yX10_standing, Cond.instanceMethod yX10_standing, Cond.selects RX10 yX10_standing yX10_standing, Cond.code yX10_standing cX10_standing 6 (some .int), Cond.fieldLink RX10 7 "DebtDowryModel" "town" "[I", Cond.methodLink RX10 146 yX10_temperOf, Cond.instanceMethod yX10_temperOf]
def wsX10_joins_r2 : List Cond := [Cond.selects RX10 yX10_temperOf yX10_temperOf, Cond.code yX10_temperOf cX10_temperOf 5 (some .int), Cond.methodLink RX10 142 yX10_has, Cond.static yX10_has, Cond.code yX10_has cX10_has 2 (some .boolean)]
def wsX10_joins : List Cond := .code yX10_joins cX10_joins 3 (some .int) :: ((wsX10_joins_r1 ++ wsX10_joins_r2) ++ wsX100)
def wsX10_joined_r1 : List Cond := [Cond.constant RX10 175 (-1000000001), Cond.constant RX10 193 (-1000000003), Cond.methodLink RX10 215 yX10_isGirl, Cond.instanceMethod yX10_isGirl, Cond.selects RX10 yX10_isGirl yX10_isGirl, Cond.initialized RX10, Cond.code yX10_isGirl cX10_isGirl 2 (some .boolean), Cond.fieldLink RX10 7 "DebtDowryModel" "town" "[I", Cond.methodLink RX10 139 yX10_isPerson, Cond.instanceMethod yX10_isPerson, Cond.selects RX10 yX10_isPerson yX10_isPerson, Cond.code yX10_isPerson cX10_isPerson 2 (some .boolean), Cond.methodLink RX10 65 yX10_in, Cond.static yX10_in, Cond.code yX10_in cX10_in 6 (some .boolean), Cond.methodLink RX10 142 yX10_has, Cond.static yX10_has, Cond.code yX10_has cX10_has 2 (some .boolean), Cond.methodLink RX10 182 yX10_isMan, Cond.instanceMethod yX10_isMan, Cond.selects RX10 yX10_isMan yX10_isMan, Cond.code yX10_isMan cX10_isMan 2 (some .boolean), Cond.methodLink RX10 218 yX10_areApart, Cond.instanceMethod yX10_areApart]
def wsX10_joined_r2 : List Cond := [Cond.selects RX10 yX10_areApart yX10_areApart, Cond.code yX10_areApart cX10_areApart 3 (some .boolean), Cond.fieldLink RX10 16 "DebtDowryModel" "now" "[I", Cond.methodLink RX10 245 yX10_joins, Cond.instanceMethod yX10_joins, Cond.selects RX10 yX10_joins yX10_joins, Cond.code yX10_joins cX10_joins 3 (some .int), Cond.fieldLink RX10 19 "DebtDowryModel" "aside" "[I", Cond.methodLink RX10 242 yX10_layAside, Cond.instanceMethod yX10_layAside, Cond.selects RX10 yX10_layAside yX10_layAside, Cond.code yX10_layAside cX10_layAside 1 none, Cond.methodLink RX10 57 yX10_copies, Cond.static yX10_copies, Cond.code yX10_copies cX10_copies 6 none, Cond.methodLink RX10 221 yX10_weds, Cond.instanceMethod yX10_weds, Cond.selects RX10 yX10_weds yX10_weds, Cond.code yX10_weds cX10_weds 5 none, Cond.methodLink RX10 150 yX10_lesser, Cond.static yX10_lesser, Cond.code yX10_lesser cX10_lesser 2 (some .int), Cond.methodLink RX10 179 yX10_standing, Cond.instanceMethod yX10_standing]
def wsX10_joined_r3 : List Cond := [Cond.selects RX10 yX10_standing yX10_standing, Cond.code yX10_standing cX10_standing 6 (some .int), Cond.methodLink RX10 146 yX10_temperOf, Cond.instanceMethod yX10_temperOf, Cond.selects RX10 yX10_temperOf yX10_temperOf, Cond.code yX10_temperOf cX10_temperOf 5 (some .int)]
def wsX10_joined : List Cond := .code yX10_joined cX10_joined 3 (some .int) :: ((wsX10_joined_r1 ++ (wsX10_joined_r2 ++ wsX10_joined_r3)) ++ wsX100)
def wsX10_takes : List Cond := .code yX10_takes cX10_takes 7 (some .int) :: ([.fieldLink RX10 7 "DebtDowryModel" "town" "[I", .fieldLink RX10 16 "DebtDowryModel" "now" "[I", .constant RX10 248 (1000000), .fieldLink RX10 19 "DebtDowryModel" "aside" "[I", .methodLink RX10 242 yX10_layAside, .instanceMethod yX10_layAside, .selects RX10 yX10_layAside yX10_layAside, .initialized RX10, .code yX10_layAside cX10_layAside 1 none, .methodLink RX10 57 yX10_copies, .static yX10_copies, .code yX10_copies cX10_copies 6 none, .methodLink RX10 142 yX10_has, .static yX10_has, .code yX10_has cX10_has 2 (some .boolean)] ++ wsX100)
def wsX10_least_r1 : List Cond := [Cond.constant RX10 175 (-1000000001), Cond.constantLong RX10 249 (36), Cond.constant RX10 80 (-1000000002), Cond.constant RX10 193 (-1000000003), Cond.constant RX10 248 (1000000), Cond.fieldLink RX10 7 "DebtDowryModel" "town" "[I", Cond.fieldLink RX10 19 "DebtDowryModel" "aside" "[I", Cond.methodLink RX10 139 yX10_isPerson, Cond.instanceMethod yX10_isPerson, Cond.selects RX10 yX10_isPerson yX10_isPerson, Cond.initialized RX10, Cond.code yX10_isPerson cX10_isPerson 2 (some .boolean), Cond.methodLink RX10 65 yX10_in, Cond.static yX10_in, Cond.code yX10_in cX10_in 6 (some .boolean), Cond.methodLink RX10 185 yX10_isWedMan, Cond.instanceMethod yX10_isWedMan, Cond.selects RX10 yX10_isWedMan yX10_isWedMan, Cond.code yX10_isWedMan cX10_isWedMan 2 (some .boolean), Cond.fieldLink RX10 16 "DebtDowryModel" "now" "[I", Cond.methodLink RX10 182 yX10_isMan, Cond.instanceMethod yX10_isMan, Cond.selects RX10 yX10_isMan yX10_isMan, Cond.code yX10_isMan cX10_isMan 2 (some .boolean)]
def wsX10_least_r2 : List Cond := [Cond.methodLink RX10 142 yX10_has, Cond.static yX10_has, Cond.code yX10_has cX10_has 2 (some .boolean), Cond.methodLink RX10 251 yX10_takes, Cond.instanceMethod yX10_takes, Cond.selects RX10 yX10_takes yX10_takes, Cond.code yX10_takes cX10_takes 7 (some .int), Cond.methodLink RX10 242 yX10_layAside, Cond.instanceMethod yX10_layAside, Cond.selects RX10 yX10_layAside yX10_layAside, Cond.code yX10_layAside cX10_layAside 1 none, Cond.methodLink RX10 57 yX10_copies, Cond.static yX10_copies, Cond.code yX10_copies cX10_copies 6 none, Cond.methodLink RX10 179 yX10_standing, Cond.instanceMethod yX10_standing, Cond.selects RX10 yX10_standing yX10_standing, Cond.code yX10_standing cX10_standing 6 (some .int), Cond.methodLink RX10 146 yX10_temperOf, Cond.instanceMethod yX10_temperOf, Cond.selects RX10 yX10_temperOf yX10_temperOf, Cond.code yX10_temperOf cX10_temperOf 5 (some .int)]
def wsX10_least : List Cond := .code yX10_least cX10_least 8 (some .int) :: ((wsX10_least_r1 ++ wsX10_least_r2) ++ wsX100)
def wsX10_paysBy : List Cond := .code yX10_paysBy cX10_paysBy 5 (some .int) :: ([.fieldLink RX10 7 "DebtDowryModel" "town" "[I", .fieldLink RX10 48 "DebtDowryModel" "paysThen" "[I", .constant RX10 248 (1000000), .methodLink RX10 154 yX10_grows, .instanceMethod yX10_grows, .selects RX10 yX10_grows yX10_grows, .initialized RX10, .code yX10_grows cX10_grows 2 (some .int), .methodLink RX10 150 yX10_lesser, .static yX10_lesser, .code yX10_lesser cX10_lesser 2 (some .int), .methodLink RX10 65 yX10_in, .static yX10_in, .code yX10_in cX10_in 6 (some .boolean)] ++ wsX100)
def wsX10_plan_r1 : List Cond := [Cond.constant RX10 175 (-1000000001), Cond.constantLong RX10 254 (8), Cond.constant RX10 80 (-1000000002), Cond.fieldLink RX10 16 "DebtDowryModel" "now" "[I", Cond.fieldLink RX10 48 "DebtDowryModel" "paysThen" "[I", Cond.constant RX10 248 (1000000), Cond.fieldLink RX10 45 "DebtDowryModel" "pays" "[I", Cond.constant RX10 260 (500000), Cond.methodLink RX10 139 yX10_isPerson, Cond.instanceMethod yX10_isPerson, Cond.selects RX10 yX10_isPerson yX10_isPerson, Cond.initialized RX10, Cond.code yX10_isPerson cX10_isPerson 2 (some .boolean), Cond.fieldLink RX10 7 "DebtDowryModel" "town" "[I", Cond.methodLink RX10 65 yX10_in, Cond.static yX10_in, Cond.code yX10_in cX10_in 6 (some .boolean), Cond.methodLink RX10 172 yX10_isCreditor, Cond.instanceMethod yX10_isCreditor, Cond.selects RX10 yX10_isCreditor yX10_isCreditor, Cond.code yX10_isCreditor cX10_isCreditor 2 (some .boolean), Cond.methodLink RX10 142 yX10_has, Cond.static yX10_has, Cond.code yX10_has cX10_has 2 (some .boolean)]
def wsX10_plan_r2 : List Cond := [Cond.methodLink RX10 256 yX10_paysBy, Cond.instanceMethod yX10_paysBy, Cond.selects RX10 yX10_paysBy yX10_paysBy, Cond.code yX10_paysBy cX10_paysBy 5 (some .int), Cond.methodLink RX10 154 yX10_grows, Cond.instanceMethod yX10_grows, Cond.selects RX10 yX10_grows yX10_grows, Cond.code yX10_grows cX10_grows 2 (some .int), Cond.methodLink RX10 150 yX10_lesser, Cond.static yX10_lesser, Cond.code yX10_lesser cX10_lesser 2 (some .int), Cond.methodLink RX10 57 yX10_copies, Cond.static yX10_copies, Cond.code yX10_copies cX10_copies 6 none]
def wsX10_plan : List Cond := .code yX10_plan cX10_plan 10 (some .int) :: ((wsX10_plan_r1 ++ wsX10_plan_r2) ++ wsX100)
def wsX10_makesPairs_r1 : List Cond := [Cond.fieldLink RX10 51 "DebtDowryModel" "mates" "[I", Cond.constant RX10 261 (-1000000), Cond.fieldLink RX10 7 "DebtDowryModel" "town" "[I", Cond.fieldLink RX10 16 "DebtDowryModel" "now" "[I", Cond.methodLink RX10 166 yX10_wedOnes, Cond.instanceMethod yX10_wedOnes, Cond.selects RX10 yX10_wedOnes yX10_wedOnes, Cond.initialized RX10, Cond.code yX10_wedOnes cX10_wedOnes 3 (some .int), Cond.methodLink RX10 215 yX10_isGirl, Cond.instanceMethod yX10_isGirl, Cond.selects RX10 yX10_isGirl yX10_isGirl, Cond.code yX10_isGirl cX10_isGirl 2 (some .boolean), Cond.methodLink RX10 139 yX10_isPerson, Cond.instanceMethod yX10_isPerson, Cond.selects RX10 yX10_isPerson yX10_isPerson, Cond.code yX10_isPerson cX10_isPerson 2 (some .boolean), Cond.methodLink RX10 65 yX10_in, Cond.static yX10_in, Cond.code yX10_in cX10_in 6 (some .boolean), Cond.methodLink RX10 142 yX10_has, Cond.static yX10_has, Cond.code yX10_has cX10_has 2 (some .boolean), Cond.methodLink RX10 182 yX10_isMan]
def wsX10_makesPairs_r2 : List Cond := [Cond.instanceMethod yX10_isMan, Cond.selects RX10 yX10_isMan yX10_isMan, Cond.code yX10_isMan cX10_isMan 2 (some .boolean), Cond.methodLink RX10 245 yX10_joins, Cond.instanceMethod yX10_joins, Cond.selects RX10 yX10_joins yX10_joins, Cond.code yX10_joins cX10_joins 3 (some .int), Cond.fieldLink RX10 19 "DebtDowryModel" "aside" "[I", Cond.methodLink RX10 242 yX10_layAside, Cond.instanceMethod yX10_layAside, Cond.selects RX10 yX10_layAside yX10_layAside, Cond.code yX10_layAside cX10_layAside 1 none, Cond.methodLink RX10 57 yX10_copies, Cond.static yX10_copies, Cond.code yX10_copies cX10_copies 6 none, Cond.methodLink RX10 221 yX10_weds, Cond.instanceMethod yX10_weds, Cond.selects RX10 yX10_weds yX10_weds, Cond.code yX10_weds cX10_weds 5 none, Cond.methodLink RX10 150 yX10_lesser, Cond.static yX10_lesser, Cond.code yX10_lesser cX10_lesser 2 (some .int), Cond.methodLink RX10 179 yX10_standing, Cond.instanceMethod yX10_standing]
def wsX10_makesPairs_r3 : List Cond := [Cond.selects RX10 yX10_standing yX10_standing, Cond.code yX10_standing cX10_standing 6 (some .int), Cond.methodLink RX10 146 yX10_temperOf, Cond.instanceMethod yX10_temperOf, Cond.selects RX10 yX10_temperOf yX10_temperOf, Cond.code yX10_temperOf cX10_temperOf 5 (some .int)]
def wsX10_makesPairs : List Cond := .code yX10_makesPairs cX10_makesPairs 11 (some .int) :: ((wsX10_makesPairs_r1 ++ (wsX10_makesPairs_r2 ++ wsX10_makesPairs_r3)) ++ wsX100)
def wsX10_matches_r1 : List Cond := [Cond.constant RX10 175 (-1000000001), Cond.fieldLink RX10 51 "DebtDowryModel" "mates" "[I", Cond.methodLink RX10 215 yX10_isGirl, Cond.instanceMethod yX10_isGirl, Cond.selects RX10 yX10_isGirl yX10_isGirl, Cond.initialized RX10, Cond.code yX10_isGirl cX10_isGirl 2 (some .boolean), Cond.fieldLink RX10 7 "DebtDowryModel" "town" "[I", Cond.methodLink RX10 139 yX10_isPerson, Cond.instanceMethod yX10_isPerson, Cond.selects RX10 yX10_isPerson yX10_isPerson, Cond.code yX10_isPerson cX10_isPerson 2 (some .boolean), Cond.methodLink RX10 65 yX10_in, Cond.static yX10_in, Cond.code yX10_in cX10_in 6 (some .boolean), Cond.methodLink RX10 142 yX10_has, Cond.static yX10_has, Cond.code yX10_has cX10_has 2 (some .boolean), Cond.methodLink RX10 262 yX10_makesPairs, Cond.instanceMethod yX10_makesPairs, Cond.selects RX10 yX10_makesPairs yX10_makesPairs, Cond.code yX10_makesPairs cX10_makesPairs 11 (some .int), Cond.constant RX10 261 (-1000000), Cond.fieldLink RX10 16 "DebtDowryModel" "now" "[I"]
def wsX10_matches_r2 : List Cond := [Cond.methodLink RX10 166 yX10_wedOnes, Cond.instanceMethod yX10_wedOnes, Cond.selects RX10 yX10_wedOnes yX10_wedOnes, Cond.code yX10_wedOnes cX10_wedOnes 3 (some .int), Cond.methodLink RX10 182 yX10_isMan, Cond.instanceMethod yX10_isMan, Cond.selects RX10 yX10_isMan yX10_isMan, Cond.code yX10_isMan cX10_isMan 2 (some .boolean), Cond.methodLink RX10 245 yX10_joins, Cond.instanceMethod yX10_joins, Cond.selects RX10 yX10_joins yX10_joins, Cond.code yX10_joins cX10_joins 3 (some .int), Cond.fieldLink RX10 19 "DebtDowryModel" "aside" "[I", Cond.methodLink RX10 242 yX10_layAside, Cond.instanceMethod yX10_layAside, Cond.selects RX10 yX10_layAside yX10_layAside, Cond.code yX10_layAside cX10_layAside 1 none, Cond.methodLink RX10 57 yX10_copies, Cond.static yX10_copies, Cond.code yX10_copies cX10_copies 6 none, Cond.methodLink RX10 221 yX10_weds, Cond.instanceMethod yX10_weds, Cond.selects RX10 yX10_weds yX10_weds, Cond.code yX10_weds cX10_weds 5 none]
def wsX10_matches_r3 : List Cond := [Cond.methodLink RX10 150 yX10_lesser, Cond.static yX10_lesser, Cond.code yX10_lesser cX10_lesser 2 (some .int), Cond.methodLink RX10 179 yX10_standing, Cond.instanceMethod yX10_standing, Cond.selects RX10 yX10_standing yX10_standing, Cond.code yX10_standing cX10_standing 6 (some .int), Cond.methodLink RX10 146 yX10_temperOf, Cond.instanceMethod yX10_temperOf, Cond.selects RX10 yX10_temperOf yX10_temperOf, Cond.code yX10_temperOf cX10_temperOf 5 (some .int)]
def wsX10_matches : List Cond := .code yX10_matches cX10_matches 3 (some .int) :: ((wsX10_matches_r1 ++ (wsX10_matches_r2 ++ wsX10_matches_r3)) ++ wsX100)
def wsX10_failing_r1 : List Cond := [Cond.fieldLink RX10 19 "DebtDowryModel" "aside" "[I", Cond.fieldLink RX10 16 "DebtDowryModel" "now" "[I", Cond.methodLink RX10 242 yX10_layAside, Cond.instanceMethod yX10_layAside, Cond.selects RX10 yX10_layAside yX10_layAside, Cond.initialized RX10, Cond.code yX10_layAside cX10_layAside 1 none, Cond.methodLink RX10 57 yX10_copies, Cond.static yX10_copies, Cond.code yX10_copies cX10_copies 6 none, Cond.methodLink RX10 208 yX10_quarterGoes, Cond.instanceMethod yX10_quarterGoes, Cond.selects RX10 yX10_quarterGoes yX10_quarterGoes, Cond.code yX10_quarterGoes cX10_quarterGoes 3 none, Cond.methodLink RX10 154 yX10_grows, Cond.instanceMethod yX10_grows, Cond.selects RX10 yX10_grows yX10_grows, Cond.code yX10_grows cX10_grows 2 (some .int), Cond.fieldLink RX10 7 "DebtDowryModel" "town" "[I", Cond.methodLink RX10 150 yX10_lesser, Cond.static yX10_lesser, Cond.code yX10_lesser cX10_lesser 2 (some .int), Cond.methodLink RX10 158 yX10_sours, Cond.instanceMethod yX10_sours]
def wsX10_failing_r2 : List Cond := [Cond.selects RX10 yX10_sours yX10_sours, Cond.code yX10_sours cX10_sours 6 (some .int), Cond.methodLink RX10 146 yX10_temperOf, Cond.instanceMethod yX10_temperOf, Cond.selects RX10 yX10_temperOf yX10_temperOf, Cond.code yX10_temperOf cX10_temperOf 5 (some .int), Cond.methodLink RX10 142 yX10_has, Cond.static yX10_has, Cond.code yX10_has cX10_has 2 (some .boolean)]
def wsX10_failing : List Cond := .code yX10_failing cX10_failing 1 (some .int) :: ((wsX10_failing_r1 ++ wsX10_failing_r2) ++ wsX100)
def wsX10_run_r1 : List Cond := [Cond.constantLong RX10 203 (20), Cond.constant RX10 80 (-1000000002), Cond.fieldLink RX10 19 "DebtDowryModel" "aside" "[I", Cond.methodLink RX10 65 yX10_in, Cond.static yX10_in, Cond.initialized RX10, Cond.code yX10_in cX10_in 6 (some .boolean), Cond.methodLink RX10 242 yX10_layAside, Cond.instanceMethod yX10_layAside, Cond.selects RX10 yX10_layAside yX10_layAside, Cond.code yX10_layAside cX10_layAside 1 none, Cond.fieldLink RX10 16 "DebtDowryModel" "now" "[I", Cond.methodLink RX10 57 yX10_copies, Cond.static yX10_copies, Cond.code yX10_copies cX10_copies 6 none, Cond.methodLink RX10 208 yX10_quarterGoes, Cond.instanceMethod yX10_quarterGoes, Cond.selects RX10 yX10_quarterGoes yX10_quarterGoes, Cond.code yX10_quarterGoes cX10_quarterGoes 3 none, Cond.methodLink RX10 154 yX10_grows, Cond.instanceMethod yX10_grows, Cond.selects RX10 yX10_grows yX10_grows, Cond.code yX10_grows cX10_grows 2 (some .int), Cond.fieldLink RX10 7 "DebtDowryModel" "town" "[I"]
def wsX10_run_r2 : List Cond := [Cond.methodLink RX10 150 yX10_lesser, Cond.static yX10_lesser, Cond.code yX10_lesser cX10_lesser 2 (some .int), Cond.methodLink RX10 158 yX10_sours, Cond.instanceMethod yX10_sours, Cond.selects RX10 yX10_sours yX10_sours, Cond.code yX10_sours cX10_sours 6 (some .int), Cond.methodLink RX10 146 yX10_temperOf, Cond.instanceMethod yX10_temperOf, Cond.selects RX10 yX10_temperOf yX10_temperOf, Cond.code yX10_temperOf cX10_temperOf 5 (some .int), Cond.methodLink RX10 142 yX10_has, Cond.static yX10_has, Cond.code yX10_has cX10_has 2 (some .boolean)]
def wsX10_run : List Cond := .code yX10_run cX10_run 3 (some .int) :: ((wsX10_run_r1 ++ wsX10_run_r2) ++ wsX100)
def wsX10_credit_r1 : List Cond := [Cond.constant RX10 175 (-1000000001), Cond.fieldLink RX10 19 "DebtDowryModel" "aside" "[I", Cond.methodLink RX10 139 yX10_isPerson, Cond.instanceMethod yX10_isPerson, Cond.selects RX10 yX10_isPerson yX10_isPerson, Cond.initialized RX10, Cond.code yX10_isPerson cX10_isPerson 2 (some .boolean), Cond.fieldLink RX10 7 "DebtDowryModel" "town" "[I", Cond.methodLink RX10 65 yX10_in, Cond.static yX10_in, Cond.code yX10_in cX10_in 6 (some .boolean), Cond.methodLink RX10 172 yX10_isCreditor, Cond.instanceMethod yX10_isCreditor, Cond.selects RX10 yX10_isCreditor yX10_isCreditor, Cond.code yX10_isCreditor cX10_isCreditor 2 (some .boolean), Cond.methodLink RX10 190 yX10_mayBorrow, Cond.instanceMethod yX10_mayBorrow, Cond.selects RX10 yX10_mayBorrow yX10_mayBorrow, Cond.code yX10_mayBorrow cX10_mayBorrow 4 (some .boolean), Cond.fieldLink RX10 16 "DebtDowryModel" "now" "[I", Cond.methodLink RX10 185 yX10_isWedMan, Cond.instanceMethod yX10_isWedMan, Cond.selects RX10 yX10_isWedMan yX10_isWedMan, Cond.code yX10_isWedMan cX10_isWedMan 2 (some .boolean)]
def wsX10_credit_r2 : List Cond := [Cond.methodLink RX10 182 yX10_isMan, Cond.instanceMethod yX10_isMan, Cond.selects RX10 yX10_isMan yX10_isMan, Cond.code yX10_isMan cX10_isMan 2 (some .boolean), Cond.methodLink RX10 142 yX10_has, Cond.static yX10_has, Cond.code yX10_has cX10_has 2 (some .boolean), Cond.methodLink RX10 242 yX10_layAside, Cond.instanceMethod yX10_layAside, Cond.selects RX10 yX10_layAside yX10_layAside, Cond.code yX10_layAside cX10_layAside 1 none, Cond.methodLink RX10 57 yX10_copies, Cond.static yX10_copies, Cond.code yX10_copies cX10_copies 6 none, Cond.methodLink RX10 146 yX10_temperOf, Cond.instanceMethod yX10_temperOf, Cond.selects RX10 yX10_temperOf yX10_temperOf, Cond.code yX10_temperOf cX10_temperOf 5 (some .int)]
def wsX10_credit : List Cond := .code yX10_credit cX10_credit 4 (some .int) :: ((wsX10_credit_r1 ++ wsX10_credit_r2) ++ wsX100)
def wsX10_rumours : List Cond := .code yX10_rumours cX10_rumours 6 (some .int) :: ([.constantLong RX10 265 (60), .constantLong RX10 267 (100), .constant RX10 80 (-1000000002), .constantLong RX10 269 (1000000000), .methodLink RX10 65 yX10_in, .static yX10_in, .initialized RX10, .code yX10_in cX10_in 6 (some .boolean)])
def wsX10_card : List Cond := .code yX10_card cX10_card 6 (some .int) :: ([.constant RX10 175 (-1000000001), .constantLong RX10 271 (12), .constant RX10 80 (-1000000002), .fieldLink RX10 72 "DebtDowryModel" "cardMany" "I", .constant RX10 84 (-1000000004), .fieldLink RX10 39 "DebtDowryModel" "cards" "[I", .methodLink RX10 139 yX10_isPerson, .instanceMethod yX10_isPerson, .selects RX10 yX10_isPerson yX10_isPerson, .initialized RX10, .code yX10_isPerson cX10_isPerson 2 (some .boolean), .fieldLink RX10 7 "DebtDowryModel" "town" "[I", .methodLink RX10 65 yX10_in, .static yX10_in, .code yX10_in cX10_in 6 (some .boolean), .methodLink RX10 172 yX10_isCreditor, .instanceMethod yX10_isCreditor, .selects RX10 yX10_isCreditor yX10_isCreditor, .code yX10_isCreditor cX10_isCreditor 2 (some .boolean)] ++ wsX100)
def wsX10_isCivil : List Cond := .code yX10_isCivil cX10_isCivil 6 (some .boolean) :: ([.fieldLink RX10 7 "DebtDowryModel" "town" "[I", .methodLink RX10 154 yX10_grows, .instanceMethod yX10_grows, .selects RX10 yX10_grows yX10_grows, .initialized RX10, .code yX10_grows cX10_grows 2 (some .int), .methodLink RX10 150 yX10_lesser, .static yX10_lesser, .code yX10_lesser cX10_lesser 2 (some .int), .methodLink RX10 65 yX10_in, .static yX10_in, .code yX10_in cX10_in 6 (some .boolean)] ++ wsX100)
def wsX10_couldBe : List Cond := .code yX10_couldBe cX10_couldBe 6 (some .boolean) :: ([.fieldLink RX10 72 "DebtDowryModel" "cardMany" "I", .fieldLink RX10 39 "DebtDowryModel" "cards" "[I", .methodLink RX10 273 yX10_isCivil, .instanceMethod yX10_isCivil, .selects RX10 yX10_isCivil yX10_isCivil, .initialized RX10, .code yX10_isCivil cX10_isCivil 6 (some .boolean), .fieldLink RX10 7 "DebtDowryModel" "town" "[I", .methodLink RX10 154 yX10_grows, .instanceMethod yX10_grows, .selects RX10 yX10_grows yX10_grows, .code yX10_grows cX10_grows 2 (some .int), .methodLink RX10 150 yX10_lesser, .static yX10_lesser, .code yX10_lesser cX10_lesser 2 (some .int), .methodLink RX10 65 yX10_in, .static yX10_in, .code yX10_in cX10_in 6 (some .boolean)] ++ wsX100)
def wsX10_had_r1 : List Cond := [Cond.constant RX10 175 (-1000000001), Cond.constantLong RX10 276 (2), Cond.constant RX10 80 (-1000000002), Cond.methodLink RX10 139 yX10_isPerson, Cond.instanceMethod yX10_isPerson, Cond.selects RX10 yX10_isPerson yX10_isPerson, Cond.initialized RX10, Cond.code yX10_isPerson cX10_isPerson 2 (some .boolean), Cond.fieldLink RX10 7 "DebtDowryModel" "town" "[I", Cond.methodLink RX10 65 yX10_in, Cond.static yX10_in, Cond.code yX10_in cX10_in 6 (some .boolean), Cond.methodLink RX10 172 yX10_isCreditor, Cond.instanceMethod yX10_isCreditor, Cond.selects RX10 yX10_isCreditor yX10_isCreditor, Cond.code yX10_isCreditor cX10_isCreditor 2 (some .boolean), Cond.methodLink RX10 278 yX10_couldBe, Cond.instanceMethod yX10_couldBe, Cond.selects RX10 yX10_couldBe yX10_couldBe, Cond.code yX10_couldBe cX10_couldBe 6 (some .boolean), Cond.fieldLink RX10 72 "DebtDowryModel" "cardMany" "I", Cond.fieldLink RX10 39 "DebtDowryModel" "cards" "[I", Cond.methodLink RX10 273 yX10_isCivil, Cond.instanceMethod yX10_isCivil]
def wsX10_had_r2 : List Cond := [Cond.selects RX10 yX10_isCivil yX10_isCivil, Cond.code yX10_isCivil cX10_isCivil 6 (some .boolean), Cond.methodLink RX10 154 yX10_grows, Cond.instanceMethod yX10_grows, Cond.selects RX10 yX10_grows yX10_grows, Cond.code yX10_grows cX10_grows 2 (some .int), Cond.methodLink RX10 150 yX10_lesser, Cond.static yX10_lesser, Cond.code yX10_lesser cX10_lesser 2 (some .int)]
def wsX10_had : List Cond := .code yX10_had cX10_had 8 (some .int) :: ((wsX10_had_r1 ++ wsX10_had_r2) ++ wsX100)
def wsX10_lookAt_r1 : List Cond := [Cond.constant RX10 175 (-1000000001), Cond.methodLink RX10 139 yX10_isPerson, Cond.instanceMethod yX10_isPerson, Cond.selects RX10 yX10_isPerson yX10_isPerson, Cond.initialized RX10, Cond.code yX10_isPerson cX10_isPerson 2 (some .boolean), Cond.fieldLink RX10 7 "DebtDowryModel" "town" "[I", Cond.methodLink RX10 65 yX10_in, Cond.static yX10_in, Cond.code yX10_in cX10_in 6 (some .boolean), Cond.methodLink RX10 172 yX10_isCreditor, Cond.instanceMethod yX10_isCreditor, Cond.selects RX10 yX10_isCreditor yX10_isCreditor, Cond.code yX10_isCreditor cX10_isCreditor 2 (some .boolean), Cond.methodLink RX10 281 yX10_had, Cond.instanceMethod yX10_had, Cond.selects RX10 yX10_had yX10_had, Cond.code yX10_had cX10_had 8 (some .int), Cond.constantLong RX10 276 (2), Cond.constant RX10 80 (-1000000002), Cond.methodLink RX10 278 yX10_couldBe, Cond.instanceMethod yX10_couldBe, Cond.selects RX10 yX10_couldBe yX10_couldBe, Cond.code yX10_couldBe cX10_couldBe 6 (some .boolean)]
def wsX10_lookAt_r2 : List Cond := [Cond.fieldLink RX10 72 "DebtDowryModel" "cardMany" "I", Cond.fieldLink RX10 39 "DebtDowryModel" "cards" "[I", Cond.methodLink RX10 273 yX10_isCivil, Cond.instanceMethod yX10_isCivil, Cond.selects RX10 yX10_isCivil yX10_isCivil, Cond.code yX10_isCivil cX10_isCivil 6 (some .boolean), Cond.methodLink RX10 154 yX10_grows, Cond.instanceMethod yX10_grows, Cond.selects RX10 yX10_grows yX10_grows, Cond.code yX10_grows cX10_grows 2 (some .int), Cond.methodLink RX10 150 yX10_lesser, Cond.static yX10_lesser, Cond.code yX10_lesser cX10_lesser 2 (some .int)]
def wsX10_lookAt : List Cond := .code yX10_lookAt cX10_lookAt 9 (some .int) :: ((wsX10_lookAt_r1 ++ wsX10_lookAt_r2) ++ wsX100)
def wsX10_write : List Cond := .code yX10_write cX10_write 3 (some .int) :: ([.constant RX10 175 (-1000000001), .constantLong RX10 284 (-9), .constantLong RX10 286 (99), .constant RX10 80 (-1000000002), .fieldLink RX10 75 "DebtDowryModel" "bookMany" "I", .constant RX10 84 (-1000000004), .fieldLink RX10 42 "DebtDowryModel" "book" "[I", .methodLink RX10 139 yX10_isPerson, .instanceMethod yX10_isPerson, .selects RX10 yX10_isPerson yX10_isPerson, .initialized RX10, .code yX10_isPerson cX10_isPerson 2 (some .boolean), .fieldLink RX10 7 "DebtDowryModel" "town" "[I", .methodLink RX10 65 yX10_in, .static yX10_in, .code yX10_in cX10_in 6 (some .boolean)] ++ wsX100)
def wsX10_judge : List Cond := .code yX10_judge cX10_judge 2 (some .int) :: ([.fieldLink RX10 75 "DebtDowryModel" "bookMany" "I", .fieldLink RX10 16 "DebtDowryModel" "now" "[I", .fieldLink RX10 42 "DebtDowryModel" "book" "[I", .methodLink RX10 179 yX10_standing, .instanceMethod yX10_standing, .selects RX10 yX10_standing yX10_standing, .initialized RX10, .code yX10_standing cX10_standing 6 (some .int), .fieldLink RX10 7 "DebtDowryModel" "town" "[I", .methodLink RX10 146 yX10_temperOf, .instanceMethod yX10_temperOf, .selects RX10 yX10_temperOf yX10_temperOf, .code yX10_temperOf cX10_temperOf 5 (some .int), .methodLink RX10 142 yX10_has, .static yX10_has, .code yX10_has cX10_has 2 (some .boolean)] ++ wsX100)
def wsX10_tear : List Cond := .code yX10_tear cX10_tear 2 (some .int) :: ([.fieldLink RX10 72 "DebtDowryModel" "cardMany" "I", .fieldLink RX10 75 "DebtDowryModel" "bookMany" "I"] ++ wsX100)
def wsX10_seed : List Cond := .code yX10_seed cX10_seed 3 (some .int) :: ([.constant RX10 80 (-1000000002), .fieldLink RX10 225 "DebtDowryModel" "seed" "J"] ++ wsX100)
def wsX10_keep : List Cond := .code yX10_keep cX10_keep 2 (some .int) :: ([.constant RX10 175 (-1000000001), .fieldLink RX10 16 "DebtDowryModel" "now" "[I", .fieldLink RX10 25 "DebtDowryModel" "images" "[I", .fieldLink RX10 225 "DebtDowryModel" "seed" "J", .fieldLink RX10 28 "DebtDowryModel" "kept" "[Z", .fieldLink RX10 69 "DebtDowryModel" "undos" "I", .methodLink RX10 65 yX10_in, .static yX10_in, .initialized RX10, .code yX10_in cX10_in 6 (some .boolean), .methodLink RX10 57 yX10_copies, .static yX10_copies, .code yX10_copies cX10_copies 6 none] ++ wsX100)
def wsX10_goBack : List Cond := .code yX10_goBack cX10_goBack 2 (some .int) :: ([.constant RX10 175 (-1000000001), .fieldLink RX10 28 "DebtDowryModel" "kept" "[Z", .constant RX10 193 (-1000000003), .fieldLink RX10 25 "DebtDowryModel" "images" "[I", .fieldLink RX10 16 "DebtDowryModel" "now" "[I", .fieldLink RX10 225 "DebtDowryModel" "seed" "J", .fieldLink RX10 69 "DebtDowryModel" "undos" "I", .methodLink RX10 65 yX10_in, .static yX10_in, .initialized RX10, .code yX10_in cX10_in 6 (some .boolean), .methodLink RX10 57 yX10_copies, .static yX10_copies, .code yX10_copies cX10_copies 6 none] ++ wsX100)
def wsJ9_max_7cf53 : List Cond := .code yJ9_max_7cf53 cJ9_max_7cf53 2 (some .int) :: ([])
def wsJ9_min_7cf53 : List Cond := .code yJ9_min_7cf53 cJ9_min_7cf53 2 (some .int) :: ([])
def wsL_law_r1 : List Cond := [Cond.classLink RL 7 RX9, Cond.instantiable RX9 11, Cond.initialized RX9, Cond.classLink RL 10 RX10, Cond.instantiable RX10 25, Cond.initialized RX10, Cond.methodLink RL 9 yX9_init, Cond.instanceMethod yX9_init, Cond.code yX9_init cX9_init 2 none, Cond.methodLink RX9 1 objectInit, Cond.instanceMethod objectInit, Cond.code objectInit ⟨#[0xb1]⟩ 1 none, Cond.classLink RX9 7 RX6, Cond.instantiable RX6 8, Cond.initialized RX6, Cond.fieldLink RX9 10 "DebtDowry" "reader" "LDebtDowry$Reader;", Cond.classLink RX9 16 RX8, Cond.instantiable RX8 9, Cond.initialized RX8, Cond.fieldLink RX9 19 "DebtDowry" "terms" "LDebtDowry$Terms;", Cond.classLink RX9 23 RX7, Cond.instantiable RX7 7, Cond.initialized RX7, Cond.fieldLink RX9 28 "DebtDowry" "now" "LDebtDowry$State;"]
def wsL_law_r2 : List Cond := [Cond.fieldLink RX9 32 "DebtDowry" "tried" "LDebtDowry$State;", Cond.classLink RX9 35 RX2, Cond.instantiable RX2 3, Cond.initialized RX2, Cond.fieldLink RX9 38 "DebtDowry" "history" "LDebtDowry$History;", Cond.classLink RX9 42 RX4, Cond.instantiable RX4 1, Cond.initialized RX4, Cond.fieldLink RX9 45 "DebtDowry" "matcher" "LDebtDowry$Matcher;", Cond.classLink RX9 49 RX5, Cond.instantiable RX5 3, Cond.initialized RX5, Cond.fieldLink RX9 52 "DebtDowry" "planner" "LDebtDowry$Planner;", Cond.classLink RX9 56 RX1, Cond.instantiable RX1 7, Cond.initialized RX1, Cond.fieldLink RX9 59 "DebtDowry" "cards" "LDebtDowry$Cards;", Cond.classLink RX9 63 RX0, Cond.instantiable RX0 3, Cond.initialized RX0, Cond.fieldLink RX9 66 "DebtDowry" "book" "LDebtDowry$Book;", Cond.classLink RX9 70 RX3, Cond.fieldLink RX9 72 "DebtDowry" "images" "[LDebtDowry$Image;", Cond.instantiable RX3 3]
def wsL_law_r3 : List Cond := [Cond.initialized RX3, Cond.fieldLink RX9 77 "DebtDowry" "luck" "I", Cond.instanceMethod yX6_init, Cond.code yX6_init cX6_init 1 none, Cond.methodLink RX6 3 objectInit, Cond.classLink RX6 9 RX8, Cond.fieldLink RX6 12 "DebtDowry$Reader" "terms" "LDebtDowry$Terms;", Cond.classLink RX6 18 RX7, Cond.fieldLink RX6 23 "DebtDowry$Reader" "state" "LDebtDowry$State;", Cond.arrayClass .int, Cond.fieldLink RX6 27 "DebtDowry$Reader" "letters" "[I", Cond.fieldLink RX6 31 "DebtDowry$Reader" "faultAt" "I", Cond.instanceMethod yX8_init, Cond.code yX8_init cX8_init 1 none, Cond.methodLink RX8 3 objectInit, Cond.fieldLink RX8 9 "DebtDowry$Terms" "low" "[I", Cond.fieldLink RX8 15 "DebtDowry$Terms" "high" "[I", Cond.fieldLink RX8 18 "DebtDowry$Terms" "great" "[I", Cond.methodLink RX6 20 yX7_init, Cond.instanceMethod yX7_init, Cond.code yX7_init cX7_init 2 none, Cond.methodLink RX7 3 objectInit, Cond.fieldLink RX7 9 "DebtDowry$State" "owed" "[I", Cond.fieldLink RX7 15 "DebtDowry$State" "purse" "[I"]
def wsL_law_r4 : List Cond := [Cond.fieldLink RX7 18 "DebtDowry$State" "insults" "[I", Cond.fieldLink RX7 21 "DebtDowry$State" "spouse" "[I", Cond.fieldLink RX7 24 "DebtDowry$State" "terms" "LDebtDowry$Terms;", Cond.methodLink RX9 25 yX7_init, Cond.methodLink RX9 37 yX2_init, Cond.instanceMethod yX2_init, Cond.code yX2_init cX2_init 3 none, Cond.methodLink RX2 3 objectInit, Cond.classLink RX2 9 RX7, Cond.fieldLink RX2 11 "DebtDowry$History" "ring" "[LDebtDowry$State;", Cond.methodLink RX2 17 yX7_init, Cond.instanceMethod yX4_init, Cond.code yX4_init cX4_init 1 none, Cond.methodLink RX4 3 objectInit, Cond.fieldLink RX4 9 "DebtDowry$Matcher" "manOf" "[I", Cond.instanceMethod yX5_init, Cond.code yX5_init cX5_init 1 none, Cond.methodLink RX5 3 objectInit, Cond.fieldLink RX5 9 "DebtDowry$Planner" "cost" "[I", Cond.instanceMethod yX1_init, Cond.code yX1_init cX1_init 1 none, Cond.methodLink RX1 3 objectInit, Cond.fieldLink RX1 9 "DebtDowry$Cards" "person" "[I", Cond.fieldLink RX1 15 "DebtDowry$Cards" "creditor" "[I"]
def wsL_law_r5 : List Cond := [Cond.fieldLink RX1 18 "DebtDowry$Cards" "quarters" "[I", Cond.arrayClass .boolean, Cond.fieldLink RX1 21 "DebtDowry$Cards" "civil" "[Z", Cond.fieldLink RX1 25 "DebtDowry$Cards" "sums" "[I", Cond.instanceMethod yX0_init, Cond.code yX0_init cX0_init 1 none, Cond.methodLink RX0 3 objectInit, Cond.fieldLink RX0 9 "DebtDowry$Book" "person" "[I", Cond.fieldLink RX0 15 "DebtDowry$Book" "standing" "[I", Cond.methodLink RX9 76 yX3_init, Cond.instanceMethod yX3_init, Cond.code yX3_init cX3_init 2 none, Cond.methodLink RX3 1 objectInit, Cond.classLink RX3 7 RX7, Cond.fieldLink RX3 12 "DebtDowry$Image" "state" "LDebtDowry$State;", Cond.methodLink RX3 9 yX7_init, Cond.methodLink RL 12 yX10_init, Cond.instanceMethod yX10_init, Cond.code yX10_init cX10_init 1 none, Cond.methodLink RX10 1 objectInit, Cond.fieldLink RX10 7 "DebtDowryModel" "town" "[I", Cond.fieldLink RX10 13 "DebtDowryModel" "read" "[I", Cond.fieldLink RX10 16 "DebtDowryModel" "now" "[I", Cond.fieldLink RX10 19 "DebtDowryModel" "aside" "[I"]
def wsL_law_r6 : List Cond := [Cond.fieldLink RX10 22 "DebtDowryModel" "past" "[I", Cond.fieldLink RX10 25 "DebtDowryModel" "images" "[I", Cond.fieldLink RX10 28 "DebtDowryModel" "kept" "[Z", Cond.fieldLink RX10 32 "DebtDowryModel" "text" "[I", Cond.fieldLink RX10 35 "DebtDowryModel" "fault" "I", Cond.fieldLink RX10 39 "DebtDowryModel" "cards" "[I", Cond.fieldLink RX10 42 "DebtDowryModel" "book" "[I", Cond.fieldLink RX10 45 "DebtDowryModel" "pays" "[I", Cond.fieldLink RX10 48 "DebtDowryModel" "paysThen" "[I", Cond.fieldLink RX10 51 "DebtDowryModel" "mates" "[I", Cond.methodLink RX10 54 yX10_begins, Cond.instanceMethod yX10_begins, Cond.selects RX10 yX10_begins yX10_begins, Cond.code yX10_begins cX10_begins 2 none, Cond.constantLong RX10 61 (44), Cond.constantLong RX10 63 (51), Cond.fieldLink RX10 69 "DebtDowryModel" "undos" "I", Cond.fieldLink RX10 72 "DebtDowryModel" "cardMany" "I", Cond.fieldLink RX10 75 "DebtDowryModel" "bookMany" "I", Cond.methodLink RX10 57 yX10_copies, Cond.static yX10_copies, Cond.code yX10_copies cX10_copies 6 none, Cond.methodLink RX10 65 yX10_in, Cond.static yX10_in]
def wsL_law_r7 : List Cond := [Cond.code yX10_in cX10_in 6 (some .boolean), Cond.methodLink RL 13 yX9_feed, Cond.instanceMethod yX9_feed, Cond.selects RX9 yX9_feed yX9_feed, Cond.code yX9_feed cX9_feed 2 (some .int), Cond.constant RX9 81 (-1000000002), Cond.fieldLink RX9 86 "DebtDowry$Reader" "length" "I", Cond.constant RX9 89 (-1000000004), Cond.methodLink RX9 82 yX6_add, Cond.instanceMethod yX6_add, Cond.selects RX6 yX6_add yX6_add, Cond.code yX6_add cX6_add 2 (some .boolean), Cond.fieldLink RX6 35 "DebtDowry$Reader" "length" "I", Cond.methodLink RL 17 yX10_feed, Cond.instanceMethod yX10_feed, Cond.selects RX10 yX10_feed yX10_feed, Cond.code yX10_feed cX10_feed 2 (some .int), Cond.constantLong RX10 78 (255), Cond.constant RX10 80 (-1000000002), Cond.fieldLink RX10 81 "DebtDowryModel" "size" "I", Cond.constant RX10 84 (-1000000004), Cond.methodLink RL 18 yX9_town, Cond.instanceMethod yX9_town, Cond.selects RX9 yX9_town yX9_town]
def wsL_law_r8 : List Cond := [Cond.code yX9_town cX9_town 2 (some .int), Cond.fieldLink RX9 93 "DebtDowry$Reader" "faultKind" "I", Cond.fieldLink RX9 96 "DebtDowry$Reader" "terms" "LDebtDowry$Terms;", Cond.fieldLink RX9 100 "DebtDowry$Reader" "state" "LDebtDowry$State;", Cond.fieldLink RX9 109 "DebtDowry$Cards" "count" "I", Cond.fieldLink RX9 112 "DebtDowry$Book" "count" "I", Cond.fieldLink RX9 113 "DebtDowry$Image" "kept" "Z", Cond.fieldLink RX9 117 "DebtDowry$Terms" "persons" "I", Cond.methodLink RX9 90 yX6_readAll, Cond.instanceMethod yX6_readAll, Cond.selects RX6 yX6_readAll yX6_readAll, Cond.code yX6_readAll cX6_readAll 1 none, Cond.fieldLink RX6 42 "DebtDowry$Reader" "faultKind" "I", Cond.fieldLink RX6 45 "DebtDowry$Reader" "at" "I", Cond.fieldLink RX6 52 "DebtDowry$Terms" "there" "Z", Cond.methodLink RX6 38 yX8_clear, Cond.instanceMethod yX8_clear, Cond.selects RX8 yX8_clear yX8_clear, Cond.code yX8_clear cX8_clear 1 none, Cond.fieldLink RX8 21 "DebtDowry$Terms" "there" "Z", Cond.fieldLink RX8 25 "DebtDowry$Terms" "interest" "I", Cond.fieldLink RX8 29 "DebtDowry$Terms" "mildness" "I", Cond.fieldLink RX8 32 "DebtDowry$Terms" "creditors" "I", Cond.fieldLink RX8 35 "DebtDowry$Terms" "persons" "I"]
def wsL_law_r9 : List Cond := [Cond.fieldLink RX8 38 "DebtDowry$Terms" "girls" "I", Cond.methodLink RX6 41 yX7_clear, Cond.instanceMethod yX7_clear, Cond.selects RX7 yX7_clear yX7_clear, Cond.code yX7_clear cX7_clear 2 none, Cond.fieldLink RX7 28 "DebtDowry$State" "failed" "I", Cond.fieldLink RX7 32 "DebtDowry$State" "quarters" "I", Cond.methodLink RX6 48 yX6_nextSign, Cond.instanceMethod yX6_nextSign, Cond.selects RX6 yX6_nextSign yX6_nextSign, Cond.code yX6_nextSign cX6_nextSign 1 (some .int), Cond.methodLink RX6 56 yX6_readInterest, Cond.instanceMethod yX6_readInterest, Cond.selects RX6 yX6_readInterest yX6_readInterest, Cond.code yX6_readInterest cX6_readInterest 1 none, Cond.fieldLink RX6 70 "DebtDowry$Terms" "interest" "I", Cond.fieldLink RX6 73 "DebtDowry$Terms" "mildness" "I", Cond.methodLink RX6 62 yX6_blame, Cond.instanceMethod yX6_blame, Cond.selects RX6 yX6_blame yX6_blame, Cond.code yX6_blame cX6_blame 3 none, Cond.methodLink RX6 66 yX6_readNumber, Cond.instanceMethod yX6_readNumber, Cond.selects RX6 yX6_readNumber yX6_readNumber]
def wsL_law_r10 : List Cond := [Cond.code yX6_readNumber cX6_readNumber 5 (some .int), Cond.fieldLink RX6 105 "DebtDowry$Reader" "numberAt" "I", Cond.methodLink RX6 118 yX6_isFigure, Cond.static yX6_isFigure, Cond.code yX6_isFigure cX6_isFigure 1 (some .boolean), Cond.methodLink RX6 76 yX6_readSign, Cond.instanceMethod yX6_readSign, Cond.selects RX6 yX6_readSign yX6_readSign, Cond.code yX6_readSign cX6_readSign 2 none, Cond.methodLink RX6 59 yX6_readOthers, Cond.instanceMethod yX6_readOthers, Cond.selects RX6 yX6_readOthers yX6_readOthers, Cond.code yX6_readOthers cX6_readOthers 3 none, Cond.methodLink RX6 80 yX6_readClause, Cond.instanceMethod yX6_readClause, Cond.selects RX6 yX6_readClause yX6_readClause, Cond.code yX6_readClause cX6_readClause 2 none, Cond.methodLink RX6 83 yX6_readCreditor, Cond.instanceMethod yX6_readCreditor, Cond.selects RX6 yX6_readCreditor yX6_readCreditor, Cond.code yX6_readCreditor cX6_readCreditor 2 none, Cond.fieldLink RX6 90 "DebtDowry$Terms" "creditors" "I", Cond.fieldLink RX6 93 "DebtDowry$Terms" "persons" "I", Cond.fieldLink RX6 96 "DebtDowry$State" "purse" "[I"]
def wsL_law_r11 : List Cond := [Cond.fieldLink RX6 99 "DebtDowry$Terms" "low" "[I", Cond.fieldLink RX6 102 "DebtDowry$Terms" "high" "[I", Cond.fieldLink RX6 108 "DebtDowry$Terms" "great" "[I", Cond.methodLink RX6 86 yX6_readPerson, Cond.instanceMethod yX6_readPerson, Cond.selects RX6 yX6_readPerson yX6_readPerson, Cond.code yX6_readPerson cX6_readPerson 4 none, Cond.fieldLink RX6 115 "DebtDowry$Terms" "girls" "I", Cond.methodLink RX6 111 yX7_setOwed, Cond.instanceMethod yX7_setOwed, Cond.selects RX7 yX7_setOwed yX7_setOwed, Cond.code yX7_setOwed cX7_setOwed 4 none, Cond.methodLink RX7 41 Lib.Math.min.name, Cond.static Lib.Math.min.name, Cond.initialized "java/lang/Math", Cond.code Lib.Math.min.name Lib.Math.min.code 2 (some .int), Cond.methodLink RX9 97 yX8_take, Cond.instanceMethod yX8_take, Cond.selects RX8 yX8_take yX8_take, Cond.code yX8_take cX8_take 2 none, Cond.methodLink RX8 41 arraycopyName, Cond.native arraycopyName, Cond.static arraycopyName, Cond.initialized "java/lang/System"]
def wsL_law_r12 : List Cond := [Cond.methodLink RX9 103 yX7_take, Cond.instanceMethod yX7_take, Cond.selects RX7 yX7_take yX7_take, Cond.code yX7_take cX7_take 2 none, Cond.methodLink RX7 35 arraycopyName, Cond.methodLink RX9 106 yX2_forget, Cond.instanceMethod yX2_forget, Cond.selects RX2 yX2_forget yX2_forget, Cond.code yX2_forget cX2_forget 1 none, Cond.fieldLink RX2 20 "DebtDowry$History" "count" "I", Cond.methodLink RL 22 yX10_town, Cond.instanceMethod yX10_town, Cond.selects RX10 yX10_town yX10_town, Cond.code yX10_town cX10_town 2 (some .int), Cond.fieldLink RX10 85 "DebtDowryModel" "at" "I", Cond.fieldLink RX10 95 "DebtDowryModel" "sign" "I", Cond.fieldLink RX10 92 "DebtDowryModel" "begin" "I", Cond.fieldLink RX10 108 "DebtDowryModel" "wrong" "I", Cond.methodLink RX10 111 yX10_step, Cond.instanceMethod yX10_step, Cond.selects RX10 yX10_step yX10_step, Cond.code yX10_step cX10_step 1 none, Cond.fieldLink RX10 98 "DebtDowryModel" "figures" "I", Cond.fieldLink RX10 101 "DebtDowryModel" "value" "I"]
def wsL_law_r13 : List Cond := [Cond.constantLong RX10 104 (48), Cond.constantLong RX10 106 (57), Cond.methodLink RX10 88 yX10_here, Cond.instanceMethod yX10_here, Cond.selects RX10 yX10_here yX10_here, Cond.code yX10_here cX10_here 1 (some .int), Cond.methodLink RX10 136 yX10_readsClause, Cond.instanceMethod yX10_readsClause, Cond.selects RX10 yX10_readsClause yX10_readsClause, Cond.code yX10_readsClause cX10_readsClause 1 (some .boolean), Cond.methodLink RX10 126 yX10_readsInterest, Cond.instanceMethod yX10_readsInterest, Cond.selects RX10 yX10_readsInterest yX10_readsInterest, Cond.code yX10_readsInterest cX10_readsInterest 1 (some .boolean), Cond.methodLink RX10 114 yX10_fails, Cond.instanceMethod yX10_fails, Cond.selects RX10 yX10_fails yX10_fails, Cond.code yX10_fails cX10_fails 2 (some .boolean), Cond.methodLink RX10 118 yX10_number, Cond.instanceMethod yX10_number, Cond.selects RX10 yX10_number yX10_number, Cond.code yX10_number cX10_number 4 (some .boolean), Cond.methodLink RX10 122 yX10_ends, Cond.instanceMethod yX10_ends]
def wsL_law_r14 : List Cond := [Cond.selects RX10 yX10_ends yX10_ends, Cond.code yX10_ends cX10_ends 1 (some .boolean), Cond.methodLink RX10 129 yX10_readsCreditor, Cond.instanceMethod yX10_readsCreditor, Cond.selects RX10 yX10_readsCreditor yX10_readsCreditor, Cond.code yX10_readsCreditor cX10_readsCreditor 2 (some .boolean), Cond.methodLink RX10 132 yX10_readsPerson, Cond.instanceMethod yX10_readsPerson, Cond.selects RX10 yX10_readsPerson yX10_readsPerson, Cond.code yX10_readsPerson cX10_readsPerson 4 (some .boolean), Cond.methodLink RL 23 yX9_fault, Cond.instanceMethod yX9_fault, Cond.selects RX9 yX9_fault yX9_fault, Cond.code yX9_fault cX9_fault 1 (some .int), Cond.fieldLink RX9 120 "DebtDowry$Reader" "faultAt" "I", Cond.methodLink RL 26 yX10_fault, Cond.instanceMethod yX10_fault, Cond.selects RX10 yX10_fault yX10_fault, Cond.code yX10_fault cX10_fault 1 (some .int), Cond.methodLink RL 27 yX9_told, Cond.instanceMethod yX9_told, Cond.selects RX9 yX9_told yX9_told, Cond.code yX9_told cX9_told 2 (some .int), Cond.fieldLink RX9 123 "DebtDowry$Terms" "there" "Z"]
def wsL_law_r15 : List Cond := [Cond.fieldLink RX9 126 "DebtDowry$Terms" "interest" "I", Cond.fieldLink RX9 129 "DebtDowry$Terms" "mildness" "I", Cond.fieldLink RX9 132 "DebtDowry$Terms" "creditors" "I", Cond.fieldLink RX9 135 "DebtDowry$State" "quarters" "I", Cond.fieldLink RX9 138 "DebtDowry$Terms" "girls" "I", Cond.fieldLink RX9 145 "DebtDowry$State" "failed" "I", Cond.fieldLink RX9 151 "DebtDowry$History" "count" "I", Cond.methodLink RX9 141 yX7_wedSet, Cond.instanceMethod yX7_wedSet, Cond.selects RX7 yX7_wedSet yX7_wedSet, Cond.code yX7_wedSet cX7_wedSet 3 (some .int), Cond.fieldLink RX7 55 "DebtDowry$Terms" "persons" "I", Cond.methodLink RX9 148 yX7_owedInAll, Cond.instanceMethod yX7_owedInAll, Cond.selects RX7 yX7_owedInAll yX7_owedInAll, Cond.code yX7_owedInAll cX7_owedInAll 3 (some .int), Cond.methodLink RX7 58 yX7_owedTogether, Cond.instanceMethod yX7_owedTogether, Cond.selects RX7 yX7_owedTogether yX7_owedTogether, Cond.code yX7_owedTogether cX7_owedTogether 4 (some .int), Cond.fieldLink RX7 47 "DebtDowry$Terms" "creditors" "I", Cond.methodLink RX7 52 yX7_owedTo, Cond.instanceMethod yX7_owedTo, Cond.selects RX7 yX7_owedTo yX7_owedTo]
def wsL_law_r16 : List Cond := [Cond.code yX7_owedTo cX7_owedTo 3 (some .int), Cond.methodLink RL 30 yX10_told, Cond.instanceMethod yX10_told, Cond.selects RX10 yX10_told yX10_told, Cond.code yX10_told cX10_told 2 (some .int), Cond.methodLink RX10 166 yX10_wedOnes, Cond.instanceMethod yX10_wedOnes, Cond.selects RX10 yX10_wedOnes yX10_wedOnes, Cond.code yX10_wedOnes cX10_wedOnes 3 (some .int), Cond.methodLink RX10 169 yX10_owedInAll, Cond.instanceMethod yX10_owedInAll, Cond.selects RX10 yX10_owedInAll yX10_owedInAll, Cond.code yX10_owedInAll cX10_owedInAll 3 (some .int), Cond.methodLink RX10 162 yX10_sumOf, Cond.instanceMethod yX10_sumOf, Cond.selects RX10 yX10_sumOf yX10_sumOf, Cond.code yX10_sumOf cX10_sumOf 5 (some .int), Cond.methodLink RL 31 yX9_creditor, Cond.instanceMethod yX9_creditor, Cond.selects RX9 yX9_creditor yX9_creditor, Cond.code yX9_creditor cX9_creditor 3 (some .int), Cond.constant RX9 155 (-1000000001), Cond.fieldLink RX9 156 "DebtDowry$State" "purse" "[I", Cond.fieldLink RX9 160 "DebtDowry$Terms" "low" "[I"]
def wsL_law_r17 : List Cond := [Cond.fieldLink RX9 163 "DebtDowry$Terms" "high" "[I", Cond.fieldLink RX9 166 "DebtDowry$Terms" "great" "[I", Cond.methodLink RX9 152 yX8_hasCreditor, Cond.instanceMethod yX8_hasCreditor, Cond.selects RX8 yX8_hasCreditor yX8_hasCreditor, Cond.code yX8_hasCreditor cX8_hasCreditor 2 (some .boolean), Cond.methodLink RX9 169 yX7_personsByMood, Cond.instanceMethod yX7_personsByMood, Cond.selects RX7 yX7_personsByMood yX7_personsByMood, Cond.code yX7_personsByMood cX7_personsByMood 5 (some .int), Cond.methodLink RX7 83 yX7_moodTo, Cond.instanceMethod yX7_moodTo, Cond.selects RX7 yX7_moodTo yX7_moodTo, Cond.code yX7_moodTo cX7_moodTo 3 (some .int), Cond.methodLink RX7 75 yX7_hasInsulted, Cond.instanceMethod yX7_hasInsulted, Cond.selects RX7 yX7_hasInsulted yX7_hasInsulted, Cond.code yX7_hasInsulted cX7_hasInsulted 3 (some .boolean), Cond.methodLink RX7 79 yX7_moodBy, Cond.instanceMethod yX7_moodBy, Cond.selects RX7 yX7_moodBy yX7_moodBy, Cond.code yX7_moodBy cX7_moodBy 4 (some .int), Cond.fieldLink RX7 69 "DebtDowry$Terms" "low" "[I", Cond.fieldLink RX7 72 "DebtDowry$Terms" "high" "[I"]
def wsL_law_r18 : List Cond := [Cond.methodLink RX7 66 yX7_hasFailed, Cond.instanceMethod yX7_hasFailed, Cond.selects RX7 yX7_hasFailed yX7_hasFailed, Cond.code yX7_hasFailed cX7_hasFailed 2 (some .boolean), Cond.methodLink RL 35 yX10_creditor, Cond.instanceMethod yX10_creditor, Cond.selects RX10 yX10_creditor yX10_creditor, Cond.code yX10_creditor cX10_creditor 3 (some .int), Cond.constant RX10 175 (-1000000001), Cond.methodLink RX10 172 yX10_isCreditor, Cond.instanceMethod yX10_isCreditor, Cond.selects RX10 yX10_isCreditor yX10_isCreditor, Cond.code yX10_isCreditor cX10_isCreditor 2 (some .boolean), Cond.methodLink RX10 176 yX10_whoAre, Cond.instanceMethod yX10_whoAre, Cond.selects RX10 yX10_whoAre yX10_whoAre, Cond.code yX10_whoAre cX10_whoAre 5 (some .int), Cond.methodLink RX10 146 yX10_temperOf, Cond.instanceMethod yX10_temperOf, Cond.selects RX10 yX10_temperOf yX10_temperOf, Cond.code yX10_temperOf cX10_temperOf 5 (some .int), Cond.methodLink RX10 142 yX10_has, Cond.static yX10_has, Cond.code yX10_has cX10_has 2 (some .boolean)]
def wsL_law_r19 : List Cond := [Cond.methodLink RL 36 yX9_person, Cond.instanceMethod yX9_person, Cond.selects RX9 yX9_person yX9_person, Cond.code yX9_person cX9_person 3 (some .int), Cond.fieldLink RX9 179 "DebtDowry$State" "spouse" "[I", Cond.fieldLink RX9 189 "DebtDowry$State" "insults" "[I", Cond.methodLink RX9 173 yX8_hasPerson, Cond.instanceMethod yX8_hasPerson, Cond.selects RX8 yX8_hasPerson yX8_hasPerson, Cond.code yX8_hasPerson cX8_hasPerson 2 (some .boolean), Cond.methodLink RX9 176 yX8_isGirl, Cond.instanceMethod yX8_isGirl, Cond.selects RX8 yX8_isGirl yX8_isGirl, Cond.code yX8_isGirl cX8_isGirl 2 (some .boolean), Cond.methodLink RX8 47 yX8_hasPerson, Cond.methodLink RX9 182 yX7_owedTogether, Cond.methodLink RX9 186 yX7_standingOf, Cond.instanceMethod yX7_standingOf, Cond.selects RX7 yX7_standingOf yX7_standingOf, Cond.code yX7_standingOf cX7_standingOf 4 (some .int), Cond.methodLink RX7 89 yX7_worthOf, Cond.instanceMethod yX7_worthOf, Cond.selects RX7 yX7_worthOf yX7_worthOf, Cond.code yX7_worthOf cX7_worthOf 3 (some .int)]
def wsL_law_r20 : List Cond := [Cond.fieldLink RX7 86 "DebtDowry$Terms" "great" "[I", Cond.methodLink RL 39 yX10_person, Cond.instanceMethod yX10_person, Cond.selects RX10 yX10_person yX10_person, Cond.code yX10_person cX10_person 3 (some .int), Cond.methodLink RX10 139 yX10_isPerson, Cond.instanceMethod yX10_isPerson, Cond.selects RX10 yX10_isPerson yX10_isPerson, Cond.code yX10_isPerson cX10_isPerson 2 (some .boolean), Cond.methodLink RX10 179 yX10_standing, Cond.instanceMethod yX10_standing, Cond.selects RX10 yX10_standing yX10_standing, Cond.code yX10_standing cX10_standing 6 (some .int), Cond.methodLink RL 40 yX9_owes, Cond.instanceMethod yX9_owes, Cond.selects RX9 yX9_owes yX9_owes, Cond.code yX9_owes cX9_owes 3 (some .int), Cond.methodLink RX9 192 yX8_hasBoth, Cond.instanceMethod yX8_hasBoth, Cond.selects RX8 yX8_hasBoth yX8_hasBoth, Cond.code yX8_hasBoth cX8_hasBoth 3 (some .boolean), Cond.methodLink RX8 51 yX8_hasCreditor, Cond.methodLink RX9 196 yX7_owedTo, Cond.methodLink RL 43 yX10_owes]
def wsL_law_r21 : List Cond := [Cond.instanceMethod yX10_owes, Cond.selects RX10 yX10_owes yX10_owes, Cond.code yX10_owes cX10_owes 3 (some .int), Cond.methodLink RL 44 yX9_temper, Cond.instanceMethod yX9_temper, Cond.selects RX9 yX9_temper yX9_temper, Cond.code yX9_temper cX9_temper 3 (some .int), Cond.methodLink RX9 199 yX7_moodTo, Cond.methodLink RL 47 yX10_temper, Cond.instanceMethod yX10_temper, Cond.selects RX10 yX10_temper yX10_temper, Cond.code yX10_temper cX10_temper 3 (some .int), Cond.methodLink RL 48 yX9_borrow, Cond.instanceMethod yX9_borrow, Cond.selects RX9 yX9_borrow yX9_borrow, Cond.code yX9_borrow cX9_borrow 4 (some .int), Cond.constant RX9 206 (-1000000003), Cond.methodLink RX9 202 yX7_mayBorrow, Cond.instanceMethod yX7_mayBorrow, Cond.selects RX7 yX7_mayBorrow yX7_mayBorrow, Cond.code yX7_mayBorrow cX7_mayBorrow 4 (some .boolean), Cond.methodLink RX7 92 yX7_isWedMan, Cond.instanceMethod yX7_isWedMan, Cond.selects RX7 yX7_isWedMan yX7_isWedMan]
def wsL_law_r22 : List Cond := [Cond.code yX7_isWedMan cX7_isWedMan 2 (some .boolean), Cond.methodLink RX7 62 yX8_isMan, Cond.instanceMethod yX8_isMan, Cond.selects RX8 yX8_isMan yX8_isMan, Cond.code yX8_isMan cX8_isMan 2 (some .boolean), Cond.methodLink RX9 207 yX2_note, Cond.instanceMethod yX2_note, Cond.selects RX2 yX2_note yX2_note, Cond.code yX2_note cX2_note 2 none, Cond.fieldLink RX2 24 "DebtDowry$History" "oldest" "I", Cond.methodLink RX2 27 yX7_take, Cond.methodLink RX9 210 yX7_lend, Cond.instanceMethod yX7_lend, Cond.selects RX7 yX7_lend yX7_lend, Cond.code yX7_lend cX7_lend 4 none, Cond.methodLink RX7 95 yX7_setOwed, Cond.methodLink RL 52 yX10_borrow, Cond.instanceMethod yX10_borrow, Cond.selects RX10 yX10_borrow yX10_borrow, Cond.code yX10_borrow cX10_borrow 4 (some .int), Cond.constantLong RX10 188 (999), Cond.constant RX10 193 (-1000000003), Cond.methodLink RX10 190 yX10_mayBorrow, Cond.instanceMethod yX10_mayBorrow]
def wsL_law_r23 : List Cond := [Cond.selects RX10 yX10_mayBorrow yX10_mayBorrow, Cond.code yX10_mayBorrow cX10_mayBorrow 4 (some .boolean), Cond.methodLink RX10 185 yX10_isWedMan, Cond.instanceMethod yX10_isWedMan, Cond.selects RX10 yX10_isWedMan yX10_isWedMan, Cond.code yX10_isWedMan cX10_isWedMan 2 (some .boolean), Cond.methodLink RX10 182 yX10_isMan, Cond.instanceMethod yX10_isMan, Cond.selects RX10 yX10_isMan yX10_isMan, Cond.code yX10_isMan cX10_isMan 2 (some .boolean), Cond.methodLink RX10 194 yX10_remember, Cond.instanceMethod yX10_remember, Cond.selects RX10 yX10_remember yX10_remember, Cond.code yX10_remember cX10_remember 2 none, Cond.methodLink RX10 197 yX10_borrows, Cond.instanceMethod yX10_borrows, Cond.selects RX10 yX10_borrows yX10_borrows, Cond.code yX10_borrows cX10_borrows 4 none, Cond.methodLink RX10 150 yX10_lesser, Cond.static yX10_lesser, Cond.code yX10_lesser cX10_lesser 2 (some .int), Cond.methodLink RL 53 yX9_pay, Cond.instanceMethod yX9_pay, Cond.selects RX9 yX9_pay yX9_pay]
def wsL_law_r24 : List Cond := [Cond.code yX9_pay cX9_pay 4 (some .int), Cond.methodLink RX9 214 yX7_settle, Cond.instanceMethod yX7_settle, Cond.selects RX7 yX7_settle yX7_settle, Cond.code yX7_settle cX7_settle 5 none, Cond.fieldLink RX7 99 "DebtDowry$Terms" "mildness" "I", Cond.methodLink RL 56 yX10_pay, Cond.instanceMethod yX10_pay, Cond.selects RX10 yX10_pay yX10_pay, Cond.code yX10_pay cX10_pay 5 (some .int), Cond.constantLong RX10 201 (9999), Cond.methodLink RL 57 yX9_quarter, Cond.instanceMethod yX9_quarter, Cond.selects RX9 yX9_quarter yX9_quarter, Cond.code yX9_quarter cX9_quarter 5 (some .int), Cond.methodLink RX9 217 yX9_refusalOfQuarters, Cond.instanceMethod yX9_refusalOfQuarters, Cond.selects RX9 yX9_refusalOfQuarters yX9_refusalOfQuarters, Cond.code yX9_refusalOfQuarters cX9_refusalOfQuarters 2 (some .int), Cond.methodLink RX9 220 yX7_passQuarter, Cond.instanceMethod yX7_passQuarter, Cond.selects RX7 yX7_passQuarter yX7_passQuarter, Cond.code yX7_passQuarter cX7_passQuarter 3 (some .int), Cond.methodLink RX7 102 yX8_grown]
def wsL_law_r25 : List Cond := [Cond.instanceMethod yX8_grown, Cond.selects RX8 yX8_grown yX8_grown, Cond.code yX8_grown cX8_grown 2 (some .int), Cond.methodLink RX8 54 Lib.Math.min.name, Cond.methodLink RX7 105 yX7_owedSourly, Cond.instanceMethod yX7_owedSourly, Cond.selects RX7 yX7_owedSourly yX7_owedSourly, Cond.code yX7_owedSourly cX7_owedSourly 4 (some .int), Cond.methodLink RX7 108 yX7_forgive, Cond.instanceMethod yX7_forgive, Cond.selects RX7 yX7_forgive yX7_forgive, Cond.code yX7_forgive cX7_forgive 3 none, Cond.methodLink RX9 223 yJ6_bitCount_0f7a4, Cond.static yJ6_bitCount_0f7a4, Cond.initialized RJ6, Cond.code yJ6_bitCount_0f7a4 cJ6_bitCount_0f7a4 1 (some .int), Cond.constant RJ6 265 (1431655765), Cond.constant RJ6 266 (858993459), Cond.constant RJ6 267 (252645135), Cond.methodLink RL 60 yX10_quarter, Cond.instanceMethod yX10_quarter, Cond.selects RX10 yX10_quarter yX10_quarter, Cond.code yX10_quarter cX10_quarter 5 (some .int), Cond.methodLink RX10 205 yX10_refuses]
def wsL_law_r26 : List Cond := [Cond.instanceMethod yX10_refuses, Cond.selects RX10 yX10_refuses yX10_refuses, Cond.code yX10_refuses cX10_refuses 2 (some .int), Cond.constantLong RX10 203 (20), Cond.methodLink RX10 208 yX10_quarterGoes, Cond.instanceMethod yX10_quarterGoes, Cond.selects RX10 yX10_quarterGoes yX10_quarterGoes, Cond.code yX10_quarterGoes cX10_quarterGoes 3 none, Cond.methodLink RX10 154 yX10_grows, Cond.instanceMethod yX10_grows, Cond.selects RX10 yX10_grows yX10_grows, Cond.code yX10_grows cX10_grows 2 (some .int), Cond.methodLink RX10 158 yX10_sours, Cond.instanceMethod yX10_sours, Cond.selects RX10 yX10_sours yX10_sours, Cond.code yX10_sours cX10_sours 6 (some .int), Cond.methodLink RX10 212 yX10_bits, Cond.static yX10_bits, Cond.code yX10_bits cX10_bits 3 (some .int), Cond.methodLink RL 61 yX9_wed, Cond.instanceMethod yX9_wed, Cond.selects RX9 yX9_wed yX9_wed, Cond.code yX9_wed cX9_wed 4 (some .int), Cond.methodLink RX9 228 yX9_refusalOfPair]
def wsL_law_r27 : List Cond := [Cond.instanceMethod yX9_refusalOfPair, Cond.selects RX9 yX9_refusalOfPair yX9_refusalOfPair, Cond.code yX9_refusalOfPair cX9_refusalOfPair 3 (some .int), Cond.methodLink RX9 320 yX8_isMan, Cond.methodLink RX9 231 yX7_unite, Cond.instanceMethod yX7_unite, Cond.selects RX7 yX7_unite yX7_unite, Cond.code yX7_unite cX7_unite 4 none, Cond.methodLink RL 64 yX10_wed, Cond.instanceMethod yX10_wed, Cond.selects RX10 yX10_wed yX10_wed, Cond.code yX10_wed cX10_wed 3 (some .int), Cond.methodLink RX10 215 yX10_isGirl, Cond.instanceMethod yX10_isGirl, Cond.selects RX10 yX10_isGirl yX10_isGirl, Cond.code yX10_isGirl cX10_isGirl 2 (some .boolean), Cond.methodLink RX10 218 yX10_areApart, Cond.instanceMethod yX10_areApart, Cond.selects RX10 yX10_areApart yX10_areApart, Cond.code yX10_areApart cX10_areApart 3 (some .boolean), Cond.methodLink RX10 221 yX10_weds, Cond.instanceMethod yX10_weds, Cond.selects RX10 yX10_weds yX10_weds, Cond.code yX10_weds cX10_weds 5 none]
def wsL_law_r28 : List Cond := [Cond.methodLink RL 65 yX9_divorce, Cond.instanceMethod yX9_divorce, Cond.selects RX9 yX9_divorce yX9_divorce, Cond.code yX9_divorce cX9_divorce 3 (some .int), Cond.methodLink RX9 235 yX7_part, Cond.instanceMethod yX7_part, Cond.selects RX7 yX7_part yX7_part, Cond.code yX7_part cX7_part 5 none, Cond.methodLink RL 68 yX10_divorce, Cond.instanceMethod yX10_divorce, Cond.selects RX10 yX10_divorce yX10_divorce, Cond.code yX10_divorce cX10_divorce 5 (some .int), Cond.methodLink RL 69 yX9_drift, Cond.instanceMethod yX9_drift, Cond.selects RX9 yX9_drift yX9_drift, Cond.code yX9_drift cX9_drift 4 (some .int), Cond.methodLink RX9 238 yX9_borrowByDraws, Cond.instanceMethod yX9_borrowByDraws, Cond.selects RX9 yX9_borrowByDraws yX9_borrowByDraws, Cond.code yX9_borrowByDraws cX9_borrowByDraws 4 none, Cond.methodLink RX9 330 yX9_drawOf, Cond.instanceMethod yX9_drawOf, Cond.selects RX9 yX9_drawOf yX9_drawOf, Cond.code yX9_drawOf cX9_drawOf 2 (some .int)]
def wsL_law_r29 : List Cond := [Cond.constantLong RX9 323 (1103515245), Cond.constantLong RX9 325 (12345), Cond.constantLong RX9 327 (2147483647), Cond.constant RX9 329 (65536), Cond.methodLink RL 72 yX10_drift, Cond.instanceMethod yX10_drift, Cond.selects RX10 yX10_drift yX10_drift, Cond.code yX10_drift cX10_drift 7 (some .int), Cond.methodLink RX10 237 yX10_draw, Cond.instanceMethod yX10_draw, Cond.selects RX10 yX10_draw yX10_draw, Cond.code yX10_draw cX10_draw 2 (some .int), Cond.fieldLink RX10 225 "DebtDowryModel" "seed" "J", Cond.constantLong RX10 229 (1103515245), Cond.constantLong RX10 231 (12345), Cond.constantLong RX10 233 (2147483648), Cond.constantLong RX10 235 (65536), Cond.methodLink RL 73 yX9_undo, Cond.instanceMethod yX9_undo, Cond.selects RX9 yX9_undo yX9_undo, Cond.code yX9_undo cX9_undo 2 (some .int), Cond.methodLink RX9 241 yX2_restore, Cond.instanceMethod yX2_restore, Cond.selects RX2 yX2_restore yX2_restore]
def wsL_law_r30 : List Cond := [Cond.code yX2_restore cX2_restore 3 none, Cond.methodLink RL 76 yX10_undo, Cond.instanceMethod yX10_undo, Cond.selects RX10 yX10_undo yX10_undo, Cond.code yX10_undo cX10_undo 2 (some .int), Cond.constantLong RX10 240 (30), Cond.methodLink RL 77 yX9_joined, Cond.instanceMethod yX9_joined, Cond.selects RX9 yX9_joined yX9_joined, Cond.code yX9_joined cX9_joined 4 (some .int), Cond.methodLink RX9 245 yX7_standingJoined, Cond.instanceMethod yX7_standingJoined, Cond.selects RX7 yX7_standingJoined yX7_standingJoined, Cond.code yX7_standingJoined cX7_standingJoined 7 (some .int), Cond.methodLink RL 80 yX10_joined, Cond.instanceMethod yX10_joined, Cond.selects RX10 yX10_joined yX10_joined, Cond.code yX10_joined cX10_joined 3 (some .int), Cond.methodLink RX10 245 yX10_joins, Cond.instanceMethod yX10_joins, Cond.selects RX10 yX10_joins yX10_joins, Cond.code yX10_joins cX10_joins 3 (some .int), Cond.methodLink RX10 242 yX10_layAside, Cond.instanceMethod yX10_layAside]
def wsL_law_r31 : List Cond := [Cond.selects RX10 yX10_layAside yX10_layAside, Cond.code yX10_layAside cX10_layAside 1 none, Cond.methodLink RL 81 yX9_least, Cond.instanceMethod yX9_least, Cond.selects RX9 yX9_least yX9_least, Cond.code yX9_least cX9_least 5 (some .int), Cond.methodLink RX9 248 yX7_isWedMan, Cond.methodLink RX9 251 yX7_cheapestSet, Cond.instanceMethod yX7_cheapestSet, Cond.selects RX7 yX7_cheapestSet yX7_cheapestSet, Cond.code yX7_cheapestSet cX7_cheapestSet 9 (some .int), Cond.constant RX7 122 (1000000), Cond.methodLink RX7 116 yX7_mayReachLow, Cond.instanceMethod yX7_mayReachLow, Cond.selects RX7 yX7_mayReachLow yX7_mayReachLow, Cond.code yX7_mayReachLow cX7_mayReachLow 4 (some .boolean), Cond.methodLink RX7 112 yX7_mayBorrow, Cond.methodLink RX7 119 yX7_standingOf, Cond.methodLink RX7 123 yX7_worthOfSet, Cond.instanceMethod yX7_worthOfSet, Cond.selects RX7 yX7_worthOfSet yX7_worthOfSet, Cond.code yX7_worthOfSet cX7_worthOfSet 4 (some .int), Cond.methodLink RX7 126 yX7_coinsFor, Cond.instanceMethod yX7_coinsFor]
def wsL_law_r32 : List Cond := [Cond.selects RX7 yX7_coinsFor yX7_coinsFor, Cond.code yX7_coinsFor cX7_coinsFor 5 (some .int), Cond.methodLink RX9 254 yX7_coinsFor, Cond.methodLink RL 84 yX10_least, Cond.instanceMethod yX10_least, Cond.selects RX10 yX10_least yX10_least, Cond.code yX10_least cX10_least 8 (some .int), Cond.constantLong RX10 249 (36), Cond.constant RX10 248 (1000000), Cond.methodLink RX10 251 yX10_takes, Cond.instanceMethod yX10_takes, Cond.selects RX10 yX10_takes yX10_takes, Cond.code yX10_takes cX10_takes 7 (some .int), Cond.methodLink RL 85 yX9_plan, Cond.instanceMethod yX9_plan, Cond.selects RX9 yX9_plan yX9_plan, Cond.code yX9_plan cX9_plan 5 (some .int), Cond.fieldLink RX9 264 "DebtDowry$Planner" "together" "I", Cond.fieldLink RX9 267 "DebtDowry$Planner" "first" "I", Cond.methodLink RX9 257 yX7_hasFailed, Cond.methodLink RX9 260 yX5_work, Cond.instanceMethod yX5_work, Cond.selects RX5 yX5_work yX5_work, Cond.code yX5_work cX5_work 8 (some .boolean)]
def wsL_law_r33 : List Cond := [Cond.constant RX5 19 (1000000), Cond.fieldLink RX5 20 "DebtDowry$Planner" "together" "I", Cond.fieldLink RX5 24 "DebtDowry$Terms" "high" "[I", Cond.methodLink RX5 29 Lib.Math.min.name, Cond.fieldLink RX5 39 "DebtDowry$Planner" "first" "I", Cond.methodLink RX5 15 yX5_addQuarter, Cond.instanceMethod yX5_addQuarter, Cond.selects RX5 yX5_addQuarter yX5_addQuarter, Cond.code yX5_addQuarter cX5_addQuarter 6 none, Cond.methodLink RX5 35 yX5_costFrom, Cond.instanceMethod yX5_costFrom, Cond.selects RX5 yX5_costFrom yX5_costFrom, Cond.code yX5_costFrom cX5_costFrom 6 (some .int), Cond.methodLink RX5 42 yX8_grown, Cond.methodLink RX5 46 yX8_within, Cond.instanceMethod yX8_within, Cond.selects RX8 yX8_within yX8_within, Cond.code yX8_within cX8_within 3 (some .boolean), Cond.methodLink RL 89 yX10_plan, Cond.instanceMethod yX10_plan, Cond.selects RX10 yX10_plan yX10_plan, Cond.code yX10_plan cX10_plan 10 (some .int), Cond.constantLong RX10 254 (8), Cond.constant RX10 260 (500000)]
def wsL_law_r34 : List Cond := [Cond.methodLink RX10 256 yX10_paysBy, Cond.instanceMethod yX10_paysBy, Cond.selects RX10 yX10_paysBy yX10_paysBy, Cond.code yX10_paysBy cX10_paysBy 5 (some .int), Cond.methodLink RL 90 yX9_matches, Cond.instanceMethod yX9_matches, Cond.selects RX9 yX9_matches yX9_matches, Cond.code yX9_matches cX9_matches 3 (some .int), Cond.fieldLink RX9 274 "DebtDowry$Matcher" "manOf" "[I", Cond.methodLink RX9 270 yX4_pairAll, Cond.instanceMethod yX4_pairAll, Cond.selects RX4 yX4_pairAll yX4_pairAll, Cond.code yX4_pairAll cX4_pairAll 7 (some .int), Cond.methodLink RX4 15 yX7_wedSet, Cond.methodLink RX4 21 yX4_bestPair, Cond.static yX4_bestPair, Cond.code yX4_bestPair cX4_bestPair 9 (some .int), Cond.constant RX4 25 (-1000000001), Cond.fieldLink RX4 26 "DebtDowry$State" "terms" "LDebtDowry$Terms;", Cond.fieldLink RX4 30 "DebtDowry$Terms" "persons" "I", Cond.methodLink RX4 36 yX8_isGirl, Cond.methodLink RX4 40 yX8_isMan, Cond.methodLink RX4 43 yX7_standingJoined, Cond.methodLink RX4 47 yX7_standingOf]
def wsL_law_r35 : List Cond := [Cond.methodLink RL 93 yX10_matches, Cond.instanceMethod yX10_matches, Cond.selects RX10 yX10_matches yX10_matches, Cond.code yX10_matches cX10_matches 3 (some .int), Cond.methodLink RX10 262 yX10_makesPairs, Cond.instanceMethod yX10_makesPairs, Cond.selects RX10 yX10_makesPairs yX10_makesPairs, Cond.code yX10_makesPairs cX10_makesPairs 11 (some .int), Cond.constant RX10 261 (-1000000), Cond.methodLink RL 94 yX9_failing, Cond.instanceMethod yX9_failing, Cond.selects RX9 yX9_failing yX9_failing, Cond.code yX9_failing cX9_failing 1 (some .int), Cond.methodLink RL 97 yX10_failing, Cond.instanceMethod yX10_failing, Cond.selects RX10 yX10_failing yX10_failing, Cond.code yX10_failing cX10_failing 1 (some .int), Cond.methodLink RL 98 yX9_run, Cond.instanceMethod yX9_run, Cond.selects RX9 yX9_run yX9_run, Cond.code yX9_run cX9_run 3 (some .int), Cond.methodLink RL 101 yX10_run, Cond.instanceMethod yX10_run, Cond.selects RX10 yX10_run yX10_run]
def wsL_law_r36 : List Cond := [Cond.code yX10_run cX10_run 3 (some .int), Cond.methodLink RL 102 yX9_credit, Cond.instanceMethod yX9_credit, Cond.selects RX9 yX9_credit yX9_credit, Cond.code yX9_credit cX9_credit 5 (some .int), Cond.methodLink RX9 277 Lib.Math.min.name, Cond.methodLink RX9 282 yX7_hasInsulted, Cond.methodLink RX9 285 yX7_moodBy, Cond.methodLink RL 105 yX10_credit, Cond.instanceMethod yX10_credit, Cond.selects RX10 yX10_credit yX10_credit, Cond.code yX10_credit cX10_credit 4 (some .int), Cond.methodLink RL 106 yX9_rumours, Cond.instanceMethod yX9_rumours, Cond.selects RX9 yX9_rumours yX9_rumours, Cond.code yX9_rumours cX9_rumours 6 (some .int), Cond.constantLong RX9 289 (1000000000), Cond.constantLong RX9 291 (100), Cond.methodLink RL 109 yX10_rumours, Cond.instanceMethod yX10_rumours, Cond.selects RX10 yX10_rumours yX10_rumours, Cond.code yX10_rumours cX10_rumours 6 (some .int), Cond.constantLong RX10 265 (60), Cond.constantLong RX10 267 (100)]
def wsL_law_r37 : List Cond := [Cond.constantLong RX10 269 (1000000000), Cond.methodLink RL 110 yX9_card, Cond.instanceMethod yX9_card, Cond.selects RX9 yX9_card yX9_card, Cond.code yX9_card cX9_card 5 (some .int), Cond.methodLink RX9 293 yX1_add, Cond.instanceMethod yX1_add, Cond.selects RX1 yX1_add yX1_add, Cond.code yX1_add cX1_add 5 (some .boolean), Cond.fieldLink RX1 28 "DebtDowry$Cards" "count" "I", Cond.methodLink RL 114 yX10_card, Cond.instanceMethod yX10_card, Cond.selects RX10 yX10_card yX10_card, Cond.code yX10_card cX10_card 6 (some .int), Cond.constantLong RX10 271 (12), Cond.methodLink RL 115 yX9_had, Cond.instanceMethod yX9_had, Cond.selects RX9 yX9_had yX9_had, Cond.code yX9_had cX9_had 4 (some .int), Cond.fieldLink RX9 300 "DebtDowry$Cards" "fitting" "I", Cond.methodLink RX9 296 yX1_sift, Cond.instanceMethod yX1_sift, Cond.selects RX1 yX1_sift yX1_sift, Cond.code yX1_sift cX1_sift 5 none]
def wsL_law_r38 : List Cond := [Cond.fieldLink RX1 32 "DebtDowry$Cards" "fitting" "I", Cond.methodLink RX1 35 yX1_fits, Cond.instanceMethod yX1_fits, Cond.selects RX1 yX1_fits yX1_fits, Cond.code yX1_fits cX1_fits 7 (some .boolean), Cond.methodLink RX1 39 yX1_behind, Cond.static yX1_behind, Cond.code yX1_behind cX1_behind 5 (some .int), Cond.methodLink RX1 49 yX8_grown, Cond.methodLink RX1 43 yX8_within, Cond.methodLink RX9 303 yX1_leastSum, Cond.instanceMethod yX1_leastSum, Cond.selects RX1 yX1_leastSum yX1_leastSum, Cond.code yX1_leastSum cX1_leastSum 1 (some .int), Cond.methodLink RX9 306 yX1_mostSum, Cond.instanceMethod yX1_mostSum, Cond.selects RX1 yX1_mostSum yX1_mostSum, Cond.code yX1_mostSum cX1_mostSum 1 (some .int), Cond.methodLink RL 118 yX10_had, Cond.instanceMethod yX10_had, Cond.selects RX10 yX10_had yX10_had, Cond.code yX10_had cX10_had 8 (some .int), Cond.constantLong RX10 276 (2), Cond.methodLink RX10 278 yX10_couldBe]
def wsL_law_r39 : List Cond := [Cond.instanceMethod yX10_couldBe, Cond.selects RX10 yX10_couldBe yX10_couldBe, Cond.code yX10_couldBe cX10_couldBe 6 (some .boolean), Cond.methodLink RX10 273 yX10_isCivil, Cond.instanceMethod yX10_isCivil, Cond.selects RX10 yX10_isCivil yX10_isCivil, Cond.code yX10_isCivil cX10_isCivil 6 (some .boolean), Cond.methodLink RL 119 yX9_lookAt, Cond.instanceMethod yX9_lookAt, Cond.selects RX9 yX9_lookAt yX9_lookAt, Cond.code yX9_lookAt cX9_lookAt 3 (some .int), Cond.methodLink RX9 309 yX1_bestLook, Cond.instanceMethod yX1_bestLook, Cond.selects RX1 yX1_bestLook yX1_bestLook, Cond.code yX1_bestLook cX1_bestLook 8 (some .int), Cond.methodLink RX1 53 Lib.Math.max.name, Cond.static Lib.Math.max.name, Cond.code Lib.Math.max.name Lib.Math.max.code 2 (some .int), Cond.methodLink RL 122 yX10_lookAt, Cond.instanceMethod yX10_lookAt, Cond.selects RX10 yX10_lookAt yX10_lookAt, Cond.code yX10_lookAt cX10_lookAt 9 (some .int), Cond.methodLink RX10 281 yX10_had, Cond.methodLink RL 123 yX9_write]
def wsL_law_r40 : List Cond := [Cond.instanceMethod yX9_write, Cond.selects RX9 yX9_write yX9_write, Cond.code yX9_write cX9_write 3 (some .int), Cond.methodLink RX9 313 yX0_add, Cond.instanceMethod yX0_add, Cond.selects RX0 yX0_add yX0_add, Cond.code yX0_add cX0_add 3 (some .boolean), Cond.fieldLink RX0 18 "DebtDowry$Book" "count" "I", Cond.methodLink RL 126 yX10_write, Cond.instanceMethod yX10_write, Cond.selects RX10 yX10_write yX10_write, Cond.code yX10_write cX10_write 3 (some .int), Cond.constantLong RX10 284 (-9), Cond.constantLong RX10 286 (99), Cond.methodLink RL 127 yX9_judge, Cond.instanceMethod yX9_judge, Cond.selects RX9 yX9_judge yX9_judge, Cond.code yX9_judge cX9_judge 1 (some .int), Cond.methodLink RX9 315 yX0_firstWrong, Cond.instanceMethod yX0_firstWrong, Cond.selects RX0 yX0_firstWrong yX0_firstWrong, Cond.code yX0_firstWrong cX0_firstWrong 3 (some .int), Cond.methodLink RX0 22 yX7_standingOf, Cond.methodLink RL 130 yX10_judge]
def wsL_law_r41 : List Cond := [Cond.instanceMethod yX10_judge, Cond.selects RX10 yX10_judge yX10_judge, Cond.code yX10_judge cX10_judge 2 (some .int), Cond.methodLink RL 131 yX9_tear, Cond.instanceMethod yX9_tear, Cond.selects RX9 yX9_tear yX9_tear, Cond.code yX9_tear cX9_tear 2 (some .int), Cond.methodLink RL 134 yX10_tear, Cond.instanceMethod yX10_tear, Cond.selects RX10 yX10_tear yX10_tear, Cond.code yX10_tear cX10_tear 2 (some .int), Cond.methodLink RL 135 yX9_seed, Cond.instanceMethod yX9_seed, Cond.selects RX9 yX9_seed yX9_seed, Cond.code yX9_seed cX9_seed 3 (some .int), Cond.methodLink RL 138 yX10_seed, Cond.instanceMethod yX10_seed, Cond.selects RX10 yX10_seed yX10_seed, Cond.code yX10_seed cX10_seed 3 (some .int), Cond.methodLink RL 139 yX9_keep, Cond.instanceMethod yX9_keep, Cond.selects RX9 yX9_keep yX9_keep, Cond.code yX9_keep cX9_keep 2 (some .int), Cond.fieldLink RX9 318 "DebtDowry$Image" "state" "LDebtDowry$State;"]
def wsL_law_r42 : List Cond := [Cond.fieldLink RX9 319 "DebtDowry$Image" "luck" "I", Cond.methodLink RL 142 yX10_keep, Cond.instanceMethod yX10_keep, Cond.selects RX10 yX10_keep yX10_keep, Cond.code yX10_keep cX10_keep 2 (some .int), Cond.methodLink RL 143 yX9_goBack, Cond.instanceMethod yX9_goBack, Cond.selects RX9 yX9_goBack yX9_goBack, Cond.code yX9_goBack cX9_goBack 2 (some .int), Cond.methodLink RL 146 yX10_goBack, Cond.instanceMethod yX10_goBack, Cond.selects RX10 yX10_goBack yX10_goBack, Cond.code yX10_goBack cX10_goBack 2 (some .int)]
def wsL_law : List Cond := (wsL_law_r1 ++ (wsL_law_r2 ++ (wsL_law_r3 ++ (wsL_law_r4 ++ (wsL_law_r5 ++ (wsL_law_r6 ++ (wsL_law_r7 ++ (wsL_law_r8 ++ (wsL_law_r9 ++ (wsL_law_r10 ++ (wsL_law_r11 ++ (wsL_law_r12 ++ (wsL_law_r13 ++ (wsL_law_r14 ++ (wsL_law_r15 ++ (wsL_law_r16 ++ (wsL_law_r17 ++ (wsL_law_r18 ++ (wsL_law_r19 ++ (wsL_law_r20 ++ (wsL_law_r21 ++ (wsL_law_r22 ++ (wsL_law_r23 ++ (wsL_law_r24 ++ (wsL_law_r25 ++ (wsL_law_r26 ++ (wsL_law_r27 ++ (wsL_law_r28 ++ (wsL_law_r29 ++ (wsL_law_r30 ++ (wsL_law_r31 ++ (wsL_law_r32 ++ (wsL_law_r33 ++ (wsL_law_r34 ++ (wsL_law_r35 ++ (wsL_law_r36 ++ (wsL_law_r37 ++ (wsL_law_r38 ++ (wsL_law_r39 ++ (wsL_law_r40 ++ (wsL_law_r41 ++ wsL_law_r42))))))))))))))))))))))))))))))))))))))))) ++ wsX90 ++ wsX100 ++ wsX60 ++ wsX80 ++ wsX70 ++ wsX20 ++ wsX40 ++ wsX50 ++ wsX10 ++ wsX00 ++ wsX30 ++ ([] : List Cond)
set_option maxRecDepth 20000 in
theorem wsL_law_in : ∀ w ∈ wsL_law, w ∈ lw_tbl := fun w h => (goodIn_p wsL_law [77, 80, 85, 91, 152, 221, 241, 252, 270, 301, 319, 833, 838, 841, 846, 371, 376, 926, 381, 385, 389, 393, 397, 401, 405, 409, 412, 416, 420, 424, 428, 432, 436, 439, 443, 450, 455, 933, 937, 941, 947, 951, 955, 959, 963, 967, 971, 459, 975, 463, 467, 471, 475, 479, 979, 983, 987, 991, 483, 487, 492, 496, 500, 504, 508, 995, 999, 1004, 1008, 1011, 512, 516, 520, 526, 530, 1015, 1019, 1023, 534, 538, 1027, 544, 1031, 549, 553, 557, 561, 566, 571, 1035, 1040, 1044, 1048, 1053, 1057, 1060, 576, 580, 1064, 584, 588, 592, 596, 601, 605, 608, 1069, 1073, 1078, 1082, 1086, 1089, 615, 619, 624, 1093, 1097, 1101, 1105, 628, 632, 1109, 636, 640, 644, 1113, 1117, 652, 656, 1125, 660, 664, 1130, 1134, 1138, 668, 673, 677, 684, 688, 1142, 1148, 693, 698, 702, 707, 712, 1152, 1157, 717, 721, 725, 1162, 1166, 734, 1171, 738, 1175, 742, 1179, 749, 1183, 755, 759, 1190, 763, 767, 771, 774, 780, 784, 1195, 1200, 1204, 788, 792, 795, 1208, 799, 803, 1213, 807, 811, 1219, 816, 1223, 820, 1227, 824, 1231, 828, 1235] (by decide +kernel) (by decide +kernel) w h).1
theorem inlX0 : ∀ w ∈ wsX00, w ∈ wsL_law := fun _ h => List.mem_append_left _ (List.mem_append_left _ (List.mem_append_right _ h))
theorem inX0 : ∀ w ∈ wsX00, w ∈ lw_tbl := fun w h => wsL_law_in w (inlX0 w h)
theorem inlX1 : ∀ w ∈ wsX10, w ∈ wsL_law := fun _ h => List.mem_append_left _ (List.mem_append_left _ (List.mem_append_left _ (List.mem_append_right _ h)))
theorem inX1 : ∀ w ∈ wsX10, w ∈ lw_tbl := fun w h => wsL_law_in w (inlX1 w h)
theorem inlX2 : ∀ w ∈ wsX20, w ∈ wsL_law := fun _ h => List.mem_append_left _ (List.mem_append_left _ (List.mem_append_left _ (List.mem_append_left _ (List.mem_append_left _ (List.mem_append_left _ (List.mem_append_right _ h))))))
theorem inX2 : ∀ w ∈ wsX20, w ∈ lw_tbl := fun w h => wsL_law_in w (inlX2 w h)
theorem inlX3 : ∀ w ∈ wsX30, w ∈ wsL_law := fun _ h => List.mem_append_left _ (List.mem_append_right _ h)
theorem inX3 : ∀ w ∈ wsX30, w ∈ lw_tbl := fun w h => wsL_law_in w (inlX3 w h)
theorem inlX4 : ∀ w ∈ wsX40, w ∈ wsL_law := fun _ h => List.mem_append_left _ (List.mem_append_left _ (List.mem_append_left _ (List.mem_append_left _ (List.mem_append_left _ (List.mem_append_right _ h)))))
theorem inX4 : ∀ w ∈ wsX40, w ∈ lw_tbl := fun w h => wsL_law_in w (inlX4 w h)
theorem inlX5 : ∀ w ∈ wsX50, w ∈ wsL_law := fun _ h => List.mem_append_left _ (List.mem_append_left _ (List.mem_append_left _ (List.mem_append_left _ (List.mem_append_right _ h))))
theorem inX5 : ∀ w ∈ wsX50, w ∈ lw_tbl := fun w h => wsL_law_in w (inlX5 w h)
theorem inlX6 : ∀ w ∈ wsX60, w ∈ wsL_law := fun _ h => List.mem_append_left _ (List.mem_append_left _ (List.mem_append_left _ (List.mem_append_left _ (List.mem_append_left _ (List.mem_append_left _ (List.mem_append_left _ (List.mem_append_left _ (List.mem_append_left _ (List.mem_append_right _ h)))))))))
theorem inX6 : ∀ w ∈ wsX60, w ∈ lw_tbl := fun w h => wsL_law_in w (inlX6 w h)
theorem inlX7 : ∀ w ∈ wsX70, w ∈ wsL_law := fun _ h => List.mem_append_left _ (List.mem_append_left _ (List.mem_append_left _ (List.mem_append_left _ (List.mem_append_left _ (List.mem_append_left _ (List.mem_append_left _ (List.mem_append_right _ h)))))))
theorem inX7 : ∀ w ∈ wsX70, w ∈ lw_tbl := fun w h => wsL_law_in w (inlX7 w h)
theorem inlX8 : ∀ w ∈ wsX80, w ∈ wsL_law := fun _ h => List.mem_append_left _ (List.mem_append_left _ (List.mem_append_left _ (List.mem_append_left _ (List.mem_append_left _ (List.mem_append_left _ (List.mem_append_left _ (List.mem_append_left _ (List.mem_append_right _ h))))))))
theorem inX8 : ∀ w ∈ wsX80, w ∈ lw_tbl := fun w h => wsL_law_in w (inlX8 w h)
theorem inlX9 : ∀ w ∈ wsX90, w ∈ wsL_law := fun _ h => List.mem_append_left _ (List.mem_append_left _ (List.mem_append_left _ (List.mem_append_left _ (List.mem_append_left _ (List.mem_append_left _ (List.mem_append_left _ (List.mem_append_left _ (List.mem_append_left _ (List.mem_append_left _ (List.mem_append_left _ (List.mem_append_right _ h)))))))))))
theorem inX9 : ∀ w ∈ wsX90, w ∈ lw_tbl := fun w h => wsL_law_in w (inlX9 w h)
theorem inlX10 : ∀ w ∈ wsX100, w ∈ wsL_law := fun _ h => List.mem_append_left _ (List.mem_append_left _ (List.mem_append_left _ (List.mem_append_left _ (List.mem_append_left _ (List.mem_append_left _ (List.mem_append_left _ (List.mem_append_left _ (List.mem_append_left _ (List.mem_append_left _ (List.mem_append_right _ h))))))))))
theorem inX10 : ∀ w ∈ wsX100, w ∈ lw_tbl := fun w h => wsL_law_in w (inlX10 w h)
theorem inJ6 : ∀ w ∈ wsJ60, w ∈ lw_tbl := by decide +kernel
theorem inJ9 : ∀ w ∈ wsJ90, w ∈ lw_tbl := by decide +kernel
theorem inJ10 : ∀ w ∈ wsJ100, w ∈ lw_tbl := by decide +kernel
set_option maxRecDepth 20000 in
theorem ggX0_firstWrong_X7_standingOf : GoodIn wsX0_firstWrong wsX7_standingOf := goodIn_r _ [8, 9, 10, 11, 12, 13, 7, 14, 15, 16, 17, 18, 19, 20, 21, 22, 23, 24, 25, 26, 27, 28, 29, 30, 31, 32, 33, 34, 35, 36, 37, 38, 39, 40, 44, 45, 46, 47, 48, 49, 50, 51, 52, 53, 54, 55, 56, 57, 58, 59] (by decide +kernel) (by decide +kernel)
set_option maxRecDepth 20000 in
theorem gX0_firstWrong_X7_standingOf : GoodIn wsX0_firstWrong (wsV RX0 22 RX7 yX7_standingOf wsX7_standingOf) := goodIn_app (goodIn_of _ (by decide +kernel)) ggX0_firstWrong_X7_standingOf
set_option maxRecDepth 20000 in
theorem ggX1_sift_X1_fits : GoodIn wsX1_sift wsX1_fits := goodIn_r _ [7, 8, 9, 10, 11, 12, 13, 14, 6, 15, 16, 17, 18, 19, 20, 21, 22, 23, 24, 25, 26, 27, 28, 29, 30, 31, 32, 33, 34, 35, 36, 37, 38, 39, 40, 41, 42, 43, 44, 45, 46, 47] (by decide +kernel) (by decide +kernel)
set_option maxRecDepth 20000 in
theorem gX1_sift_X1_fits : GoodIn wsX1_sift (wsV RX1 35 RX1 yX1_fits wsX1_fits) := goodIn_app (goodIn_of _ (by decide +kernel)) ggX1_sift_X1_fits
set_option maxRecDepth 20000 in
theorem ggX1_fits_X1_behind : GoodIn wsX1_fits wsX1_behind := goodIn_r _ [9, 10, 11, 12, 13, 14, 15, 16, 17, 18, 19, 33, 34, 35, 36, 37, 38, 39, 40, 41] (by decide +kernel) (by decide +kernel)
set_option maxRecDepth 20000 in
theorem gX1_fits_X1_behind : GoodIn wsX1_fits (va_wsS RX1 39 yX1_behind wsX1_behind) := goodIn_app (goodIn_of _ (by decide +kernel)) ggX1_fits_X1_behind
set_option maxRecDepth 20000 in
theorem ggX1_fits_X8_within : GoodIn wsX1_fits wsX8_within := goodIn_r _ [23, 24, 25, 33, 34, 35, 36, 37, 38, 39, 40, 41] (by decide +kernel) (by decide +kernel)
set_option maxRecDepth 20000 in
theorem gX1_fits_X8_within : GoodIn wsX1_fits (wsV RX1 43 RX8 yX8_within wsX8_within) := goodIn_app (goodIn_of _ (by decide +kernel)) ggX1_fits_X8_within
set_option maxRecDepth 20000 in
theorem ggX1_behind_X8_grown : GoodIn wsX1_behind wsX8_grown := goodIn_r _ [5, 6, 7, 8, 9, 10, 11, 12, 13, 14, 15, 16, 17, 18, 19] (by decide +kernel) (by decide +kernel)
set_option maxRecDepth 20000 in
theorem gX1_behind_X8_grown : GoodIn wsX1_behind (wsV RX1 49 RX8 yX8_grown wsX8_grown) := goodIn_app (goodIn_of _ (by decide +kernel)) ggX1_behind_X8_grown
set_option maxRecDepth 20000 in
theorem ggX1_bestLook_X8_within : GoodIn wsX1_bestLook wsX8_within := goodIn_r _ [11, 12, 13, 29, 30, 31, 32, 33, 34, 35, 36, 37] (by decide +kernel) (by decide +kernel)
set_option maxRecDepth 20000 in
theorem gX1_bestLook_X8_within : GoodIn wsX1_bestLook (wsV RX1 43 RX8 yX8_within wsX8_within) := goodIn_app (goodIn_of _ (by decide +kernel)) ggX1_bestLook_X8_within
set_option maxRecDepth 20000 in
theorem ggX1_bestLook_X8_grown : GoodIn wsX1_bestLook wsX8_grown := goodIn_r _ [17, 18, 19, 20, 5, 21, 29, 30, 31, 32, 33, 34, 35, 36, 37] (by decide +kernel) (by decide +kernel)
set_option maxRecDepth 20000 in
theorem gX1_bestLook_X8_grown : GoodIn wsX1_bestLook (wsV RX1 49 RX8 yX8_grown wsX8_grown) := goodIn_app (goodIn_of _ (by decide +kernel)) ggX1_bestLook_X8_grown
set_option maxRecDepth 20000 in
theorem ggX2_init_X7_init : GoodIn wsX2_init wsX7_init := goodIn_r _ [10, 11, 2, 3, 12, 13, 14, 15, 16, 17, 21, 22, 23, 24, 25, 26, 27] (by decide +kernel) (by decide +kernel)
set_option maxRecDepth 20000 in
theorem gX2_init_X7_init : GoodIn wsX2_init (wsX7_init) := ggX2_init_X7_init
set_option maxRecDepth 20000 in
theorem ggX2_note_X7_take : GoodIn wsX2_note wsX7_take := goodIn_r _ [8, 9, 10, 11, 12, 13, 14, 15, 16, 17, 18, 22, 23, 24, 25, 26, 27, 28] (by decide +kernel) (by decide +kernel)
set_option maxRecDepth 20000 in
theorem gX2_note_X7_take : GoodIn wsX2_note (wsV RX2 27 RX7 yX7_take wsX7_take) := goodIn_app (goodIn_of _ (by decide +kernel)) ggX2_note_X7_take
set_option maxRecDepth 20000 in
theorem ggX2_restore_X7_take : GoodIn wsX2_restore wsX7_take := goodIn_r _ [8, 9, 10, 11, 12, 13, 14, 15, 16, 17, 18, 22, 23, 24, 25, 26, 27, 28] (by decide +kernel) (by decide +kernel)
set_option maxRecDepth 20000 in
theorem gX2_restore_X7_take : GoodIn wsX2_restore (wsV RX2 27 RX7 yX7_take wsX7_take) := goodIn_app (goodIn_of _ (by decide +kernel)) ggX2_restore_X7_take
set_option maxRecDepth 20000 in
theorem ggX3_init_X7_init : GoodIn wsX3_init wsX7_init := goodIn_r _ [10, 11, 2, 3, 12, 13, 14, 15, 16, 17, 18, 19, 20, 21, 22, 23, 24] (by decide +kernel) (by decide +kernel)
set_option maxRecDepth 20000 in
theorem gX3_init_X7_init : GoodIn wsX3_init (wsX7_init) := ggX3_init_X7_init
set_option maxRecDepth 20000 in
theorem ggX4_pairAll_X7_wedSet : GoodIn wsX4_pairAll wsX7_wedSet := goodIn_r _ [6, 7, 8, 9, 76, 77, 78, 79, 80, 81, 82, 83, 84, 85, 86, 87, 88, 89, 90, 91] (by decide +kernel) (by decide +kernel)
set_option maxRecDepth 20000 in
theorem gX4_pairAll_X7_wedSet : GoodIn wsX4_pairAll (wsV RX4 15 RX7 yX7_wedSet wsX7_wedSet) := goodIn_app (goodIn_of _ (by decide +kernel)) ggX4_pairAll_X7_wedSet
set_option maxRecDepth 20000 in
theorem ggX4_pairAll_X4_bestPair : GoodIn wsX4_pairAll wsX4_bestPair := goodIn_r _ [13, 14, 15, 16, 17, 18, 19, 20, 21, 22, 23, 24, 25, 26, 27, 28, 29, 30, 31, 32, 33, 34, 5, 35, 7, 36, 37, 38, 39, 40, 41, 42, 43, 44, 45, 46, 47, 48, 49, 50, 51, 52, 53, 54, 55, 56, 57, 58, 59, 60, 61, 62, 63, 64, 65, 66, 67, 68, 69, 70, 71, 72, 73, 74, 76, 77, 78, 79, 80, 81, 82, 83, 84, 85, 86, 87, 88, 89, 90, 91] (by decide +kernel) (by decide +kernel)
set_option maxRecDepth 20000 in
theorem gX4_pairAll_X4_bestPair : GoodIn wsX4_pairAll (va_wsS RX4 21 yX4_bestPair wsX4_bestPair) := goodIn_app (goodIn_of _ (by decide +kernel)) ggX4_pairAll_X4_bestPair
set_option maxRecDepth 20000 in
theorem ggX4_bestPair_X8_isGirl : GoodIn wsX4_bestPair wsX8_isGirl := goodIn_r _ [8, 9, 10, 11, 12, 7, 13, 14, 71, 72, 73, 74, 75, 76, 77, 78, 79] (by decide +kernel) (by decide +kernel)
set_option maxRecDepth 20000 in
theorem gX4_bestPair_X8_isGirl : GoodIn wsX4_bestPair (wsV RX4 36 RX8 yX8_isGirl wsX8_isGirl) := goodIn_app (goodIn_of _ (by decide +kernel)) ggX4_bestPair_X8_isGirl
set_option maxRecDepth 20000 in
theorem ggX4_bestPair_X8_isMan : GoodIn wsX4_bestPair wsX8_isMan := goodIn_r _ [18, 9, 10, 11, 12, 7, 13, 14, 71, 72, 73, 74, 75, 76, 77, 78, 79] (by decide +kernel) (by decide +kernel)
set_option maxRecDepth 20000 in
theorem gX4_bestPair_X8_isMan : GoodIn wsX4_bestPair (wsV RX4 40 RX8 yX8_isMan wsX8_isMan) := goodIn_app (goodIn_of _ (by decide +kernel)) ggX4_bestPair_X8_isMan
set_option maxRecDepth 20000 in
theorem ggX4_bestPair_X7_standingJoined : GoodIn wsX4_bestPair wsX7_standingJoined := goodIn_r _ [23, 24, 25, 26, 27, 28, 29, 30, 31, 32, 22, 33, 34, 35, 36, 37, 38, 39, 40, 41, 42, 43, 44, 45, 46, 47, 48, 49, 50, 51, 52, 53, 54, 55, 64, 65, 66, 67, 68, 69, 70, 71, 72, 73, 74, 75, 76, 77, 78, 79] (by decide +kernel) (by decide +kernel)
set_option maxRecDepth 20000 in
theorem gX4_bestPair_X7_standingJoined : GoodIn wsX4_bestPair (wsV RX4 43 RX7 yX7_standingJoined wsX7_standingJoined) := goodIn_app (goodIn_of _ (by decide +kernel)) ggX4_bestPair_X7_standingJoined
set_option maxRecDepth 20000 in
theorem ggX4_bestPair_X7_standingOf : GoodIn wsX4_bestPair wsX7_standingOf := goodIn_r _ [59, 24, 25, 60, 61, 62, 22, 63, 35, 36, 37, 38, 39, 30, 31, 32, 33, 34, 40, 41, 42, 43, 44, 45, 46, 47, 48, 49, 50, 51, 52, 53, 54, 55, 64, 65, 66, 67, 68, 69, 70, 71, 72, 73, 74, 75, 76, 77, 78, 79] (by decide +kernel) (by decide +kernel)
set_option maxRecDepth 20000 in
theorem gX4_bestPair_X7_standingOf : GoodIn wsX4_bestPair (wsV RX4 47 RX7 yX7_standingOf wsX7_standingOf) := goodIn_app (goodIn_of _ (by decide +kernel)) ggX4_bestPair_X7_standingOf
set_option maxRecDepth 20000 in
theorem ggX5_work_X5_addQuarter : GoodIn wsX5_work wsX5_addQuarter := goodIn_r _ [14, 2, 4, 5, 6, 7, 8, 1, 15, 16, 17, 13, 18, 19, 20, 21, 22, 23, 24, 25, 26, 27, 28, 29, 30, 31, 35, 36, 37, 38, 39, 40, 41, 42, 43, 32, 33, 34] (by decide +kernel) (by decide +kernel)
set_option maxRecDepth 20000 in
theorem gX5_work_X5_addQuarter : GoodIn wsX5_work (wsV RX5 15 RX5 yX5_addQuarter wsX5_addQuarter) := goodIn_app (goodIn_of _ (by decide +kernel)) ggX5_work_X5_addQuarter
set_option maxRecDepth 20000 in
theorem ggX5_work_X5_costFrom : GoodIn wsX5_work wsX5_costFrom := goodIn_r _ [18, 1, 2, 19, 20, 21, 22, 23, 24, 25, 6, 7, 8, 26, 27, 28, 29, 30, 31, 32, 33, 34, 35, 36, 37, 38, 39, 40, 41, 42, 43] (by decide +kernel) (by decide +kernel)
set_option maxRecDepth 20000 in
theorem gX5_work_X5_costFrom : GoodIn wsX5_work (wsV RX5 35 RX5 yX5_costFrom wsX5_costFrom) := goodIn_app (goodIn_of _ (by decide +kernel)) ggX5_work_X5_costFrom
set_option maxRecDepth 20000 in
theorem ggX5_addQuarter_X5_costFrom : GoodIn wsX5_addQuarter wsX5_costFrom := goodIn_r _ [12, 7, 1, 13, 14, 15, 16, 17, 18, 19, 4, 5, 6, 20, 21, 22, 23, 24, 25, 35, 36, 37, 26, 27, 28, 29, 30, 31, 32, 33, 34] (by decide +kernel) (by decide +kernel)
set_option maxRecDepth 20000 in
theorem gX5_addQuarter_X5_costFrom : GoodIn wsX5_addQuarter (wsV RX5 35 RX5 yX5_costFrom wsX5_costFrom) := goodIn_app (goodIn_of _ (by decide +kernel)) ggX5_addQuarter_X5_costFrom
set_option maxRecDepth 20000 in
theorem ggX5_costFrom_X8_grown : GoodIn wsX5_costFrom wsX8_grown := goodIn_r _ [7, 8, 9, 10, 11, 12, 22, 23, 24, 25, 26, 27, 28, 29, 30] (by decide +kernel) (by decide +kernel)
set_option maxRecDepth 20000 in
theorem gX5_costFrom_X8_grown : GoodIn wsX5_costFrom (wsV RX5 42 RX8 yX8_grown wsX8_grown) := goodIn_app (goodIn_of _ (by decide +kernel)) ggX5_costFrom_X8_grown
set_option maxRecDepth 20000 in
theorem ggX5_costFrom_X8_within : GoodIn wsX5_costFrom wsX8_within := goodIn_r _ [16, 17, 18, 22, 23, 24, 25, 26, 27, 28, 29, 30] (by decide +kernel) (by decide +kernel)
set_option maxRecDepth 20000 in
theorem gX5_costFrom_X8_within : GoodIn wsX5_costFrom (wsV RX5 46 RX8 yX8_within wsX8_within) := goodIn_app (goodIn_of _ (by decide +kernel)) ggX5_costFrom_X8_within
set_option maxRecDepth 20000 in
theorem ggX6_init_X8_init : GoodIn wsX6_init wsX8_init := goodIn_r _ [16, 17, 2, 3, 12, 18, 19, 20, 30, 31, 32, 33, 34, 35, 36, 37, 38] (by decide +kernel) (by decide +kernel)
set_option maxRecDepth 20000 in
theorem gX6_init_X8_init_n11 : GoodIn wsX6_init (wsX8_init) := ggX6_init_X8_init
set_option maxRecDepth 20000 in
theorem ggX6_init_X7_init : GoodIn wsX6_init wsX7_init := goodIn_r _ [23, 24, 2, 3, 12, 25, 26, 27, 28, 29, 47, 48, 49, 50, 51, 52, 53] (by decide +kernel) (by decide +kernel)
set_option maxRecDepth 20000 in
theorem gX6_init_X7_init : GoodIn wsX6_init (wsX7_init) := ggX6_init_X7_init
set_option maxRecDepth 20000 in
theorem ggX6_readAll_X8_clear : GoodIn wsX6_readAll wsX8_clear := goodIn_r _ [12, 13, 14, 15, 16, 17, 18, 97, 98, 99, 100, 101, 102, 103, 104, 105] (by decide +kernel) (by decide +kernel)
set_option maxRecDepth 20000 in
theorem gX6_readAll_X8_clear : GoodIn wsX6_readAll (wsV RX6 38 RX8 yX8_clear wsX8_clear) := goodIn_app (goodIn_of _ (by decide +kernel)) ggX6_readAll_X8_clear
set_option maxRecDepth 20000 in
theorem ggX6_readAll_X7_clear : GoodIn wsX6_readAll wsX7_clear := goodIn_r _ [23, 24, 25, 26, 27, 28, 29, 106, 107, 108, 109, 110, 111, 112] (by decide +kernel) (by decide +kernel)
set_option maxRecDepth 20000 in
theorem gX6_readAll_X7_clear : GoodIn wsX6_readAll (wsV RX6 41 RX7 yX7_clear wsX7_clear) := goodIn_app (goodIn_of _ (by decide +kernel)) ggX6_readAll_X7_clear
set_option maxRecDepth 20000 in
theorem ggX6_readAll_X6_nextSign : GoodIn wsX6_readAll wsX6_nextSign := goodIn_r _ [34, 5, 7, 35, 89, 90, 91, 92, 93, 94, 95, 96] (by decide +kernel) (by decide +kernel)
set_option maxRecDepth 20000 in
theorem gX6_readAll_X6_nextSign : GoodIn wsX6_readAll (wsV RX6 48 RX6 yX6_nextSign wsX6_nextSign) := goodIn_app (goodIn_of _ (by decide +kernel)) ggX6_readAll_X6_nextSign
set_option maxRecDepth 20000 in
theorem ggX6_readAll_X6_readInterest : GoodIn wsX6_readAll wsX6_readInterest := goodIn_r _ [39, 5, 1, 40, 41, 30, 31, 32, 33, 34, 7, 35, 42, 43, 44, 45, 3, 4, 46, 47, 48, 49, 50, 51, 52, 53, 54, 55, 56, 57, 89, 90, 91, 92, 93, 94, 95, 96, 97, 98, 99, 100, 101, 102, 103, 104, 105] (by decide +kernel) (by decide +kernel)
set_option maxRecDepth 20000 in
theorem gX6_readAll_X6_readInterest : GoodIn wsX6_readAll (wsV RX6 56 RX6 yX6_readInterest wsX6_readInterest) := goodIn_app (goodIn_of _ (by decide +kernel)) ggX6_readAll_X6_readInterest
set_option maxRecDepth 20000 in
theorem ggX6_readAll_X6_readOthers : GoodIn wsX6_readAll wsX6_readOthers := goodIn_r _ [61, 3, 30, 31, 32, 33, 34, 5, 7, 35, 62, 63, 64, 65, 66, 67, 68, 69, 1, 70, 71, 2, 72, 73, 74, 50, 75, 42, 43, 44, 45, 4, 46, 47, 48, 49, 51, 52, 53, 54, 55, 56, 57, 76, 77, 78, 79, 80, 81, 82, 83, 22, 84, 24, 85, 86, 87, 88, 89, 90, 91, 92, 93, 94, 95, 96, 97, 98, 99, 100, 101, 102, 103, 104, 105, 106, 107, 108, 109, 110, 111, 112] (by decide +kernel) (by decide +kernel)
set_option maxRecDepth 20000 in
theorem gX6_readAll_X6_readOthers : GoodIn wsX6_readAll (wsV RX6 59 RX6 yX6_readOthers wsX6_readOthers) := goodIn_app (goodIn_of _ (by decide +kernel)) ggX6_readAll_X6_readOthers
set_option maxRecDepth 20000 in
theorem ggX6_readInterest_X6_nextSign : GoodIn wsX6_readInterest wsX6_nextSign := goodIn_r _ [9, 1, 10, 11, 30, 31, 32, 33, 34, 35, 36, 37] (by decide +kernel) (by decide +kernel)
set_option maxRecDepth 20000 in
theorem gX6_readInterest_X6_nextSign : GoodIn wsX6_readInterest (wsV RX6 48 RX6 yX6_nextSign wsX6_nextSign) := goodIn_app (goodIn_of _ (by decide +kernel)) ggX6_readInterest_X6_nextSign
set_option maxRecDepth 20000 in
theorem ggX6_readInterest_X6_blame : GoodIn wsX6_readInterest wsX6_blame := goodIn_r _ [15, 16, 17, 30, 31, 32, 33, 34, 35, 36, 37] (by decide +kernel) (by decide +kernel)
set_option maxRecDepth 20000 in
theorem gX6_readInterest_X6_blame : GoodIn wsX6_readInterest (wsV RX6 62 RX6 yX6_blame wsX6_blame) := goodIn_app (goodIn_of _ (by decide +kernel)) ggX6_readInterest_X6_blame
set_option maxRecDepth 20000 in
theorem ggX6_readInterest_X6_readNumber : GoodIn wsX6_readInterest wsX6_readNumber := goodIn_r _ [21, 1, 22, 10, 11, 5, 6, 7, 8, 9, 23, 24, 25, 12, 13, 14, 15, 16, 17, 30, 31, 32, 33, 34, 35, 36, 37] (by decide +kernel) (by decide +kernel)
set_option maxRecDepth 20000 in
theorem gX6_readInterest_X6_readNumber : GoodIn wsX6_readInterest (wsV RX6 66 RX6 yX6_readNumber wsX6_readNumber) := goodIn_app (goodIn_of _ (by decide +kernel)) ggX6_readInterest_X6_readNumber
set_option maxRecDepth 20000 in
theorem ggX6_readInterest_X6_readSign : GoodIn wsX6_readInterest wsX6_readSign := goodIn_r _ [29, 1, 5, 6, 7, 8, 9, 10, 11, 12, 13, 14, 15, 16, 17, 30, 31, 32, 33, 34, 35, 36, 37] (by decide +kernel) (by decide +kernel)
set_option maxRecDepth 20000 in
theorem gX6_readInterest_X6_readSign : GoodIn wsX6_readInterest (wsV RX6 76 RX6 yX6_readSign wsX6_readSign) := goodIn_app (goodIn_of _ (by decide +kernel)) ggX6_readInterest_X6_readSign
set_option maxRecDepth 20000 in
theorem ggX6_readOthers_X6_nextSign : GoodIn wsX6_readOthers wsX6_nextSign := goodIn_r _ [6, 7, 8, 9, 58, 59, 60, 61, 62, 63, 64, 65] (by decide +kernel) (by decide +kernel)
set_option maxRecDepth 20000 in
theorem gX6_readOthers_X6_nextSign : GoodIn wsX6_readOthers (wsV RX6 48 RX6 yX6_nextSign wsX6_nextSign) := goodIn_app (goodIn_of _ (by decide +kernel)) ggX6_readOthers_X6_nextSign
set_option maxRecDepth 20000 in
theorem ggX6_readOthers_X6_readClause : GoodIn wsX6_readOthers wsX6_readClause := goodIn_r _ [13, 7, 14, 15, 16, 5, 17, 18, 19, 20, 21, 22, 23, 24, 25, 26, 27, 28, 29, 30, 1, 31, 32, 33, 34, 35, 8, 9, 2, 3, 4, 6, 36, 37, 38, 39, 40, 41, 42, 43, 44, 45, 46, 47, 48, 49, 50, 51, 52, 53, 54, 55, 56, 57, 58, 59, 60, 61, 62, 63, 64, 65, 66, 67, 68, 69, 70, 71, 72, 73, 74, 75, 76, 77, 78, 79, 80, 81] (by decide +kernel) (by decide +kernel)
set_option maxRecDepth 20000 in
theorem gX6_readOthers_X6_readClause : GoodIn wsX6_readOthers (wsV RX6 80 RX6 yX6_readClause wsX6_readClause) := goodIn_app (goodIn_of _ (by decide +kernel)) ggX6_readOthers_X6_readClause
set_option maxRecDepth 20000 in
theorem ggX6_readClause_X6_readCreditor : GoodIn wsX6_readClause wsX6_readCreditor := goodIn_r _ [6, 7, 8, 9, 1, 10, 11, 12, 13, 14, 15, 16, 17, 18, 5, 19, 20, 21, 22, 23, 24, 25, 26, 27, 28, 29, 30, 31, 32, 33, 34, 35, 36, 37, 38, 54, 55, 56, 57, 58, 59, 60, 61, 62, 63, 64, 65, 66, 67, 68, 69, 70, 71, 72, 73, 74, 75, 76, 77] (by decide +kernel) (by decide +kernel)
set_option maxRecDepth 20000 in
theorem gX6_readClause_X6_readCreditor : GoodIn wsX6_readClause (wsV RX6 83 RX6 yX6_readCreditor wsX6_readCreditor) := goodIn_app (goodIn_of _ (by decide +kernel)) ggX6_readClause_X6_readCreditor
set_option maxRecDepth 20000 in
theorem ggX6_readClause_X6_readPerson : GoodIn wsX6_readClause wsX6_readPerson := goodIn_r _ [42, 7, 9, 8, 1, 10, 43, 16, 17, 18, 5, 19, 20, 21, 35, 36, 37, 38, 28, 29, 30, 31, 26, 27, 22, 23, 24, 25, 14, 32, 33, 34, 44, 45, 46, 47, 48, 49, 50, 51, 52, 53, 54, 55, 56, 57, 58, 59, 60, 61, 62, 63, 64, 65, 66, 67, 68, 69, 70, 71, 72, 73, 74, 75, 76, 77] (by decide +kernel) (by decide +kernel)
set_option maxRecDepth 20000 in
theorem gX6_readClause_X6_readPerson : GoodIn wsX6_readClause (wsV RX6 86 RX6 yX6_readPerson wsX6_readPerson) := goodIn_app (goodIn_of _ (by decide +kernel)) ggX6_readClause_X6_readPerson
set_option maxRecDepth 20000 in
theorem ggX6_readClause_X6_blame : GoodIn wsX6_readClause wsX6_blame := goodIn_r _ [19, 20, 21, 54, 55, 56, 57, 58, 59, 60, 61] (by decide +kernel) (by decide +kernel)
set_option maxRecDepth 20000 in
theorem gX6_readClause_X6_blame : GoodIn wsX6_readClause (wsV RX6 62 RX6 yX6_blame wsX6_blame) := goodIn_app (goodIn_of _ (by decide +kernel)) ggX6_readClause_X6_blame
set_option maxRecDepth 20000 in
theorem ggX6_readCreditor_X6_blame : GoodIn wsX6_readCreditor wsX6_blame := goodIn_r _ [15, 16, 17, 35, 36, 37, 38, 39, 40, 41, 42] (by decide +kernel) (by decide +kernel)
set_option maxRecDepth 20000 in
theorem gX6_readCreditor_X6_blame : GoodIn wsX6_readCreditor (wsV RX6 62 RX6 yX6_blame wsX6_blame) := goodIn_app (goodIn_of _ (by decide +kernel)) ggX6_readCreditor_X6_blame
set_option maxRecDepth 20000 in
theorem ggX6_readCreditor_X6_readNumber : GoodIn wsX6_readCreditor wsX6_readNumber := goodIn_r _ [21, 4, 9, 22, 23, 24, 25, 26, 14, 27, 28, 29, 30, 11, 12, 13, 15, 16, 17, 35, 36, 37, 38, 39, 40, 41, 42] (by decide +kernel) (by decide +kernel)
set_option maxRecDepth 20000 in
theorem gX6_readCreditor_X6_readNumber : GoodIn wsX6_readCreditor (wsV RX6 66 RX6 yX6_readNumber wsX6_readNumber) := goodIn_app (goodIn_of _ (by decide +kernel)) ggX6_readCreditor_X6_readNumber
set_option maxRecDepth 20000 in
theorem ggX6_readCreditor_X6_readSign : GoodIn wsX6_readCreditor wsX6_readSign := goodIn_r _ [34, 4, 24, 25, 26, 14, 27, 22, 23, 11, 12, 13, 15, 16, 17, 35, 36, 37, 38, 39, 40, 41, 42] (by decide +kernel) (by decide +kernel)
set_option maxRecDepth 20000 in
theorem gX6_readCreditor_X6_readSign : GoodIn wsX6_readCreditor (wsV RX6 76 RX6 yX6_readSign wsX6_readSign) := goodIn_app (goodIn_of _ (by decide +kernel)) ggX6_readCreditor_X6_readSign
set_option maxRecDepth 20000 in
theorem ggX6_readPerson_X6_blame : GoodIn wsX6_readPerson wsX6_blame := goodIn_r _ [11, 12, 13, 42, 43, 44, 45, 46, 47, 48, 49] (by decide +kernel) (by decide +kernel)
set_option maxRecDepth 20000 in
theorem gX6_readPerson_X6_blame : GoodIn wsX6_readPerson (wsV RX6 62 RX6 yX6_blame wsX6_blame) := goodIn_app (goodIn_of _ (by decide +kernel)) ggX6_readPerson_X6_blame
set_option maxRecDepth 20000 in
theorem ggX6_readPerson_X6_readSign : GoodIn wsX6_readPerson wsX6_readSign := goodIn_r _ [17, 4, 18, 19, 20, 10, 21, 22, 23, 7, 8, 9, 11, 12, 13, 42, 43, 44, 45, 46, 47, 48, 49] (by decide +kernel) (by decide +kernel)
set_option maxRecDepth 20000 in
theorem gX6_readPerson_X6_readSign : GoodIn wsX6_readPerson (wsV RX6 76 RX6 yX6_readSign wsX6_readSign) := goodIn_app (goodIn_of _ (by decide +kernel)) ggX6_readPerson_X6_readSign
set_option maxRecDepth 20000 in
theorem ggX6_readPerson_X6_readNumber : GoodIn wsX6_readPerson wsX6_readNumber := goodIn_r _ [27, 4, 28, 22, 23, 18, 19, 20, 10, 21, 29, 30, 31, 7, 8, 9, 11, 12, 13, 42, 43, 44, 45, 46, 47, 48, 49] (by decide +kernel) (by decide +kernel)
set_option maxRecDepth 20000 in
theorem gX6_readPerson_X6_readNumber : GoodIn wsX6_readPerson (wsV RX6 66 RX6 yX6_readNumber wsX6_readNumber) := goodIn_app (goodIn_of _ (by decide +kernel)) ggX6_readPerson_X6_readNumber
set_option maxRecDepth 20000 in
theorem ggX6_readPerson_X7_setOwed : GoodIn wsX6_readPerson wsX7_setOwed := goodIn_r _ [36, 37, 38, 39, 40, 41, 59, 60, 61, 62, 63, 64, 65] (by decide +kernel) (by decide +kernel)
set_option maxRecDepth 20000 in
theorem gX6_readPerson_X7_setOwed : GoodIn wsX6_readPerson (wsV RX6 111 RX7 yX7_setOwed wsX7_setOwed) := goodIn_app (goodIn_of _ (by decide +kernel)) ggX6_readPerson_X7_setOwed
set_option maxRecDepth 20000 in
theorem ggX6_readSign_X6_nextSign : GoodIn wsX6_readSign wsX6_nextSign := goodIn_r _ [6, 1, 7, 8, 15, 16, 17, 18, 19, 20, 21, 22] (by decide +kernel) (by decide +kernel)
set_option maxRecDepth 20000 in
theorem gX6_readSign_X6_nextSign : GoodIn wsX6_readSign (wsV RX6 48 RX6 yX6_nextSign wsX6_nextSign) := goodIn_app (goodIn_of _ (by decide +kernel)) ggX6_readSign_X6_nextSign
set_option maxRecDepth 20000 in
theorem ggX6_readSign_X6_blame : GoodIn wsX6_readSign wsX6_blame := goodIn_r _ [12, 13, 14, 15, 16, 17, 18, 19, 20, 21, 22] (by decide +kernel) (by decide +kernel)
set_option maxRecDepth 20000 in
theorem gX6_readSign_X6_blame : GoodIn wsX6_readSign (wsV RX6 62 RX6 yX6_blame wsX6_blame) := goodIn_app (goodIn_of _ (by decide +kernel)) ggX6_readSign_X6_blame
set_option maxRecDepth 20000 in
theorem ggX6_readNumber_X6_nextSign : GoodIn wsX6_readNumber wsX6_nextSign := goodIn_r _ [9, 1, 3, 4, 19, 20, 21, 22, 23, 24, 25, 26] (by decide +kernel) (by decide +kernel)
set_option maxRecDepth 20000 in
theorem gX6_readNumber_X6_nextSign : GoodIn wsX6_readNumber (wsV RX6 48 RX6 yX6_nextSign wsX6_nextSign) := goodIn_app (goodIn_of _ (by decide +kernel)) ggX6_readNumber_X6_nextSign
set_option maxRecDepth 20000 in
theorem ggX6_readNumber_X6_isFigure : GoodIn wsX6_readNumber wsX6_isFigure := goodIn_r _ [12] (by decide +kernel) (by decide +kernel)
set_option maxRecDepth 20000 in
theorem gX6_readNumber_X6_isFigure : GoodIn wsX6_readNumber (va_wsS RX6 118 yX6_isFigure wsX6_isFigure) := goodIn_app (goodIn_of _ (by decide +kernel)) ggX6_readNumber_X6_isFigure
set_option maxRecDepth 20000 in
theorem ggX6_readNumber_X6_blame : GoodIn wsX6_readNumber wsX6_blame := goodIn_r _ [16, 17, 18, 19, 20, 21, 22, 23, 24, 25, 26] (by decide +kernel) (by decide +kernel)
set_option maxRecDepth 20000 in
theorem gX6_readNumber_X6_blame : GoodIn wsX6_readNumber (wsV RX6 62 RX6 yX6_blame wsX6_blame) := goodIn_app (goodIn_of _ (by decide +kernel)) ggX6_readNumber_X6_blame
set_option maxRecDepth 20000 in
theorem ggX7_owedTogether_X7_owedTo : GoodIn wsX7_owedTogether wsX7_owedTo := goodIn_r _ [7, 8, 9, 10, 11, 12, 13, 14, 15] (by decide +kernel) (by decide +kernel)
set_option maxRecDepth 20000 in
theorem gX7_owedTogether_X7_owedTo : GoodIn wsX7_owedTogether (wsV RX7 52 RX7 yX7_owedTo wsX7_owedTo) := goodIn_app (goodIn_of _ (by decide +kernel)) ggX7_owedTogether_X7_owedTo
set_option maxRecDepth 20000 in
theorem ggX7_owedInAll_X7_owedTogether : GoodIn wsX7_owedInAll wsX7_owedTogether := goodIn_r _ [7, 1, 8, 9, 10, 11, 6, 12, 13, 14, 15, 16, 17, 18, 19, 20, 21, 22, 23, 24, 25, 26, 27, 28, 29] (by decide +kernel) (by decide +kernel)
set_option maxRecDepth 20000 in
theorem gX7_owedInAll_X7_owedTogether : GoodIn wsX7_owedInAll (wsV RX7 58 RX7 yX7_owedTogether wsX7_owedTogether) := goodIn_app (goodIn_of _ (by decide +kernel)) ggX7_owedInAll_X7_owedTogether
set_option maxRecDepth 20000 in
theorem ggX7_isWedMan_X8_isMan : GoodIn wsX7_isWedMan wsX8_isMan := goodIn_r _ [7, 8, 9, 10, 11, 6, 12, 13, 21, 22, 23, 24, 25, 26, 27, 28, 29] (by decide +kernel) (by decide +kernel)
set_option maxRecDepth 20000 in
theorem gX7_isWedMan_X8_isMan : GoodIn wsX7_isWedMan (wsV RX7 62 RX8 yX8_isMan wsX8_isMan) := goodIn_app (goodIn_of _ (by decide +kernel)) ggX7_isWedMan_X8_isMan
set_option maxRecDepth 20000 in
theorem ggX7_moodBy_X7_hasFailed : GoodIn wsX7_moodBy wsX7_hasFailed := goodIn_r _ [8, 9, 10, 11, 12, 13, 14, 15, 16] (by decide +kernel) (by decide +kernel)
set_option maxRecDepth 20000 in
theorem gX7_moodBy_X7_hasFailed : GoodIn wsX7_moodBy (wsV RX7 66 RX7 yX7_hasFailed wsX7_hasFailed) := goodIn_app (goodIn_of _ (by decide +kernel)) ggX7_moodBy_X7_hasFailed
set_option maxRecDepth 20000 in
theorem ggX7_moodTo_X7_owedTo : GoodIn wsX7_moodTo wsX7_owedTo := goodIn_r _ [5, 6, 24, 25, 26, 27, 28, 29, 30] (by decide +kernel) (by decide +kernel)
set_option maxRecDepth 20000 in
theorem gX7_moodTo_X7_owedTo : GoodIn wsX7_moodTo (wsV RX7 52 RX7 yX7_owedTo wsX7_owedTo) := goodIn_app (goodIn_of _ (by decide +kernel)) ggX7_moodTo_X7_owedTo
set_option maxRecDepth 20000 in
theorem ggX7_moodTo_X7_hasInsulted : GoodIn wsX7_moodTo wsX7_hasInsulted := goodIn_r _ [10, 11, 24, 25, 26, 27, 28, 29, 30] (by decide +kernel) (by decide +kernel)
set_option maxRecDepth 20000 in
theorem gX7_moodTo_X7_hasInsulted : GoodIn wsX7_moodTo (wsV RX7 75 RX7 yX7_hasInsulted wsX7_hasInsulted) := goodIn_app (goodIn_of _ (by decide +kernel)) ggX7_moodTo_X7_hasInsulted
set_option maxRecDepth 20000 in
theorem ggX7_moodTo_X7_moodBy : GoodIn wsX7_moodTo wsX7_moodBy := goodIn_r _ [15, 16, 17, 18, 19, 20, 21, 4, 22, 23, 24, 25, 26, 27, 28, 29, 30, 31, 32, 33, 34, 35, 36, 37, 38, 39] (by decide +kernel) (by decide +kernel)
set_option maxRecDepth 20000 in
theorem gX7_moodTo_X7_moodBy : GoodIn wsX7_moodTo (wsV RX7 79 RX7 yX7_moodBy wsX7_moodBy) := goodIn_app (goodIn_of _ (by decide +kernel)) ggX7_moodTo_X7_moodBy
set_option maxRecDepth 20000 in
theorem ggX7_personsByMood_X7_moodTo : GoodIn wsX7_personsByMood wsX7_moodTo := goodIn_r _ [7, 8, 9, 10, 6, 11, 12, 13, 14, 15, 16, 17, 18, 19, 20, 21, 1, 22, 23, 24, 25, 26, 27, 28, 29, 30, 31, 32, 33, 34, 35, 36, 37, 38, 39, 40, 41, 42, 43, 44] (by decide +kernel) (by decide +kernel)
set_option maxRecDepth 20000 in
theorem gX7_personsByMood_X7_moodTo : GoodIn wsX7_personsByMood (wsV RX7 83 RX7 yX7_moodTo wsX7_moodTo) := goodIn_app (goodIn_of _ (by decide +kernel)) ggX7_personsByMood_X7_moodTo
set_option maxRecDepth 20000 in
theorem ggX7_standingOf_X7_moodTo : GoodIn wsX7_standingOf wsX7_moodTo := goodIn_r _ [7, 8, 9, 10, 6, 11, 12, 13, 14, 15, 16, 17, 18, 19, 20, 21, 1, 22, 23, 24, 25, 26, 27, 28, 34, 35, 36, 37, 38, 39, 40, 41, 42, 43, 44, 45, 46, 47, 48, 49] (by decide +kernel) (by decide +kernel)
set_option maxRecDepth 20000 in
theorem gX7_standingOf_X7_moodTo : GoodIn wsX7_standingOf (wsV RX7 83 RX7 yX7_moodTo wsX7_moodTo) := goodIn_app (goodIn_of _ (by decide +kernel)) ggX7_standingOf_X7_moodTo
set_option maxRecDepth 20000 in
theorem ggX7_standingOf_X7_worthOf : GoodIn wsX7_standingOf wsX7_worthOf := goodIn_r _ [32, 1, 33, 34, 35, 36, 37, 38, 39, 40, 41, 42, 43, 44, 45, 46, 47, 48, 49] (by decide +kernel) (by decide +kernel)
set_option maxRecDepth 20000 in
theorem gX7_standingOf_X7_worthOf : GoodIn wsX7_standingOf (wsV RX7 89 RX7 yX7_worthOf wsX7_worthOf) := goodIn_app (goodIn_of _ (by decide +kernel)) ggX7_standingOf_X7_worthOf
set_option maxRecDepth 20000 in
theorem ggX7_standingJoined_X7_hasInsulted : GoodIn wsX7_standingJoined wsX7_hasInsulted := goodIn_r _ [11, 12, 34, 35, 36, 37, 38, 39, 40] (by decide +kernel) (by decide +kernel)
set_option maxRecDepth 20000 in
theorem gX7_standingJoined_X7_hasInsulted : GoodIn wsX7_standingJoined (wsV RX7 75 RX7 yX7_hasInsulted wsX7_hasInsulted) := goodIn_app (goodIn_of _ (by decide +kernel)) ggX7_standingJoined_X7_hasInsulted
set_option maxRecDepth 20000 in
theorem ggX7_standingJoined_X7_owedTo : GoodIn wsX7_standingJoined wsX7_owedTo := goodIn_r _ [16, 17, 34, 35, 36, 37, 38, 39, 40] (by decide +kernel) (by decide +kernel)
set_option maxRecDepth 20000 in
theorem gX7_standingJoined_X7_owedTo : GoodIn wsX7_standingJoined (wsV RX7 52 RX7 yX7_owedTo wsX7_owedTo) := goodIn_app (goodIn_of _ (by decide +kernel)) ggX7_standingJoined_X7_owedTo
set_option maxRecDepth 20000 in
theorem ggX7_standingJoined_X7_moodBy : GoodIn wsX7_standingJoined wsX7_moodBy := goodIn_r _ [21, 1, 22, 23, 24, 25, 26, 10, 27, 28, 34, 35, 36, 37, 38, 39, 40, 41, 42, 43, 44, 45, 46, 47, 48, 49] (by decide +kernel) (by decide +kernel)
set_option maxRecDepth 20000 in
theorem gX7_standingJoined_X7_moodBy : GoodIn wsX7_standingJoined (wsV RX7 79 RX7 yX7_moodBy wsX7_moodBy) := goodIn_app (goodIn_of _ (by decide +kernel)) ggX7_standingJoined_X7_moodBy
set_option maxRecDepth 20000 in
theorem ggX7_standingJoined_X7_worthOf : GoodIn wsX7_standingJoined wsX7_worthOf := goodIn_r _ [32, 1, 33, 34, 35, 36, 37, 38, 39, 40, 41, 42, 43, 44, 45, 46, 47, 48, 49] (by decide +kernel) (by decide +kernel)
set_option maxRecDepth 20000 in
theorem gX7_standingJoined_X7_worthOf : GoodIn wsX7_standingJoined (wsV RX7 89 RX7 yX7_worthOf wsX7_worthOf) := goodIn_app (goodIn_of _ (by decide +kernel)) ggX7_standingJoined_X7_worthOf
set_option maxRecDepth 20000 in
theorem ggX7_mayBorrow_X7_isWedMan : GoodIn wsX7_mayBorrow wsX7_isWedMan := goodIn_r _ [6, 7, 8, 9, 10, 11, 12, 13, 14, 15, 16, 17, 18, 19, 25, 26, 27, 28, 29, 30, 31, 32, 33, 34, 35, 36, 37, 38, 39, 40] (by decide +kernel) (by decide +kernel)
set_option maxRecDepth 20000 in
theorem gX7_mayBorrow_X7_isWedMan : GoodIn wsX7_mayBorrow (wsV RX7 92 RX7 yX7_isWedMan wsX7_isWedMan) := goodIn_app (goodIn_of _ (by decide +kernel)) ggX7_mayBorrow_X7_isWedMan
set_option maxRecDepth 20000 in
theorem ggX7_mayBorrow_X7_hasFailed : GoodIn wsX7_mayBorrow wsX7_hasFailed := goodIn_r _ [23, 24, 25, 26, 27, 28, 29, 30, 31] (by decide +kernel) (by decide +kernel)
set_option maxRecDepth 20000 in
theorem gX7_mayBorrow_X7_hasFailed : GoodIn wsX7_mayBorrow (wsV RX7 66 RX7 yX7_hasFailed wsX7_hasFailed) := goodIn_app (goodIn_of _ (by decide +kernel)) ggX7_mayBorrow_X7_hasFailed
set_option maxRecDepth 20000 in
theorem ggX7_lend_X7_owedTo : GoodIn wsX7_lend wsX7_owedTo := goodIn_r _ [6, 7, 16, 17, 18, 19, 20, 21, 22] (by decide +kernel) (by decide +kernel)
set_option maxRecDepth 20000 in
theorem gX7_lend_X7_owedTo : GoodIn wsX7_lend (wsV RX7 52 RX7 yX7_owedTo wsX7_owedTo) := goodIn_app (goodIn_of _ (by decide +kernel)) ggX7_lend_X7_owedTo
set_option maxRecDepth 20000 in
theorem ggX7_lend_X7_setOwed : GoodIn wsX7_lend wsX7_setOwed := goodIn_r _ [11, 7, 12, 13, 14, 15, 16, 17, 18, 19, 20, 21, 22] (by decide +kernel) (by decide +kernel)
set_option maxRecDepth 20000 in
theorem gX7_lend_X7_setOwed : GoodIn wsX7_lend (wsV RX7 95 RX7 yX7_setOwed wsX7_setOwed) := goodIn_app (goodIn_of _ (by decide +kernel)) ggX7_lend_X7_setOwed
set_option maxRecDepth 20000 in
theorem ggX7_settle_X7_owedTo : GoodIn wsX7_settle wsX7_owedTo := goodIn_r _ [13, 14, 19, 20, 21, 22, 23, 24, 25] (by decide +kernel) (by decide +kernel)
set_option maxRecDepth 20000 in
theorem gX7_settle_X7_owedTo : GoodIn wsX7_settle (wsV RX7 52 RX7 yX7_owedTo wsX7_owedTo) := goodIn_app (goodIn_of _ (by decide +kernel)) ggX7_settle_X7_owedTo
set_option maxRecDepth 20000 in
theorem ggX7_settle_X7_setOwed : GoodIn wsX7_settle wsX7_setOwed := goodIn_r _ [18, 14, 5, 6, 7, 8, 19, 20, 21, 22, 23, 24, 25] (by decide +kernel) (by decide +kernel)
set_option maxRecDepth 20000 in
theorem gX7_settle_X7_setOwed : GoodIn wsX7_settle (wsV RX7 95 RX7 yX7_setOwed wsX7_setOwed) := goodIn_app (goodIn_of _ (by decide +kernel)) ggX7_settle_X7_setOwed
set_option maxRecDepth 20000 in
theorem ggX7_unite_X7_owedTo : GoodIn wsX7_unite wsX7_owedTo := goodIn_r _ [9, 10, 19, 20, 21, 22, 23, 24, 25] (by decide +kernel) (by decide +kernel)
set_option maxRecDepth 20000 in
theorem gX7_unite_X7_owedTo : GoodIn wsX7_unite (wsV RX7 52 RX7 yX7_owedTo wsX7_owedTo) := goodIn_app (goodIn_of _ (by decide +kernel)) ggX7_unite_X7_owedTo
set_option maxRecDepth 20000 in
theorem ggX7_unite_X7_setOwed : GoodIn wsX7_unite wsX7_setOwed := goodIn_r _ [14, 10, 15, 16, 17, 18, 19, 20, 21, 22, 23, 24, 25] (by decide +kernel) (by decide +kernel)
set_option maxRecDepth 20000 in
theorem gX7_unite_X7_setOwed : GoodIn wsX7_unite (wsV RX7 95 RX7 yX7_setOwed wsX7_setOwed) := goodIn_app (goodIn_of _ (by decide +kernel)) ggX7_unite_X7_setOwed
set_option maxRecDepth 20000 in
theorem ggX7_part_X7_owedTo : GoodIn wsX7_part wsX7_owedTo := goodIn_r _ [9, 10, 19, 20, 21, 22, 23, 24, 25] (by decide +kernel) (by decide +kernel)
set_option maxRecDepth 20000 in
theorem gX7_part_X7_owedTo : GoodIn wsX7_part (wsV RX7 52 RX7 yX7_owedTo wsX7_owedTo) := goodIn_app (goodIn_of _ (by decide +kernel)) ggX7_part_X7_owedTo
set_option maxRecDepth 20000 in
theorem ggX7_part_X7_setOwed : GoodIn wsX7_part wsX7_setOwed := goodIn_r _ [14, 10, 15, 16, 17, 18, 19, 20, 21, 22, 23, 24, 25] (by decide +kernel) (by decide +kernel)
set_option maxRecDepth 20000 in
theorem gX7_part_X7_setOwed : GoodIn wsX7_part (wsV RX7 95 RX7 yX7_setOwed wsX7_setOwed) := goodIn_app (goodIn_of _ (by decide +kernel)) ggX7_part_X7_setOwed
set_option maxRecDepth 20000 in
theorem ggX7_passQuarter_X7_owedTo : GoodIn wsX7_passQuarter wsX7_owedTo := goodIn_r _ [12, 13, 55, 56, 57, 58, 59, 60, 61] (by decide +kernel) (by decide +kernel)
set_option maxRecDepth 20000 in
theorem gX7_passQuarter_X7_owedTo : GoodIn wsX7_passQuarter (wsV RX7 52 RX7 yX7_owedTo wsX7_owedTo) := goodIn_app (goodIn_of _ (by decide +kernel)) ggX7_passQuarter_X7_owedTo
set_option maxRecDepth 20000 in
theorem ggX7_passQuarter_X8_grown : GoodIn wsX7_passQuarter wsX8_grown := goodIn_r _ [18, 19, 20, 21, 22, 23, 62, 63, 64, 65, 66, 67, 68, 69, 70] (by decide +kernel) (by decide +kernel)
set_option maxRecDepth 20000 in
theorem gX7_passQuarter_X8_grown : GoodIn wsX7_passQuarter (wsV RX7 102 RX8 yX8_grown wsX8_grown) := goodIn_app (goodIn_of _ (by decide +kernel)) ggX7_passQuarter_X8_grown
set_option maxRecDepth 20000 in
theorem ggX7_passQuarter_X7_setOwed : GoodIn wsX7_passQuarter wsX7_setOwed := goodIn_r _ [27, 13, 28, 21, 22, 23, 55, 56, 57, 58, 59, 60, 61] (by decide +kernel) (by decide +kernel)
set_option maxRecDepth 20000 in
theorem gX7_passQuarter_X7_setOwed : GoodIn wsX7_passQuarter (wsV RX7 95 RX7 yX7_setOwed wsX7_setOwed) := goodIn_app (goodIn_of _ (by decide +kernel)) ggX7_passQuarter_X7_setOwed
set_option maxRecDepth 20000 in
theorem ggX7_passQuarter_X7_hasFailed : GoodIn wsX7_passQuarter wsX7_hasFailed := goodIn_r _ [32, 6, 55, 56, 57, 58, 59, 60, 61] (by decide +kernel) (by decide +kernel)
set_option maxRecDepth 20000 in
theorem gX7_passQuarter_X7_hasFailed : GoodIn wsX7_passQuarter (wsV RX7 66 RX7 yX7_hasFailed wsX7_hasFailed) := goodIn_app (goodIn_of _ (by decide +kernel)) ggX7_passQuarter_X7_hasFailed
set_option maxRecDepth 20000 in
theorem ggX7_passQuarter_X7_owedSourly : GoodIn wsX7_passQuarter wsX7_owedSourly := goodIn_r _ [36, 1, 2, 37, 38, 39, 11, 40, 8, 9, 10, 12, 13, 41, 42, 43, 44, 3, 45, 46, 47, 48, 49, 50, 29, 30, 31, 32, 6, 55, 56, 57, 58, 59, 60, 61, 62, 63, 64, 65, 66, 67, 68, 69, 70] (by decide +kernel) (by decide +kernel)
set_option maxRecDepth 20000 in
theorem gX7_passQuarter_X7_owedSourly : GoodIn wsX7_passQuarter (wsV RX7 105 RX7 yX7_owedSourly wsX7_owedSourly) := goodIn_app (goodIn_of _ (by decide +kernel)) ggX7_passQuarter_X7_owedSourly
set_option maxRecDepth 20000 in
theorem ggX7_passQuarter_X7_forgive : GoodIn wsX7_passQuarter wsX7_forgive := goodIn_r _ [54, 1, 2, 24, 25, 26, 11, 27, 13, 28, 21, 22, 23, 55, 56, 57, 58, 59, 60, 61, 62, 63, 64, 65, 66, 67, 68, 69, 70] (by decide +kernel) (by decide +kernel)
set_option maxRecDepth 20000 in
theorem gX7_passQuarter_X7_forgive : GoodIn wsX7_passQuarter (wsV RX7 108 RX7 yX7_forgive wsX7_forgive) := goodIn_app (goodIn_of _ (by decide +kernel)) ggX7_passQuarter_X7_forgive
set_option maxRecDepth 20000 in
theorem ggX7_owedSourly_X7_moodTo : GoodIn wsX7_owedSourly wsX7_moodTo := goodIn_r _ [7, 8, 9, 10, 6, 11, 12, 13, 14, 15, 16, 17, 18, 19, 20, 21, 1, 22, 23, 24, 25, 26, 27, 28, 29, 30, 31, 32, 33, 34, 35, 36, 37, 38, 39, 40, 41, 42, 43, 44] (by decide +kernel) (by decide +kernel)
set_option maxRecDepth 20000 in
theorem gX7_owedSourly_X7_moodTo : GoodIn wsX7_owedSourly (wsV RX7 83 RX7 yX7_moodTo wsX7_moodTo) := goodIn_app (goodIn_of _ (by decide +kernel)) ggX7_owedSourly_X7_moodTo
set_option maxRecDepth 20000 in
theorem ggX7_owedSourly_X7_owedTo : GoodIn wsX7_owedSourly wsX7_owedTo := goodIn_r _ [11, 12, 29, 30, 31, 32, 33, 34, 35] (by decide +kernel) (by decide +kernel)
set_option maxRecDepth 20000 in
theorem gX7_owedSourly_X7_owedTo : GoodIn wsX7_owedSourly (wsV RX7 52 RX7 yX7_owedTo wsX7_owedTo) := goodIn_app (goodIn_of _ (by decide +kernel)) ggX7_owedSourly_X7_owedTo
set_option maxRecDepth 20000 in
theorem ggX7_forgive_X7_setOwed : GoodIn wsX7_forgive wsX7_setOwed := goodIn_r _ [7, 8, 9, 10, 11, 12, 13, 14, 15, 16, 17, 18, 19] (by decide +kernel) (by decide +kernel)
set_option maxRecDepth 20000 in
theorem gX7_forgive_X7_setOwed : GoodIn wsX7_forgive (wsV RX7 95 RX7 yX7_setOwed wsX7_setOwed) := goodIn_app (goodIn_of _ (by decide +kernel)) ggX7_forgive_X7_setOwed
set_option maxRecDepth 20000 in
theorem ggX7_mayReachLow_X7_moodTo : GoodIn wsX7_mayReachLow wsX7_moodTo := goodIn_r _ [7, 8, 9, 10, 6, 11, 12, 13, 14, 15, 16, 17, 18, 19, 20, 21, 1, 2, 22, 23, 24, 25, 26, 27, 49, 50, 51, 52, 53, 54, 55, 56, 57, 58, 59, 60, 61, 62, 63, 64] (by decide +kernel) (by decide +kernel)
set_option maxRecDepth 20000 in
theorem gX7_mayReachLow_X7_moodTo : GoodIn wsX7_mayReachLow (wsV RX7 83 RX7 yX7_moodTo wsX7_moodTo) := goodIn_app (goodIn_of _ (by decide +kernel)) ggX7_mayReachLow_X7_moodTo
set_option maxRecDepth 20000 in
theorem ggX7_mayReachLow_X7_hasInsulted : GoodIn wsX7_mayReachLow wsX7_hasInsulted := goodIn_r _ [16, 17, 49, 50, 51, 52, 53, 54, 55] (by decide +kernel) (by decide +kernel)
set_option maxRecDepth 20000 in
theorem gX7_mayReachLow_X7_hasInsulted : GoodIn wsX7_mayReachLow (wsV RX7 75 RX7 yX7_hasInsulted wsX7_hasInsulted) := goodIn_app (goodIn_of _ (by decide +kernel)) ggX7_mayReachLow_X7_hasInsulted
set_option maxRecDepth 20000 in
theorem ggX7_mayReachLow_X7_owedTo : GoodIn wsX7_mayReachLow wsX7_owedTo := goodIn_r _ [11, 12, 49, 50, 51, 52, 53, 54, 55] (by decide +kernel) (by decide +kernel)
set_option maxRecDepth 20000 in
theorem gX7_mayReachLow_X7_owedTo : GoodIn wsX7_mayReachLow (wsV RX7 52 RX7 yX7_owedTo wsX7_owedTo) := goodIn_app (goodIn_of _ (by decide +kernel)) ggX7_mayReachLow_X7_owedTo
set_option maxRecDepth 20000 in
theorem ggX7_mayReachLow_X7_mayBorrow : GoodIn wsX7_mayReachLow wsX7_mayBorrow := goodIn_r _ [31, 32, 33, 34, 35, 6, 36, 1, 37, 38, 39, 40, 41, 42, 43, 44, 45, 46, 47, 48, 23, 24, 25, 26, 27, 49, 50, 51, 52, 53, 54, 55, 56, 57, 58, 59, 60, 61, 62, 63, 64] (by decide +kernel) (by decide +kernel)
set_option maxRecDepth 20000 in
theorem gX7_mayReachLow_X7_mayBorrow : GoodIn wsX7_mayReachLow (wsV RX7 112 RX7 yX7_mayBorrow wsX7_mayBorrow) := goodIn_app (goodIn_of _ (by decide +kernel)) ggX7_mayReachLow_X7_mayBorrow
set_option maxRecDepth 20000 in
theorem ggX7_coinsFor_X7_owedTo : GoodIn wsX7_coinsFor wsX7_owedTo := goodIn_r _ [8, 9, 10, 11, 12, 13, 14, 15, 16] (by decide +kernel) (by decide +kernel)
set_option maxRecDepth 20000 in
theorem gX7_coinsFor_X7_owedTo : GoodIn wsX7_coinsFor (wsV RX7 52 RX7 yX7_owedTo wsX7_owedTo) := goodIn_app (goodIn_of _ (by decide +kernel)) ggX7_coinsFor_X7_owedTo
set_option maxRecDepth 20000 in
theorem ggX7_cheapestSet_X7_mayReachLow : GoodIn wsX7_cheapestSet wsX7_mayReachLow := goodIn_r _ [8, 1, 9, 10, 11, 12, 7, 13, 14, 15, 16, 17, 18, 19, 20, 21, 22, 23, 24, 25, 26, 27, 28, 29, 30, 31, 32, 33, 34, 35, 36, 37, 38, 39, 40, 41, 42, 43, 44, 45, 46, 47, 48, 49, 50, 51, 52, 53, 54, 72, 73, 74, 75, 76, 77, 78, 79, 80, 81, 82, 83, 84, 85, 86, 87] (by decide +kernel) (by decide +kernel)
set_option maxRecDepth 20000 in
theorem gX7_cheapestSet_X7_mayReachLow : GoodIn wsX7_cheapestSet (wsV RX7 116 RX7 yX7_mayReachLow wsX7_mayReachLow) := goodIn_app (goodIn_of _ (by decide +kernel)) ggX7_cheapestSet_X7_mayReachLow
set_option maxRecDepth 20000 in
theorem ggX7_cheapestSet_X7_standingOf : GoodIn wsX7_cheapestSet wsX7_standingOf := goodIn_r _ [58, 1, 2, 10, 11, 12, 7, 13, 14, 15, 16, 17, 18, 19, 20, 21, 22, 23, 24, 25, 26, 27, 9, 28, 29, 30, 31, 32, 33, 59, 60, 61, 62, 63, 72, 73, 74, 75, 76, 77, 78, 79, 80, 81, 82, 83, 84, 85, 86, 87] (by decide +kernel) (by decide +kernel)
set_option maxRecDepth 20000 in
theorem gX7_cheapestSet_X7_standingOf : GoodIn wsX7_cheapestSet (wsV RX7 119 RX7 yX7_standingOf wsX7_standingOf) := goodIn_app (goodIn_of _ (by decide +kernel)) ggX7_cheapestSet_X7_standingOf
set_option maxRecDepth 20000 in
theorem ggX7_cheapestSet_X7_worthOfSet : GoodIn wsX7_cheapestSet wsX7_worthOfSet := goodIn_r _ [67, 1, 2, 63, 72, 73, 74, 75, 76, 77, 78, 79, 80, 81, 82, 83, 84, 85, 86, 87] (by decide +kernel) (by decide +kernel)
set_option maxRecDepth 20000 in
theorem gX7_cheapestSet_X7_worthOfSet : GoodIn wsX7_cheapestSet (wsV RX7 123 RX7 yX7_worthOfSet wsX7_worthOfSet) := goodIn_app (goodIn_of _ (by decide +kernel)) ggX7_cheapestSet_X7_worthOfSet
set_option maxRecDepth 20000 in
theorem ggX7_cheapestSet_X7_coinsFor : GoodIn wsX7_cheapestSet wsX7_coinsFor := goodIn_r _ [71, 1, 2, 9, 14, 15, 16, 7, 17, 18, 72, 73, 74, 75, 76, 77, 78, 79, 80, 81, 82, 83, 84, 85, 86, 87] (by decide +kernel) (by decide +kernel)
set_option maxRecDepth 20000 in
theorem gX7_cheapestSet_X7_coinsFor : GoodIn wsX7_cheapestSet (wsV RX7 126 RX7 yX7_coinsFor wsX7_coinsFor) := goodIn_app (goodIn_of _ (by decide +kernel)) ggX7_cheapestSet_X7_coinsFor
set_option maxRecDepth 20000 in
theorem ggX8_hasBoth_X8_hasPerson : GoodIn wsX8_hasBoth wsX8_hasPerson := goodIn_r _ [5, 6, 12, 13, 14, 15, 16, 17, 18, 19, 20] (by decide +kernel) (by decide +kernel)
set_option maxRecDepth 20000 in
theorem gX8_hasBoth_X8_hasPerson : GoodIn wsX8_hasBoth (wsV RX8 47 RX8 yX8_hasPerson wsX8_hasPerson) := goodIn_app (goodIn_of _ (by decide +kernel)) ggX8_hasBoth_X8_hasPerson
set_option maxRecDepth 20000 in
theorem ggX8_hasBoth_X8_hasCreditor : GoodIn wsX8_hasBoth wsX8_hasCreditor := goodIn_r _ [10, 11, 12, 13, 14, 15, 16, 17, 18, 19, 20] (by decide +kernel) (by decide +kernel)
set_option maxRecDepth 20000 in
theorem gX8_hasBoth_X8_hasCreditor : GoodIn wsX8_hasBoth (wsV RX8 51 RX8 yX8_hasCreditor wsX8_hasCreditor) := goodIn_app (goodIn_of _ (by decide +kernel)) ggX8_hasBoth_X8_hasCreditor
set_option maxRecDepth 20000 in
theorem ggX8_isGirl_X8_hasPerson : GoodIn wsX8_isGirl wsX8_hasPerson := goodIn_r _ [6, 7, 8, 9, 10, 11, 12, 13, 14, 15, 16] (by decide +kernel) (by decide +kernel)
set_option maxRecDepth 20000 in
theorem gX8_isGirl_X8_hasPerson : GoodIn wsX8_isGirl (wsV RX8 47 RX8 yX8_hasPerson wsX8_hasPerson) := goodIn_app (goodIn_of _ (by decide +kernel)) ggX8_isGirl_X8_hasPerson
set_option maxRecDepth 20000 in
theorem ggX8_isMan_X8_hasPerson : GoodIn wsX8_isMan wsX8_hasPerson := goodIn_r _ [6, 7, 8, 9, 10, 11, 12, 13, 14, 15, 16] (by decide +kernel) (by decide +kernel)
set_option maxRecDepth 20000 in
theorem gX8_isMan_X8_hasPerson : GoodIn wsX8_isMan (wsV RX8 47 RX8 yX8_hasPerson wsX8_hasPerson) := goodIn_app (goodIn_of _ (by decide +kernel)) ggX8_isMan_X8_hasPerson
set_option maxRecDepth 20000 in
theorem ggX9_init_X6_init : GoodIn wsX9_init wsX6_init := goodIn_r _ [43, 44, 2, 3, 45, 9, 10, 46, 47, 13, 14, 48, 49, 50, 51, 52, 53, 54, 55, 56, 57, 58, 59, 60, 61, 62, 63, 64, 65, 66, 123, 124, 125, 126, 127, 128, 129, 130, 131, 104, 105, 106, 107, 108, 109, 110, 111, 132, 133, 134, 135, 136, 137, 138] (by decide +kernel) (by decide +kernel)
set_option maxRecDepth 20000 in
theorem gX9_init_X6_init_n9 : GoodIn wsX9_init (wsX6_init) := ggX9_init_X6_init
set_option maxRecDepth 20000 in
theorem ggX9_init_X8_init : GoodIn wsX9_init wsX8_init := goodIn_r _ [53, 54, 2, 3, 49, 55, 56, 57, 123, 124, 125, 126, 127, 128, 129, 130, 131] (by decide +kernel) (by decide +kernel)
set_option maxRecDepth 20000 in
theorem gX9_init_X8_init_n18 : GoodIn wsX9_init (wsX8_init) := ggX9_init_X8_init
set_option maxRecDepth 20000 in
theorem ggX9_init_X7_init : GoodIn wsX9_init wsX7_init := goodIn_r _ [60, 61, 2, 3, 49, 62, 63, 64, 65, 66, 132, 133, 134, 135, 136, 137, 138] (by decide +kernel) (by decide +kernel)
set_option maxRecDepth 20000 in
theorem gX9_init_X7_init : GoodIn wsX9_init (wsX7_init) := ggX9_init_X7_init
set_option maxRecDepth 20000 in
theorem ggX9_init_X2_init : GoodIn wsX9_init wsX2_init := goodIn_r _ [70, 71, 2, 3, 72, 73, 13, 14, 74, 59, 60, 61, 49, 62, 63, 64, 65, 66, 139, 140, 141, 132, 133, 134, 135, 136, 137, 138] (by decide +kernel) (by decide +kernel)
set_option maxRecDepth 20000 in
theorem gX9_init_X2_init : GoodIn wsX9_init (wsX2_init) := ggX9_init_X2_init
set_option maxRecDepth 20000 in
theorem ggX9_init_X4_init : GoodIn wsX9_init wsX4_init := goodIn_r _ [76, 77, 2, 3, 49, 78, 142] (by decide +kernel) (by decide +kernel)
set_option maxRecDepth 20000 in
theorem gX9_init_X4_init_n44 : GoodIn wsX9_init (wsX4_init) := ggX9_init_X4_init
set_option maxRecDepth 20000 in
theorem ggX9_init_X5_init : GoodIn wsX9_init wsX5_init := goodIn_r _ [80, 81, 2, 3, 49, 82, 143, 144, 145] (by decide +kernel) (by decide +kernel)
set_option maxRecDepth 20000 in
theorem gX9_init_X5_init_n51 : GoodIn wsX9_init (wsX5_init) := ggX9_init_X5_init
set_option maxRecDepth 20000 in
theorem ggX9_init_X1_init : GoodIn wsX9_init wsX1_init := goodIn_r _ [84, 85, 2, 3, 49, 86, 87, 88, 89, 90, 91, 146, 147, 148, 149, 150, 151, 152] (by decide +kernel) (by decide +kernel)
set_option maxRecDepth 20000 in
theorem gX9_init_X1_init_n58 : GoodIn wsX9_init (wsX1_init) := ggX9_init_X1_init
set_option maxRecDepth 20000 in
theorem ggX9_init_X0_init : GoodIn wsX9_init wsX0_init := goodIn_r _ [93, 94, 2, 3, 49, 95, 96, 153, 154, 155] (by decide +kernel) (by decide +kernel)
set_option maxRecDepth 20000 in
theorem gX9_init_X0_init_n65 : GoodIn wsX9_init (wsX0_init) := ggX9_init_X0_init
set_option maxRecDepth 20000 in
theorem ggX9_init_X3_init : GoodIn wsX9_init wsX3_init := goodIn_r _ [99, 100, 2, 3, 101, 13, 14, 102, 103, 59, 60, 61, 49, 62, 63, 64, 65, 66, 132, 133, 134, 135, 136, 137, 138, 156, 157, 158] (by decide +kernel) (by decide +kernel)
set_option maxRecDepth 20000 in
theorem gX9_init_X3_init : GoodIn wsX9_init (wsX3_init) := ggX9_init_X3_init
set_option maxRecDepth 20000 in
theorem ggX9_feed_X6_add : GoodIn wsX9_feed wsX6_add := goodIn_r _ [9, 10, 11, 23, 24, 25, 26, 27, 28, 29, 30] (by decide +kernel) (by decide +kernel)
set_option maxRecDepth 20000 in
theorem gX9_feed_X6_add : GoodIn wsX9_feed (wsV RX9 82 RX6 yX6_add wsX6_add) := goodIn_app (goodIn_of _ (by decide +kernel)) ggX9_feed_X6_add
set_option maxRecDepth 20000 in
theorem ggX9_town_X6_readAll : GoodIn wsX9_town wsX6_readAll := goodIn_r _ [19, 20, 21, 22, 23, 24, 25, 26, 27, 28, 29, 30, 31, 32, 33, 34, 35, 36, 37, 38, 39, 40, 41, 42, 43, 44, 45, 46, 47, 48, 49, 50, 51, 18, 52, 53, 54, 55, 56, 57, 58, 59, 60, 61, 62, 63, 64, 65, 66, 67, 68, 69, 70, 71, 72, 73, 74, 75, 76, 77, 78, 79, 80, 81, 82, 83, 84, 85, 86, 87, 88, 89, 90, 91, 92, 93, 94, 95, 96, 97, 98, 99, 100, 101, 102, 103, 104, 105, 106, 140, 141, 142, 143, 144, 145, 146, 147, 161, 162, 163, 164, 165, 166, 167, 168, 169, 170, 171, 172, 173, 174, 175, 176] (by decide +kernel) (by decide +kernel)
set_option maxRecDepth 20000 in
theorem gX9_town_X6_readAll : GoodIn wsX9_town (wsV RX9 90 RX6 yX6_readAll wsX6_readAll) := goodIn_app (goodIn_of _ (by decide +kernel)) ggX9_town_X6_readAll
set_option maxRecDepth 20000 in
theorem ggX9_town_X8_take : GoodIn wsX9_town wsX8_take := goodIn_r _ [110, 32, 33, 34, 35, 36, 37, 111, 112, 113, 114, 115, 116, 117, 161, 162, 163, 164, 165, 166, 167, 168, 169] (by decide +kernel) (by decide +kernel)
set_option maxRecDepth 20000 in
theorem gX9_town_X8_take : GoodIn wsX9_town (wsV RX9 97 RX8 yX8_take wsX8_take) := goodIn_app (goodIn_of _ (by decide +kernel)) ggX9_town_X8_take
set_option maxRecDepth 20000 in
theorem ggX9_town_X7_take : GoodIn wsX9_town wsX7_take := goodIn_r _ [121, 43, 122, 113, 114, 115, 44, 45, 46, 47, 48, 170, 171, 172, 173, 174, 175, 176] (by decide +kernel) (by decide +kernel)
set_option maxRecDepth 20000 in
theorem gX9_town_X7_take : GoodIn wsX9_town (wsV RX9 103 RX7 yX7_take wsX7_take) := goodIn_app (goodIn_of _ (by decide +kernel)) ggX9_town_X7_take
set_option maxRecDepth 20000 in
theorem ggX9_town_X2_forget : GoodIn wsX9_town wsX2_forget := goodIn_r _ [127, 128, 177, 178, 179] (by decide +kernel) (by decide +kernel)
set_option maxRecDepth 20000 in
theorem gX9_town_X2_forget : GoodIn wsX9_town (wsV RX9 106 RX2 yX2_forget wsX2_forget) := goodIn_app (goodIn_of _ (by decide +kernel)) ggX9_town_X2_forget
set_option maxRecDepth 20000 in
theorem ggX9_told_X7_wedSet : GoodIn wsX9_told wsX7_wedSet := goodIn_r _ [24, 25, 26, 27, 70, 71, 72, 73, 74, 75, 76, 53, 54, 55, 56, 57, 58, 59, 60, 61] (by decide +kernel) (by decide +kernel)
set_option maxRecDepth 20000 in
theorem gX9_told_X7_wedSet : GoodIn wsX9_told (wsV RX9 141 RX7 yX7_wedSet wsX7_wedSet) := goodIn_app (goodIn_of _ (by decide +kernel)) ggX9_told_X7_wedSet
set_option maxRecDepth 20000 in
theorem ggX9_told_X7_owedInAll : GoodIn wsX9_told wsX7_owedInAll := goodIn_r _ [31, 25, 26, 32, 33, 34, 23, 35, 36, 37, 38, 39, 40, 41, 70, 71, 72, 73, 74, 75, 76, 53, 54, 55, 56, 57, 58, 59, 60, 61] (by decide +kernel) (by decide +kernel)
set_option maxRecDepth 20000 in
theorem gX9_told_X7_owedInAll : GoodIn wsX9_told (wsV RX9 148 RX7 yX7_owedInAll wsX7_owedInAll) := goodIn_app (goodIn_of _ (by decide +kernel)) ggX9_told_X7_owedInAll
set_option maxRecDepth 20000 in
theorem ggX9_creditor_X8_hasCreditor : GoodIn wsX9_creditor wsX8_hasCreditor := goodIn_r _ [13, 14, 65, 66, 67, 68, 69, 70, 71, 72, 73] (by decide +kernel) (by decide +kernel)
set_option maxRecDepth 20000 in
theorem gX9_creditor_X8_hasCreditor : GoodIn wsX9_creditor (wsV RX9 152 RX8 yX8_hasCreditor wsX8_hasCreditor) := goodIn_app (goodIn_of _ (by decide +kernel)) ggX9_creditor_X8_hasCreditor
set_option maxRecDepth 20000 in
theorem ggX9_creditor_X7_personsByMood : GoodIn wsX9_creditor wsX7_personsByMood := goodIn_r _ [19, 20, 21, 22, 23, 24, 18, 25, 26, 27, 28, 29, 30, 31, 32, 33, 34, 35, 36, 37, 38, 39, 40, 41, 42, 43, 44, 45, 46, 58, 59, 60, 61, 62, 63, 64, 65, 66, 67, 68, 69, 70, 71, 72, 73] (by decide +kernel) (by decide +kernel)
set_option maxRecDepth 20000 in
theorem gX9_creditor_X7_personsByMood : GoodIn wsX9_creditor (wsV RX9 169 RX7 yX7_personsByMood wsX7_personsByMood) := goodIn_app (goodIn_of _ (by decide +kernel)) ggX9_creditor_X7_personsByMood
set_option maxRecDepth 20000 in
theorem ggX9_person_X8_hasPerson : GoodIn wsX9_person wsX8_hasPerson := goodIn_r _ [11, 12, 78, 79, 80, 81, 82, 83, 84, 85, 86] (by decide +kernel) (by decide +kernel)
set_option maxRecDepth 20000 in
theorem gX9_person_X8_hasPerson : GoodIn wsX9_person (wsV RX9 173 RX8 yX8_hasPerson wsX8_hasPerson) := goodIn_app (goodIn_of _ (by decide +kernel)) ggX9_person_X8_hasPerson
set_option maxRecDepth 20000 in
theorem ggX9_person_X8_isGirl : GoodIn wsX9_person wsX8_isGirl := goodIn_r _ [16, 17, 18, 8, 9, 10, 11, 12, 78, 79, 80, 81, 82, 83, 84, 85, 86] (by decide +kernel) (by decide +kernel)
set_option maxRecDepth 20000 in
theorem gX9_person_X8_isGirl : GoodIn wsX9_person (wsV RX9 176 RX8 yX8_isGirl wsX8_isGirl) := goodIn_app (goodIn_of _ (by decide +kernel)) ggX9_person_X8_isGirl
set_option maxRecDepth 20000 in
theorem ggX9_person_X7_owedTogether : GoodIn wsX9_person wsX7_owedTogether := goodIn_r _ [23, 24, 25, 26, 27, 28, 22, 29, 30, 71, 72, 73, 74, 75, 76, 77, 78, 79, 80, 81, 82, 83, 84, 85, 86] (by decide +kernel) (by decide +kernel)
set_option maxRecDepth 20000 in
theorem gX9_person_X7_owedTogether : GoodIn wsX9_person (wsV RX9 182 RX7 yX7_owedTogether wsX7_owedTogether) := goodIn_app (goodIn_of _ (by decide +kernel)) ggX9_person_X7_owedTogether
set_option maxRecDepth 20000 in
theorem ggX9_person_X7_standingOf : GoodIn wsX9_person wsX7_standingOf := goodIn_r _ [34, 24, 25, 35, 36, 37, 22, 38, 26, 27, 28, 29, 30, 39, 40, 41, 42, 43, 44, 45, 46, 47, 48, 49, 50, 51, 52, 53, 54, 55, 56, 57, 58, 59, 71, 72, 73, 74, 75, 76, 77, 78, 79, 80, 81, 82, 83, 84, 85, 86] (by decide +kernel) (by decide +kernel)
set_option maxRecDepth 20000 in
theorem gX9_person_X7_standingOf : GoodIn wsX9_person (wsV RX9 186 RX7 yX7_standingOf wsX7_standingOf) := goodIn_app (goodIn_of _ (by decide +kernel)) ggX9_person_X7_standingOf
set_option maxRecDepth 20000 in
theorem ggX9_owes_X8_hasBoth : GoodIn wsX9_owes wsX8_hasBoth := goodIn_r _ [8, 9, 10, 11, 7, 12, 13, 14, 15, 16, 17, 18, 36, 37, 38, 39, 40, 41, 42, 43, 44] (by decide +kernel) (by decide +kernel)
set_option maxRecDepth 20000 in
theorem gX9_owes_X8_hasBoth : GoodIn wsX9_owes (wsV RX9 192 RX8 yX8_hasBoth wsX8_hasBoth) := goodIn_app (goodIn_of _ (by decide +kernel)) ggX9_owes_X8_hasBoth
set_option maxRecDepth 20000 in
theorem ggX9_owes_X7_owedTo : GoodIn wsX9_owes wsX7_owedTo := goodIn_r _ [23, 24, 45, 46, 47, 48, 49, 50, 51] (by decide +kernel) (by decide +kernel)
set_option maxRecDepth 20000 in
theorem gX9_owes_X7_owedTo : GoodIn wsX9_owes (wsV RX9 196 RX7 yX7_owedTo wsX7_owedTo) := goodIn_app (goodIn_of _ (by decide +kernel)) ggX9_owes_X7_owedTo
set_option maxRecDepth 20000 in
theorem ggX9_temper_X8_hasBoth : GoodIn wsX9_temper wsX8_hasBoth := goodIn_r _ [8, 9, 10, 11, 7, 12, 13, 14, 15, 16, 17, 18, 57, 58, 59, 60, 61, 62, 63, 64, 65] (by decide +kernel) (by decide +kernel)
set_option maxRecDepth 20000 in
theorem gX9_temper_X8_hasBoth : GoodIn wsX9_temper (wsV RX9 192 RX8 yX8_hasBoth wsX8_hasBoth) := goodIn_app (goodIn_of _ (by decide +kernel)) ggX9_temper_X8_hasBoth
set_option maxRecDepth 20000 in
theorem ggX9_temper_X7_moodTo : GoodIn wsX9_temper wsX7_moodTo := goodIn_r _ [23, 24, 25, 26, 22, 27, 28, 29, 30, 31, 32, 33, 34, 35, 36, 37, 38, 39, 40, 41, 42, 43, 44, 45, 66, 67, 68, 69, 70, 71, 72, 57, 58, 59, 60, 61, 62, 63, 64, 65] (by decide +kernel) (by decide +kernel)
set_option maxRecDepth 20000 in
theorem gX9_temper_X7_moodTo : GoodIn wsX9_temper (wsV RX9 199 RX7 yX7_moodTo wsX7_moodTo) := goodIn_app (goodIn_of _ (by decide +kernel)) ggX9_temper_X7_moodTo
set_option maxRecDepth 20000 in
theorem ggX9_borrow_X8_hasBoth : GoodIn wsX9_borrow wsX8_hasBoth := goodIn_r _ [11, 12, 13, 14, 10, 15, 16, 17, 18, 19, 20, 21, 91, 92, 93, 94, 95, 96, 97, 98, 99] (by decide +kernel) (by decide +kernel)
set_option maxRecDepth 20000 in
theorem gX9_borrow_X8_hasBoth : GoodIn wsX9_borrow (wsV RX9 192 RX8 yX8_hasBoth wsX8_hasBoth) := goodIn_app (goodIn_of _ (by decide +kernel)) ggX9_borrow_X8_hasBoth
set_option maxRecDepth 20000 in
theorem ggX9_borrow_X7_mayBorrow : GoodIn wsX9_borrow wsX7_mayBorrow := goodIn_r _ [26, 27, 28, 29, 30, 25, 31, 32, 33, 34, 35, 36, 10, 37, 38, 12, 13, 14, 15, 16, 39, 40, 41, 42, 43, 100, 101, 102, 103, 104, 105, 106, 91, 92, 93, 94, 95, 96, 97, 98, 99] (by decide +kernel) (by decide +kernel)
set_option maxRecDepth 20000 in
theorem gX9_borrow_X7_mayBorrow : GoodIn wsX9_borrow (wsV RX9 202 RX7 yX7_mayBorrow wsX7_mayBorrow) := goodIn_app (goodIn_of _ (by decide +kernel)) ggX9_borrow_X7_mayBorrow
set_option maxRecDepth 20000 in
theorem ggX9_borrow_X2_note : GoodIn wsX9_borrow wsX2_note := goodIn_r _ [48, 49, 50, 51, 52, 53, 54, 25, 55, 56, 57, 58, 59, 60, 27, 61, 33, 43, 62, 107, 108, 109, 100, 101, 102, 103, 104, 105, 106] (by decide +kernel) (by decide +kernel)
set_option maxRecDepth 20000 in
theorem gX9_borrow_X2_note : GoodIn wsX9_borrow (wsV RX9 207 RX2 yX2_note wsX2_note) := goodIn_app (goodIn_of _ (by decide +kernel)) ggX9_borrow_X2_note
set_option maxRecDepth 20000 in
theorem ggX9_borrow_X7_lend : GoodIn wsX9_borrow wsX7_lend := goodIn_r _ [66, 27, 67, 68, 69, 25, 70, 56, 71, 72, 73, 74, 75, 76, 77, 78, 100, 101, 102, 103, 104, 105, 106] (by decide +kernel) (by decide +kernel)
set_option maxRecDepth 20000 in
theorem gX9_borrow_X7_lend : GoodIn wsX9_borrow (wsV RX9 210 RX7 yX7_lend wsX7_lend) := goodIn_app (goodIn_of _ (by decide +kernel)) ggX9_borrow_X7_lend
set_option maxRecDepth 20000 in
theorem ggX9_borrow_X7_owedTo : GoodIn wsX9_borrow wsX7_owedTo := goodIn_r _ [70, 56, 100, 101, 102, 103, 104, 105, 106] (by decide +kernel) (by decide +kernel)
set_option maxRecDepth 20000 in
theorem gX9_borrow_X7_owedTo : GoodIn wsX9_borrow (wsV RX9 196 RX7 yX7_owedTo wsX7_owedTo) := goodIn_app (goodIn_of _ (by decide +kernel)) ggX9_borrow_X7_owedTo
set_option maxRecDepth 20000 in
theorem ggX9_pay_X8_hasBoth : GoodIn wsX9_pay wsX8_hasBoth := goodIn_r _ [11, 12, 13, 14, 10, 15, 16, 17, 18, 19, 20, 21, 75, 76, 77, 78, 79, 80, 81, 82, 83] (by decide +kernel) (by decide +kernel)
set_option maxRecDepth 20000 in
theorem gX9_pay_X8_hasBoth : GoodIn wsX9_pay (wsV RX9 192 RX8 yX8_hasBoth wsX8_hasBoth) := goodIn_app (goodIn_of _ (by decide +kernel)) ggX9_pay_X8_hasBoth
set_option maxRecDepth 20000 in
theorem ggX9_pay_X7_owedTo : GoodIn wsX9_pay wsX7_owedTo := goodIn_r _ [26, 27, 84, 85, 86, 87, 88, 89, 90] (by decide +kernel) (by decide +kernel)
set_option maxRecDepth 20000 in
theorem gX9_pay_X7_owedTo : GoodIn wsX9_pay (wsV RX9 196 RX7 yX7_owedTo wsX7_owedTo) := goodIn_app (goodIn_of _ (by decide +kernel)) ggX9_pay_X7_owedTo
set_option maxRecDepth 20000 in
theorem ggX9_pay_X2_note : GoodIn wsX9_pay wsX2_note := goodIn_r _ [32, 33, 34, 35, 36, 37, 38, 25, 39, 27, 40, 41, 42, 43, 44, 45, 46, 47, 48, 91, 92, 93, 84, 85, 86, 87, 88, 89, 90] (by decide +kernel) (by decide +kernel)
set_option maxRecDepth 20000 in
theorem gX9_pay_X2_note : GoodIn wsX9_pay (wsV RX9 207 RX2 yX2_note wsX2_note) := goodIn_app (goodIn_of _ (by decide +kernel)) ggX9_pay_X2_note
set_option maxRecDepth 20000 in
theorem ggX9_pay_X7_settle : GoodIn wsX9_pay wsX7_settle := goodIn_r _ [52, 53, 54, 45, 44, 55, 56, 57, 58, 59, 23, 24, 25, 26, 27, 60, 61, 62, 63, 84, 85, 86, 87, 88, 89, 90, 75, 76, 77, 78, 79, 80, 81, 82, 83] (by decide +kernel) (by decide +kernel)
set_option maxRecDepth 20000 in
theorem gX9_pay_X7_settle : GoodIn wsX9_pay (wsV RX9 214 RX7 yX7_settle wsX7_settle) := goodIn_app (goodIn_of _ (by decide +kernel)) ggX9_pay_X7_settle
set_option maxRecDepth 20000 in
theorem ggX9_quarter_X9_refusalOfQuarters : GoodIn wsX9_quarter wsX9_refusalOfQuarters := goodIn_r _ [7, 8, 9, 10, 11, 2, 12, 13, 96, 97, 98, 99, 100, 101, 102, 103, 104, 105, 106, 107, 108, 109, 110, 111, 112, 113, 114, 115, 116, 117, 118, 119, 120, 121, 122] (by decide +kernel) (by decide +kernel)
set_option maxRecDepth 20000 in
theorem gX9_quarter_X9_refusalOfQuarters : GoodIn wsX9_quarter (wsV RX9 217 RX9 yX9_refusalOfQuarters wsX9_refusalOfQuarters) := goodIn_app (goodIn_of _ (by decide +kernel)) ggX9_quarter_X9_refusalOfQuarters
set_option maxRecDepth 20000 in
theorem ggX9_quarter_X2_note : GoodIn wsX9_quarter wsX2_note := goodIn_r _ [18, 19, 20, 21, 22, 23, 24, 25, 26, 27, 28, 29, 30, 31, 32, 33, 34, 35, 36, 123, 124, 125, 116, 117, 118, 119, 120, 121, 122] (by decide +kernel) (by decide +kernel)
set_option maxRecDepth 20000 in
theorem gX9_quarter_X2_note : GoodIn wsX9_quarter (wsV RX9 207 RX2 yX2_note wsX2_note) := goodIn_app (goodIn_of _ (by decide +kernel)) ggX9_quarter_X2_note
set_option maxRecDepth 20000 in
theorem ggX9_quarter_X7_passQuarter : GoodIn wsX9_quarter wsX7_passQuarter := goodIn_r _ [40, 41, 42, 33, 43, 32, 35, 36, 44, 45, 46, 25, 47, 27, 48, 49, 50, 51, 52, 53, 54, 55, 56, 57, 58, 59, 60, 61, 62, 63, 64, 65, 66, 67, 68, 69, 70, 71, 72, 73, 74, 75, 76, 77, 78, 79, 80, 81, 82, 83, 84, 85, 86, 87, 88, 116, 117, 118, 119, 120, 121, 122, 107, 108, 109, 110, 111, 112, 113, 114, 115] (by decide +kernel) (by decide +kernel)
set_option maxRecDepth 20000 in
theorem gX9_quarter_X7_passQuarter : GoodIn wsX9_quarter (wsV RX9 220 RX7 yX7_passQuarter wsX7_passQuarter) := goodIn_app (goodIn_of _ (by decide +kernel)) ggX9_quarter_X7_passQuarter
set_option maxRecDepth 20000 in
theorem ggX9_quarter_J6_bitCount_0f7a4 : GoodIn wsX9_quarter wsJ6_bitCount_0f7a4 := goodIn_r _ [92, 93, 94, 95] (by decide +kernel) (by decide +kernel)
set_option maxRecDepth 20000 in
theorem gX9_quarter_J6_bitCount_0f7a4 : GoodIn wsX9_quarter (va_wsS RX9 223 yJ6_bitCount_0f7a4 wsJ6_bitCount_0f7a4) := goodIn_app (goodIn_of _ (by decide +kernel)) ggX9_quarter_J6_bitCount_0f7a4
set_option maxRecDepth 20000 in
theorem ggX9_wed_X9_refusalOfPair : GoodIn wsX9_wed wsX9_refusalOfPair := goodIn_r _ [7, 8, 9, 2, 10, 11, 12, 13, 14, 15, 16, 17, 18, 19, 20, 21, 22, 23, 24, 25, 26, 95, 96, 97, 98, 99, 100, 101, 102, 103, 104, 105, 106, 107, 108, 109, 110, 111, 112, 113, 114, 115, 116, 117, 118, 119, 120, 121] (by decide +kernel) (by decide +kernel)
set_option maxRecDepth 20000 in
theorem gX9_wed_X9_refusalOfPair : GoodIn wsX9_wed (wsV RX9 228 RX9 yX9_refusalOfPair wsX9_refusalOfPair) := goodIn_app (goodIn_of _ (by decide +kernel)) ggX9_wed_X9_refusalOfPair
set_option maxRecDepth 20000 in
theorem ggX9_wed_X2_note : GoodIn wsX9_wed wsX2_note := goodIn_r _ [31, 32, 33, 34, 35, 36, 37, 38, 39, 40, 41, 42, 43, 44, 45, 46, 47, 48, 49, 122, 123, 124, 106, 107, 108, 109, 110, 111, 112] (by decide +kernel) (by decide +kernel)
set_option maxRecDepth 20000 in
theorem gX9_wed_X2_note : GoodIn wsX9_wed (wsV RX9 207 RX2 yX2_note wsX2_note) := goodIn_app (goodIn_of _ (by decide +kernel)) ggX9_wed_X2_note
set_option maxRecDepth 20000 in
theorem ggX9_wed_X7_unite : GoodIn wsX9_wed wsX7_unite := goodIn_r _ [53, 54, 55, 46, 47, 56, 57, 58, 38, 59, 40, 60, 61, 62, 63, 64, 65, 66, 67, 106, 107, 108, 109, 110, 111, 112, 113, 114, 115, 116, 117, 118, 119, 120, 121] (by decide +kernel) (by decide +kernel)
set_option maxRecDepth 20000 in
theorem gX9_wed_X7_unite : GoodIn wsX9_wed (wsV RX9 231 RX7 yX7_unite wsX7_unite) := goodIn_app (goodIn_of _ (by decide +kernel)) ggX9_wed_X7_unite
set_option maxRecDepth 20000 in
theorem ggX9_wed_X7_standingOf : GoodIn wsX9_wed wsX7_standingOf := goodIn_r _ [71, 54, 55, 72, 73, 74, 38, 75, 56, 57, 58, 59, 40, 76, 77, 78, 79, 46, 80, 81, 82, 83, 84, 85, 86, 87, 88, 89, 48, 90, 91, 92, 93, 94, 106, 107, 108, 109, 110, 111, 112, 113, 114, 115, 116, 117, 118, 119, 120, 121] (by decide +kernel) (by decide +kernel)
set_option maxRecDepth 20000 in
theorem gX9_wed_X7_standingOf : GoodIn wsX9_wed (wsV RX9 186 RX7 yX7_standingOf wsX7_standingOf) := goodIn_app (goodIn_of _ (by decide +kernel)) ggX9_wed_X7_standingOf
set_option maxRecDepth 20000 in
theorem ggX9_divorce_X8_isGirl : GoodIn wsX9_divorce wsX8_isGirl := goodIn_r _ [11, 12, 13, 14, 15, 10, 16, 17, 82, 83, 84, 85, 86, 87, 88, 89, 90] (by decide +kernel) (by decide +kernel)
set_option maxRecDepth 20000 in
theorem gX9_divorce_X8_isGirl : GoodIn wsX9_divorce (wsV RX9 176 RX8 yX8_isGirl wsX8_isGirl) := goodIn_app (goodIn_of _ (by decide +kernel)) ggX9_divorce_X8_isGirl
set_option maxRecDepth 20000 in
theorem ggX9_divorce_X8_hasPerson : GoodIn wsX9_divorce wsX8_hasPerson := goodIn_r _ [16, 17, 82, 83, 84, 85, 86, 87, 88, 89, 90] (by decide +kernel) (by decide +kernel)
set_option maxRecDepth 20000 in
theorem gX9_divorce_X8_hasPerson : GoodIn wsX9_divorce (wsV RX9 173 RX8 yX8_hasPerson wsX8_hasPerson) := goodIn_app (goodIn_of _ (by decide +kernel)) ggX9_divorce_X8_hasPerson
set_option maxRecDepth 20000 in
theorem ggX9_divorce_X2_note : GoodIn wsX9_divorce wsX2_note := goodIn_r _ [23, 24, 25, 26, 27, 28, 29, 30, 31, 32, 33, 34, 35, 36, 37, 38, 39, 40, 41, 91, 92, 93, 75, 76, 77, 78, 79, 80, 81] (by decide +kernel) (by decide +kernel)
set_option maxRecDepth 20000 in
theorem gX9_divorce_X2_note : GoodIn wsX9_divorce (wsV RX9 207 RX2 yX2_note wsX2_note) := goodIn_app (goodIn_of _ (by decide +kernel)) ggX9_divorce_X2_note
set_option maxRecDepth 20000 in
theorem ggX9_divorce_X7_part : GoodIn wsX9_divorce wsX7_part := goodIn_r _ [45, 46, 47, 38, 39, 48, 49, 50, 30, 51, 32, 52, 53, 54, 55, 56, 57, 58, 59, 75, 76, 77, 78, 79, 80, 81, 82, 83, 84, 85, 86, 87, 88, 89, 90] (by decide +kernel) (by decide +kernel)
set_option maxRecDepth 20000 in
theorem gX9_divorce_X7_part : GoodIn wsX9_divorce (wsV RX9 235 RX7 yX7_part wsX7_part) := goodIn_app (goodIn_of _ (by decide +kernel)) ggX9_divorce_X7_part
set_option maxRecDepth 20000 in
theorem ggX9_divorce_X7_owedTogether : GoodIn wsX9_divorce wsX7_owedTogether := goodIn_r _ [63, 46, 47, 48, 49, 50, 30, 51, 32, 75, 76, 77, 78, 79, 80, 81, 82, 83, 84, 85, 86, 87, 88, 89, 90] (by decide +kernel) (by decide +kernel)
set_option maxRecDepth 20000 in
theorem gX9_divorce_X7_owedTogether : GoodIn wsX9_divorce (wsV RX9 182 RX7 yX7_owedTogether wsX7_owedTogether) := goodIn_app (goodIn_of _ (by decide +kernel)) ggX9_divorce_X7_owedTogether
set_option maxRecDepth 20000 in
theorem ggX9_drift_X9_refusalOfQuarters : GoodIn wsX9_drift wsX9_refusalOfQuarters := goodIn_r _ [7, 8, 9, 10, 11, 2, 12, 13, 143, 144, 145, 146, 147, 148, 149, 150, 151, 152, 153, 154, 155, 156, 157, 158, 159, 160, 161, 162, 163, 164, 165, 166, 167, 168, 169] (by decide +kernel) (by decide +kernel)
set_option maxRecDepth 20000 in
theorem gX9_drift_X9_refusalOfQuarters : GoodIn wsX9_drift (wsV RX9 217 RX9 yX9_refusalOfQuarters wsX9_refusalOfQuarters) := goodIn_app (goodIn_of _ (by decide +kernel)) ggX9_drift_X9_refusalOfQuarters
set_option maxRecDepth 20000 in
theorem ggX9_drift_X2_note : GoodIn wsX9_drift wsX2_note := goodIn_r _ [18, 19, 20, 21, 22, 23, 24, 25, 26, 27, 28, 29, 30, 31, 32, 33, 34, 35, 36, 170, 171, 172, 163, 164, 165, 166, 167, 168, 169] (by decide +kernel) (by decide +kernel)
set_option maxRecDepth 20000 in
theorem gX9_drift_X2_note : GoodIn wsX9_drift (wsV RX9 207 RX2 yX2_note wsX2_note) := goodIn_app (goodIn_of _ (by decide +kernel)) ggX9_drift_X2_note
set_option maxRecDepth 20000 in
theorem ggX9_drift_X9_borrowByDraws : GoodIn wsX9_drift wsX9_borrowByDraws := goodIn_r _ [40, 9, 41, 42, 2, 43, 44, 45, 6, 46, 47, 48, 49, 50, 51, 52, 53, 54, 55, 56, 57, 58, 59, 60, 61, 62, 63, 64, 65, 66, 67, 68, 69, 25, 70, 32, 71, 72, 73, 74, 75, 34, 76, 77, 78, 79, 80, 81, 82, 83, 84, 35, 85, 86, 87, 88, 89, 90, 91, 92, 27, 93, 94, 95, 96, 97, 98, 99, 100, 143, 144, 145, 146, 147, 148, 149, 150, 151, 152, 153, 154, 155, 156, 157, 158, 159, 160, 161, 162, 163, 164, 165, 166, 167, 168, 169] (by decide +kernel) (by decide +kernel)
set_option maxRecDepth 20000 in
theorem gX9_drift_X9_borrowByDraws : GoodIn wsX9_drift (wsV RX9 238 RX9 yX9_borrowByDraws wsX9_borrowByDraws) := goodIn_app (goodIn_of _ (by decide +kernel)) ggX9_drift_X9_borrowByDraws
set_option maxRecDepth 20000 in
theorem ggX9_drift_X7_passQuarter : GoodIn wsX9_drift wsX7_passQuarter := goodIn_r _ [104, 75, 105, 33, 106, 32, 35, 36, 89, 90, 91, 25, 92, 27, 107, 108, 109, 55, 110, 111, 112, 98, 99, 100, 93, 94, 95, 96, 97, 81, 82, 83, 84, 113, 114, 115, 116, 117, 118, 119, 120, 121, 122, 123, 124, 125, 126, 127, 128, 129, 130, 131, 132, 133, 134, 163, 164, 165, 166, 167, 168, 169, 154, 155, 156, 157, 158, 159, 160, 161, 162] (by decide +kernel) (by decide +kernel)
set_option maxRecDepth 20000 in
theorem gX9_drift_X7_passQuarter : GoodIn wsX9_drift (wsV RX9 220 RX7 yX7_passQuarter wsX7_passQuarter) := goodIn_app (goodIn_of _ (by decide +kernel)) ggX9_drift_X7_passQuarter
set_option maxRecDepth 20000 in
theorem ggX9_drift_X7_owedInAll : GoodIn wsX9_drift wsX7_owedInAll := goodIn_r _ [138, 75, 105, 139, 140, 141, 25, 142, 106, 89, 90, 91, 92, 27, 163, 164, 165, 166, 167, 168, 169, 154, 155, 156, 157, 158, 159, 160, 161, 162] (by decide +kernel) (by decide +kernel)
set_option maxRecDepth 20000 in
theorem gX9_drift_X7_owedInAll : GoodIn wsX9_drift (wsV RX9 148 RX7 yX7_owedInAll wsX7_owedInAll) := goodIn_app (goodIn_of _ (by decide +kernel)) ggX9_drift_X7_owedInAll
set_option maxRecDepth 20000 in
theorem ggX9_undo_X2_restore : GoodIn wsX9_undo wsX2_restore := goodIn_r _ [11, 12, 13, 14, 15, 16, 17, 18, 19, 20, 21, 22, 23, 24, 25, 26, 27, 28, 29, 41, 42, 43, 44, 45, 46, 47, 48, 49, 50] (by decide +kernel) (by decide +kernel)
set_option maxRecDepth 20000 in
theorem gX9_undo_X2_restore : GoodIn wsX9_undo (wsV RX9 241 RX2 yX2_restore wsX2_restore) := goodIn_app (goodIn_of _ (by decide +kernel)) ggX9_undo_X2_restore
set_option maxRecDepth 20000 in
theorem ggX9_joined_X9_refusalOfPair : GoodIn wsX9_joined wsX9_refusalOfPair := goodIn_r _ [6, 7, 8, 1, 9, 10, 11, 12, 13, 14, 15, 16, 17, 18, 19, 20, 21, 22, 23, 24, 25, 63, 64, 65, 66, 67, 68, 69, 70, 71, 72, 73, 74, 75, 76, 77, 78, 79, 80, 81, 82, 83, 84, 85, 86, 87, 88, 89] (by decide +kernel) (by decide +kernel)
set_option maxRecDepth 20000 in
theorem gX9_joined_X9_refusalOfPair : GoodIn wsX9_joined (wsV RX9 228 RX9 yX9_refusalOfPair wsX9_refusalOfPair) := goodIn_app (goodIn_of _ (by decide +kernel)) ggX9_joined_X9_refusalOfPair
set_option maxRecDepth 20000 in
theorem ggX9_joined_X7_standingJoined : GoodIn wsX9_joined wsX7_standingJoined := goodIn_r _ [30, 31, 32, 33, 34, 35, 36, 37, 38, 39, 29, 40, 41, 42, 43, 44, 45, 46, 47, 48, 49, 50, 51, 52, 53, 54, 55, 56, 57, 58, 59, 60, 61, 62, 74, 75, 76, 77, 78, 79, 80, 81, 82, 83, 84, 85, 86, 87, 88, 89] (by decide +kernel) (by decide +kernel)
set_option maxRecDepth 20000 in
theorem gX9_joined_X7_standingJoined : GoodIn wsX9_joined (wsV RX9 245 RX7 yX7_standingJoined wsX7_standingJoined) := goodIn_app (goodIn_of _ (by decide +kernel)) ggX9_joined_X7_standingJoined
set_option maxRecDepth 20000 in
theorem ggX9_least_X8_hasPerson : GoodIn wsX9_least wsX8_hasPerson := goodIn_r _ [10, 11, 95, 96, 97, 98, 99, 100, 101, 102, 103] (by decide +kernel) (by decide +kernel)
set_option maxRecDepth 20000 in
theorem gX9_least_X8_hasPerson : GoodIn wsX9_least (wsV RX9 173 RX8 yX8_hasPerson wsX8_hasPerson) := goodIn_app (goodIn_of _ (by decide +kernel)) ggX9_least_X8_hasPerson
set_option maxRecDepth 20000 in
theorem ggX9_least_X7_isWedMan : GoodIn wsX9_least wsX7_isWedMan := goodIn_r _ [16, 17, 18, 19, 20, 21, 9, 22, 23, 24, 7, 8, 10, 11, 104, 105, 106, 107, 108, 109, 110, 95, 96, 97, 98, 99, 100, 101, 102, 103] (by decide +kernel) (by decide +kernel)
set_option maxRecDepth 20000 in
theorem gX9_least_X7_isWedMan : GoodIn wsX9_least (wsV RX9 248 RX7 yX7_isWedMan wsX7_isWedMan) := goodIn_app (goodIn_of _ (by decide +kernel)) ggX9_least_X7_isWedMan
set_option maxRecDepth 20000 in
theorem ggX9_least_X7_cheapestSet : GoodIn wsX9_least wsX7_cheapestSet := goodIn_r _ [28, 17, 29, 30, 31, 32, 33, 15, 34, 35, 36, 37, 38, 39, 40, 41, 42, 43, 44, 45, 46, 47, 48, 49, 50, 51, 52, 53, 54, 55, 56, 57, 58, 59, 60, 61, 62, 63, 64, 65, 13, 14, 16, 18, 19, 20, 21, 9, 22, 23, 24, 7, 8, 10, 11, 66, 67, 68, 69, 70, 71, 72, 73, 74, 75, 76, 77, 78, 79, 80, 81, 82, 104, 105, 106, 107, 108, 109, 110, 95, 96, 97, 98, 99, 100, 101, 102, 103] (by decide +kernel) (by decide +kernel)
set_option maxRecDepth 20000 in
theorem gX9_least_X7_cheapestSet : GoodIn wsX9_least (wsV RX9 251 RX7 yX7_cheapestSet wsX7_cheapestSet) := goodIn_app (goodIn_of _ (by decide +kernel)) ggX9_least_X7_cheapestSet
set_option maxRecDepth 20000 in
theorem ggX9_least_X7_coinsFor : GoodIn wsX9_least wsX7_coinsFor := goodIn_r _ [82, 17, 29, 35, 40, 41, 42, 15, 43, 44, 104, 105, 106, 107, 108, 109, 110, 95, 96, 97, 98, 99, 100, 101, 102, 103] (by decide +kernel) (by decide +kernel)
set_option maxRecDepth 20000 in
theorem gX9_least_X7_coinsFor : GoodIn wsX9_least (wsV RX9 254 RX7 yX7_coinsFor wsX7_coinsFor) := goodIn_app (goodIn_of _ (by decide +kernel)) ggX9_least_X7_coinsFor
set_option maxRecDepth 20000 in
theorem ggX9_plan_X8_hasBoth : GoodIn wsX9_plan wsX8_hasBoth := goodIn_r _ [12, 13, 14, 15, 11, 16, 17, 18, 19, 20, 21, 22, 82, 83, 84, 85, 86, 87, 88, 89, 90] (by decide +kernel) (by decide +kernel)
set_option maxRecDepth 20000 in
theorem gX9_plan_X8_hasBoth : GoodIn wsX9_plan (wsV RX9 192 RX8 yX8_hasBoth wsX8_hasBoth) := goodIn_app (goodIn_of _ (by decide +kernel)) ggX9_plan_X8_hasBoth
set_option maxRecDepth 20000 in
theorem ggX9_plan_X7_hasFailed : GoodIn wsX9_plan wsX7_hasFailed := goodIn_r _ [27, 28, 91, 92, 93, 94, 95, 96, 97] (by decide +kernel) (by decide +kernel)
set_option maxRecDepth 20000 in
theorem gX9_plan_X7_hasFailed : GoodIn wsX9_plan (wsV RX9 257 RX7 yX7_hasFailed wsX7_hasFailed) := goodIn_app (goodIn_of _ (by decide +kernel)) ggX9_plan_X7_hasFailed
set_option maxRecDepth 20000 in
theorem ggX9_plan_X7_owedTo : GoodIn wsX9_plan wsX7_owedTo := goodIn_r _ [32, 33, 91, 92, 93, 94, 95, 96, 97] (by decide +kernel) (by decide +kernel)
set_option maxRecDepth 20000 in
theorem gX9_plan_X7_owedTo : GoodIn wsX9_plan (wsV RX9 196 RX7 yX7_owedTo wsX7_owedTo) := goodIn_app (goodIn_of _ (by decide +kernel)) ggX9_plan_X7_owedTo
set_option maxRecDepth 20000 in
theorem ggX9_plan_X5_work : GoodIn wsX9_plan wsX5_work := goodIn_r _ [38, 39, 40, 41, 42, 43, 44, 45, 46, 47, 48, 49, 50, 37, 51, 52, 53, 54, 55, 56, 57, 58, 11, 59, 60, 61, 62, 63, 64, 65, 66, 67, 79, 80, 81, 82, 83, 84, 85, 86, 87, 88, 89, 90] (by decide +kernel) (by decide +kernel)
set_option maxRecDepth 20000 in
theorem gX9_plan_X5_work : GoodIn wsX9_plan (wsV RX9 260 RX5 yX5_work wsX5_work) := goodIn_app (goodIn_of _ (by decide +kernel)) ggX9_plan_X5_work
set_option maxRecDepth 20000 in
theorem ggX9_matches_X8_isGirl : GoodIn wsX9_matches wsX8_isGirl := goodIn_r _ [10, 11, 12, 13, 14, 9, 15, 16, 97, 98, 99, 100, 101, 102, 103, 104, 105] (by decide +kernel) (by decide +kernel)
set_option maxRecDepth 20000 in
theorem gX9_matches_X8_isGirl : GoodIn wsX9_matches (wsV RX9 176 RX8 yX8_isGirl wsX8_isGirl) := goodIn_app (goodIn_of _ (by decide +kernel)) ggX9_matches_X8_isGirl
set_option maxRecDepth 20000 in
theorem ggX9_matches_X4_pairAll : GoodIn wsX9_matches wsX4_pairAll := goodIn_r _ [21, 22, 23, 24, 25, 26, 27, 28, 29, 30, 31, 32, 20, 33, 34, 35, 36, 37, 7, 8, 9, 10, 11, 12, 13, 14, 15, 16, 38, 39, 40, 41, 42, 43, 44, 45, 46, 47, 48, 49, 50, 51, 52, 53, 54, 55, 56, 57, 58, 59, 60, 61, 62, 63, 64, 65, 66, 67, 68, 69, 70, 71, 72, 73, 74, 75, 76, 77, 78, 79, 80, 81, 82, 83, 84, 96, 106, 107, 108, 109, 110, 111, 112, 97, 98, 99, 100, 101, 102, 103, 104, 105] (by decide +kernel) (by decide +kernel)
set_option maxRecDepth 20000 in
theorem gX9_matches_X4_pairAll : GoodIn wsX9_matches (wsV RX9 270 RX4 yX4_pairAll wsX4_pairAll) := goodIn_app (goodIn_of _ (by decide +kernel)) ggX9_matches_X4_pairAll
set_option maxRecDepth 20000 in
theorem ggX9_failing_X7_take : GoodIn wsX9_failing wsX7_take := goodIn_r _ [7, 8, 9, 10, 11, 12, 13, 14, 15, 16, 17, 81, 82, 83, 84, 85, 86, 87] (by decide +kernel) (by decide +kernel)
set_option maxRecDepth 20000 in
theorem gX9_failing_X7_take : GoodIn wsX9_failing (wsV RX9 103 RX7 yX7_take wsX7_take) := goodIn_app (goodIn_of _ (by decide +kernel)) ggX9_failing_X7_take
set_option maxRecDepth 20000 in
theorem ggX9_failing_X7_passQuarter : GoodIn wsX9_failing wsX7_passQuarter := goodIn_r _ [21, 22, 23, 14, 24, 13, 16, 17, 25, 26, 27, 6, 28, 8, 29, 30, 31, 32, 33, 34, 35, 36, 37, 38, 39, 40, 41, 42, 43, 44, 45, 46, 47, 48, 49, 50, 51, 52, 53, 54, 55, 56, 57, 58, 59, 60, 61, 62, 63, 64, 65, 66, 67, 68, 69, 81, 82, 83, 84, 85, 86, 87, 88, 89, 90, 91, 92, 93, 94, 95, 96] (by decide +kernel) (by decide +kernel)
set_option maxRecDepth 20000 in
theorem gX9_failing_X7_passQuarter : GoodIn wsX9_failing (wsV RX9 220 RX7 yX7_passQuarter wsX7_passQuarter) := goodIn_app (goodIn_of _ (by decide +kernel)) ggX9_failing_X7_passQuarter
set_option maxRecDepth 20000 in
theorem ggX9_run_X7_take : GoodIn wsX9_run wsX7_take := goodIn_r _ [9, 10, 11, 12, 13, 14, 15, 16, 17, 18, 19, 83, 84, 85, 86, 87, 88, 89] (by decide +kernel) (by decide +kernel)
set_option maxRecDepth 20000 in
theorem gX9_run_X7_take : GoodIn wsX9_run (wsV RX9 103 RX7 yX7_take wsX7_take) := goodIn_app (goodIn_of _ (by decide +kernel)) ggX9_run_X7_take
set_option maxRecDepth 20000 in
theorem ggX9_run_X7_passQuarter : GoodIn wsX9_run wsX7_passQuarter := goodIn_r _ [23, 24, 25, 16, 26, 15, 18, 19, 27, 28, 29, 8, 30, 10, 31, 32, 33, 34, 35, 36, 37, 38, 39, 40, 41, 42, 43, 44, 45, 46, 47, 48, 49, 50, 51, 52, 53, 54, 55, 56, 57, 58, 59, 60, 61, 62, 63, 64, 65, 66, 67, 68, 69, 70, 71, 83, 84, 85, 86, 87, 88, 89, 90, 91, 92, 93, 94, 95, 96, 97, 98] (by decide +kernel) (by decide +kernel)
set_option maxRecDepth 20000 in
theorem gX9_run_X7_passQuarter : GoodIn wsX9_run (wsV RX9 220 RX7 yX7_passQuarter wsX7_passQuarter) := goodIn_app (goodIn_of _ (by decide +kernel)) ggX9_run_X7_passQuarter
set_option maxRecDepth 20000 in
theorem ggX9_credit_X8_hasBoth : GoodIn wsX9_credit wsX8_hasBoth := goodIn_r _ [14, 15, 16, 17, 13, 18, 19, 20, 21, 22, 23, 24, 81, 82, 83, 84, 85, 86, 87, 88, 89] (by decide +kernel) (by decide +kernel)
set_option maxRecDepth 20000 in
theorem gX9_credit_X8_hasBoth : GoodIn wsX9_credit (wsV RX9 192 RX8 yX8_hasBoth wsX8_hasBoth) := goodIn_app (goodIn_of _ (by decide +kernel)) ggX9_credit_X8_hasBoth
set_option maxRecDepth 20000 in
theorem ggX9_credit_X7_owedTo : GoodIn wsX9_credit wsX7_owedTo := goodIn_r _ [29, 30, 74, 75, 76, 77, 78, 79, 80] (by decide +kernel) (by decide +kernel)
set_option maxRecDepth 20000 in
theorem gX9_credit_X7_owedTo : GoodIn wsX9_credit (wsV RX9 196 RX7 yX7_owedTo wsX7_owedTo) := goodIn_app (goodIn_of _ (by decide +kernel)) ggX9_credit_X7_owedTo
set_option maxRecDepth 20000 in
theorem ggX9_credit_X7_mayBorrow : GoodIn wsX9_credit wsX7_mayBorrow := goodIn_r _ [34, 35, 36, 37, 38, 28, 39, 40, 41, 42, 43, 44, 13, 45, 46, 15, 16, 17, 18, 19, 47, 48, 49, 50, 51, 74, 75, 76, 77, 78, 79, 80, 81, 82, 83, 84, 85, 86, 87, 88, 89] (by decide +kernel) (by decide +kernel)
set_option maxRecDepth 20000 in
theorem gX9_credit_X7_mayBorrow : GoodIn wsX9_credit (wsV RX9 202 RX7 yX7_mayBorrow wsX7_mayBorrow) := goodIn_app (goodIn_of _ (by decide +kernel)) ggX9_credit_X7_mayBorrow
set_option maxRecDepth 20000 in
theorem ggX9_credit_X7_hasInsulted : GoodIn wsX9_credit wsX7_hasInsulted := goodIn_r _ [55, 56, 74, 75, 76, 77, 78, 79, 80] (by decide +kernel) (by decide +kernel)
set_option maxRecDepth 20000 in
theorem gX9_credit_X7_hasInsulted : GoodIn wsX9_credit (wsV RX9 282 RX7 yX7_hasInsulted wsX7_hasInsulted) := goodIn_app (goodIn_of _ (by decide +kernel)) ggX9_credit_X7_hasInsulted
set_option maxRecDepth 20000 in
theorem ggX9_credit_X7_moodBy : GoodIn wsX9_credit wsX7_moodBy := goodIn_r _ [60, 40, 61, 62, 47, 48, 49, 28, 50, 51, 74, 75, 76, 77, 78, 79, 80, 81, 82, 83, 84, 85, 86, 87, 88, 89] (by decide +kernel) (by decide +kernel)
set_option maxRecDepth 20000 in
theorem gX9_credit_X7_moodBy : GoodIn wsX9_credit (wsV RX9 285 RX7 yX7_moodBy wsX7_moodBy) := goodIn_app (goodIn_of _ (by decide +kernel)) ggX9_credit_X7_moodBy
set_option maxRecDepth 20000 in
theorem ggX9_card_X8_hasBoth : GoodIn wsX9_card wsX8_hasBoth := goodIn_r _ [11, 12, 13, 14, 10, 15, 16, 17, 18, 19, 20, 21, 50, 51, 52, 53, 54, 55, 56, 57, 58] (by decide +kernel) (by decide +kernel)
set_option maxRecDepth 20000 in
theorem gX9_card_X8_hasBoth : GoodIn wsX9_card (wsV RX9 192 RX8 yX8_hasBoth wsX8_hasBoth) := goodIn_app (goodIn_of _ (by decide +kernel)) ggX9_card_X8_hasBoth
set_option maxRecDepth 20000 in
theorem ggX9_card_X1_add : GoodIn wsX9_card wsX1_add := goodIn_r _ [26, 27, 28, 29, 30, 31, 43, 44, 45, 46, 47, 48, 49] (by decide +kernel) (by decide +kernel)
set_option maxRecDepth 20000 in
theorem gX9_card_X1_add : GoodIn wsX9_card (wsV RX9 293 RX1 yX1_add wsX1_add) := goodIn_app (goodIn_of _ (by decide +kernel)) ggX9_card_X1_add
set_option maxRecDepth 20000 in
theorem ggX9_had_X8_hasBoth : GoodIn wsX9_had wsX8_hasBoth := goodIn_r _ [10, 11, 12, 13, 9, 14, 15, 16, 17, 18, 19, 20, 81, 82, 83, 84, 85, 86, 87, 88, 89] (by decide +kernel) (by decide +kernel)
set_option maxRecDepth 20000 in
theorem gX9_had_X8_hasBoth : GoodIn wsX9_had (wsV RX9 192 RX8 yX8_hasBoth wsX8_hasBoth) := goodIn_app (goodIn_of _ (by decide +kernel)) ggX9_had_X8_hasBoth
set_option maxRecDepth 20000 in
theorem ggX9_had_X1_sift : GoodIn wsX9_had wsX1_sift := goodIn_r _ [25, 26, 27, 28, 29, 30, 24, 31, 32, 33, 34, 35, 36, 37, 38, 39, 40, 41, 42, 9, 43, 44, 45, 46, 47, 48, 49, 50, 51, 52, 53, 54, 74, 75, 76, 77, 78, 79, 80, 81, 82, 83, 84, 85, 86, 87, 88, 89] (by decide +kernel) (by decide +kernel)
set_option maxRecDepth 20000 in
theorem gX9_had_X1_sift : GoodIn wsX9_had (wsV RX9 296 RX1 yX1_sift wsX1_sift) := goodIn_app (goodIn_of _ (by decide +kernel)) ggX9_had_X1_sift
set_option maxRecDepth 20000 in
theorem ggX9_had_X1_leastSum : GoodIn wsX9_had wsX1_leastSum := goodIn_r _ [58, 26, 27, 74, 75, 76, 77, 78, 79, 80] (by decide +kernel) (by decide +kernel)
set_option maxRecDepth 20000 in
theorem gX9_had_X1_leastSum : GoodIn wsX9_had (wsV RX9 303 RX1 yX1_leastSum wsX1_leastSum) := goodIn_app (goodIn_of _ (by decide +kernel)) ggX9_had_X1_leastSum
set_option maxRecDepth 20000 in
theorem ggX9_had_X1_mostSum : GoodIn wsX9_had wsX1_mostSum := goodIn_r _ [62, 26, 27, 74, 75, 76, 77, 78, 79, 80] (by decide +kernel) (by decide +kernel)
set_option maxRecDepth 20000 in
theorem gX9_had_X1_mostSum : GoodIn wsX9_had (wsV RX9 306 RX1 yX1_mostSum wsX1_mostSum) := goodIn_app (goodIn_of _ (by decide +kernel)) ggX9_had_X1_mostSum
set_option maxRecDepth 20000 in
theorem ggX9_lookAt_X8_hasBoth : GoodIn wsX9_lookAt wsX8_hasBoth := goodIn_r _ [8, 9, 10, 11, 7, 12, 13, 14, 15, 16, 17, 18, 71, 72, 73, 74, 75, 76, 77, 78, 79] (by decide +kernel) (by decide +kernel)
set_option maxRecDepth 20000 in
theorem gX9_lookAt_X8_hasBoth : GoodIn wsX9_lookAt (wsV RX9 192 RX8 yX8_hasBoth wsX8_hasBoth) := goodIn_app (goodIn_of _ (by decide +kernel)) ggX9_lookAt_X8_hasBoth
set_option maxRecDepth 20000 in
theorem ggX9_lookAt_X1_sift : GoodIn wsX9_lookAt wsX1_sift := goodIn_r _ [23, 24, 25, 26, 27, 28, 22, 29, 30, 31, 32, 33, 34, 35, 36, 37, 38, 39, 40, 7, 41, 42, 43, 44, 45, 46, 47, 48, 49, 50, 51, 52, 80, 81, 82, 83, 84, 85, 86, 71, 72, 73, 74, 75, 76, 77, 78, 79] (by decide +kernel) (by decide +kernel)
set_option maxRecDepth 20000 in
theorem gX9_lookAt_X1_sift : GoodIn wsX9_lookAt (wsV RX9 296 RX1 yX1_sift wsX1_sift) := goodIn_app (goodIn_of _ (by decide +kernel)) ggX9_lookAt_X1_sift
set_option maxRecDepth 20000 in
theorem ggX9_lookAt_X1_bestLook : GoodIn wsX9_lookAt wsX1_bestLook := goodIn_r _ [56, 24, 25, 57, 58, 45, 59, 47, 48, 49, 7, 50, 51, 52, 38, 39, 40, 41, 42, 43, 44, 46, 80, 81, 82, 83, 84, 85, 86, 71, 72, 73, 74, 75, 76, 77, 78, 79] (by decide +kernel) (by decide +kernel)
set_option maxRecDepth 20000 in
theorem gX9_lookAt_X1_bestLook : GoodIn wsX9_lookAt (wsV RX9 309 RX1 yX1_bestLook wsX1_bestLook) := goodIn_app (goodIn_of _ (by decide +kernel)) ggX9_lookAt_X1_bestLook
set_option maxRecDepth 20000 in
theorem ggX9_write_X8_hasPerson : GoodIn wsX9_write wsX8_hasPerson := goodIn_r _ [11, 12, 35, 36, 37, 38, 39, 40, 41, 42, 43] (by decide +kernel) (by decide +kernel)
set_option maxRecDepth 20000 in
theorem gX9_write_X8_hasPerson : GoodIn wsX9_write (wsV RX9 173 RX8 yX8_hasPerson wsX8_hasPerson) := goodIn_app (goodIn_of _ (by decide +kernel)) ggX9_write_X8_hasPerson
set_option maxRecDepth 20000 in
theorem ggX9_write_X0_add : GoodIn wsX9_write wsX0_add := goodIn_r _ [17, 18, 19, 20, 32, 33, 34] (by decide +kernel) (by decide +kernel)
set_option maxRecDepth 20000 in
theorem gX9_write_X0_add : GoodIn wsX9_write (wsV RX9 313 RX0 yX0_add wsX0_add) := goodIn_app (goodIn_of _ (by decide +kernel)) ggX9_write_X0_add
set_option maxRecDepth 20000 in
theorem ggX9_judge_X0_firstWrong : GoodIn wsX9_judge wsX0_firstWrong := goodIn_r _ [7, 8, 9, 10, 11, 12, 13, 14, 15, 16, 17, 18, 19, 20, 21, 22, 23, 24, 25, 26, 27, 28, 29, 30, 31, 32, 33, 34, 35, 36, 37, 38, 39, 40, 41, 42, 43, 44, 45, 46, 47, 59, 60, 61, 62, 63, 64, 65, 66, 67, 68, 69, 70, 71, 72, 73, 74, 75, 76, 77] (by decide +kernel) (by decide +kernel)
set_option maxRecDepth 20000 in
theorem gX9_judge_X0_firstWrong : GoodIn wsX9_judge (wsV RX9 315 RX0 yX0_firstWrong wsX0_firstWrong) := goodIn_app (goodIn_of _ (by decide +kernel)) ggX9_judge_X0_firstWrong
set_option maxRecDepth 20000 in
theorem ggX9_keep_X7_take : GoodIn wsX9_keep wsX7_take := goodIn_r _ [13, 14, 15, 16, 17, 18, 19, 20, 21, 22, 23, 44, 45, 46, 47, 48, 49, 50] (by decide +kernel) (by decide +kernel)
set_option maxRecDepth 20000 in
theorem gX9_keep_X7_take : GoodIn wsX9_keep (wsV RX9 103 RX7 yX7_take wsX7_take) := goodIn_app (goodIn_of _ (by decide +kernel)) ggX9_keep_X7_take
set_option maxRecDepth 20000 in
theorem ggX9_keep_X2_forget : GoodIn wsX9_keep wsX2_forget := goodIn_r _ [28, 29, 51, 52, 53] (by decide +kernel) (by decide +kernel)
set_option maxRecDepth 20000 in
theorem gX9_keep_X2_forget : GoodIn wsX9_keep (wsV RX9 106 RX2 yX2_forget wsX2_forget) := goodIn_app (goodIn_of _ (by decide +kernel)) ggX9_keep_X2_forget
set_option maxRecDepth 20000 in
theorem ggX9_goBack_X7_take : GoodIn wsX9_goBack wsX7_take := goodIn_r _ [14, 15, 16, 17, 18, 19, 20, 21, 22, 23, 24, 45, 46, 47, 48, 49, 50, 51] (by decide +kernel) (by decide +kernel)
set_option maxRecDepth 20000 in
theorem gX9_goBack_X7_take : GoodIn wsX9_goBack (wsV RX9 103 RX7 yX7_take wsX7_take) := goodIn_app (goodIn_of _ (by decide +kernel)) ggX9_goBack_X7_take
set_option maxRecDepth 20000 in
theorem ggX9_goBack_X2_forget : GoodIn wsX9_goBack wsX2_forget := goodIn_r _ [29, 30, 52, 53, 54] (by decide +kernel) (by decide +kernel)
set_option maxRecDepth 20000 in
theorem gX9_goBack_X2_forget : GoodIn wsX9_goBack (wsV RX9 106 RX2 yX2_forget wsX2_forget) := goodIn_app (goodIn_of _ (by decide +kernel)) ggX9_goBack_X2_forget
set_option maxRecDepth 20000 in
theorem ggX9_refusalOfPair_X8_isGirl : GoodIn wsX9_refusalOfPair wsX8_isGirl := goodIn_r _ [10, 11, 12, 13, 14, 9, 15, 16, 39, 40, 41, 42, 43, 44, 45, 46, 47] (by decide +kernel) (by decide +kernel)
set_option maxRecDepth 20000 in
theorem gX9_refusalOfPair_X8_isGirl : GoodIn wsX9_refusalOfPair (wsV RX9 176 RX8 yX8_isGirl wsX8_isGirl) := goodIn_app (goodIn_of _ (by decide +kernel)) ggX9_refusalOfPair_X8_isGirl
set_option maxRecDepth 20000 in
theorem ggX9_refusalOfPair_X8_isMan : GoodIn wsX9_refusalOfPair wsX8_isMan := goodIn_r _ [20, 11, 12, 13, 14, 9, 15, 16, 39, 40, 41, 42, 43, 44, 45, 46, 47] (by decide +kernel) (by decide +kernel)
set_option maxRecDepth 20000 in
theorem gX9_refusalOfPair_X8_isMan : GoodIn wsX9_refusalOfPair (wsV RX9 320 RX8 yX8_isMan wsX8_isMan) := goodIn_app (goodIn_of _ (by decide +kernel)) ggX9_refusalOfPair_X8_isMan
set_option maxRecDepth 20000 in
theorem ggX9_borrowByDraws_X9_drawOf : GoodIn wsX9_borrowByDraws wsX9_drawOf := goodIn_r _ [9, 10, 11, 12, 13, 14, 69, 70, 71, 72, 73, 74, 75, 76, 77, 78, 79] (by decide +kernel) (by decide +kernel)
set_option maxRecDepth 20000 in
theorem gX9_borrowByDraws_X9_drawOf : GoodIn wsX9_borrowByDraws (wsV RX9 330 RX9 yX9_drawOf wsX9_drawOf) := goodIn_app (goodIn_of _ (by decide +kernel)) ggX9_borrowByDraws_X9_drawOf
set_option maxRecDepth 20000 in
theorem ggX9_borrowByDraws_X8_hasBoth : GoodIn wsX9_borrowByDraws wsX8_hasBoth := goodIn_r _ [19, 20, 21, 22, 18, 23, 24, 25, 26, 27, 28, 29, 80, 81, 82, 83, 84, 85, 86, 87, 88] (by decide +kernel) (by decide +kernel)
set_option maxRecDepth 20000 in
theorem gX9_borrowByDraws_X8_hasBoth : GoodIn wsX9_borrowByDraws (wsV RX9 192 RX8 yX8_hasBoth wsX8_hasBoth) := goodIn_app (goodIn_of _ (by decide +kernel)) ggX9_borrowByDraws_X8_hasBoth
set_option maxRecDepth 20000 in
theorem ggX9_borrowByDraws_X7_mayBorrow : GoodIn wsX9_borrowByDraws wsX7_mayBorrow := goodIn_r _ [34, 35, 36, 37, 38, 33, 39, 40, 41, 42, 43, 44, 18, 45, 46, 20, 21, 22, 23, 24, 47, 48, 49, 50, 51, 89, 90, 91, 92, 93, 94, 95, 80, 81, 82, 83, 84, 85, 86, 87, 88] (by decide +kernel) (by decide +kernel)
set_option maxRecDepth 20000 in
theorem gX9_borrowByDraws_X7_mayBorrow : GoodIn wsX9_borrowByDraws (wsV RX9 202 RX7 yX7_mayBorrow wsX7_mayBorrow) := goodIn_app (goodIn_of _ (by decide +kernel)) ggX9_borrowByDraws_X7_mayBorrow
set_option maxRecDepth 20000 in
theorem ggX9_borrowByDraws_X7_lend : GoodIn wsX9_borrowByDraws wsX7_lend := goodIn_r _ [55, 35, 56, 57, 58, 33, 59, 60, 61, 62, 63, 64, 65, 66, 67, 68, 89, 90, 91, 92, 93, 94, 95] (by decide +kernel) (by decide +kernel)
set_option maxRecDepth 20000 in
theorem gX9_borrowByDraws_X7_lend : GoodIn wsX9_borrowByDraws (wsV RX9 210 RX7 yX7_lend wsX7_lend) := goodIn_app (goodIn_of _ (by decide +kernel)) ggX9_borrowByDraws_X7_lend
set_option maxRecDepth 20000 in
theorem ggX10_init_X10_begins : GoodIn wsX10_init wsX10_begins := goodIn_r _ [24, 5, 7, 25, 26, 27, 28, 29, 12, 30, 31, 23, 32, 33, 34, 35, 36, 37, 38, 39, 40, 41, 42, 43, 44, 45, 46, 47, 48, 49, 50, 51, 52, 53, 54, 55, 56, 57, 58, 59, 60] (by decide +kernel) (by decide +kernel)
set_option maxRecDepth 20000 in
theorem gX10_init_X10_begins : GoodIn wsX10_init (wsV RX10 54 RX10 yX10_begins wsX10_begins) := goodIn_app (goodIn_of _ (by decide +kernel)) ggX10_init_X10_begins
set_option maxRecDepth 20000 in
theorem ggX10_begins_X10_copies : GoodIn wsX10_begins wsX10_copies := goodIn_r _ [12] (by decide +kernel) (by decide +kernel)
set_option maxRecDepth 20000 in
theorem gX10_begins_X10_copies : GoodIn wsX10_begins (va_wsS RX10 57 yX10_copies wsX10_copies) := goodIn_app (goodIn_of _ (by decide +kernel)) ggX10_begins_X10_copies
set_option maxRecDepth 20000 in
theorem ggX10_begins_X10_in : GoodIn wsX10_begins wsX10_in := goodIn_r _ [15] (by decide +kernel) (by decide +kernel)
set_option maxRecDepth 20000 in
theorem gX10_begins_X10_in : GoodIn wsX10_begins (va_wsS RX10 65 yX10_in wsX10_in) := goodIn_app (goodIn_of _ (by decide +kernel)) ggX10_begins_X10_in
set_option maxRecDepth 20000 in
theorem ggX10_feed_X10_in : GoodIn wsX10_feed wsX10_in := goodIn_r _ [9] (by decide +kernel) (by decide +kernel)
set_option maxRecDepth 20000 in
theorem gX10_feed_X10_in : GoodIn wsX10_feed (va_wsS RX10 65 yX10_in wsX10_in) := goodIn_app (goodIn_of _ (by decide +kernel)) ggX10_feed_X10_in
set_option maxRecDepth 20000 in
theorem ggX10_step_X10_here : GoodIn wsX10_step wsX10_here := goodIn_r _ [12, 1, 13, 14, 18, 19, 20, 21, 22, 23, 24, 25, 26, 27, 28, 29, 30, 31, 32, 33, 34, 35, 36, 37, 38, 39, 40, 41, 42] (by decide +kernel) (by decide +kernel)
set_option maxRecDepth 20000 in
theorem gX10_step_X10_here : GoodIn wsX10_step (wsV RX10 88 RX10 yX10_here wsX10_here) := goodIn_app (goodIn_of _ (by decide +kernel)) ggX10_step_X10_here
set_option maxRecDepth 20000 in
theorem ggX10_step_X10_in : GoodIn wsX10_step wsX10_in := goodIn_r _ [17] (by decide +kernel) (by decide +kernel)
set_option maxRecDepth 20000 in
theorem gX10_step_X10_in : GoodIn wsX10_step (va_wsS RX10 65 yX10_in wsX10_in) := goodIn_app (goodIn_of _ (by decide +kernel)) ggX10_step_X10_in
set_option maxRecDepth 20000 in
theorem ggX10_number_X10_step : GoodIn wsX10_number wsX10_step := goodIn_r _ [9, 10, 11, 1, 2, 3, 12, 13, 14, 15, 16, 8, 17, 18, 19, 20, 21, 22, 28, 29, 30, 31, 32, 33, 34, 35, 36, 37, 38, 39, 40, 41, 42, 43, 44, 45, 46, 47, 48, 49, 50, 51, 52] (by decide +kernel) (by decide +kernel)
set_option maxRecDepth 20000 in
theorem gX10_number_X10_step : GoodIn wsX10_number (wsV RX10 111 RX10 yX10_step wsX10_step) := goodIn_app (goodIn_of _ (by decide +kernel)) ggX10_number_X10_step
set_option maxRecDepth 20000 in
theorem ggX10_number_X10_fails : GoodIn wsX10_number wsX10_fails := goodIn_r _ [26, 27, 28, 29, 30, 31, 32, 33, 34, 35, 36, 37, 38, 39, 40, 41, 42, 43, 44, 45, 46, 47, 48, 49, 50, 51, 52] (by decide +kernel) (by decide +kernel)
set_option maxRecDepth 20000 in
theorem gX10_number_X10_fails : GoodIn wsX10_number (wsV RX10 114 RX10 yX10_fails wsX10_fails) := goodIn_app (goodIn_of _ (by decide +kernel)) ggX10_number_X10_fails
set_option maxRecDepth 20000 in
theorem ggX10_number_X10_in : GoodIn wsX10_number wsX10_in := goodIn_r _ [22] (by decide +kernel) (by decide +kernel)
set_option maxRecDepth 20000 in
theorem gX10_number_X10_in : GoodIn wsX10_number (va_wsS RX10 65 yX10_in wsX10_in) := goodIn_app (goodIn_of _ (by decide +kernel)) ggX10_number_X10_in
set_option maxRecDepth 20000 in
theorem ggX10_ends_X10_step : GoodIn wsX10_ends wsX10_step := goodIn_r _ [6, 7, 8, 1, 9, 10, 11, 12, 13, 14, 15, 5, 16, 17, 18, 19, 20, 21, 27, 28, 29, 30, 31, 32, 33, 34, 35, 36, 37, 38, 39, 40, 41, 42, 43, 44, 45, 46, 47, 48, 49, 50, 51] (by decide +kernel) (by decide +kernel)
set_option maxRecDepth 20000 in
theorem gX10_ends_X10_step : GoodIn wsX10_ends (wsV RX10 111 RX10 yX10_step wsX10_step) := goodIn_app (goodIn_of _ (by decide +kernel)) ggX10_ends_X10_step
set_option maxRecDepth 20000 in
theorem ggX10_ends_X10_fails : GoodIn wsX10_ends wsX10_fails := goodIn_r _ [25, 26, 27, 28, 29, 30, 31, 32, 33, 34, 35, 36, 37, 38, 39, 40, 41, 42, 43, 44, 45, 46, 47, 48, 49, 50, 51] (by decide +kernel) (by decide +kernel)
set_option maxRecDepth 20000 in
theorem gX10_ends_X10_fails : GoodIn wsX10_ends (wsV RX10 114 RX10 yX10_fails wsX10_fails) := goodIn_app (goodIn_of _ (by decide +kernel)) ggX10_ends_X10_fails
set_option maxRecDepth 20000 in
theorem ggX10_readsInterest_X10_fails : GoodIn wsX10_readsInterest wsX10_fails := goodIn_r _ [6, 7, 36, 37, 38, 39, 40, 41, 42, 43, 44, 45, 46, 47, 48, 49, 50, 51, 52, 53, 54, 55, 56, 57, 58, 59, 60] (by decide +kernel) (by decide +kernel)
set_option maxRecDepth 20000 in
theorem gX10_readsInterest_X10_fails : GoodIn wsX10_readsInterest (wsV RX10 114 RX10 yX10_fails wsX10_fails) := goodIn_app (goodIn_of _ (by decide +kernel)) ggX10_readsInterest_X10_fails
set_option maxRecDepth 20000 in
theorem ggX10_readsInterest_X10_number : GoodIn wsX10_readsInterest wsX10_number := goodIn_r _ [11, 12, 13, 14, 1, 15, 16, 17, 5, 18, 19, 20, 21, 22, 23, 24, 25, 26, 27, 28, 29, 30, 31, 2, 3, 4, 6, 7, 36, 37, 38, 39, 40, 41, 42, 43, 44, 45, 46, 47, 48, 49, 50, 51, 52, 53, 54, 55, 56, 57, 58, 59, 60] (by decide +kernel) (by decide +kernel)
set_option maxRecDepth 20000 in
theorem gX10_readsInterest_X10_number : GoodIn wsX10_readsInterest (wsV RX10 118 RX10 yX10_number wsX10_number) := goodIn_app (goodIn_of _ (by decide +kernel)) ggX10_readsInterest_X10_number
set_option maxRecDepth 20000 in
theorem ggX10_readsInterest_X10_ends : GoodIn wsX10_readsInterest wsX10_ends := goodIn_r _ [35, 12, 15, 16, 17, 5, 18, 19, 20, 13, 14, 21, 22, 23, 24, 25, 26, 27, 28, 29, 30, 31, 2, 3, 4, 6, 7, 36, 37, 38, 39, 40, 41, 42, 43, 44, 45, 46, 47, 48, 49, 50, 51, 52, 53, 54, 55, 56, 57, 58, 59, 60] (by decide +kernel) (by decide +kernel)
set_option maxRecDepth 20000 in
theorem gX10_readsInterest_X10_ends : GoodIn wsX10_readsInterest (wsV RX10 122 RX10 yX10_ends wsX10_ends) := goodIn_app (goodIn_of _ (by decide +kernel)) ggX10_readsInterest_X10_ends
set_option maxRecDepth 20000 in
theorem ggX10_readsCreditor_X10_fails : GoodIn wsX10_readsCreditor wsX10_fails := goodIn_r _ [6, 7, 36, 37, 38, 39, 40, 41, 42, 43, 44, 45, 46, 47, 48, 49, 50, 51, 52, 53, 54, 55, 56, 57, 58, 59, 60] (by decide +kernel) (by decide +kernel)
set_option maxRecDepth 20000 in
theorem gX10_readsCreditor_X10_fails : GoodIn wsX10_readsCreditor (wsV RX10 114 RX10 yX10_fails wsX10_fails) := goodIn_app (goodIn_of _ (by decide +kernel)) ggX10_readsCreditor_X10_fails
set_option maxRecDepth 20000 in
theorem ggX10_readsCreditor_X10_number : GoodIn wsX10_readsCreditor wsX10_number := goodIn_r _ [11, 12, 13, 14, 1, 15, 16, 17, 5, 18, 19, 20, 21, 22, 23, 24, 25, 26, 27, 28, 29, 30, 31, 2, 3, 4, 6, 7, 36, 37, 38, 39, 40, 41, 42, 43, 44, 45, 46, 47, 48, 49, 50, 51, 52, 53, 54, 55, 56, 57, 58, 59, 60] (by decide +kernel) (by decide +kernel)
set_option maxRecDepth 20000 in
theorem gX10_readsCreditor_X10_number : GoodIn wsX10_readsCreditor (wsV RX10 118 RX10 yX10_number wsX10_number) := goodIn_app (goodIn_of _ (by decide +kernel)) ggX10_readsCreditor_X10_number
set_option maxRecDepth 20000 in
theorem ggX10_readsCreditor_X10_ends : GoodIn wsX10_readsCreditor wsX10_ends := goodIn_r _ [35, 12, 15, 16, 17, 5, 18, 19, 20, 13, 14, 21, 22, 23, 24, 25, 26, 27, 28, 29, 30, 31, 2, 3, 4, 6, 7, 36, 37, 38, 39, 40, 41, 42, 43, 44, 45, 46, 47, 48, 49, 50, 51, 52, 53, 54, 55, 56, 57, 58, 59, 60] (by decide +kernel) (by decide +kernel)
set_option maxRecDepth 20000 in
theorem gX10_readsCreditor_X10_ends : GoodIn wsX10_readsCreditor (wsV RX10 122 RX10 yX10_ends wsX10_ends) := goodIn_app (goodIn_of _ (by decide +kernel)) ggX10_readsCreditor_X10_ends
set_option maxRecDepth 20000 in
theorem ggX10_readsPerson_X10_fails : GoodIn wsX10_readsPerson wsX10_fails := goodIn_r _ [7, 8, 32, 33, 34, 35, 36, 37, 38, 39, 40, 41, 42, 43, 44, 45, 46, 47, 48, 49, 50, 51, 52, 53, 54, 55, 56] (by decide +kernel) (by decide +kernel)
set_option maxRecDepth 20000 in
theorem gX10_readsPerson_X10_fails : GoodIn wsX10_readsPerson (wsV RX10 114 RX10 yX10_fails wsX10_fails) := goodIn_app (goodIn_of _ (by decide +kernel)) ggX10_readsPerson_X10_fails
set_option maxRecDepth 20000 in
theorem ggX10_readsPerson_X10_number : GoodIn wsX10_readsPerson wsX10_number := goodIn_r _ [12, 2, 13, 14, 1, 15, 16, 17, 6, 18, 19, 20, 21, 22, 23, 24, 25, 26, 27, 28, 29, 30, 31, 3, 4, 5, 7, 8, 32, 33, 34, 35, 36, 37, 38, 39, 40, 41, 42, 43, 44, 45, 46, 47, 48, 49, 50, 51, 52, 53, 54, 55, 56] (by decide +kernel) (by decide +kernel)
set_option maxRecDepth 20000 in
theorem gX10_readsPerson_X10_number : GoodIn wsX10_readsPerson (wsV RX10 118 RX10 yX10_number wsX10_number) := goodIn_app (goodIn_of _ (by decide +kernel)) ggX10_readsPerson_X10_number
set_option maxRecDepth 20000 in
theorem ggX10_readsPerson_X10_step : GoodIn wsX10_readsPerson wsX10_step := goodIn_r _ [18, 19, 20, 2, 13, 14, 21, 22, 23, 24, 25, 6, 26, 27, 28, 29, 30, 31, 32, 33, 34, 35, 36, 37, 38, 39, 40, 41, 42, 43, 44, 45, 46, 47, 48, 49, 50, 51, 52, 53, 54, 55, 56] (by decide +kernel) (by decide +kernel)
set_option maxRecDepth 20000 in
theorem gX10_readsPerson_X10_step : GoodIn wsX10_readsPerson (wsV RX10 111 RX10 yX10_step wsX10_step) := goodIn_app (goodIn_of _ (by decide +kernel)) ggX10_readsPerson_X10_step
set_option maxRecDepth 20000 in
theorem ggX10_readsClause_X10_readsInterest : GoodIn wsX10_readsClause wsX10_readsInterest := goodIn_r _ [7, 2, 8, 9, 10, 6, 11, 12, 13, 14, 15, 16, 1, 17, 18, 19, 20, 21, 22, 23, 24, 25, 26, 27, 28, 29, 30, 31, 32, 33, 34, 35, 36, 37, 38, 39, 48, 49, 50, 51, 52, 53, 54, 55, 56, 57, 58, 59, 60, 61, 62, 63, 64, 65, 66, 67, 68, 69, 70, 71, 72] (by decide +kernel) (by decide +kernel)
set_option maxRecDepth 20000 in
theorem gX10_readsClause_X10_readsInterest : GoodIn wsX10_readsClause (wsV RX10 126 RX10 yX10_readsInterest wsX10_readsInterest) := goodIn_app (goodIn_of _ (by decide +kernel)) ggX10_readsClause_X10_readsInterest
set_option maxRecDepth 20000 in
theorem ggX10_readsClause_X10_fails : GoodIn wsX10_readsClause wsX10_fails := goodIn_r _ [11, 12, 48, 49, 50, 51, 52, 53, 54, 55, 56, 57, 58, 59, 60, 61, 62, 63, 64, 65, 66, 67, 68, 69, 70, 71, 72] (by decide +kernel) (by decide +kernel)
set_option maxRecDepth 20000 in
theorem gX10_readsClause_X10_fails : GoodIn wsX10_readsClause (wsV RX10 114 RX10 yX10_fails wsX10_fails) := goodIn_app (goodIn_of _ (by decide +kernel)) ggX10_readsClause_X10_fails
set_option maxRecDepth 20000 in
theorem ggX10_readsClause_X10_readsCreditor : GoodIn wsX10_readsClause wsX10_readsCreditor := goodIn_r _ [43, 2, 8, 9, 10, 6, 11, 12, 13, 14, 15, 16, 1, 17, 18, 19, 20, 21, 22, 23, 24, 25, 26, 27, 28, 29, 30, 31, 32, 33, 34, 35, 36, 37, 38, 39, 48, 49, 50, 51, 52, 53, 54, 55, 56, 57, 58, 59, 60, 61, 62, 63, 64, 65, 66, 67, 68, 69, 70, 71, 72] (by decide +kernel) (by decide +kernel)
set_option maxRecDepth 20000 in
theorem gX10_readsClause_X10_readsCreditor : GoodIn wsX10_readsClause (wsV RX10 129 RX10 yX10_readsCreditor wsX10_readsCreditor) := goodIn_app (goodIn_of _ (by decide +kernel)) ggX10_readsClause_X10_readsCreditor
set_option maxRecDepth 20000 in
theorem ggX10_readsClause_X10_readsPerson : GoodIn wsX10_readsClause wsX10_readsPerson := goodIn_r _ [47, 2, 1, 8, 9, 10, 6, 11, 12, 13, 14, 15, 16, 17, 18, 19, 20, 21, 22, 23, 24, 25, 26, 27, 28, 29, 30, 31, 32, 33, 34, 35, 48, 49, 50, 51, 52, 53, 54, 55, 56, 57, 58, 59, 60, 61, 62, 63, 64, 65, 66, 67, 68, 69, 70, 71, 72] (by decide +kernel) (by decide +kernel)
set_option maxRecDepth 20000 in
theorem gX10_readsClause_X10_readsPerson : GoodIn wsX10_readsClause (wsV RX10 132 RX10 yX10_readsPerson wsX10_readsPerson) := goodIn_app (goodIn_of _ (by decide +kernel)) ggX10_readsClause_X10_readsPerson
set_option maxRecDepth 20000 in
theorem ggX10_town_X10_step : GoodIn wsX10_town wsX10_step := goodIn_r _ [13, 2, 6, 4, 14, 15, 16, 17, 18, 19, 20, 12, 21, 5, 22, 23, 24, 25, 68, 69, 70, 71, 72, 73, 74, 75, 76, 77, 78, 79, 80, 81, 82, 83, 84, 85, 86, 87, 88, 89, 90, 91, 92] (by decide +kernel) (by decide +kernel)
set_option maxRecDepth 20000 in
theorem gX10_town_X10_step : GoodIn wsX10_town (wsV RX10 111 RX10 yX10_step wsX10_step) := goodIn_app (goodIn_of _ (by decide +kernel)) ggX10_town_X10_step
set_option maxRecDepth 20000 in
theorem ggX10_town_X10_readsClause : GoodIn wsX10_town wsX10_readsClause := goodIn_r _ [29, 4, 1, 30, 31, 32, 12, 33, 34, 35, 36, 37, 7, 38, 39, 40, 41, 14, 15, 9, 10, 11, 13, 2, 6, 16, 17, 18, 19, 20, 21, 5, 22, 23, 24, 25, 42, 43, 44, 45, 46, 47, 48, 49, 50, 51, 52, 53, 68, 69, 70, 71, 72, 73, 74, 75, 76, 77, 78, 79, 80, 81, 82, 83, 84, 85, 86, 87, 88, 89, 90, 91, 92] (by decide +kernel) (by decide +kernel)
set_option maxRecDepth 20000 in
theorem gX10_town_X10_readsClause : GoodIn wsX10_town (wsV RX10 136 RX10 yX10_readsClause wsX10_readsClause) := goodIn_app (goodIn_of _ (by decide +kernel)) ggX10_town_X10_readsClause
set_option maxRecDepth 20000 in
theorem ggX10_town_X10_copies : GoodIn wsX10_town wsX10_copies := goodIn_r _ [56] (by decide +kernel) (by decide +kernel)
set_option maxRecDepth 20000 in
theorem gX10_town_X10_copies : GoodIn wsX10_town (va_wsS RX10 57 yX10_copies wsX10_copies) := goodIn_app (goodIn_of _ (by decide +kernel)) ggX10_town_X10_copies
set_option maxRecDepth 20000 in
theorem ggX10_town_X10_begins : GoodIn wsX10_town wsX10_begins := goodIn_r _ [60, 8, 61, 62, 63, 64, 65, 66, 67, 54, 55, 12, 56, 23, 24, 25, 68, 69, 70, 71, 72, 73, 74, 75, 76, 77, 78, 79, 80, 81, 82, 83, 84, 85, 86, 87, 88, 89, 90, 91, 92] (by decide +kernel) (by decide +kernel)
set_option maxRecDepth 20000 in
theorem gX10_town_X10_begins : GoodIn wsX10_town (wsV RX10 54 RX10 yX10_begins wsX10_begins) := goodIn_app (goodIn_of _ (by decide +kernel)) ggX10_town_X10_begins
set_option maxRecDepth 20000 in
theorem ggX10_isCreditor_X10_in : GoodIn wsX10_isCreditor wsX10_in := goodIn_r _ [5] (by decide +kernel) (by decide +kernel)
set_option maxRecDepth 20000 in
theorem gX10_isCreditor_X10_in : GoodIn wsX10_isCreditor (va_wsS RX10 65 yX10_in wsX10_in) := goodIn_app (goodIn_of _ (by decide +kernel)) ggX10_isCreditor_X10_in
set_option maxRecDepth 20000 in
theorem ggX10_isPerson_X10_in : GoodIn wsX10_isPerson wsX10_in := goodIn_r _ [5] (by decide +kernel) (by decide +kernel)
set_option maxRecDepth 20000 in
theorem gX10_isPerson_X10_in : GoodIn wsX10_isPerson (va_wsS RX10 65 yX10_in wsX10_in) := goodIn_app (goodIn_of _ (by decide +kernel)) ggX10_isPerson_X10_in
set_option maxRecDepth 20000 in
theorem ggX10_isGirl_X10_isPerson : GoodIn wsX10_isGirl wsX10_isPerson := goodIn_r _ [6, 1, 7, 8, 5, 9, 13, 14, 15, 16, 17, 18, 19, 20, 21, 22, 23, 24, 25, 26, 27, 28, 29, 30, 31, 32, 33, 34, 35, 36, 37] (by decide +kernel) (by decide +kernel)
set_option maxRecDepth 20000 in
theorem gX10_isGirl_X10_isPerson : GoodIn wsX10_isGirl (wsV RX10 139 RX10 yX10_isPerson wsX10_isPerson) := goodIn_app (goodIn_of _ (by decide +kernel)) ggX10_isGirl_X10_isPerson
set_option maxRecDepth 20000 in
theorem ggX10_isGirl_X10_has : GoodIn wsX10_isGirl wsX10_has := goodIn_r _ [12] (by decide +kernel) (by decide +kernel)
set_option maxRecDepth 20000 in
theorem gX10_isGirl_X10_has : GoodIn wsX10_isGirl (va_wsS RX10 142 yX10_has wsX10_has) := goodIn_app (goodIn_of _ (by decide +kernel)) ggX10_isGirl_X10_has
set_option maxRecDepth 20000 in
theorem ggX10_isMan_X10_isPerson : GoodIn wsX10_isMan wsX10_isPerson := goodIn_r _ [6, 1, 7, 8, 5, 9, 13, 14, 15, 16, 17, 18, 19, 20, 21, 22, 23, 24, 25, 26, 27, 28, 29, 30, 31, 32, 33, 34, 35, 36, 37] (by decide +kernel) (by decide +kernel)
set_option maxRecDepth 20000 in
theorem gX10_isMan_X10_isPerson : GoodIn wsX10_isMan (wsV RX10 139 RX10 yX10_isPerson wsX10_isPerson) := goodIn_app (goodIn_of _ (by decide +kernel)) ggX10_isMan_X10_isPerson
set_option maxRecDepth 20000 in
theorem ggX10_isMan_X10_has : GoodIn wsX10_isMan wsX10_has := goodIn_r _ [12] (by decide +kernel) (by decide +kernel)
set_option maxRecDepth 20000 in
theorem gX10_isMan_X10_has : GoodIn wsX10_isMan (va_wsS RX10 142 yX10_has wsX10_has) := goodIn_app (goodIn_of _ (by decide +kernel)) ggX10_isMan_X10_has
set_option maxRecDepth 20000 in
theorem ggX10_temperOf_X10_has : GoodIn wsX10_temperOf wsX10_has := goodIn_r _ [5] (by decide +kernel) (by decide +kernel)
set_option maxRecDepth 20000 in
theorem gX10_temperOf_X10_has : GoodIn wsX10_temperOf (va_wsS RX10 142 yX10_has wsX10_has) := goodIn_app (goodIn_of _ (by decide +kernel)) ggX10_temperOf_X10_has
set_option maxRecDepth 20000 in
theorem ggX10_standing_X10_temperOf : GoodIn wsX10_standing wsX10_temperOf := goodIn_r _ [6, 1, 7, 8, 5, 9, 10, 11, 12, 13, 14, 15, 16, 17, 18, 19, 20, 21, 22, 23, 24, 25, 26, 27, 28, 29, 30, 31, 32, 33, 34] (by decide +kernel) (by decide +kernel)
set_option maxRecDepth 20000 in
theorem gX10_standing_X10_temperOf : GoodIn wsX10_standing (wsV RX10 146 RX10 yX10_temperOf wsX10_temperOf) := goodIn_app (goodIn_of _ (by decide +kernel)) ggX10_standing_X10_temperOf
set_option maxRecDepth 20000 in
theorem ggX10_grows_X10_lesser : GoodIn wsX10_grows wsX10_lesser := goodIn_r _ [5] (by decide +kernel) (by decide +kernel)
set_option maxRecDepth 20000 in
theorem gX10_grows_X10_lesser : GoodIn wsX10_grows (va_wsS RX10 150 yX10_lesser wsX10_lesser) := goodIn_app (goodIn_of _ (by decide +kernel)) ggX10_grows_X10_lesser
set_option maxRecDepth 20000 in
theorem ggX10_sours_X10_temperOf : GoodIn wsX10_sours wsX10_temperOf := goodIn_r _ [6, 1, 7, 8, 5, 9, 10, 11, 12, 13, 14, 15, 16, 17, 18, 19, 20, 21, 22, 23, 24, 25, 26, 27, 28, 29, 30, 31, 32, 33, 34] (by decide +kernel) (by decide +kernel)
set_option maxRecDepth 20000 in
theorem gX10_sours_X10_temperOf : GoodIn wsX10_sours (wsV RX10 146 RX10 yX10_temperOf wsX10_temperOf) := goodIn_app (goodIn_of _ (by decide +kernel)) ggX10_sours_X10_temperOf
set_option maxRecDepth 20000 in
theorem ggX10_sours_X10_has : GoodIn wsX10_sours wsX10_has := goodIn_r _ [9] (by decide +kernel) (by decide +kernel)
set_option maxRecDepth 20000 in
theorem gX10_sours_X10_has : GoodIn wsX10_sours (va_wsS RX10 142 yX10_has wsX10_has) := goodIn_app (goodIn_of _ (by decide +kernel)) ggX10_sours_X10_has
set_option maxRecDepth 20000 in
theorem ggX10_quarterGoes_X10_grows : GoodIn wsX10_quarterGoes wsX10_grows := goodIn_r _ [5, 6, 7, 8, 4, 9, 21, 22, 23, 24, 25, 26, 27, 28, 29, 30, 31, 32, 33, 34, 35, 36, 37, 38, 39, 40, 41, 42, 43, 44, 45] (by decide +kernel) (by decide +kernel)
set_option maxRecDepth 20000 in
theorem gX10_quarterGoes_X10_grows : GoodIn wsX10_quarterGoes (wsV RX10 154 RX10 yX10_grows wsX10_grows) := goodIn_app (goodIn_of _ (by decide +kernel)) ggX10_quarterGoes_X10_grows
set_option maxRecDepth 20000 in
theorem ggX10_quarterGoes_X10_sours : GoodIn wsX10_quarterGoes wsX10_sours := goodIn_r _ [13, 6, 14, 15, 16, 4, 17, 18, 19, 20, 21, 22, 23, 24, 25, 26, 27, 28, 29, 30, 31, 32, 33, 34, 35, 36, 37, 38, 39, 40, 41, 42, 43, 44, 45] (by decide +kernel) (by decide +kernel)
set_option maxRecDepth 20000 in
theorem gX10_quarterGoes_X10_sours : GoodIn wsX10_quarterGoes (wsV RX10 158 RX10 yX10_sours wsX10_sours) := goodIn_app (goodIn_of _ (by decide +kernel)) ggX10_quarterGoes_X10_sours
set_option maxRecDepth 20000 in
theorem ggX10_quarterGoes_X10_has : GoodIn wsX10_quarterGoes wsX10_has := goodIn_r _ [20] (by decide +kernel) (by decide +kernel)
set_option maxRecDepth 20000 in
theorem gX10_quarterGoes_X10_has : GoodIn wsX10_quarterGoes (va_wsS RX10 142 yX10_has wsX10_has) := goodIn_app (goodIn_of _ (by decide +kernel)) ggX10_quarterGoes_X10_has
set_option maxRecDepth 20000 in
theorem ggX10_weds_X10_lesser : GoodIn wsX10_weds wsX10_lesser := goodIn_r _ [4] (by decide +kernel) (by decide +kernel)
set_option maxRecDepth 20000 in
theorem gX10_weds_X10_lesser : GoodIn wsX10_weds (va_wsS RX10 150 yX10_lesser wsX10_lesser) := goodIn_app (goodIn_of _ (by decide +kernel)) ggX10_weds_X10_lesser
set_option maxRecDepth 20000 in
theorem ggX10_owedInAll_X10_sumOf : GoodIn wsX10_owedInAll wsX10_sumOf := goodIn_r _ [6] (by decide +kernel) (by decide +kernel)
set_option maxRecDepth 20000 in
theorem gX10_owedInAll_X10_sumOf : GoodIn wsX10_owedInAll (wsV RX10 162 RX10 yX10_sumOf wsX10_sumOf) := goodIn_app (goodIn_of _ (by decide +kernel)) ggX10_owedInAll_X10_sumOf
set_option maxRecDepth 20000 in
theorem ggX10_told_X10_wedOnes : GoodIn wsX10_told wsX10_wedOnes := goodIn_r _ [12, 3, 21, 22, 23, 24, 25, 26, 27, 28, 29, 30, 31, 32, 33, 34, 35, 36, 37, 38, 39, 40, 41, 42, 43, 44, 45] (by decide +kernel) (by decide +kernel)
set_option maxRecDepth 20000 in
theorem gX10_told_X10_wedOnes : GoodIn wsX10_told (wsV RX10 166 RX10 yX10_wedOnes wsX10_wedOnes) := goodIn_app (goodIn_of _ (by decide +kernel)) ggX10_told_X10_wedOnes
set_option maxRecDepth 20000 in
theorem ggX10_told_X10_owedInAll : GoodIn wsX10_told wsX10_owedInAll := goodIn_r _ [16, 3, 17, 18, 19, 11, 20, 21, 22, 23, 24, 25, 26, 27, 28, 29, 30, 31, 32, 33, 34, 35, 36, 37, 38, 39, 40, 41, 42, 43, 44, 45] (by decide +kernel) (by decide +kernel)
set_option maxRecDepth 20000 in
theorem gX10_told_X10_owedInAll : GoodIn wsX10_told (wsV RX10 169 RX10 yX10_owedInAll wsX10_owedInAll) := goodIn_app (goodIn_of _ (by decide +kernel)) ggX10_told_X10_owedInAll
set_option maxRecDepth 20000 in
theorem ggX10_whoAre_X10_temperOf : GoodIn wsX10_whoAre wsX10_temperOf := goodIn_r _ [7, 1, 8, 9, 6, 10, 11, 12, 13, 14, 15, 16, 17, 18, 19, 20, 21, 22, 23, 24, 25, 26, 27, 28, 29, 30, 31, 32, 33, 34, 35] (by decide +kernel) (by decide +kernel)
set_option maxRecDepth 20000 in
theorem gX10_whoAre_X10_temperOf : GoodIn wsX10_whoAre (wsV RX10 146 RX10 yX10_temperOf wsX10_temperOf) := goodIn_app (goodIn_of _ (by decide +kernel)) ggX10_whoAre_X10_temperOf
set_option maxRecDepth 20000 in
theorem ggX10_creditor_X10_isCreditor : GoodIn wsX10_creditor wsX10_isCreditor := goodIn_r _ [9, 3, 10, 11, 8, 12, 24, 25, 26, 27, 28, 29, 30, 31, 32, 33, 34, 35, 36, 37, 38, 39, 40, 41, 42, 43, 44, 45, 46, 47, 48] (by decide +kernel) (by decide +kernel)
set_option maxRecDepth 20000 in
theorem gX10_creditor_X10_isCreditor : GoodIn wsX10_creditor (wsV RX10 172 RX10 yX10_isCreditor wsX10_isCreditor) := goodIn_app (goodIn_of _ (by decide +kernel)) ggX10_creditor_X10_isCreditor
set_option maxRecDepth 20000 in
theorem ggX10_creditor_X10_whoAre : GoodIn wsX10_creditor wsX10_whoAre := goodIn_r _ [16, 3, 2, 17, 18, 19, 8, 20, 21, 22, 23, 24, 25, 26, 27, 28, 29, 30, 31, 32, 33, 34, 35, 36, 37, 38, 39, 40, 41, 42, 43, 44, 45, 46, 47, 48] (by decide +kernel) (by decide +kernel)
set_option maxRecDepth 20000 in
theorem gX10_creditor_X10_whoAre : GoodIn wsX10_creditor (wsV RX10 176 RX10 yX10_whoAre wsX10_whoAre) := goodIn_app (goodIn_of _ (by decide +kernel)) ggX10_creditor_X10_whoAre
set_option maxRecDepth 20000 in
theorem ggX10_person_X10_isPerson : GoodIn wsX10_person wsX10_isPerson := goodIn_r _ [9, 2, 10, 11, 8, 12, 28, 29, 30, 31, 32, 33, 34, 35, 36, 37, 38, 39, 40, 41, 42, 43, 44, 45, 46, 47, 48, 49, 50, 51, 52] (by decide +kernel) (by decide +kernel)
set_option maxRecDepth 20000 in
theorem gX10_person_X10_isPerson : GoodIn wsX10_person (wsV RX10 139 RX10 yX10_isPerson wsX10_isPerson) := goodIn_app (goodIn_of _ (by decide +kernel)) ggX10_person_X10_isPerson
set_option maxRecDepth 20000 in
theorem ggX10_person_X10_has : GoodIn wsX10_person wsX10_has := goodIn_r _ [15] (by decide +kernel) (by decide +kernel)
set_option maxRecDepth 20000 in
theorem gX10_person_X10_has : GoodIn wsX10_person (va_wsS RX10 142 yX10_has wsX10_has) := goodIn_app (goodIn_of _ (by decide +kernel)) ggX10_person_X10_has
set_option maxRecDepth 20000 in
theorem ggX10_person_X10_sumOf : GoodIn wsX10_person wsX10_sumOf := goodIn_r _ [19] (by decide +kernel) (by decide +kernel)
set_option maxRecDepth 20000 in
theorem gX10_person_X10_sumOf : GoodIn wsX10_person (wsV RX10 162 RX10 yX10_sumOf wsX10_sumOf) := goodIn_app (goodIn_of _ (by decide +kernel)) ggX10_person_X10_sumOf
set_option maxRecDepth 20000 in
theorem ggX10_person_X10_standing : GoodIn wsX10_person wsX10_standing := goodIn_r _ [23, 2, 24, 25, 26, 8, 27, 13, 14, 15, 28, 29, 30, 31, 32, 33, 34, 35, 36, 37, 38, 39, 40, 41, 42, 43, 44, 45, 46, 47, 48, 49, 50, 51, 52] (by decide +kernel) (by decide +kernel)
set_option maxRecDepth 20000 in
theorem gX10_person_X10_standing : GoodIn wsX10_person (wsV RX10 179 RX10 yX10_standing wsX10_standing) := goodIn_app (goodIn_of _ (by decide +kernel)) ggX10_person_X10_standing
set_option maxRecDepth 20000 in
theorem ggX10_owes_X10_isPerson : GoodIn wsX10_owes wsX10_isPerson := goodIn_r _ [7, 8, 9, 10, 6, 11, 16, 17, 18, 19, 20, 21, 22, 23, 24, 25, 26, 27, 28, 29, 30, 31, 32, 33, 34, 35, 36, 37, 38, 39, 40] (by decide +kernel) (by decide +kernel)
set_option maxRecDepth 20000 in
theorem gX10_owes_X10_isPerson : GoodIn wsX10_owes (wsV RX10 139 RX10 yX10_isPerson wsX10_isPerson) := goodIn_app (goodIn_of _ (by decide +kernel)) ggX10_owes_X10_isPerson
set_option maxRecDepth 20000 in
theorem ggX10_owes_X10_isCreditor : GoodIn wsX10_owes wsX10_isCreditor := goodIn_r _ [15, 8, 9, 10, 6, 11, 16, 17, 18, 19, 20, 21, 22, 23, 24, 25, 26, 27, 28, 29, 30, 31, 32, 33, 34, 35, 36, 37, 38, 39, 40] (by decide +kernel) (by decide +kernel)
set_option maxRecDepth 20000 in
theorem gX10_owes_X10_isCreditor : GoodIn wsX10_owes (wsV RX10 172 RX10 yX10_isCreditor wsX10_isCreditor) := goodIn_app (goodIn_of _ (by decide +kernel)) ggX10_owes_X10_isCreditor
set_option maxRecDepth 20000 in
theorem ggX10_temper_X10_isPerson : GoodIn wsX10_temper wsX10_isPerson := goodIn_r _ [7, 8, 9, 10, 6, 11, 23, 24, 25, 26, 27, 28, 29, 30, 31, 32, 33, 34, 35, 36, 37, 38, 39, 40, 41, 42, 43, 44, 45, 46, 47] (by decide +kernel) (by decide +kernel)
set_option maxRecDepth 20000 in
theorem gX10_temper_X10_isPerson : GoodIn wsX10_temper (wsV RX10 139 RX10 yX10_isPerson wsX10_isPerson) := goodIn_app (goodIn_of _ (by decide +kernel)) ggX10_temper_X10_isPerson
set_option maxRecDepth 20000 in
theorem ggX10_temper_X10_isCreditor : GoodIn wsX10_temper wsX10_isCreditor := goodIn_r _ [15, 8, 9, 10, 6, 11, 23, 24, 25, 26, 27, 28, 29, 30, 31, 32, 33, 34, 35, 36, 37, 38, 39, 40, 41, 42, 43, 44, 45, 46, 47] (by decide +kernel) (by decide +kernel)
set_option maxRecDepth 20000 in
theorem gX10_temper_X10_isCreditor : GoodIn wsX10_temper (wsV RX10 172 RX10 yX10_isCreditor wsX10_isCreditor) := goodIn_app (goodIn_of _ (by decide +kernel)) ggX10_temper_X10_isCreditor
set_option maxRecDepth 20000 in
theorem ggX10_temper_X10_temperOf : GoodIn wsX10_temper wsX10_temperOf := goodIn_r _ [19, 8, 20, 21, 6, 22, 23, 24, 25, 26, 27, 28, 29, 30, 31, 32, 33, 34, 35, 36, 37, 38, 39, 40, 41, 42, 43, 44, 45, 46, 47] (by decide +kernel) (by decide +kernel)
set_option maxRecDepth 20000 in
theorem gX10_temper_X10_temperOf : GoodIn wsX10_temper (wsV RX10 146 RX10 yX10_temperOf wsX10_temperOf) := goodIn_app (goodIn_of _ (by decide +kernel)) ggX10_temper_X10_temperOf
set_option maxRecDepth 20000 in
theorem ggX10_remember_X10_copies : GoodIn wsX10_remember wsX10_copies := goodIn_r _ [7] (by decide +kernel) (by decide +kernel)
set_option maxRecDepth 20000 in
theorem gX10_remember_X10_copies : GoodIn wsX10_remember (va_wsS RX10 57 yX10_copies wsX10_copies) := goodIn_app (goodIn_of _ (by decide +kernel)) ggX10_remember_X10_copies
set_option maxRecDepth 20000 in
theorem ggX10_isWedMan_X10_isMan : GoodIn wsX10_isWedMan wsX10_isMan := goodIn_r _ [6, 7, 8, 9, 10, 5, 11, 12, 13, 14, 15, 16, 17, 18, 19, 20, 21, 22, 23, 24, 25, 26, 27, 28, 29, 30, 31, 32, 33, 34, 35, 36, 37, 38, 39, 40, 41, 42] (by decide +kernel) (by decide +kernel)
set_option maxRecDepth 20000 in
theorem gX10_isWedMan_X10_isMan : GoodIn wsX10_isWedMan (wsV RX10 182 RX10 yX10_isMan wsX10_isMan) := goodIn_app (goodIn_of _ (by decide +kernel)) ggX10_isWedMan_X10_isMan
set_option maxRecDepth 20000 in
theorem ggX10_mayBorrow_X10_isWedMan : GoodIn wsX10_mayBorrow wsX10_isWedMan := goodIn_r _ [6, 1, 7, 8, 9, 5, 10, 11, 12, 13, 14, 15, 16, 17, 18, 19, 20, 21, 22, 23, 24, 25, 26, 27, 28, 29, 30, 31, 32, 33, 34, 35, 36, 37, 38, 39, 40, 41, 42, 43, 44, 45, 46] (by decide +kernel) (by decide +kernel)
set_option maxRecDepth 20000 in
theorem gX10_mayBorrow_X10_isWedMan : GoodIn wsX10_mayBorrow (wsV RX10 185 RX10 yX10_isWedMan wsX10_isWedMan) := goodIn_app (goodIn_of _ (by decide +kernel)) ggX10_mayBorrow_X10_isWedMan
set_option maxRecDepth 20000 in
theorem ggX10_mayBorrow_X10_has : GoodIn wsX10_mayBorrow wsX10_has := goodIn_r _ [21] (by decide +kernel) (by decide +kernel)
set_option maxRecDepth 20000 in
theorem gX10_mayBorrow_X10_has : GoodIn wsX10_mayBorrow (va_wsS RX10 142 yX10_has wsX10_has) := goodIn_app (goodIn_of _ (by decide +kernel)) ggX10_mayBorrow_X10_has
set_option maxRecDepth 20000 in
theorem ggX10_borrows_X10_lesser : GoodIn wsX10_borrows wsX10_lesser := goodIn_r _ [5] (by decide +kernel) (by decide +kernel)
set_option maxRecDepth 20000 in
theorem gX10_borrows_X10_lesser : GoodIn wsX10_borrows (va_wsS RX10 150 yX10_lesser wsX10_lesser) := goodIn_app (goodIn_of _ (by decide +kernel)) ggX10_borrows_X10_lesser
set_option maxRecDepth 20000 in
theorem ggX10_borrow_X10_isPerson : GoodIn wsX10_borrow wsX10_isPerson := goodIn_r _ [10, 11, 12, 13, 9, 14, 50, 51, 52, 53, 54, 55, 56, 57, 58, 59, 60, 61, 62, 63, 64, 65, 66, 67, 68, 69, 70, 71, 72, 73, 74] (by decide +kernel) (by decide +kernel)
set_option maxRecDepth 20000 in
theorem gX10_borrow_X10_isPerson : GoodIn wsX10_borrow (wsV RX10 139 RX10 yX10_isPerson wsX10_isPerson) := goodIn_app (goodIn_of _ (by decide +kernel)) ggX10_borrow_X10_isPerson
set_option maxRecDepth 20000 in
theorem ggX10_borrow_X10_isCreditor : GoodIn wsX10_borrow wsX10_isCreditor := goodIn_r _ [18, 11, 12, 13, 9, 14, 50, 51, 52, 53, 54, 55, 56, 57, 58, 59, 60, 61, 62, 63, 64, 65, 66, 67, 68, 69, 70, 71, 72, 73, 74] (by decide +kernel) (by decide +kernel)
set_option maxRecDepth 20000 in
theorem gX10_borrow_X10_isCreditor : GoodIn wsX10_borrow (wsV RX10 172 RX10 yX10_isCreditor wsX10_isCreditor) := goodIn_app (goodIn_of _ (by decide +kernel)) ggX10_borrow_X10_isCreditor
set_option maxRecDepth 20000 in
theorem ggX10_borrow_X10_in : GoodIn wsX10_borrow wsX10_in := goodIn_r _ [14] (by decide +kernel) (by decide +kernel)
set_option maxRecDepth 20000 in
theorem gX10_borrow_X10_in : GoodIn wsX10_borrow (va_wsS RX10 65 yX10_in wsX10_in) := goodIn_app (goodIn_of _ (by decide +kernel)) ggX10_borrow_X10_in
set_option maxRecDepth 20000 in
theorem ggX10_borrow_X10_mayBorrow : GoodIn wsX10_borrow wsX10_mayBorrow := goodIn_r _ [22, 5, 23, 24, 25, 9, 26, 27, 28, 29, 30, 11, 6, 7, 8, 10, 12, 13, 14, 31, 32, 33, 50, 51, 52, 53, 54, 55, 56, 57, 58, 59, 60, 61, 62, 63, 64, 65, 66, 67, 68, 69, 70, 71, 72, 73, 74] (by decide +kernel) (by decide +kernel)
set_option maxRecDepth 20000 in
theorem gX10_borrow_X10_mayBorrow : GoodIn wsX10_borrow (wsV RX10 190 RX10 yX10_mayBorrow wsX10_mayBorrow) := goodIn_app (goodIn_of _ (by decide +kernel)) ggX10_borrow_X10_mayBorrow
set_option maxRecDepth 20000 in
theorem ggX10_borrow_X10_remember : GoodIn wsX10_borrow wsX10_remember := goodIn_r _ [37, 38, 39, 5, 40, 41, 9, 42, 50, 51, 52, 53, 54, 55, 56, 57, 58, 59, 60, 61, 62, 63, 64, 65, 66, 67, 68, 69, 70, 71, 72, 73, 74] (by decide +kernel) (by decide +kernel)
set_option maxRecDepth 20000 in
theorem gX10_borrow_X10_remember : GoodIn wsX10_borrow (wsV RX10 194 RX10 yX10_remember wsX10_remember) := goodIn_app (goodIn_of _ (by decide +kernel)) ggX10_borrow_X10_remember
set_option maxRecDepth 20000 in
theorem ggX10_borrow_X10_borrows : GoodIn wsX10_borrow wsX10_borrows := goodIn_r _ [46, 5, 47, 48, 9, 49, 50, 51, 52, 53, 54, 55, 56, 57, 58, 59, 60, 61, 62, 63, 64, 65, 66, 67, 68, 69, 70, 71, 72, 73, 74] (by decide +kernel) (by decide +kernel)
set_option maxRecDepth 20000 in
theorem gX10_borrow_X10_borrows : GoodIn wsX10_borrow (wsV RX10 197 RX10 yX10_borrows wsX10_borrows) := goodIn_app (goodIn_of _ (by decide +kernel)) ggX10_borrow_X10_borrows
set_option maxRecDepth 20000 in
theorem ggX10_pay_X10_isPerson : GoodIn wsX10_pay wsX10_isPerson := goodIn_r _ [11, 6, 12, 13, 10, 14, 31, 32, 33, 34, 35, 36, 37, 38, 39, 40, 41, 42, 43, 44, 45, 46, 47, 48, 49, 50, 51, 52, 53, 54, 55] (by decide +kernel) (by decide +kernel)
set_option maxRecDepth 20000 in
theorem gX10_pay_X10_isPerson : GoodIn wsX10_pay (wsV RX10 139 RX10 yX10_isPerson wsX10_isPerson) := goodIn_app (goodIn_of _ (by decide +kernel)) ggX10_pay_X10_isPerson
set_option maxRecDepth 20000 in
theorem ggX10_pay_X10_isCreditor : GoodIn wsX10_pay wsX10_isCreditor := goodIn_r _ [18, 6, 12, 13, 10, 14, 31, 32, 33, 34, 35, 36, 37, 38, 39, 40, 41, 42, 43, 44, 45, 46, 47, 48, 49, 50, 51, 52, 53, 54, 55] (by decide +kernel) (by decide +kernel)
set_option maxRecDepth 20000 in
theorem gX10_pay_X10_isCreditor : GoodIn wsX10_pay (wsV RX10 172 RX10 yX10_isCreditor wsX10_isCreditor) := goodIn_app (goodIn_of _ (by decide +kernel)) ggX10_pay_X10_isCreditor
set_option maxRecDepth 20000 in
theorem ggX10_pay_X10_in : GoodIn wsX10_pay wsX10_in := goodIn_r _ [14] (by decide +kernel) (by decide +kernel)
set_option maxRecDepth 20000 in
theorem gX10_pay_X10_in : GoodIn wsX10_pay (va_wsS RX10 65 yX10_in wsX10_in) := goodIn_app (goodIn_of _ (by decide +kernel)) ggX10_pay_X10_in
set_option maxRecDepth 20000 in
theorem ggX10_pay_X10_remember : GoodIn wsX10_pay wsX10_remember := goodIn_r _ [22, 23, 24, 4, 25, 26, 10, 27, 31, 32, 33, 34, 35, 36, 37, 38, 39, 40, 41, 42, 43, 44, 45, 46, 47, 48, 49, 50, 51, 52, 53, 54, 55] (by decide +kernel) (by decide +kernel)
set_option maxRecDepth 20000 in
theorem gX10_pay_X10_remember : GoodIn wsX10_pay (wsV RX10 194 RX10 yX10_remember wsX10_remember) := goodIn_app (goodIn_of _ (by decide +kernel)) ggX10_pay_X10_remember
set_option maxRecDepth 20000 in
theorem ggX10_pay_X10_lesser : GoodIn wsX10_pay wsX10_lesser := goodIn_r _ [30] (by decide +kernel) (by decide +kernel)
set_option maxRecDepth 20000 in
theorem gX10_pay_X10_lesser : GoodIn wsX10_pay (va_wsS RX10 150 yX10_lesser wsX10_lesser) := goodIn_app (goodIn_of _ (by decide +kernel)) ggX10_pay_X10_lesser
set_option maxRecDepth 20000 in
theorem ggX10_refuses_X10_in : GoodIn wsX10_refuses wsX10_in := goodIn_r _ [10] (by decide +kernel) (by decide +kernel)
set_option maxRecDepth 20000 in
theorem gX10_refuses_X10_in : GoodIn wsX10_refuses (va_wsS RX10 65 yX10_in wsX10_in) := goodIn_app (goodIn_of _ (by decide +kernel)) ggX10_refuses_X10_in
set_option maxRecDepth 20000 in
theorem ggX10_quarter_X10_refuses : GoodIn wsX10_quarter wsX10_refuses := goodIn_r _ [6, 7, 8, 9, 10, 1, 11, 12, 13, 5, 14, 49, 50, 51, 52, 53, 54, 55, 56, 57, 58, 59, 60, 61, 62, 63, 64, 65, 66, 67, 68, 69, 70, 71, 72, 73] (by decide +kernel) (by decide +kernel)
set_option maxRecDepth 20000 in
theorem gX10_quarter_X10_refuses : GoodIn wsX10_quarter (wsV RX10 205 RX10 yX10_refuses wsX10_refuses) := goodIn_app (goodIn_of _ (by decide +kernel)) ggX10_quarter_X10_refuses
set_option maxRecDepth 20000 in
theorem ggX10_quarter_X10_remember : GoodIn wsX10_quarter wsX10_remember := goodIn_r _ [18, 19, 20, 1, 21, 22, 5, 23, 49, 50, 51, 52, 53, 54, 55, 56, 57, 58, 59, 60, 61, 62, 63, 64, 65, 66, 67, 68, 69, 70, 71, 72, 73] (by decide +kernel) (by decide +kernel)
set_option maxRecDepth 20000 in
theorem gX10_quarter_X10_remember : GoodIn wsX10_quarter (wsV RX10 194 RX10 yX10_remember wsX10_remember) := goodIn_app (goodIn_of _ (by decide +kernel)) ggX10_quarter_X10_remember
set_option maxRecDepth 20000 in
theorem ggX10_quarter_X10_quarterGoes : GoodIn wsX10_quarter wsX10_quarterGoes := goodIn_r _ [27, 28, 29, 30, 5, 31, 9, 32, 33, 34, 35, 36, 37, 38, 39, 40, 41, 42, 43, 44, 45, 49, 50, 51, 52, 53, 54, 55, 56, 57, 58, 59, 60, 61, 62, 63, 64, 65, 66, 67, 68, 69, 70, 71, 72, 73] (by decide +kernel) (by decide +kernel)
set_option maxRecDepth 20000 in
theorem gX10_quarter_X10_quarterGoes : GoodIn wsX10_quarter (wsV RX10 208 RX10 yX10_quarterGoes wsX10_quarterGoes) := goodIn_app (goodIn_of _ (by decide +kernel)) ggX10_quarter_X10_quarterGoes
set_option maxRecDepth 20000 in
theorem ggX10_quarter_X10_bits : GoodIn wsX10_quarter wsX10_bits := goodIn_r _ [48] (by decide +kernel) (by decide +kernel)
set_option maxRecDepth 20000 in
theorem gX10_quarter_X10_bits : GoodIn wsX10_quarter (va_wsS RX10 212 yX10_bits wsX10_bits) := goodIn_app (goodIn_of _ (by decide +kernel)) ggX10_quarter_X10_bits
set_option maxRecDepth 20000 in
theorem ggX10_wed_X10_isGirl : GoodIn wsX10_wed wsX10_isGirl := goodIn_r _ [8, 9, 10, 11, 12, 7, 13, 14, 15, 16, 17, 18, 19, 52, 53, 54, 55, 56, 57, 58, 59, 60, 61, 62, 63, 64, 65, 66, 67, 68, 69, 70, 71, 72, 73, 74, 75, 76] (by decide +kernel) (by decide +kernel)
set_option maxRecDepth 20000 in
theorem gX10_wed_X10_isGirl : GoodIn wsX10_wed (wsV RX10 215 RX10 yX10_isGirl wsX10_isGirl) := goodIn_app (goodIn_of _ (by decide +kernel)) ggX10_wed_X10_isGirl
set_option maxRecDepth 20000 in
theorem ggX10_wed_X10_isMan : GoodIn wsX10_wed wsX10_isMan := goodIn_r _ [23, 9, 10, 11, 12, 7, 13, 14, 15, 16, 17, 18, 19, 52, 53, 54, 55, 56, 57, 58, 59, 60, 61, 62, 63, 64, 65, 66, 67, 68, 69, 70, 71, 72, 73, 74, 75, 76] (by decide +kernel) (by decide +kernel)
set_option maxRecDepth 20000 in
theorem gX10_wed_X10_isMan : GoodIn wsX10_wed (wsV RX10 182 RX10 yX10_isMan wsX10_isMan) := goodIn_app (goodIn_of _ (by decide +kernel)) ggX10_wed_X10_isMan
set_option maxRecDepth 20000 in
theorem ggX10_wed_X10_areApart : GoodIn wsX10_wed wsX10_areApart := goodIn_r _ [27, 3, 52, 53, 54, 55, 56, 57, 58, 59, 60, 61, 62, 63, 64, 65, 66, 67, 68, 69, 70, 71, 72, 73, 74, 75, 76] (by decide +kernel) (by decide +kernel)
set_option maxRecDepth 20000 in
theorem gX10_wed_X10_areApart : GoodIn wsX10_wed (wsV RX10 218 RX10 yX10_areApart wsX10_areApart) := goodIn_app (goodIn_of _ (by decide +kernel)) ggX10_wed_X10_areApart
set_option maxRecDepth 20000 in
theorem ggX10_wed_X10_remember : GoodIn wsX10_wed wsX10_remember := goodIn_r _ [31, 32, 33, 3, 34, 35, 7, 36, 52, 53, 54, 55, 56, 57, 58, 59, 60, 61, 62, 63, 64, 65, 66, 67, 68, 69, 70, 71, 72, 73, 74, 75, 76] (by decide +kernel) (by decide +kernel)
set_option maxRecDepth 20000 in
theorem gX10_wed_X10_remember : GoodIn wsX10_wed (wsV RX10 194 RX10 yX10_remember wsX10_remember) := goodIn_app (goodIn_of _ (by decide +kernel)) ggX10_wed_X10_remember
set_option maxRecDepth 20000 in
theorem ggX10_wed_X10_weds : GoodIn wsX10_wed wsX10_weds := goodIn_r _ [40, 41, 42, 7, 43] (by decide +kernel) (by decide +kernel)
set_option maxRecDepth 20000 in
theorem gX10_wed_X10_weds : GoodIn wsX10_wed (wsV RX10 221 RX10 yX10_weds wsX10_weds) := goodIn_app (goodIn_of _ (by decide +kernel)) ggX10_wed_X10_weds
set_option maxRecDepth 20000 in
theorem ggX10_wed_X10_standing : GoodIn wsX10_wed wsX10_standing := goodIn_r _ [47, 9, 48, 49, 50, 7, 51, 17, 18, 19, 52, 53, 54, 55, 56, 57, 58, 59, 60, 61, 62, 63, 64, 65, 66, 67, 68, 69, 70, 71, 72, 73, 74, 75, 76] (by decide +kernel) (by decide +kernel)
set_option maxRecDepth 20000 in
theorem gX10_wed_X10_standing : GoodIn wsX10_wed (wsV RX10 179 RX10 yX10_standing wsX10_standing) := goodIn_app (goodIn_of _ (by decide +kernel)) ggX10_wed_X10_standing
set_option maxRecDepth 20000 in
theorem ggX10_divorce_X10_isGirl : GoodIn wsX10_divorce wsX10_isGirl := goodIn_r _ [8, 9, 10, 11, 12, 7, 13, 14, 15, 16, 17, 18, 19, 33, 34, 35, 36, 37, 38, 39, 40, 41, 42, 43, 44, 45, 46, 47, 48, 49, 50, 51, 52, 53, 54, 55, 56, 57] (by decide +kernel) (by decide +kernel)
set_option maxRecDepth 20000 in
theorem gX10_divorce_X10_isGirl : GoodIn wsX10_divorce (wsV RX10 215 RX10 yX10_isGirl wsX10_isGirl) := goodIn_app (goodIn_of _ (by decide +kernel)) ggX10_divorce_X10_isGirl
set_option maxRecDepth 20000 in
theorem ggX10_divorce_X10_remember : GoodIn wsX10_divorce wsX10_remember := goodIn_r _ [23, 24, 25, 2, 26, 27, 7, 28, 33, 34, 35, 36, 37, 38, 39, 40, 41, 42, 43, 44, 45, 46, 47, 48, 49, 50, 51, 52, 53, 54, 55, 56, 57] (by decide +kernel) (by decide +kernel)
set_option maxRecDepth 20000 in
theorem gX10_divorce_X10_remember : GoodIn wsX10_divorce (wsV RX10 194 RX10 yX10_remember wsX10_remember) := goodIn_app (goodIn_of _ (by decide +kernel)) ggX10_divorce_X10_remember
set_option maxRecDepth 20000 in
theorem ggX10_divorce_X10_sumOf : GoodIn wsX10_divorce wsX10_sumOf := goodIn_r _ [32] (by decide +kernel) (by decide +kernel)
set_option maxRecDepth 20000 in
theorem gX10_divorce_X10_sumOf : GoodIn wsX10_divorce (wsV RX10 162 RX10 yX10_sumOf wsX10_sumOf) := goodIn_app (goodIn_of _ (by decide +kernel)) ggX10_divorce_X10_sumOf
set_option maxRecDepth 20000 in
theorem ggX10_drift_X10_refuses : GoodIn wsX10_drift wsX10_refuses := goodIn_r _ [7, 8, 9, 1, 10, 2, 11, 12, 13, 6, 14, 83, 84, 85, 86, 87, 88, 89, 90, 91, 92, 93, 94, 95, 96, 97, 98, 99, 100, 101, 102, 103, 104, 105, 106, 107] (by decide +kernel) (by decide +kernel)
set_option maxRecDepth 20000 in
theorem gX10_drift_X10_refuses : GoodIn wsX10_drift (wsV RX10 205 RX10 yX10_refuses wsX10_refuses) := goodIn_app (goodIn_of _ (by decide +kernel)) ggX10_drift_X10_refuses
set_option maxRecDepth 20000 in
theorem ggX10_drift_X10_remember : GoodIn wsX10_drift wsX10_remember := goodIn_r _ [18, 19, 20, 2, 21, 22, 6, 23, 83, 84, 85, 86, 87, 88, 89, 90, 91, 92, 93, 94, 95, 96, 97, 98, 99, 100, 101, 102, 103, 104, 105, 106, 107] (by decide +kernel) (by decide +kernel)
set_option maxRecDepth 20000 in
theorem gX10_drift_X10_remember : GoodIn wsX10_drift (wsV RX10 194 RX10 yX10_remember wsX10_remember) := goodIn_app (goodIn_of _ (by decide +kernel)) ggX10_drift_X10_remember
set_option maxRecDepth 20000 in
theorem ggX10_drift_X10_draw : GoodIn wsX10_drift wsX10_draw := goodIn_r _ [27, 28, 29, 30, 31, 32, 83, 84, 85, 86, 87, 88, 89, 90, 91, 92, 93, 94, 95, 96, 97, 98, 99, 100, 101, 102, 103, 104, 105, 106, 107] (by decide +kernel) (by decide +kernel)
set_option maxRecDepth 20000 in
theorem gX10_drift_X10_draw : GoodIn wsX10_drift (wsV RX10 237 RX10 yX10_draw wsX10_draw) := goodIn_app (goodIn_of _ (by decide +kernel)) ggX10_drift_X10_draw
set_option maxRecDepth 20000 in
theorem ggX10_drift_X10_mayBorrow : GoodIn wsX10_drift wsX10_mayBorrow := goodIn_r _ [36, 2, 37, 38, 39, 6, 40, 41, 42, 43, 44, 1, 45, 46, 47, 48, 12, 13, 14, 49, 50, 51, 83, 84, 85, 86, 87, 88, 89, 90, 91, 92, 93, 94, 95, 96, 97, 98, 99, 100, 101, 102, 103, 104, 105, 106, 107] (by decide +kernel) (by decide +kernel)
set_option maxRecDepth 20000 in
theorem gX10_drift_X10_mayBorrow : GoodIn wsX10_drift (wsV RX10 190 RX10 yX10_mayBorrow wsX10_mayBorrow) := goodIn_app (goodIn_of _ (by decide +kernel)) ggX10_drift_X10_mayBorrow
set_option maxRecDepth 20000 in
theorem ggX10_drift_X10_borrows : GoodIn wsX10_drift wsX10_borrows := goodIn_r _ [55, 2, 56, 57, 6, 58, 83, 84, 85, 86, 87, 88, 89, 90, 91, 92, 93, 94, 95, 96, 97, 98, 99, 100, 101, 102, 103, 104, 105, 106, 107] (by decide +kernel) (by decide +kernel)
set_option maxRecDepth 20000 in
theorem gX10_drift_X10_borrows : GoodIn wsX10_drift (wsV RX10 197 RX10 yX10_borrows wsX10_borrows) := goodIn_app (goodIn_of _ (by decide +kernel)) ggX10_drift_X10_borrows
set_option maxRecDepth 20000 in
theorem ggX10_drift_X10_quarterGoes : GoodIn wsX10_drift wsX10_quarterGoes := goodIn_r _ [62, 63, 64, 65, 6, 66, 1, 56, 57, 58, 67, 68, 69, 70, 71, 72, 73, 74, 49, 50, 51, 83, 84, 85, 86, 87, 88, 89, 90, 91, 92, 93, 94, 95, 96, 97, 98, 99, 100, 101, 102, 103, 104, 105, 106, 107] (by decide +kernel) (by decide +kernel)
set_option maxRecDepth 20000 in
theorem gX10_drift_X10_quarterGoes : GoodIn wsX10_drift (wsV RX10 208 RX10 yX10_quarterGoes wsX10_quarterGoes) := goodIn_app (goodIn_of _ (by decide +kernel)) ggX10_drift_X10_quarterGoes
set_option maxRecDepth 20000 in
theorem ggX10_drift_X10_owedInAll : GoodIn wsX10_drift wsX10_owedInAll := goodIn_r _ [78, 2, 79, 80, 81, 6, 82, 83, 84, 85, 86, 87, 88, 89, 90, 91, 92, 93, 94, 95, 96, 97, 98, 99, 100, 101, 102, 103, 104, 105, 106, 107] (by decide +kernel) (by decide +kernel)
set_option maxRecDepth 20000 in
theorem gX10_drift_X10_owedInAll : GoodIn wsX10_drift (wsV RX10 169 RX10 yX10_owedInAll wsX10_owedInAll) := goodIn_app (goodIn_of _ (by decide +kernel)) ggX10_drift_X10_owedInAll
set_option maxRecDepth 20000 in
theorem ggX10_undo_X10_in : GoodIn wsX10_undo wsX10_in := goodIn_r _ [10] (by decide +kernel) (by decide +kernel)
set_option maxRecDepth 20000 in
theorem gX10_undo_X10_in : GoodIn wsX10_undo (va_wsS RX10 65 yX10_in wsX10_in) := goodIn_app (goodIn_of _ (by decide +kernel)) ggX10_undo_X10_in
set_option maxRecDepth 20000 in
theorem ggX10_undo_X10_copies : GoodIn wsX10_undo wsX10_copies := goodIn_r _ [13] (by decide +kernel) (by decide +kernel)
set_option maxRecDepth 20000 in
theorem gX10_undo_X10_copies : GoodIn wsX10_undo (va_wsS RX10 57 yX10_copies wsX10_copies) := goodIn_app (goodIn_of _ (by decide +kernel)) ggX10_undo_X10_copies
set_option maxRecDepth 20000 in
theorem ggX10_layAside_X10_copies : GoodIn wsX10_layAside wsX10_copies := goodIn_r _ [6] (by decide +kernel) (by decide +kernel)
set_option maxRecDepth 20000 in
theorem gX10_layAside_X10_copies : GoodIn wsX10_layAside (va_wsS RX10 57 yX10_copies wsX10_copies) := goodIn_app (goodIn_of _ (by decide +kernel)) ggX10_layAside_X10_copies
set_option maxRecDepth 20000 in
theorem ggX10_joins_X10_layAside : GoodIn wsX10_joins wsX10_layAside := goodIn_r _ [6, 7, 1, 8, 9, 5, 10, 30, 31, 32, 33, 34, 35, 36, 37, 38, 39, 40, 41, 42, 43, 44, 45, 46, 47, 48, 49, 50, 51, 52, 53, 54] (by decide +kernel) (by decide +kernel)
set_option maxRecDepth 20000 in
theorem gX10_joins_X10_layAside : GoodIn wsX10_joins (wsV RX10 242 RX10 yX10_layAside wsX10_layAside) := goodIn_app (goodIn_of _ (by decide +kernel)) ggX10_joins_X10_layAside
set_option maxRecDepth 20000 in
theorem ggX10_joins_X10_weds : GoodIn wsX10_joins wsX10_weds := goodIn_r _ [14, 15, 16, 5, 17] (by decide +kernel) (by decide +kernel)
set_option maxRecDepth 20000 in
theorem gX10_joins_X10_weds : GoodIn wsX10_joins (wsV RX10 221 RX10 yX10_weds wsX10_weds) := goodIn_app (goodIn_of _ (by decide +kernel)) ggX10_joins_X10_weds
set_option maxRecDepth 20000 in
theorem ggX10_joins_X10_standing : GoodIn wsX10_joins wsX10_standing := goodIn_r _ [21, 22, 23, 24, 25, 5, 26, 27, 28, 29, 30, 31, 32, 33, 34, 35, 36, 37, 38, 39, 40, 41, 42, 43, 44, 45, 46, 47, 48, 49, 50, 51, 52, 53, 54] (by decide +kernel) (by decide +kernel)
set_option maxRecDepth 20000 in
theorem gX10_joins_X10_standing : GoodIn wsX10_joins (wsV RX10 179 RX10 yX10_standing wsX10_standing) := goodIn_app (goodIn_of _ (by decide +kernel)) ggX10_joins_X10_standing
set_option maxRecDepth 20000 in
theorem ggX10_joined_X10_isGirl : GoodIn wsX10_joined wsX10_isGirl := goodIn_r _ [7, 8, 9, 10, 11, 6, 12, 13, 14, 15, 16, 17, 18, 55, 56, 57, 58, 59, 60, 61, 62, 63, 64, 65, 66, 67, 68, 69, 70, 71, 72, 73, 74, 75, 76, 77, 78, 79] (by decide +kernel) (by decide +kernel)
set_option maxRecDepth 20000 in
theorem gX10_joined_X10_isGirl : GoodIn wsX10_joined (wsV RX10 215 RX10 yX10_isGirl wsX10_isGirl) := goodIn_app (goodIn_of _ (by decide +kernel)) ggX10_joined_X10_isGirl
set_option maxRecDepth 20000 in
theorem ggX10_joined_X10_isMan : GoodIn wsX10_joined wsX10_isMan := goodIn_r _ [22, 8, 9, 10, 11, 6, 12, 13, 14, 15, 16, 17, 18, 55, 56, 57, 58, 59, 60, 61, 62, 63, 64, 65, 66, 67, 68, 69, 70, 71, 72, 73, 74, 75, 76, 77, 78, 79] (by decide +kernel) (by decide +kernel)
set_option maxRecDepth 20000 in
theorem gX10_joined_X10_isMan : GoodIn wsX10_joined (wsV RX10 182 RX10 yX10_isMan wsX10_isMan) := goodIn_app (goodIn_of _ (by decide +kernel)) ggX10_joined_X10_isMan
set_option maxRecDepth 20000 in
theorem ggX10_joined_X10_areApart : GoodIn wsX10_joined wsX10_areApart := goodIn_r _ [26, 27, 55, 56, 57, 58, 59, 60, 61, 62, 63, 64, 65, 66, 67, 68, 69, 70, 71, 72, 73, 74, 75, 76, 77, 78, 79] (by decide +kernel) (by decide +kernel)
set_option maxRecDepth 20000 in
theorem gX10_joined_X10_areApart : GoodIn wsX10_joined (wsV RX10 218 RX10 yX10_areApart wsX10_areApart) := goodIn_app (goodIn_of _ (by decide +kernel)) ggX10_joined_X10_areApart
set_option maxRecDepth 20000 in
theorem ggX10_joined_X10_joins : GoodIn wsX10_joined wsX10_joins := goodIn_r _ [31, 32, 33, 34, 35, 6, 36, 27, 37, 38, 39, 40, 41, 42, 43, 44, 45, 46, 47, 48, 49, 50, 8, 51, 52, 53, 54, 16, 17, 18, 55, 56, 57, 58, 59, 60, 61, 62, 63, 64, 65, 66, 67, 68, 69, 70, 71, 72, 73, 74, 75, 76, 77, 78, 79] (by decide +kernel) (by decide +kernel)
set_option maxRecDepth 20000 in
theorem gX10_joined_X10_joins : GoodIn wsX10_joined (wsV RX10 245 RX10 yX10_joins wsX10_joins) := goodIn_app (goodIn_of _ (by decide +kernel)) ggX10_joined_X10_joins
set_option maxRecDepth 20000 in
theorem ggX10_takes_X10_layAside : GoodIn wsX10_takes wsX10_layAside := goodIn_r _ [9, 2, 4, 10, 11, 8, 12, 16, 17, 18, 19, 20, 21, 22, 23, 24, 25, 26, 27, 28, 29, 30, 31, 32, 33, 34, 35, 36, 37, 38, 39, 40] (by decide +kernel) (by decide +kernel)
set_option maxRecDepth 20000 in
theorem gX10_takes_X10_layAside : GoodIn wsX10_takes (wsV RX10 242 RX10 yX10_layAside wsX10_layAside) := goodIn_app (goodIn_of _ (by decide +kernel)) ggX10_takes_X10_layAside
set_option maxRecDepth 20000 in
theorem ggX10_takes_X10_has : GoodIn wsX10_takes wsX10_has := goodIn_r _ [15] (by decide +kernel) (by decide +kernel)
set_option maxRecDepth 20000 in
theorem gX10_takes_X10_has : GoodIn wsX10_takes (va_wsS RX10 142 yX10_has wsX10_has) := goodIn_app (goodIn_of _ (by decide +kernel)) ggX10_takes_X10_has
set_option maxRecDepth 20000 in
theorem ggX10_least_X10_isPerson : GoodIn wsX10_least wsX10_isPerson := goodIn_r _ [12, 6, 13, 14, 11, 15, 47, 48, 49, 50, 51, 52, 53, 54, 55, 56, 57, 58, 59, 60, 61, 62, 63, 64, 65, 66, 67, 68, 69, 70, 71] (by decide +kernel) (by decide +kernel)
set_option maxRecDepth 20000 in
theorem gX10_least_X10_isPerson : GoodIn wsX10_least (wsV RX10 139 RX10 yX10_isPerson wsX10_isPerson) := goodIn_app (goodIn_of _ (by decide +kernel)) ggX10_least_X10_isPerson
set_option maxRecDepth 20000 in
theorem ggX10_least_X10_in : GoodIn wsX10_least wsX10_in := goodIn_r _ [15] (by decide +kernel) (by decide +kernel)
set_option maxRecDepth 20000 in
theorem gX10_least_X10_in : GoodIn wsX10_least (va_wsS RX10 65 yX10_in wsX10_in) := goodIn_app (goodIn_of _ (by decide +kernel)) ggX10_least_X10_in
set_option maxRecDepth 20000 in
theorem ggX10_least_X10_isWedMan : GoodIn wsX10_least wsX10_isWedMan := goodIn_r _ [19, 20, 21, 22, 23, 11, 24, 6, 8, 9, 10, 12, 13, 14, 15, 25, 26, 27, 47, 48, 49, 50, 51, 52, 53, 54, 55, 56, 57, 58, 59, 60, 61, 62, 63, 64, 65, 66, 67, 68, 69, 70, 71] (by decide +kernel) (by decide +kernel)
set_option maxRecDepth 20000 in
theorem gX10_least_X10_isWedMan : GoodIn wsX10_least (wsV RX10 185 RX10 yX10_isWedMan wsX10_isWedMan) := goodIn_app (goodIn_of _ (by decide +kernel)) ggX10_least_X10_isWedMan
set_option maxRecDepth 20000 in
theorem ggX10_least_X10_takes : GoodIn wsX10_least wsX10_takes := goodIn_r _ [31, 6, 20, 5, 7, 32, 33, 34, 11, 35, 36, 37, 38, 25, 26, 27, 47, 48, 49, 50, 51, 52, 53, 54, 55, 56, 57, 58, 59, 60, 61, 62, 63, 64, 65, 66, 67, 68, 69, 70, 71] (by decide +kernel) (by decide +kernel)
set_option maxRecDepth 20000 in
theorem gX10_least_X10_takes : GoodIn wsX10_least (wsV RX10 251 RX10 yX10_takes wsX10_takes) := goodIn_app (goodIn_of _ (by decide +kernel)) ggX10_least_X10_takes
set_option maxRecDepth 20000 in
theorem ggX10_least_X10_standing : GoodIn wsX10_least wsX10_standing := goodIn_r _ [42, 6, 43, 44, 45, 11, 46, 25, 26, 27, 47, 48, 49, 50, 51, 52, 53, 54, 55, 56, 57, 58, 59, 60, 61, 62, 63, 64, 65, 66, 67, 68, 69, 70, 71] (by decide +kernel) (by decide +kernel)
set_option maxRecDepth 20000 in
theorem gX10_least_X10_standing : GoodIn wsX10_least (wsV RX10 179 RX10 yX10_standing wsX10_standing) := goodIn_app (goodIn_of _ (by decide +kernel)) ggX10_least_X10_standing
set_option maxRecDepth 20000 in
theorem ggX10_paysBy_X10_grows : GoodIn wsX10_paysBy wsX10_grows := goodIn_r _ [8, 1, 9, 10, 7, 11, 15, 16, 17, 18, 19, 20, 21, 22, 23, 24, 25, 26, 27, 28, 29, 30, 31, 32, 33, 34, 35, 36, 37, 38, 39] (by decide +kernel) (by decide +kernel)
set_option maxRecDepth 20000 in
theorem gX10_paysBy_X10_grows : GoodIn wsX10_paysBy (wsV RX10 154 RX10 yX10_grows wsX10_grows) := goodIn_app (goodIn_of _ (by decide +kernel)) ggX10_paysBy_X10_grows
set_option maxRecDepth 20000 in
theorem ggX10_paysBy_X10_in : GoodIn wsX10_paysBy wsX10_in := goodIn_r _ [14] (by decide +kernel) (by decide +kernel)
set_option maxRecDepth 20000 in
theorem gX10_paysBy_X10_in : GoodIn wsX10_paysBy (va_wsS RX10 65 yX10_in wsX10_in) := goodIn_app (goodIn_of _ (by decide +kernel)) ggX10_paysBy_X10_in
set_option maxRecDepth 20000 in
theorem ggX10_plan_X10_isPerson : GoodIn wsX10_plan wsX10_isPerson := goodIn_r _ [13, 14, 15, 16, 12, 17, 39, 40, 41, 42, 43, 44, 45, 46, 47, 48, 49, 50, 51, 52, 53, 54, 55, 56, 57, 58, 59, 60, 61, 62, 63] (by decide +kernel) (by decide +kernel)
set_option maxRecDepth 20000 in
theorem gX10_plan_X10_isPerson : GoodIn wsX10_plan (wsV RX10 139 RX10 yX10_isPerson wsX10_isPerson) := goodIn_app (goodIn_of _ (by decide +kernel)) ggX10_plan_X10_isPerson
set_option maxRecDepth 20000 in
theorem ggX10_plan_X10_isCreditor : GoodIn wsX10_plan wsX10_isCreditor := goodIn_r _ [21, 14, 15, 16, 12, 17, 39, 40, 41, 42, 43, 44, 45, 46, 47, 48, 49, 50, 51, 52, 53, 54, 55, 56, 57, 58, 59, 60, 61, 62, 63] (by decide +kernel) (by decide +kernel)
set_option maxRecDepth 20000 in
theorem gX10_plan_X10_isCreditor : GoodIn wsX10_plan (wsV RX10 172 RX10 yX10_isCreditor wsX10_isCreditor) := goodIn_app (goodIn_of _ (by decide +kernel)) ggX10_plan_X10_isCreditor
set_option maxRecDepth 20000 in
theorem ggX10_plan_X10_in : GoodIn wsX10_plan wsX10_in := goodIn_r _ [17] (by decide +kernel) (by decide +kernel)
set_option maxRecDepth 20000 in
theorem gX10_plan_X10_in : GoodIn wsX10_plan (va_wsS RX10 65 yX10_in wsX10_in) := goodIn_app (goodIn_of _ (by decide +kernel)) ggX10_plan_X10_in
set_option maxRecDepth 20000 in
theorem ggX10_plan_X10_has : GoodIn wsX10_plan wsX10_has := goodIn_r _ [24] (by decide +kernel) (by decide +kernel)
set_option maxRecDepth 20000 in
theorem gX10_plan_X10_has : GoodIn wsX10_plan (va_wsS RX10 142 yX10_has wsX10_has) := goodIn_app (goodIn_of _ (by decide +kernel)) ggX10_plan_X10_has
set_option maxRecDepth 20000 in
theorem ggX10_plan_X10_paysBy : GoodIn wsX10_plan wsX10_paysBy := goodIn_r _ [28, 14, 5, 6, 29, 30, 31, 12, 32, 33, 34, 35, 15, 16, 17, 39, 40, 41, 42, 43, 44, 45, 46, 47, 48, 49, 50, 51, 52, 53, 54, 55, 56, 57, 58, 59, 60, 61, 62, 63] (by decide +kernel) (by decide +kernel)
set_option maxRecDepth 20000 in
theorem gX10_plan_X10_paysBy : GoodIn wsX10_plan (wsV RX10 256 RX10 yX10_paysBy wsX10_paysBy) := goodIn_app (goodIn_of _ (by decide +kernel)) ggX10_plan_X10_paysBy
set_option maxRecDepth 20000 in
theorem ggX10_plan_X10_lesser : GoodIn wsX10_plan wsX10_lesser := goodIn_r _ [35] (by decide +kernel) (by decide +kernel)
set_option maxRecDepth 20000 in
theorem gX10_plan_X10_lesser : GoodIn wsX10_plan (va_wsS RX10 150 yX10_lesser wsX10_lesser) := goodIn_app (goodIn_of _ (by decide +kernel)) ggX10_plan_X10_lesser
set_option maxRecDepth 20000 in
theorem ggX10_plan_X10_copies : GoodIn wsX10_plan wsX10_copies := goodIn_r _ [38] (by decide +kernel) (by decide +kernel)
set_option maxRecDepth 20000 in
theorem gX10_plan_X10_copies : GoodIn wsX10_plan (va_wsS RX10 57 yX10_copies wsX10_copies) := goodIn_app (goodIn_of _ (by decide +kernel)) ggX10_plan_X10_copies
set_option maxRecDepth 20000 in
theorem ggX10_makesPairs_X10_wedOnes : GoodIn wsX10_makesPairs wsX10_wedOnes := goodIn_r _ [9, 4, 55, 56, 57, 58, 59, 60, 61, 62, 63, 64, 65, 66, 67, 68, 69, 70, 71, 72, 73, 74, 75, 76, 77, 78, 79] (by decide +kernel) (by decide +kernel)
set_option maxRecDepth 20000 in
theorem gX10_makesPairs_X10_wedOnes : GoodIn wsX10_makesPairs (wsV RX10 166 RX10 yX10_wedOnes wsX10_wedOnes) := goodIn_app (goodIn_of _ (by decide +kernel)) ggX10_makesPairs_X10_wedOnes
set_option maxRecDepth 20000 in
theorem ggX10_makesPairs_X10_isGirl : GoodIn wsX10_makesPairs wsX10_isGirl := goodIn_r _ [13, 3, 14, 15, 16, 8, 17, 18, 19, 20, 21, 22, 23, 55, 56, 57, 58, 59, 60, 61, 62, 63, 64, 65, 66, 67, 68, 69, 70, 71, 72, 73, 74, 75, 76, 77, 78, 79] (by decide +kernel) (by decide +kernel)
set_option maxRecDepth 20000 in
theorem gX10_makesPairs_X10_isGirl : GoodIn wsX10_makesPairs (wsV RX10 215 RX10 yX10_isGirl wsX10_isGirl) := goodIn_app (goodIn_of _ (by decide +kernel)) ggX10_makesPairs_X10_isGirl
set_option maxRecDepth 20000 in
theorem ggX10_makesPairs_X10_isMan : GoodIn wsX10_makesPairs wsX10_isMan := goodIn_r _ [27, 3, 14, 15, 16, 8, 17, 18, 19, 20, 21, 22, 23, 55, 56, 57, 58, 59, 60, 61, 62, 63, 64, 65, 66, 67, 68, 69, 70, 71, 72, 73, 74, 75, 76, 77, 78, 79] (by decide +kernel) (by decide +kernel)
set_option maxRecDepth 20000 in
theorem gX10_makesPairs_X10_isMan : GoodIn wsX10_makesPairs (wsV RX10 182 RX10 yX10_isMan wsX10_isMan) := goodIn_app (goodIn_of _ (by decide +kernel)) ggX10_makesPairs_X10_isMan
set_option maxRecDepth 20000 in
theorem ggX10_makesPairs_X10_has : GoodIn wsX10_makesPairs wsX10_has := goodIn_r _ [23] (by decide +kernel) (by decide +kernel)
set_option maxRecDepth 20000 in
theorem gX10_makesPairs_X10_has : GoodIn wsX10_makesPairs (va_wsS RX10 142 yX10_has wsX10_has) := goodIn_app (goodIn_of _ (by decide +kernel)) ggX10_makesPairs_X10_has
set_option maxRecDepth 20000 in
theorem ggX10_makesPairs_X10_joins : GoodIn wsX10_makesPairs wsX10_joins := goodIn_r _ [31, 32, 33, 34, 35, 8, 36, 4, 37, 38, 39, 40, 41, 42, 43, 44, 45, 46, 47, 48, 49, 50, 3, 51, 52, 53, 54, 21, 22, 23, 55, 56, 57, 58, 59, 60, 61, 62, 63, 64, 65, 66, 67, 68, 69, 70, 71, 72, 73, 74, 75, 76, 77, 78, 79] (by decide +kernel) (by decide +kernel)
set_option maxRecDepth 20000 in
theorem gX10_makesPairs_X10_joins : GoodIn wsX10_makesPairs (wsV RX10 245 RX10 yX10_joins wsX10_joins) := goodIn_app (goodIn_of _ (by decide +kernel)) ggX10_makesPairs_X10_joins
set_option maxRecDepth 20000 in
theorem ggX10_makesPairs_X10_standing : GoodIn wsX10_makesPairs wsX10_standing := goodIn_r _ [50, 3, 51, 52, 53, 8, 54, 21, 22, 23, 55, 56, 57, 58, 59, 60, 61, 62, 63, 64, 65, 66, 67, 68, 69, 70, 71, 72, 73, 74, 75, 76, 77, 78, 79] (by decide +kernel) (by decide +kernel)
set_option maxRecDepth 20000 in
theorem gX10_makesPairs_X10_standing : GoodIn wsX10_makesPairs (wsV RX10 179 RX10 yX10_standing wsX10_standing) := goodIn_app (goodIn_of _ (by decide +kernel)) ggX10_makesPairs_X10_standing
set_option maxRecDepth 20000 in
theorem ggX10_matches_X10_isGirl : GoodIn wsX10_matches wsX10_isGirl := goodIn_r _ [7, 8, 9, 10, 11, 6, 12, 13, 14, 15, 16, 17, 18, 60, 61, 62, 63, 64, 65, 66, 67, 68, 69, 70, 71, 72, 73, 74, 75, 76, 77, 78, 79, 80, 81, 82, 83, 84] (by decide +kernel) (by decide +kernel)
set_option maxRecDepth 20000 in
theorem gX10_matches_X10_isGirl : GoodIn wsX10_matches (wsV RX10 215 RX10 yX10_isGirl wsX10_isGirl) := goodIn_app (goodIn_of _ (by decide +kernel)) ggX10_matches_X10_isGirl
set_option maxRecDepth 20000 in
theorem ggX10_matches_X10_makesPairs : GoodIn wsX10_matches wsX10_makesPairs := goodIn_r _ [22, 2, 23, 8, 24, 25, 26, 27, 6, 28, 3, 4, 5, 7, 9, 10, 11, 12, 13, 14, 15, 16, 17, 18, 29, 30, 31, 32, 33, 34, 35, 36, 37, 38, 39, 40, 41, 42, 43, 44, 45, 46, 47, 48, 49, 50, 51, 52, 53, 54, 55, 56, 57, 58, 59, 60, 61, 62, 63, 64, 65, 66, 67, 68, 69, 70, 71, 72, 73, 74, 75, 76, 77, 78, 79, 80, 81, 82, 83, 84] (by decide +kernel) (by decide +kernel)
set_option maxRecDepth 20000 in
theorem gX10_matches_X10_makesPairs : GoodIn wsX10_matches (wsV RX10 262 RX10 yX10_makesPairs wsX10_makesPairs) := goodIn_app (goodIn_of _ (by decide +kernel)) ggX10_matches_X10_makesPairs
set_option maxRecDepth 20000 in
theorem ggX10_failing_X10_layAside : GoodIn wsX10_failing wsX10_layAside := goodIn_r _ [7, 2, 1, 8, 9, 6, 10, 34, 35, 36, 37, 38, 39, 40, 41, 42, 43, 44, 45, 46, 47, 48, 49, 50, 51, 52, 53, 54, 55, 56, 57, 58] (by decide +kernel) (by decide +kernel)
set_option maxRecDepth 20000 in
theorem gX10_failing_X10_layAside : GoodIn wsX10_failing (wsV RX10 242 RX10 yX10_layAside wsX10_layAside) := goodIn_app (goodIn_of _ (by decide +kernel)) ggX10_failing_X10_layAside
set_option maxRecDepth 20000 in
theorem ggX10_failing_X10_quarterGoes : GoodIn wsX10_failing wsX10_quarterGoes := goodIn_r _ [14, 15, 16, 17, 6, 18, 19, 20, 21, 22, 23, 24, 25, 26, 27, 28, 29, 30, 31, 32, 33, 34, 35, 36, 37, 38, 39, 40, 41, 42, 43, 44, 45, 46, 47, 48, 49, 50, 51, 52, 53, 54, 55, 56, 57, 58] (by decide +kernel) (by decide +kernel)
set_option maxRecDepth 20000 in
theorem gX10_failing_X10_quarterGoes : GoodIn wsX10_failing (wsV RX10 208 RX10 yX10_quarterGoes wsX10_quarterGoes) := goodIn_app (goodIn_of _ (by decide +kernel)) ggX10_failing_X10_quarterGoes
set_option maxRecDepth 20000 in
theorem ggX10_run_X10_in : GoodIn wsX10_run wsX10_in := goodIn_r _ [7] (by decide +kernel) (by decide +kernel)
set_option maxRecDepth 20000 in
theorem gX10_run_X10_in : GoodIn wsX10_run (va_wsS RX10 65 yX10_in wsX10_in) := goodIn_app (goodIn_of _ (by decide +kernel)) ggX10_run_X10_in
set_option maxRecDepth 20000 in
theorem ggX10_run_X10_layAside : GoodIn wsX10_run wsX10_layAside := goodIn_r _ [11, 12, 3, 13, 14, 6, 15, 39, 40, 41, 42, 43, 44, 45, 46, 47, 48, 49, 50, 51, 52, 53, 54, 55, 56, 57, 58, 59, 60, 61, 62, 63] (by decide +kernel) (by decide +kernel)
set_option maxRecDepth 20000 in
theorem gX10_run_X10_layAside : GoodIn wsX10_run (wsV RX10 242 RX10 yX10_layAside wsX10_layAside) := goodIn_app (goodIn_of _ (by decide +kernel)) ggX10_run_X10_layAside
set_option maxRecDepth 20000 in
theorem ggX10_run_X10_quarterGoes : GoodIn wsX10_run wsX10_quarterGoes := goodIn_r _ [19, 20, 21, 22, 6, 23, 24, 25, 26, 27, 28, 29, 30, 31, 32, 33, 34, 35, 36, 37, 38, 39, 40, 41, 42, 43, 44, 45, 46, 47, 48, 49, 50, 51, 52, 53, 54, 55, 56, 57, 58, 59, 60, 61, 62, 63] (by decide +kernel) (by decide +kernel)
set_option maxRecDepth 20000 in
theorem gX10_run_X10_quarterGoes : GoodIn wsX10_run (wsV RX10 208 RX10 yX10_quarterGoes wsX10_quarterGoes) := goodIn_app (goodIn_of _ (by decide +kernel)) ggX10_run_X10_quarterGoes
set_option maxRecDepth 20000 in
theorem ggX10_credit_X10_isPerson : GoodIn wsX10_credit wsX10_isPerson := goodIn_r _ [7, 8, 9, 10, 6, 11, 43, 44, 45, 46, 47, 48, 49, 50, 51, 52, 53, 54, 55, 56, 57, 58, 59, 60, 61, 62, 63, 64, 65, 66, 67] (by decide +kernel) (by decide +kernel)
set_option maxRecDepth 20000 in
theorem gX10_credit_X10_isPerson : GoodIn wsX10_credit (wsV RX10 139 RX10 yX10_isPerson wsX10_isPerson) := goodIn_app (goodIn_of _ (by decide +kernel)) ggX10_credit_X10_isPerson
set_option maxRecDepth 20000 in
theorem ggX10_credit_X10_isCreditor : GoodIn wsX10_credit wsX10_isCreditor := goodIn_r _ [15, 8, 9, 10, 6, 11, 43, 44, 45, 46, 47, 48, 49, 50, 51, 52, 53, 54, 55, 56, 57, 58, 59, 60, 61, 62, 63, 64, 65, 66, 67] (by decide +kernel) (by decide +kernel)
set_option maxRecDepth 20000 in
theorem gX10_credit_X10_isCreditor : GoodIn wsX10_credit (wsV RX10 172 RX10 yX10_isCreditor wsX10_isCreditor) := goodIn_app (goodIn_of _ (by decide +kernel)) ggX10_credit_X10_isCreditor
set_option maxRecDepth 20000 in
theorem ggX10_credit_X10_mayBorrow : GoodIn wsX10_credit wsX10_mayBorrow := goodIn_r _ [19, 20, 21, 22, 23, 6, 24, 25, 26, 27, 28, 8, 3, 4, 5, 7, 9, 10, 11, 29, 30, 31, 43, 44, 45, 46, 47, 48, 49, 50, 51, 52, 53, 54, 55, 56, 57, 58, 59, 60, 61, 62, 63, 64, 65, 66, 67] (by decide +kernel) (by decide +kernel)
set_option maxRecDepth 20000 in
theorem gX10_credit_X10_mayBorrow : GoodIn wsX10_credit (wsV RX10 190 RX10 yX10_mayBorrow wsX10_mayBorrow) := goodIn_app (goodIn_of _ (by decide +kernel)) ggX10_credit_X10_mayBorrow
set_option maxRecDepth 20000 in
theorem ggX10_credit_X10_layAside : GoodIn wsX10_credit wsX10_layAside := goodIn_r _ [35, 20, 2, 36, 37, 6, 38, 43, 44, 45, 46, 47, 48, 49, 50, 51, 52, 53, 54, 55, 56, 57, 58, 59, 60, 61, 62, 63, 64, 65, 66, 67] (by decide +kernel) (by decide +kernel)
set_option maxRecDepth 20000 in
theorem gX10_credit_X10_layAside : GoodIn wsX10_credit (wsV RX10 242 RX10 yX10_layAside wsX10_layAside) := goodIn_app (goodIn_of _ (by decide +kernel)) ggX10_credit_X10_layAside
set_option maxRecDepth 20000 in
theorem ggX10_credit_X10_temperOf : GoodIn wsX10_credit wsX10_temperOf := goodIn_r _ [42, 8, 29, 30, 6, 31, 43, 44, 45, 46, 47, 48, 49, 50, 51, 52, 53, 54, 55, 56, 57, 58, 59, 60, 61, 62, 63, 64, 65, 66, 67] (by decide +kernel) (by decide +kernel)
set_option maxRecDepth 20000 in
theorem gX10_credit_X10_temperOf : GoodIn wsX10_credit (wsV RX10 146 RX10 yX10_temperOf wsX10_temperOf) := goodIn_app (goodIn_of _ (by decide +kernel)) ggX10_credit_X10_temperOf
set_option maxRecDepth 20000 in
theorem ggX10_rumours_X10_in : GoodIn wsX10_rumours wsX10_in := goodIn_r _ [8] (by decide +kernel) (by decide +kernel)
set_option maxRecDepth 20000 in
theorem gX10_rumours_X10_in : GoodIn wsX10_rumours (va_wsS RX10 65 yX10_in wsX10_in) := goodIn_app (goodIn_of _ (by decide +kernel)) ggX10_rumours_X10_in
set_option maxRecDepth 20000 in
theorem ggX10_card_X10_isPerson : GoodIn wsX10_card wsX10_isPerson := goodIn_r _ [11, 12, 13, 14, 10, 15, 20, 21, 22, 23, 24, 25, 26, 27, 28, 29, 30, 31, 32, 33, 34, 35, 36, 37, 38, 39, 40, 41, 42, 43, 44] (by decide +kernel) (by decide +kernel)
set_option maxRecDepth 20000 in
theorem gX10_card_X10_isPerson : GoodIn wsX10_card (wsV RX10 139 RX10 yX10_isPerson wsX10_isPerson) := goodIn_app (goodIn_of _ (by decide +kernel)) ggX10_card_X10_isPerson
set_option maxRecDepth 20000 in
theorem ggX10_card_X10_isCreditor : GoodIn wsX10_card wsX10_isCreditor := goodIn_r _ [19, 12, 13, 14, 10, 15, 20, 21, 22, 23, 24, 25, 26, 27, 28, 29, 30, 31, 32, 33, 34, 35, 36, 37, 38, 39, 40, 41, 42, 43, 44] (by decide +kernel) (by decide +kernel)
set_option maxRecDepth 20000 in
theorem gX10_card_X10_isCreditor : GoodIn wsX10_card (wsV RX10 172 RX10 yX10_isCreditor wsX10_isCreditor) := goodIn_app (goodIn_of _ (by decide +kernel)) ggX10_card_X10_isCreditor
set_option maxRecDepth 20000 in
theorem ggX10_card_X10_in : GoodIn wsX10_card wsX10_in := goodIn_r _ [15] (by decide +kernel) (by decide +kernel)
set_option maxRecDepth 20000 in
theorem gX10_card_X10_in : GoodIn wsX10_card (va_wsS RX10 65 yX10_in wsX10_in) := goodIn_app (goodIn_of _ (by decide +kernel)) ggX10_card_X10_in
set_option maxRecDepth 20000 in
theorem ggX10_isCivil_X10_grows : GoodIn wsX10_isCivil wsX10_grows := goodIn_r _ [6, 1, 7, 8, 5, 9, 13, 14, 15, 16, 17, 18, 19, 20, 21, 22, 23, 24, 25, 26, 27, 28, 29, 30, 31, 32, 33, 34, 35, 36, 37] (by decide +kernel) (by decide +kernel)
set_option maxRecDepth 20000 in
theorem gX10_isCivil_X10_grows : GoodIn wsX10_isCivil (wsV RX10 154 RX10 yX10_grows wsX10_grows) := goodIn_app (goodIn_of _ (by decide +kernel)) ggX10_isCivil_X10_grows
set_option maxRecDepth 20000 in
theorem ggX10_isCivil_X10_in : GoodIn wsX10_isCivil wsX10_in := goodIn_r _ [12] (by decide +kernel) (by decide +kernel)
set_option maxRecDepth 20000 in
theorem gX10_isCivil_X10_in : GoodIn wsX10_isCivil (va_wsS RX10 65 yX10_in wsX10_in) := goodIn_app (goodIn_of _ (by decide +kernel)) ggX10_isCivil_X10_in
set_option maxRecDepth 20000 in
theorem ggX10_couldBe_X10_isCivil : GoodIn wsX10_couldBe wsX10_isCivil := goodIn_r _ [7, 8, 9, 10, 11, 6, 12, 13, 14, 15, 16, 17, 18, 19, 20, 21, 22, 23, 24, 25, 26, 27, 28, 29, 30, 31, 32, 33, 34, 35, 36, 37, 38, 39, 40, 41, 42, 43] (by decide +kernel) (by decide +kernel)
set_option maxRecDepth 20000 in
theorem gX10_couldBe_X10_isCivil : GoodIn wsX10_couldBe (wsV RX10 273 RX10 yX10_isCivil wsX10_isCivil) := goodIn_app (goodIn_of _ (by decide +kernel)) ggX10_couldBe_X10_isCivil
set_option maxRecDepth 20000 in
theorem ggX10_had_X10_isPerson : GoodIn wsX10_had wsX10_isPerson := goodIn_r _ [8, 9, 10, 11, 7, 12, 34, 35, 36, 37, 38, 39, 40, 41, 42, 43, 44, 45, 46, 47, 48, 49, 50, 51, 52, 53, 54, 55, 56, 57, 58] (by decide +kernel) (by decide +kernel)
set_option maxRecDepth 20000 in
theorem gX10_had_X10_isPerson : GoodIn wsX10_had (wsV RX10 139 RX10 yX10_isPerson wsX10_isPerson) := goodIn_app (goodIn_of _ (by decide +kernel)) ggX10_had_X10_isPerson
set_option maxRecDepth 20000 in
theorem ggX10_had_X10_isCreditor : GoodIn wsX10_had wsX10_isCreditor := goodIn_r _ [16, 9, 10, 11, 7, 12, 34, 35, 36, 37, 38, 39, 40, 41, 42, 43, 44, 45, 46, 47, 48, 49, 50, 51, 52, 53, 54, 55, 56, 57, 58] (by decide +kernel) (by decide +kernel)
set_option maxRecDepth 20000 in
theorem gX10_had_X10_isCreditor : GoodIn wsX10_had (wsV RX10 172 RX10 yX10_isCreditor wsX10_isCreditor) := goodIn_app (goodIn_of _ (by decide +kernel)) ggX10_had_X10_isCreditor
set_option maxRecDepth 20000 in
theorem ggX10_had_X10_in : GoodIn wsX10_had wsX10_in := goodIn_r _ [12] (by decide +kernel) (by decide +kernel)
set_option maxRecDepth 20000 in
theorem gX10_had_X10_in : GoodIn wsX10_had (va_wsS RX10 65 yX10_in wsX10_in) := goodIn_app (goodIn_of _ (by decide +kernel)) ggX10_had_X10_in
set_option maxRecDepth 20000 in
theorem ggX10_had_X10_couldBe : GoodIn wsX10_had wsX10_couldBe := goodIn_r _ [20, 21, 22, 23, 24, 25, 7, 26, 9, 27, 28, 29, 30, 31, 32, 33, 10, 11, 12, 34, 35, 36, 37, 38, 39, 40, 41, 42, 43, 44, 45, 46, 47, 48, 49, 50, 51, 52, 53, 54, 55, 56, 57, 58] (by decide +kernel) (by decide +kernel)
set_option maxRecDepth 20000 in
theorem gX10_had_X10_couldBe : GoodIn wsX10_had (wsV RX10 278 RX10 yX10_couldBe wsX10_couldBe) := goodIn_app (goodIn_of _ (by decide +kernel)) ggX10_had_X10_couldBe
set_option maxRecDepth 20000 in
theorem ggX10_lookAt_X10_isPerson : GoodIn wsX10_lookAt wsX10_isPerson := goodIn_r _ [6, 7, 8, 9, 5, 10, 38, 39, 40, 41, 42, 43, 44, 45, 46, 47, 48, 49, 50, 51, 52, 53, 54, 55, 56, 57, 58, 59, 60, 61, 62] (by decide +kernel) (by decide +kernel)
set_option maxRecDepth 20000 in
theorem gX10_lookAt_X10_isPerson : GoodIn wsX10_lookAt (wsV RX10 139 RX10 yX10_isPerson wsX10_isPerson) := goodIn_app (goodIn_of _ (by decide +kernel)) ggX10_lookAt_X10_isPerson
set_option maxRecDepth 20000 in
theorem ggX10_lookAt_X10_isCreditor : GoodIn wsX10_lookAt wsX10_isCreditor := goodIn_r _ [14, 7, 8, 9, 5, 10, 38, 39, 40, 41, 42, 43, 44, 45, 46, 47, 48, 49, 50, 51, 52, 53, 54, 55, 56, 57, 58, 59, 60, 61, 62] (by decide +kernel) (by decide +kernel)
set_option maxRecDepth 20000 in
theorem gX10_lookAt_X10_isCreditor : GoodIn wsX10_lookAt (wsV RX10 172 RX10 yX10_isCreditor wsX10_isCreditor) := goodIn_app (goodIn_of _ (by decide +kernel)) ggX10_lookAt_X10_isCreditor
set_option maxRecDepth 20000 in
theorem ggX10_lookAt_X10_had : GoodIn wsX10_lookAt wsX10_had := goodIn_r _ [18, 1, 19, 20, 2, 3, 4, 5, 6, 7, 8, 9, 10, 11, 12, 13, 14, 21, 22, 23, 24, 25, 26, 27, 28, 29, 30, 31, 32, 33, 34, 35, 36, 37, 38, 39, 40, 41, 42, 43, 44, 45, 46, 47, 48, 49, 50, 51, 52, 53, 54, 55, 56, 57, 58, 59, 60, 61, 62] (by decide +kernel) (by decide +kernel)
set_option maxRecDepth 20000 in
theorem gX10_lookAt_X10_had : GoodIn wsX10_lookAt (wsV RX10 281 RX10 yX10_had wsX10_had) := goodIn_app (goodIn_of _ (by decide +kernel)) ggX10_lookAt_X10_had
set_option maxRecDepth 20000 in
theorem ggX10_lookAt_X10_couldBe : GoodIn wsX10_lookAt wsX10_couldBe := goodIn_r _ [24, 25, 26, 27, 28, 29, 5, 30, 7, 31, 32, 33, 34, 35, 36, 37, 8, 9, 10, 38, 39, 40, 41, 42, 43, 44, 45, 46, 47, 48, 49, 50, 51, 52, 53, 54, 55, 56, 57, 58, 59, 60, 61, 62] (by decide +kernel) (by decide +kernel)
set_option maxRecDepth 20000 in
theorem gX10_lookAt_X10_couldBe : GoodIn wsX10_lookAt (wsV RX10 278 RX10 yX10_couldBe wsX10_couldBe) := goodIn_app (goodIn_of _ (by decide +kernel)) ggX10_lookAt_X10_couldBe
set_option maxRecDepth 20000 in
theorem ggX10_lookAt_X10_isCivil : GoodIn wsX10_lookAt wsX10_isCivil := goodIn_r _ [30, 7, 31, 32, 33, 5, 34, 35, 36, 37, 8, 9, 10, 38, 39, 40, 41, 42, 43, 44, 45, 46, 47, 48, 49, 50, 51, 52, 53, 54, 55, 56, 57, 58, 59, 60, 61, 62] (by decide +kernel) (by decide +kernel)
set_option maxRecDepth 20000 in
theorem gX10_lookAt_X10_isCivil : GoodIn wsX10_lookAt (wsV RX10 273 RX10 yX10_isCivil wsX10_isCivil) := goodIn_app (goodIn_of _ (by decide +kernel)) ggX10_lookAt_X10_isCivil
set_option maxRecDepth 20000 in
theorem ggX10_lookAt_X10_lesser : GoodIn wsX10_lookAt wsX10_lesser := goodIn_r _ [37] (by decide +kernel) (by decide +kernel)
set_option maxRecDepth 20000 in
theorem gX10_lookAt_X10_lesser : GoodIn wsX10_lookAt (va_wsS RX10 150 yX10_lesser wsX10_lesser) := goodIn_app (goodIn_of _ (by decide +kernel)) ggX10_lookAt_X10_lesser
set_option maxRecDepth 20000 in
theorem ggX10_write_X10_isPerson : GoodIn wsX10_write wsX10_isPerson := goodIn_r _ [12, 13, 14, 15, 11, 16, 17, 18, 19, 20, 21, 22, 23, 24, 25, 26, 27, 28, 29, 30, 31, 32, 33, 34, 35, 36, 37, 38, 39, 40, 41] (by decide +kernel) (by decide +kernel)
set_option maxRecDepth 20000 in
theorem gX10_write_X10_isPerson : GoodIn wsX10_write (wsV RX10 139 RX10 yX10_isPerson wsX10_isPerson) := goodIn_app (goodIn_of _ (by decide +kernel)) ggX10_write_X10_isPerson
set_option maxRecDepth 20000 in
theorem ggX10_write_X10_in : GoodIn wsX10_write wsX10_in := goodIn_r _ [16] (by decide +kernel) (by decide +kernel)
set_option maxRecDepth 20000 in
theorem gX10_write_X10_in : GoodIn wsX10_write (va_wsS RX10 65 yX10_in wsX10_in) := goodIn_app (goodIn_of _ (by decide +kernel)) ggX10_write_X10_in
set_option maxRecDepth 20000 in
theorem ggX10_judge_X10_standing : GoodIn wsX10_judge wsX10_standing := goodIn_r _ [8, 9, 10, 11, 12, 7, 13, 14, 15, 16, 17, 18, 19, 20, 21, 22, 23, 24, 25, 26, 27, 28, 29, 30, 31, 32, 33, 34, 35, 36, 37, 38, 39, 40, 41] (by decide +kernel) (by decide +kernel)
set_option maxRecDepth 20000 in
theorem gX10_judge_X10_standing : GoodIn wsX10_judge (wsV RX10 179 RX10 yX10_standing wsX10_standing) := goodIn_app (goodIn_of _ (by decide +kernel)) ggX10_judge_X10_standing
set_option maxRecDepth 20000 in
theorem ggX10_keep_X10_in : GoodIn wsX10_keep wsX10_in := goodIn_r _ [10] (by decide +kernel) (by decide +kernel)
set_option maxRecDepth 20000 in
theorem gX10_keep_X10_in : GoodIn wsX10_keep (va_wsS RX10 65 yX10_in wsX10_in) := goodIn_app (goodIn_of _ (by decide +kernel)) ggX10_keep_X10_in
set_option maxRecDepth 20000 in
theorem ggX10_keep_X10_copies : GoodIn wsX10_keep wsX10_copies := goodIn_r _ [13] (by decide +kernel) (by decide +kernel)
set_option maxRecDepth 20000 in
theorem gX10_keep_X10_copies : GoodIn wsX10_keep (va_wsS RX10 57 yX10_copies wsX10_copies) := goodIn_app (goodIn_of _ (by decide +kernel)) ggX10_keep_X10_copies
set_option maxRecDepth 20000 in
theorem ggX10_goBack_X10_in : GoodIn wsX10_goBack wsX10_in := goodIn_r _ [11] (by decide +kernel) (by decide +kernel)
set_option maxRecDepth 20000 in
theorem gX10_goBack_X10_in : GoodIn wsX10_goBack (va_wsS RX10 65 yX10_in wsX10_in) := goodIn_app (goodIn_of _ (by decide +kernel)) ggX10_goBack_X10_in
set_option maxRecDepth 20000 in
theorem ggX10_goBack_X10_copies : GoodIn wsX10_goBack wsX10_copies := goodIn_r _ [14] (by decide +kernel) (by decide +kernel)
set_option maxRecDepth 20000 in
theorem gX10_goBack_X10_copies : GoodIn wsX10_goBack (va_wsS RX10 57 yX10_copies wsX10_copies) := goodIn_app (goodIn_of _ (by decide +kernel)) ggX10_goBack_X10_copies
theorem dJ6_bitCount_0f7a4_0 : decode cJ6_bitCount_0f7a4 0 = .ok (.iload_n 0, 1) := by decide +kernel
theorem dJ6_bitCount_0f7a4_1 : decode cJ6_bitCount_0f7a4 1 = .ok (.iload_n 0, 1) := by decide +kernel
theorem dJ6_bitCount_0f7a4_2 : decode cJ6_bitCount_0f7a4 2 = .ok (.iconst 1, 1) := by decide +kernel
theorem dJ6_bitCount_0f7a4_3 : decode cJ6_bitCount_0f7a4 3 = .ok (.iushr, 1) := by decide +kernel
theorem dJ6_bitCount_0f7a4_4 : decode cJ6_bitCount_0f7a4 4 = .ok (.ldc_w 265, 3) := by decide +kernel
theorem dJ6_bitCount_0f7a4_7 : decode cJ6_bitCount_0f7a4 7 = .ok (.iand, 1) := by decide +kernel
theorem dJ6_bitCount_0f7a4_8 : decode cJ6_bitCount_0f7a4 8 = .ok (.isub, 1) := by decide +kernel
theorem dJ6_bitCount_0f7a4_9 : decode cJ6_bitCount_0f7a4 9 = .ok (.istore_n 0, 1) := by decide +kernel
theorem dJ6_bitCount_0f7a4_10 : decode cJ6_bitCount_0f7a4 10 = .ok (.iload_n 0, 1) := by decide +kernel
theorem dJ6_bitCount_0f7a4_11 : decode cJ6_bitCount_0f7a4 11 = .ok (.ldc_w 266, 3) := by decide +kernel
theorem dJ6_bitCount_0f7a4_14 : decode cJ6_bitCount_0f7a4 14 = .ok (.iand, 1) := by decide +kernel
theorem dJ6_bitCount_0f7a4_15 : decode cJ6_bitCount_0f7a4 15 = .ok (.iload_n 0, 1) := by decide +kernel
theorem dJ6_bitCount_0f7a4_16 : decode cJ6_bitCount_0f7a4 16 = .ok (.iconst 2, 1) := by decide +kernel
theorem dJ6_bitCount_0f7a4_17 : decode cJ6_bitCount_0f7a4 17 = .ok (.iushr, 1) := by decide +kernel
theorem dJ6_bitCount_0f7a4_18 : decode cJ6_bitCount_0f7a4 18 = .ok (.ldc_w 266, 3) := by decide +kernel
theorem dJ6_bitCount_0f7a4_21 : decode cJ6_bitCount_0f7a4 21 = .ok (.iand, 1) := by decide +kernel
theorem dJ6_bitCount_0f7a4_22 : decode cJ6_bitCount_0f7a4 22 = .ok (.iadd, 1) := by decide +kernel
theorem dJ6_bitCount_0f7a4_23 : decode cJ6_bitCount_0f7a4 23 = .ok (.istore_n 0, 1) := by decide +kernel
theorem dJ6_bitCount_0f7a4_24 : decode cJ6_bitCount_0f7a4 24 = .ok (.iload_n 0, 1) := by decide +kernel
theorem dJ6_bitCount_0f7a4_25 : decode cJ6_bitCount_0f7a4 25 = .ok (.iload_n 0, 1) := by decide +kernel
theorem dJ6_bitCount_0f7a4_26 : decode cJ6_bitCount_0f7a4 26 = .ok (.iconst 4, 1) := by decide +kernel
theorem dJ6_bitCount_0f7a4_27 : decode cJ6_bitCount_0f7a4 27 = .ok (.iushr, 1) := by decide +kernel
theorem dJ6_bitCount_0f7a4_28 : decode cJ6_bitCount_0f7a4 28 = .ok (.iadd, 1) := by decide +kernel
theorem dJ6_bitCount_0f7a4_29 : decode cJ6_bitCount_0f7a4 29 = .ok (.ldc_w 267, 3) := by decide +kernel
theorem dJ6_bitCount_0f7a4_32 : decode cJ6_bitCount_0f7a4 32 = .ok (.iand, 1) := by decide +kernel
theorem dJ6_bitCount_0f7a4_33 : decode cJ6_bitCount_0f7a4 33 = .ok (.istore_n 0, 1) := by decide +kernel
theorem dJ6_bitCount_0f7a4_34 : decode cJ6_bitCount_0f7a4 34 = .ok (.iload_n 0, 1) := by decide +kernel
theorem dJ6_bitCount_0f7a4_35 : decode cJ6_bitCount_0f7a4 35 = .ok (.iload_n 0, 1) := by decide +kernel
theorem dJ6_bitCount_0f7a4_36 : decode cJ6_bitCount_0f7a4 36 = .ok (.bipush 8, 2) := by decide +kernel
theorem dJ6_bitCount_0f7a4_38 : decode cJ6_bitCount_0f7a4 38 = .ok (.iushr, 1) := by decide +kernel
theorem dJ6_bitCount_0f7a4_39 : decode cJ6_bitCount_0f7a4 39 = .ok (.iadd, 1) := by decide +kernel
theorem dJ6_bitCount_0f7a4_40 : decode cJ6_bitCount_0f7a4 40 = .ok (.istore_n 0, 1) := by decide +kernel
theorem dJ6_bitCount_0f7a4_41 : decode cJ6_bitCount_0f7a4 41 = .ok (.iload_n 0, 1) := by decide +kernel
theorem dJ6_bitCount_0f7a4_42 : decode cJ6_bitCount_0f7a4 42 = .ok (.iload_n 0, 1) := by decide +kernel
theorem dJ6_bitCount_0f7a4_43 : decode cJ6_bitCount_0f7a4 43 = .ok (.bipush 16, 2) := by decide +kernel
theorem dJ6_bitCount_0f7a4_45 : decode cJ6_bitCount_0f7a4 45 = .ok (.iushr, 1) := by decide +kernel
theorem dJ6_bitCount_0f7a4_46 : decode cJ6_bitCount_0f7a4 46 = .ok (.iadd, 1) := by decide +kernel
theorem dJ6_bitCount_0f7a4_47 : decode cJ6_bitCount_0f7a4 47 = .ok (.istore_n 0, 1) := by decide +kernel
theorem dJ6_bitCount_0f7a4_48 : decode cJ6_bitCount_0f7a4 48 = .ok (.iload_n 0, 1) := by decide +kernel
theorem dJ6_bitCount_0f7a4_49 : decode cJ6_bitCount_0f7a4 49 = .ok (.bipush 63, 2) := by decide +kernel
theorem dJ6_bitCount_0f7a4_51 : decode cJ6_bitCount_0f7a4 51 = .ok (.iand, 1) := by decide +kernel
theorem dJ6_bitCount_0f7a4_52 : decode cJ6_bitCount_0f7a4 52 = .ok (.ireturn, 1) := by decide +kernel
theorem dJ9_max_7cf53_0 : decode cJ9_max_7cf53 0 = .ok (.iload_n 0, 1) := by decide +kernel
theorem dJ9_max_7cf53_1 : decode cJ9_max_7cf53 1 = .ok (.iload_n 1, 1) := by decide +kernel
theorem dJ9_max_7cf53_2 : decode cJ9_max_7cf53 2 = .ok (.if_icmp .lt 7, 3) := by decide +kernel
theorem dJ9_max_7cf53_5 : decode cJ9_max_7cf53 5 = .ok (.iload_n 0, 1) := by decide +kernel
theorem dJ9_max_7cf53_6 : decode cJ9_max_7cf53 6 = .ok (.goto 4, 3) := by decide +kernel
theorem dJ9_max_7cf53_9 : decode cJ9_max_7cf53 9 = .ok (.iload_n 1, 1) := by decide +kernel
theorem dJ9_max_7cf53_10 : decode cJ9_max_7cf53 10 = .ok (.ireturn, 1) := by decide +kernel
theorem dJ9_min_7cf53_0 : decode cJ9_min_7cf53 0 = .ok (.iload_n 0, 1) := by decide +kernel
theorem dJ9_min_7cf53_1 : decode cJ9_min_7cf53 1 = .ok (.iload_n 1, 1) := by decide +kernel
theorem dJ9_min_7cf53_2 : decode cJ9_min_7cf53 2 = .ok (.if_icmp .gt 7, 3) := by decide +kernel
theorem dJ9_min_7cf53_5 : decode cJ9_min_7cf53 5 = .ok (.iload_n 0, 1) := by decide +kernel
theorem dJ9_min_7cf53_6 : decode cJ9_min_7cf53 6 = .ok (.goto 4, 3) := by decide +kernel
theorem dJ9_min_7cf53_9 : decode cJ9_min_7cf53 9 = .ok (.iload_n 1, 1) := by decide +kernel
theorem dJ9_min_7cf53_10 : decode cJ9_min_7cf53 10 = .ok (.ireturn, 1) := by decide +kernel
set_option maxRecDepth 20000 in
theorem ggL_law_X9_init : GoodIn wsL_law wsX9_init := goodIn_r _ [8, 9, 10, 11, 12, 13, 14, 15, 16, 17, 18, 19, 20, 21, 22, 23, 24, 25, 26, 27, 28, 29, 30, 31, 32, 33, 34, 35, 36, 37, 38, 39, 40, 41, 42, 43, 44, 45, 46, 47, 48, 49, 50, 51, 52, 53, 54, 55, 56, 57, 58, 59, 60, 61, 62, 63, 64, 65, 66, 67, 68, 69, 70, 71, 72, 73, 74, 75, 76, 77, 78, 79, 80, 81, 82, 83, 84, 85, 86, 87, 88, 89, 90, 91, 92, 93, 94, 95, 96, 97, 98, 99, 100, 101, 102, 103, 104, 105, 106, 107, 108, 109, 110, 111, 1033, 1034, 1035, 1036, 1037, 1038, 1039, 1040, 997, 998, 999, 1000, 1001, 1002, 1003, 1004, 1005, 1006, 1007, 1041, 1042, 1043, 1044, 1045, 1046, 1047, 1048, 1049, 1050, 1051, 1052, 1053, 1054, 1055, 1056, 1057, 1058, 1059, 1060, 1061, 1062, 1063, 1064, 1065, 1066, 1067, 1068, 1069, 1070, 1071, 1072, 1073, 1074, 1075, 1076] (by decide +kernel) (by decide +kernel)
set_option maxRecDepth 20000 in
theorem gL_law_X9_init : GoodIn wsL_law (wsX9_init) := ggL_law_X9_init
set_option maxRecDepth 20000 in
theorem ggL_law_X10_init : GoodIn wsL_law wsX10_init := goodIn_r _ [114, 115, 10, 11, 57, 116, 117, 118, 119, 120, 121, 97, 122, 123, 124, 125, 126, 127, 128, 129, 130, 131, 132, 5, 133, 134, 135, 136, 137, 138, 139, 140, 141, 142, 143, 144, 1008, 1009, 1010, 1011, 1012, 1013, 1014, 1015, 1016, 1017, 1018, 1019, 1020, 1021, 1022, 1023, 1024, 1025, 1026, 1027, 1028, 1029, 1030, 1031, 1032] (by decide +kernel) (by decide +kernel)
set_option maxRecDepth 20000 in
theorem gL_law_X10_init : GoodIn wsL_law (wsX10_init) := ggL_law_X10_init
set_option maxRecDepth 20000 in
theorem ggL_law_X9_feed : GoodIn wsL_law wsX9_feed := goodIn_r _ [148, 149, 15, 150, 151, 152, 153, 154, 14, 155, 156, 58, 997, 998, 999, 1000, 1001, 1002, 1003, 1004, 1005, 1006, 1007, 1033, 1034, 1035, 1036, 1037, 1038, 1039, 1040] (by decide +kernel) (by decide +kernel)
set_option maxRecDepth 20000 in
theorem gL_law_X9_feed : GoodIn wsL_law (wsV RL 13 RX9 yX9_feed wsX9_feed) := goodIn_app (goodIn_of _ (by decide +kernel)) ggL_law_X9_feed
set_option maxRecDepth 20000 in
theorem ggL_law_X10_feed : GoodIn wsL_law wsX10_feed := goodIn_r _ [160, 161, 162, 163, 164, 123, 142, 143, 5, 144, 1008, 1009, 1010, 1011, 1012, 1013, 1014, 1015, 1016, 1017, 1018, 1019, 1020, 1021, 1022, 1023, 1024, 1025, 1026, 1027, 1028, 1029, 1030, 1031, 1032] (by decide +kernel) (by decide +kernel)
set_option maxRecDepth 20000 in
theorem gL_law_X10_feed : GoodIn wsL_law (wsV RL 17 RX10 yX10_feed wsX10_feed) := goodIn_app (goodIn_of _ (by decide +kernel)) ggL_law_X10_feed
set_option maxRecDepth 20000 in
theorem ggL_law_X9_town : GoodIn wsL_law wsX9_town := goodIn_r _ [168, 15, 169, 19, 170, 23, 171, 28, 40, 172, 44, 173, 46, 174, 175, 176, 177, 178, 14, 179, 54, 56, 180, 59, 181, 182, 156, 183, 184, 185, 18, 186, 187, 188, 189, 190, 191, 192, 193, 194, 195, 22, 196, 70, 71, 72, 73, 197, 198, 199, 200, 201, 202, 58, 203, 204, 205, 206, 207, 208, 209, 210, 211, 212, 213, 214, 215, 216, 217, 218, 219, 220, 221, 222, 223, 224, 225, 226, 227, 228, 229, 230, 231, 232, 233, 234, 235, 236, 237, 238, 239, 240, 241, 242, 243, 244, 245, 246, 247, 248, 249, 250, 251, 252, 253, 254, 255, 256, 257, 258, 259, 63, 260, 261, 262, 263, 64, 65, 264, 265, 266, 267, 268, 269, 270, 271, 27, 272, 273, 997, 998, 999, 1000, 1001, 1002, 1003, 1004, 1005, 1006, 1007, 1033, 1034, 1035, 1036, 1037, 1038, 1039, 1040, 1064, 1065, 1066, 1067, 1068, 1069, 1070, 1071, 1072, 1073, 1074, 1075, 1076, 1041, 1042, 1043, 1044, 1045, 1046, 1047, 1048, 1049, 1050, 1051, 1052, 1053, 1054, 1055, 1056, 1057, 1058, 1059] (by decide +kernel) (by decide +kernel)
set_option maxRecDepth 20000 in
theorem gL_law_X9_town : GoodIn wsL_law (wsV RL 18 RX9 yX9_town wsX9_town) := goodIn_app (goodIn_of _ (by decide +kernel)) ggL_law_X9_town
set_option maxRecDepth 20000 in
theorem ggL_law_X10_town : GoodIn wsL_law wsX10_town := goodIn_r _ [277, 117, 278, 124, 279, 163, 280, 281, 116, 282, 283, 284, 5, 285, 286, 287, 288, 289, 290, 291, 292, 293, 123, 142, 143, 144, 294, 295, 296, 297, 298, 299, 300, 301, 302, 303, 304, 305, 306, 307, 308, 309, 310, 311, 312, 313, 314, 315, 316, 317, 318, 319, 320, 321, 139, 140, 141, 130, 131, 132, 133, 118, 134, 135, 136, 137, 138, 122, 1008, 1009, 1010, 1011, 1012, 1013, 1014, 1015, 1016, 1017, 1018, 1019, 1020, 1021, 1022, 1023, 1024, 1025, 1026, 1027, 1028, 1029, 1030, 1031, 1032] (by decide +kernel) (by decide +kernel)
set_option maxRecDepth 20000 in
theorem gL_law_X10_town : GoodIn wsL_law (wsV RL 22 RX10 yX10_town wsX10_town) := goodIn_app (goodIn_of _ (by decide +kernel)) ggL_law_X10_town
set_option maxRecDepth 20000 in
theorem ggL_law_X9_fault : GoodIn wsL_law wsX9_fault := goodIn_r _ [325, 15, 326, 997, 998, 999, 1000, 1001, 1002, 1003, 1004, 1005, 1006, 1007, 1033, 1034, 1035, 1036, 1037, 1038, 1039, 1040] (by decide +kernel) (by decide +kernel)
set_option maxRecDepth 20000 in
theorem gL_law_X9_fault : GoodIn wsL_law (wsV RL 23 RX9 yX9_fault wsX9_fault) := goodIn_app (goodIn_of _ (by decide +kernel)) ggL_law_X9_fault
set_option maxRecDepth 20000 in
theorem ggL_law_X10_fault : GoodIn wsL_law wsX10_fault := goodIn_r _ [330, 124, 1008, 1009, 1010, 1011, 1012, 1013, 1014, 1015, 1016, 1017, 1018, 1019, 1020, 1021, 1022, 1023, 1024, 1025, 1026, 1027, 1028, 1029, 1030, 1031, 1032] (by decide +kernel) (by decide +kernel)
set_option maxRecDepth 20000 in
theorem gL_law_X10_fault : GoodIn wsL_law (wsV RL 26 RX10 yX10_fault wsX10_fault) := goodIn_app (goodIn_of _ (by decide +kernel)) ggL_law_X10_fault
set_option maxRecDepth 20000 in
theorem ggL_law_X9_told : GoodIn wsL_law wsX9_told := goodIn_r _ [334, 19, 335, 336, 337, 338, 175, 15, 150, 23, 339, 340, 341, 40, 172, 44, 173, 28, 342, 149, 343, 344, 345, 22, 346, 74, 347, 73, 348, 349, 350, 351, 352, 353, 354, 355, 356, 357, 358, 359, 360, 70, 997, 998, 999, 1000, 1001, 1002, 1003, 1004, 1005, 1006, 1007, 1041, 1042, 1043, 1044, 1045, 1046, 1047, 1048, 1049, 1033, 1034, 1035, 1036, 1037, 1038, 1039, 1040, 1050, 1051, 1052, 1053, 1054, 1055, 1056, 1064, 1065, 1066, 1067, 1068, 1069, 1070, 1071, 1072, 1073, 1057, 1058, 1059] (by decide +kernel) (by decide +kernel)
set_option maxRecDepth 20000 in
theorem gL_law_X9_told : GoodIn wsL_law (wsV RL 27 RX9 yX9_told wsX9_told) := goodIn_app (goodIn_of _ (by decide +kernel)) ggL_law_X9_told
set_option maxRecDepth 20000 in
theorem ggL_law_X10_told : GoodIn wsL_law wsX10_told := goodIn_r _ [364, 116, 163, 118, 137, 138, 136, 162, 365, 366, 367, 5, 368, 369, 370, 371, 372, 373, 374, 375, 376, 1008, 1009, 1010, 1011, 1012, 1013, 1014, 1015, 1016, 1017, 1018, 1019, 1020, 1021, 1022, 1023, 1024, 1025, 1026, 1027, 1028, 1029, 1030, 1031, 1032] (by decide +kernel) (by decide +kernel)
set_option maxRecDepth 20000 in
theorem gL_law_X10_told : GoodIn wsL_law (wsV RL 30 RX10 yX10_told wsX10_told) := goodIn_app (goodIn_of _ (by decide +kernel)) ggL_law_X10_told
set_option maxRecDepth 20000 in
theorem ggL_law_X9_creditor : GoodIn wsL_law wsX9_creditor := goodIn_r _ [380, 19, 381, 23, 382, 383, 384, 385, 149, 386, 387, 388, 18, 389, 190, 390, 391, 392, 22, 393, 74, 347, 394, 395, 396, 397, 357, 358, 359, 360, 70, 398, 399, 400, 401, 72, 402, 403, 404, 405, 406, 407, 408, 409, 410, 411, 197, 997, 998, 999, 1000, 1001, 1002, 1003, 1004, 1005, 1006, 1007, 1050, 1051, 1052, 1053, 1054, 1055, 1056, 1041, 1042, 1043, 1044, 1045, 1046, 1047, 1048, 1049] (by decide +kernel) (by decide +kernel)
set_option maxRecDepth 20000 in
theorem gL_law_X9_creditor : GoodIn wsL_law (wsV RL 31 RX9 yX9_creditor wsX9_creditor) := goodIn_app (goodIn_of _ (by decide +kernel)) ggL_law_X9_creditor
set_option maxRecDepth 20000 in
theorem ggL_law_X10_creditor : GoodIn wsL_law wsX10_creditor := goodIn_r _ [415, 416, 118, 116, 162, 417, 418, 419, 5, 420, 142, 143, 144, 421, 422, 423, 424, 425, 426, 427, 428, 429, 430, 431, 1008, 1009, 1010, 1011, 1012, 1013, 1014, 1015, 1016, 1017, 1018, 1019, 1020, 1021, 1022, 1023, 1024, 1025, 1026, 1027, 1028, 1029, 1030, 1031, 1032] (by decide +kernel) (by decide +kernel)
set_option maxRecDepth 20000 in
theorem gL_law_X10_creditor : GoodIn wsL_law (wsV RL 35 RX10 yX10_creditor wsX10_creditor) := goodIn_app (goodIn_of _ (by decide +kernel)) ggL_law_X10_creditor
set_option maxRecDepth 20000 in
theorem ggL_law_X9_person : GoodIn wsL_law wsX9_person := goodIn_r _ [435, 19, 381, 23, 436, 437, 149, 438, 439, 440, 18, 441, 191, 442, 443, 444, 445, 192, 446, 447, 353, 354, 22, 355, 74, 356, 357, 358, 359, 360, 70, 448, 449, 450, 451, 394, 395, 396, 397, 398, 399, 400, 401, 72, 402, 403, 404, 405, 406, 407, 408, 409, 410, 411, 197, 452, 453, 454, 455, 456, 997, 998, 999, 1000, 1001, 1002, 1003, 1004, 1005, 1006, 1007, 1050, 1051, 1052, 1053, 1054, 1055, 1056, 1041, 1042, 1043, 1044, 1045, 1046, 1047, 1048, 1049] (by decide +kernel) (by decide +kernel)
set_option maxRecDepth 20000 in
theorem gL_law_X9_person : GoodIn wsL_law (wsV RL 36 RX9 yX9_person wsX9_person) := goodIn_app (goodIn_of _ (by decide +kernel)) ggL_law_X9_person
set_option maxRecDepth 20000 in
theorem ggL_law_X10_person : GoodIn wsL_law wsX10_person := goodIn_r _ [460, 416, 116, 118, 162, 461, 462, 463, 5, 464, 142, 143, 144, 429, 430, 431, 373, 374, 375, 376, 465, 466, 467, 468, 425, 426, 427, 428, 1008, 1009, 1010, 1011, 1012, 1013, 1014, 1015, 1016, 1017, 1018, 1019, 1020, 1021, 1022, 1023, 1024, 1025, 1026, 1027, 1028, 1029, 1030, 1031, 1032] (by decide +kernel) (by decide +kernel)
set_option maxRecDepth 20000 in
theorem gL_law_X10_person : GoodIn wsL_law (wsV RL 39 RX10 yX10_person wsX10_person) := goodIn_app (goodIn_of _ (by decide +kernel)) ggL_law_X10_person
set_option maxRecDepth 20000 in
theorem ggL_law_X9_owes : GoodIn wsL_law wsX9_owes := goodIn_r _ [472, 19, 23, 381, 473, 474, 475, 18, 476, 446, 439, 440, 441, 191, 477, 387, 388, 389, 190, 478, 358, 359, 22, 360, 70, 997, 998, 999, 1000, 1001, 1002, 1003, 1004, 1005, 1006, 1007, 1041, 1042, 1043, 1044, 1045, 1046, 1047, 1048, 1049, 1050, 1051, 1052, 1053, 1054, 1055, 1056] (by decide +kernel) (by decide +kernel)
set_option maxRecDepth 20000 in
theorem gL_law_X9_owes : GoodIn wsL_law (wsV RL 40 RX9 yX9_owes wsX9_owes) := goodIn_app (goodIn_of _ (by decide +kernel)) ggL_law_X9_owes
set_option maxRecDepth 20000 in
theorem ggL_law_X10_owes : GoodIn wsL_law wsX10_owes := goodIn_r _ [482, 118, 416, 461, 462, 463, 5, 464, 116, 142, 143, 144, 417, 418, 419, 420, 1008, 1009, 1010, 1011, 1012, 1013, 1014, 1015, 1016, 1017, 1018, 1019, 1020, 1021, 1022, 1023, 1024, 1025, 1026, 1027, 1028, 1029, 1030, 1031, 1032] (by decide +kernel) (by decide +kernel)
set_option maxRecDepth 20000 in
theorem gL_law_X10_owes : GoodIn wsL_law (wsV RL 43 RX10 yX10_owes wsX10_owes) := goodIn_app (goodIn_of _ (by decide +kernel)) ggL_law_X10_owes
set_option maxRecDepth 20000 in
theorem ggL_law_X9_temper : GoodIn wsL_law wsX9_temper := goodIn_r _ [486, 19, 23, 381, 473, 474, 475, 18, 476, 446, 439, 440, 441, 191, 477, 387, 388, 389, 190, 487, 395, 396, 22, 397, 357, 358, 359, 360, 70, 398, 399, 400, 401, 72, 402, 403, 404, 405, 74, 406, 407, 408, 409, 410, 411, 197, 997, 998, 999, 1000, 1001, 1002, 1003, 1004, 1005, 1006, 1007, 1041, 1042, 1043, 1044, 1045, 1046, 1047, 1048, 1049, 1050, 1051, 1052, 1053, 1054, 1055, 1056] (by decide +kernel) (by decide +kernel)
set_option maxRecDepth 20000 in
theorem gL_law_X9_temper : GoodIn wsL_law (wsV RL 44 RX9 yX9_temper wsX9_temper) := goodIn_app (goodIn_of _ (by decide +kernel)) ggL_law_X9_temper
set_option maxRecDepth 20000 in
theorem ggL_law_X10_temper : GoodIn wsL_law wsX10_temper := goodIn_r _ [491, 118, 416, 461, 462, 463, 5, 464, 116, 142, 143, 144, 417, 418, 419, 420, 425, 426, 427, 428, 429, 430, 431, 1008, 1009, 1010, 1011, 1012, 1013, 1014, 1015, 1016, 1017, 1018, 1019, 1020, 1021, 1022, 1023, 1024, 1025, 1026, 1027, 1028, 1029, 1030, 1031, 1032] (by decide +kernel) (by decide +kernel)
set_option maxRecDepth 20000 in
theorem gL_law_X10_temper : GoodIn wsL_law (wsV RL 47 RX10 yX10_temper wsX10_temper) := goodIn_app (goodIn_of _ (by decide +kernel)) ggL_law_X10_temper
set_option maxRecDepth 20000 in
theorem ggL_law_X9_borrow : GoodIn wsL_law wsX9_borrow := goodIn_r _ [495, 19, 381, 149, 23, 496, 28, 473, 474, 475, 18, 476, 446, 439, 440, 441, 191, 477, 387, 388, 389, 190, 497, 498, 499, 22, 500, 71, 501, 502, 503, 504, 74, 73, 505, 506, 507, 508, 192, 408, 409, 410, 411, 197, 509, 510, 511, 27, 512, 81, 513, 273, 514, 265, 266, 267, 70, 268, 261, 262, 263, 72, 198, 515, 516, 517, 518, 357, 358, 359, 360, 519, 249, 250, 251, 252, 253, 254, 255, 478, 997, 998, 999, 1000, 1001, 1002, 1003, 1004, 1005, 1006, 1007, 1041, 1042, 1043, 1044, 1045, 1046, 1047, 1048, 1049, 1050, 1051, 1052, 1053, 1054, 1055, 1056, 1057, 1058, 1059] (by decide +kernel) (by decide +kernel)
set_option maxRecDepth 20000 in
theorem gL_law_X9_borrow : GoodIn wsL_law (wsV RL 48 RX9 yX9_borrow wsX9_borrow) := goodIn_app (goodIn_of _ (by decide +kernel)) ggL_law_X9_borrow
set_option maxRecDepth 20000 in
theorem ggL_law_X10_borrow : GoodIn wsL_law wsX10_borrow := goodIn_r _ [523, 416, 524, 162, 525, 118, 461, 462, 463, 5, 464, 116, 142, 143, 144, 417, 418, 419, 420, 526, 527, 528, 529, 530, 531, 532, 533, 534, 535, 536, 537, 429, 430, 431, 538, 539, 540, 541, 136, 120, 139, 140, 141, 542, 543, 544, 545, 546, 547, 548, 1008, 1009, 1010, 1011, 1012, 1013, 1014, 1015, 1016, 1017, 1018, 1019, 1020, 1021, 1022, 1023, 1024, 1025, 1026, 1027, 1028, 1029, 1030, 1031, 1032] (by decide +kernel) (by decide +kernel)
set_option maxRecDepth 20000 in
theorem gL_law_X10_borrow : GoodIn wsL_law (wsV RL 52 RX10 yX10_borrow wsX10_borrow) := goodIn_app (goodIn_of _ (by decide +kernel)) ggL_law_X10_borrow
set_option maxRecDepth 20000 in
theorem ggL_law_X9_pay : GoodIn wsL_law wsX9_pay := goodIn_r _ [552, 19, 381, 149, 23, 496, 28, 473, 474, 475, 18, 476, 446, 439, 440, 441, 191, 477, 387, 388, 389, 190, 478, 358, 359, 22, 360, 70, 509, 510, 511, 27, 512, 81, 513, 273, 514, 265, 266, 267, 268, 261, 262, 263, 71, 72, 73, 197, 198, 553, 554, 555, 556, 74, 557, 252, 253, 254, 255, 357, 519, 249, 250, 251, 997, 998, 999, 1000, 1001, 1002, 1003, 1004, 1005, 1006, 1007, 1041, 1042, 1043, 1044, 1045, 1046, 1047, 1048, 1049, 1050, 1051, 1052, 1053, 1054, 1055, 1056, 1057, 1058, 1059] (by decide +kernel) (by decide +kernel)
set_option maxRecDepth 20000 in
theorem gL_law_X9_pay : GoodIn wsL_law (wsV RL 53 RX9 yX9_pay wsX9_pay) := goodIn_app (goodIn_of _ (by decide +kernel)) ggL_law_X9_pay
set_option maxRecDepth 20000 in
theorem ggL_law_X10_pay : GoodIn wsL_law wsX10_pay := goodIn_r _ [561, 416, 562, 162, 118, 525, 116, 461, 462, 463, 5, 464, 142, 143, 144, 417, 418, 419, 420, 538, 539, 540, 541, 136, 120, 139, 140, 141, 546, 547, 548, 1008, 1009, 1010, 1011, 1012, 1013, 1014, 1015, 1016, 1017, 1018, 1019, 1020, 1021, 1022, 1023, 1024, 1025, 1026, 1027, 1028, 1029, 1030, 1031, 1032] (by decide +kernel) (by decide +kernel)
set_option maxRecDepth 20000 in
theorem gL_law_X10_pay : GoodIn wsL_law (wsV RL 56 RX10 yX10_pay wsX10_pay) := goodIn_app (goodIn_of _ (by decide +kernel)) ggL_law_X10_pay
set_option maxRecDepth 20000 in
theorem ggL_law_X9_quarter : GoodIn wsL_law wsX9_quarter := goodIn_r _ [566, 28, 23, 567, 568, 569, 2, 570, 149, 19, 335, 496, 339, 151, 509, 510, 511, 27, 512, 81, 513, 273, 514, 265, 266, 22, 267, 70, 268, 261, 262, 263, 71, 72, 73, 197, 198, 571, 572, 573, 574, 74, 347, 356, 357, 358, 359, 360, 575, 576, 577, 18, 578, 188, 579, 253, 254, 255, 519, 249, 250, 251, 252, 408, 409, 410, 411, 580, 581, 582, 583, 394, 395, 396, 397, 398, 399, 400, 401, 402, 403, 404, 405, 406, 407, 584, 585, 586, 587, 588, 589, 590, 591, 592, 593, 594, 997, 998, 999, 1000, 1001, 1002, 1003, 1004, 1005, 1006, 1007, 1041, 1042, 1043, 1044, 1045, 1046, 1047, 1048, 1049, 1050, 1051, 1052, 1053, 1054, 1055, 1056, 1057, 1058, 1059] (by decide +kernel) (by decide +kernel)
set_option maxRecDepth 20000 in
theorem gL_law_X9_quarter : GoodIn wsL_law (wsV RL 57 RX9 yX9_quarter wsX9_quarter) := goodIn_app (goodIn_of _ (by decide +kernel)) ggL_law_X9_quarter
set_option maxRecDepth 20000 in
theorem ggL_law_X10_quarter : GoodIn wsL_law wsX10_quarter := goodIn_r _ [598, 118, 599, 600, 601, 5, 602, 603, 162, 116, 525, 164, 142, 143, 144, 538, 539, 540, 541, 136, 120, 139, 140, 141, 604, 605, 606, 607, 608, 609, 610, 611, 546, 547, 548, 612, 613, 614, 615, 425, 426, 427, 428, 429, 430, 431, 616, 617, 618, 1008, 1009, 1010, 1011, 1012, 1013, 1014, 1015, 1016, 1017, 1018, 1019, 1020, 1021, 1022, 1023, 1024, 1025, 1026, 1027, 1028, 1029, 1030, 1031, 1032] (by decide +kernel) (by decide +kernel)
set_option maxRecDepth 20000 in
theorem gL_law_X10_quarter : GoodIn wsL_law (wsV RL 60 RX10 yX10_quarter wsX10_quarter) := goodIn_app (goodIn_of _ (by decide +kernel)) ggL_law_X10_quarter
set_option maxRecDepth 20000 in
theorem ggL_law_X9_wed : GoodIn wsL_law wsX9_wed := goodIn_r _ [622, 28, 23, 623, 624, 625, 2, 626, 19, 381, 436, 496, 442, 443, 444, 18, 445, 192, 446, 439, 440, 441, 191, 627, 506, 507, 508, 509, 510, 511, 27, 512, 81, 513, 273, 514, 265, 266, 22, 267, 70, 268, 261, 262, 263, 71, 72, 73, 197, 198, 628, 629, 630, 631, 74, 356, 357, 358, 359, 360, 519, 249, 250, 251, 252, 253, 254, 255, 448, 449, 450, 451, 394, 395, 396, 397, 398, 399, 400, 401, 402, 403, 404, 405, 406, 407, 408, 409, 410, 411, 452, 453, 454, 455, 456, 997, 998, 999, 1000, 1001, 1002, 1003, 1004, 1005, 1006, 1007, 1050, 1051, 1052, 1053, 1054, 1055, 1056, 1041, 1042, 1043, 1044, 1045, 1046, 1047, 1048, 1049, 1057, 1058, 1059] (by decide +kernel) (by decide +kernel)
set_option maxRecDepth 20000 in
theorem gL_law_X9_wed : GoodIn wsL_law (wsV RL 61 RX9 yX9_wed wsX9_wed) := goodIn_app (goodIn_of _ (by decide +kernel)) ggL_law_X9_wed
set_option maxRecDepth 20000 in
theorem ggL_law_X10_wed : GoodIn wsL_law wsX10_wed := goodIn_r _ [635, 416, 525, 118, 636, 637, 638, 5, 639, 116, 461, 462, 463, 464, 142, 143, 144, 429, 430, 431, 534, 535, 536, 537, 640, 641, 642, 643, 538, 539, 540, 541, 136, 120, 139, 140, 141, 644, 645, 646, 647, 546, 547, 548, 465, 466, 467, 468, 425, 426, 427, 428, 1008, 1009, 1010, 1011, 1012, 1013, 1014, 1015, 1016, 1017, 1018, 1019, 1020, 1021, 1022, 1023, 1024, 1025, 1026, 1027, 1028, 1029, 1030, 1031, 1032] (by decide +kernel) (by decide +kernel)
set_option maxRecDepth 20000 in
theorem gL_law_X10_wed : GoodIn wsL_law (wsV RL 64 RX10 yX10_wed wsX10_wed) := goodIn_app (goodIn_of _ (by decide +kernel)) ggL_law_X10_wed
set_option maxRecDepth 20000 in
theorem ggL_law_X9_divorce : GoodIn wsL_law wsX9_divorce := goodIn_r _ [651, 19, 381, 23, 436, 496, 28, 442, 443, 444, 18, 445, 192, 446, 439, 440, 441, 191, 438, 509, 510, 511, 27, 512, 81, 513, 273, 514, 265, 266, 22, 267, 70, 268, 261, 262, 263, 71, 72, 73, 197, 198, 652, 653, 654, 655, 74, 356, 357, 358, 359, 360, 519, 249, 250, 251, 252, 253, 254, 255, 447, 353, 354, 355, 997, 998, 999, 1000, 1001, 1002, 1003, 1004, 1005, 1006, 1007, 1050, 1051, 1052, 1053, 1054, 1055, 1056, 1041, 1042, 1043, 1044, 1045, 1046, 1047, 1048, 1049, 1057, 1058, 1059] (by decide +kernel) (by decide +kernel)
set_option maxRecDepth 20000 in
theorem gL_law_X9_divorce : GoodIn wsL_law (wsV RL 65 RX9 yX9_divorce wsX9_divorce) := goodIn_app (goodIn_of _ (by decide +kernel)) ggL_law_X9_divorce
set_option maxRecDepth 20000 in
theorem ggL_law_X10_divorce : GoodIn wsL_law wsX10_divorce := goodIn_r _ [659, 416, 118, 525, 636, 637, 638, 5, 639, 116, 461, 462, 463, 464, 142, 143, 144, 429, 430, 431, 538, 539, 540, 541, 136, 120, 139, 140, 141, 373, 374, 375, 376, 1008, 1009, 1010, 1011, 1012, 1013, 1014, 1015, 1016, 1017, 1018, 1019, 1020, 1021, 1022, 1023, 1024, 1025, 1026, 1027, 1028, 1029, 1030, 1031, 1032] (by decide +kernel) (by decide +kernel)
set_option maxRecDepth 20000 in
theorem gL_law_X10_divorce : GoodIn wsL_law (wsV RL 68 RX10 yX10_divorce wsX10_divorce) := goodIn_app (goodIn_of _ (by decide +kernel)) ggL_law_X10_divorce
set_option maxRecDepth 20000 in
theorem ggL_law_X9_drift : GoodIn wsL_law wsX9_drift := goodIn_r _ [663, 28, 23, 567, 568, 569, 2, 570, 149, 19, 335, 496, 339, 151, 509, 510, 511, 27, 512, 81, 513, 273, 514, 265, 266, 22, 267, 70, 268, 261, 262, 263, 71, 72, 73, 197, 198, 664, 665, 666, 667, 175, 338, 668, 669, 670, 671, 49, 672, 673, 674, 675, 473, 474, 475, 18, 476, 446, 439, 440, 441, 191, 477, 387, 388, 389, 190, 497, 498, 499, 500, 501, 502, 503, 504, 74, 505, 506, 507, 508, 192, 408, 409, 410, 411, 515, 516, 517, 518, 357, 358, 359, 360, 519, 249, 250, 251, 252, 253, 254, 255, 571, 572, 573, 574, 347, 356, 575, 576, 577, 578, 188, 579, 580, 581, 582, 583, 394, 395, 396, 397, 398, 399, 400, 401, 402, 403, 404, 405, 406, 407, 584, 585, 586, 587, 348, 349, 350, 351, 352, 353, 354, 355, 997, 998, 999, 1000, 1001, 1002, 1003, 1004, 1005, 1006, 1007, 1041, 1042, 1043, 1044, 1045, 1046, 1047, 1048, 1049, 1050, 1051, 1052, 1053, 1054, 1055, 1056, 1057, 1058, 1059] (by decide +kernel) (by decide +kernel)
set_option maxRecDepth 20000 in
theorem gL_law_X9_drift : GoodIn wsL_law (wsV RL 69 RX9 yX9_drift wsX9_drift) := goodIn_app (goodIn_of _ (by decide +kernel)) ggL_law_X9_drift
set_option maxRecDepth 20000 in
theorem ggL_law_X10_drift : GoodIn wsL_law wsX10_drift := goodIn_r _ [679, 116, 118, 599, 600, 601, 5, 602, 603, 162, 525, 164, 142, 143, 144, 538, 539, 540, 541, 136, 120, 139, 140, 141, 680, 681, 682, 683, 684, 685, 686, 687, 688, 526, 527, 528, 529, 530, 531, 532, 533, 534, 535, 536, 537, 461, 462, 463, 464, 429, 430, 431, 542, 543, 544, 545, 546, 547, 548, 604, 605, 606, 607, 608, 609, 610, 611, 612, 613, 614, 615, 425, 426, 427, 428, 369, 370, 371, 372, 373, 374, 375, 376, 1008, 1009, 1010, 1011, 1012, 1013, 1014, 1015, 1016, 1017, 1018, 1019, 1020, 1021, 1022, 1023, 1024, 1025, 1026, 1027, 1028, 1029, 1030, 1031, 1032] (by decide +kernel) (by decide +kernel)
set_option maxRecDepth 20000 in
theorem gL_law_X10_drift : GoodIn wsL_law (wsV RL 72 RX10 yX10_drift wsX10_drift) := goodIn_app (goodIn_of _ (by decide +kernel)) ggL_law_X10_drift
set_option maxRecDepth 20000 in
theorem ggL_law_X9_undo : GoodIn wsL_law wsX9_undo := goodIn_r _ [692, 149, 28, 342, 496, 23, 339, 693, 694, 695, 27, 696, 273, 81, 513, 514, 265, 266, 22, 267, 70, 268, 261, 262, 263, 71, 72, 73, 197, 198, 997, 998, 999, 1000, 1001, 1002, 1003, 1004, 1005, 1006, 1007, 1057, 1058, 1059, 1050, 1051, 1052, 1053, 1054, 1055, 1056] (by decide +kernel) (by decide +kernel)
set_option maxRecDepth 20000 in
theorem gL_law_X9_undo : GoodIn wsL_law (wsV RL 73 RX9 yX9_undo wsX9_undo) := goodIn_app (goodIn_of _ (by decide +kernel)) ggL_law_X9_undo
set_option maxRecDepth 20000 in
theorem ggL_law_X10_undo : GoodIn wsL_law wsX10_undo := goodIn_r _ [700, 701, 162, 136, 525, 120, 118, 142, 143, 5, 144, 139, 140, 141, 1008, 1009, 1010, 1011, 1012, 1013, 1014, 1015, 1016, 1017, 1018, 1019, 1020, 1021, 1022, 1023, 1024, 1025, 1026, 1027, 1028, 1029, 1030, 1031, 1032] (by decide +kernel) (by decide +kernel)
set_option maxRecDepth 20000 in
theorem gL_law_X10_undo : GoodIn wsL_law (wsV RL 76 RX10 yX10_undo wsX10_undo) := goodIn_app (goodIn_of _ (by decide +kernel)) ggL_law_X10_undo
set_option maxRecDepth 20000 in
theorem ggL_law_X9_joined : GoodIn wsL_law wsX9_joined := goodIn_r _ [705, 23, 623, 624, 625, 2, 626, 19, 381, 436, 496, 442, 443, 444, 18, 445, 192, 446, 439, 440, 441, 191, 627, 506, 507, 508, 706, 707, 708, 22, 709, 74, 356, 252, 253, 254, 255, 398, 399, 400, 401, 72, 357, 358, 359, 360, 70, 402, 403, 404, 405, 406, 407, 408, 409, 410, 411, 197, 452, 453, 454, 455, 456, 997, 998, 999, 1000, 1001, 1002, 1003, 1004, 1005, 1006, 1007, 1050, 1051, 1052, 1053, 1054, 1055, 1056, 1041, 1042, 1043, 1044, 1045, 1046, 1047, 1048, 1049] (by decide +kernel) (by decide +kernel)
set_option maxRecDepth 20000 in
theorem gL_law_X9_joined : GoodIn wsL_law (wsV RL 77 RX9 yX9_joined wsX9_joined) := goodIn_app (goodIn_of _ (by decide +kernel)) ggL_law_X9_joined
set_option maxRecDepth 20000 in
theorem ggL_law_X10_joined : GoodIn wsL_law wsX10_joined := goodIn_r _ [713, 416, 525, 636, 637, 638, 5, 639, 116, 461, 462, 463, 464, 142, 143, 144, 429, 430, 431, 534, 535, 536, 537, 640, 641, 642, 643, 118, 714, 715, 716, 717, 119, 718, 719, 720, 721, 139, 140, 141, 644, 645, 646, 647, 546, 547, 548, 465, 466, 467, 468, 425, 426, 427, 428, 1008, 1009, 1010, 1011, 1012, 1013, 1014, 1015, 1016, 1017, 1018, 1019, 1020, 1021, 1022, 1023, 1024, 1025, 1026, 1027, 1028, 1029, 1030, 1031, 1032] (by decide +kernel) (by decide +kernel)
set_option maxRecDepth 20000 in
theorem gL_law_X10_joined : GoodIn wsL_law (wsV RL 80 RX10 yX10_joined wsX10_joined) := goodIn_app (goodIn_of _ (by decide +kernel)) ggL_law_X10_joined
set_option maxRecDepth 20000 in
theorem ggL_law_X9_least : GoodIn wsL_law wsX9_least := goodIn_r _ [725, 19, 381, 149, 23, 496, 438, 439, 440, 18, 441, 191, 726, 502, 503, 22, 504, 74, 73, 505, 506, 507, 508, 192, 446, 727, 728, 729, 730, 356, 731, 732, 733, 734, 735, 406, 394, 395, 396, 397, 357, 358, 359, 360, 70, 398, 399, 400, 401, 72, 402, 403, 404, 405, 407, 408, 409, 410, 411, 197, 736, 498, 499, 500, 71, 501, 737, 449, 450, 451, 452, 453, 454, 455, 456, 738, 739, 740, 741, 742, 743, 744, 745, 746, 997, 998, 999, 1000, 1001, 1002, 1003, 1004, 1005, 1006, 1007, 1041, 1042, 1043, 1044, 1045, 1046, 1047, 1048, 1049, 1050, 1051, 1052, 1053, 1054, 1055, 1056] (by decide +kernel) (by decide +kernel)
set_option maxRecDepth 20000 in
theorem gL_law_X9_least : GoodIn wsL_law (wsV RL 81 RX9 yX9_least wsX9_least) := goodIn_app (goodIn_of _ (by decide +kernel)) ggL_law_X9_least
set_option maxRecDepth 20000 in
theorem ggL_law_X10_least : GoodIn wsL_law wsX10_least := goodIn_r _ [750, 416, 751, 162, 525, 752, 116, 119, 461, 462, 463, 5, 464, 142, 143, 144, 530, 531, 532, 533, 118, 534, 535, 536, 537, 429, 430, 431, 753, 754, 755, 756, 718, 719, 720, 721, 139, 140, 141, 465, 466, 467, 468, 425, 426, 427, 428, 1008, 1009, 1010, 1011, 1012, 1013, 1014, 1015, 1016, 1017, 1018, 1019, 1020, 1021, 1022, 1023, 1024, 1025, 1026, 1027, 1028, 1029, 1030, 1031, 1032] (by decide +kernel) (by decide +kernel)
set_option maxRecDepth 20000 in
theorem gL_law_X10_least : GoodIn wsL_law (wsV RL 84 RX10 yX10_least wsX10_least) := goodIn_app (goodIn_of _ (by decide +kernel)) ggL_law_X10_least
set_option maxRecDepth 20000 in
theorem ggL_law_X9_plan : GoodIn wsL_law wsX9_plan := goodIn_r _ [760, 19, 381, 149, 23, 36, 761, 762, 473, 474, 475, 18, 476, 446, 439, 440, 441, 191, 477, 387, 388, 389, 190, 763, 409, 410, 22, 411, 197, 478, 358, 359, 360, 70, 764, 765, 766, 35, 767, 90, 768, 769, 770, 771, 253, 254, 255, 772, 773, 774, 775, 776, 777, 778, 779, 780, 781, 576, 577, 578, 188, 579, 782, 783, 784, 785, 63, 64, 997, 998, 999, 1000, 1001, 1002, 1003, 1004, 1005, 1006, 1007, 1061, 1062, 1063, 1041, 1042, 1043, 1044, 1045, 1046, 1047, 1048, 1049, 1050, 1051, 1052, 1053, 1054, 1055, 1056] (by decide +kernel) (by decide +kernel)
set_option maxRecDepth 20000 in
theorem gL_law_X9_plan : GoodIn wsL_law (wsV RL 85 RX9 yX9_plan wsX9_plan) := goodIn_app (goodIn_of _ (by decide +kernel)) ggL_law_X9_plan
set_option maxRecDepth 20000 in
theorem ggL_law_X10_plan : GoodIn wsL_law wsX10_plan := goodIn_r _ [789, 416, 790, 162, 118, 128, 752, 127, 791, 461, 462, 463, 5, 464, 116, 142, 143, 144, 417, 418, 419, 420, 429, 430, 431, 792, 793, 794, 795, 608, 609, 610, 611, 546, 547, 548, 139, 140, 141, 1008, 1009, 1010, 1011, 1012, 1013, 1014, 1015, 1016, 1017, 1018, 1019, 1020, 1021, 1022, 1023, 1024, 1025, 1026, 1027, 1028, 1029, 1030, 1031, 1032] (by decide +kernel) (by decide +kernel)
set_option maxRecDepth 20000 in
theorem gL_law_X10_plan : GoodIn wsL_law (wsV RL 89 RX10 yX10_plan wsX10_plan) := goodIn_app (goodIn_of _ (by decide +kernel)) ggL_law_X10_plan
set_option maxRecDepth 20000 in
theorem ggL_law_X9_matches : GoodIn wsL_law wsX9_matches := goodIn_r _ [799, 19, 381, 32, 23, 800, 442, 443, 444, 18, 445, 192, 446, 439, 440, 441, 191, 801, 802, 803, 31, 804, 86, 805, 344, 345, 22, 346, 74, 347, 73, 806, 807, 808, 809, 810, 811, 812, 813, 506, 507, 508, 814, 707, 708, 709, 356, 252, 253, 254, 255, 398, 399, 400, 401, 72, 357, 358, 359, 360, 70, 402, 403, 404, 405, 406, 407, 408, 409, 410, 411, 197, 452, 453, 454, 455, 456, 815, 449, 450, 451, 394, 395, 396, 397, 997, 998, 999, 1000, 1001, 1002, 1003, 1004, 1005, 1006, 1007, 1060, 1041, 1042, 1043, 1044, 1045, 1046, 1047, 1048, 1049, 1050, 1051, 1052, 1053, 1054, 1055, 1056] (by decide +kernel) (by decide +kernel)
set_option maxRecDepth 20000 in
theorem gL_law_X9_matches : GoodIn wsL_law (wsV RL 90 RX9 yX9_matches wsX9_matches) := goodIn_app (goodIn_of _ (by decide +kernel)) ggL_law_X9_matches
set_option maxRecDepth 20000 in
theorem ggL_law_X10_matches : GoodIn wsL_law wsX10_matches := goodIn_r _ [819, 416, 129, 636, 637, 638, 5, 639, 116, 461, 462, 463, 464, 142, 143, 144, 429, 430, 431, 820, 821, 822, 823, 824, 118, 365, 366, 367, 368, 534, 535, 536, 537, 714, 715, 716, 717, 119, 718, 719, 720, 721, 139, 140, 141, 644, 645, 646, 647, 546, 547, 548, 465, 466, 467, 468, 425, 426, 427, 428, 1008, 1009, 1010, 1011, 1012, 1013, 1014, 1015, 1016, 1017, 1018, 1019, 1020, 1021, 1022, 1023, 1024, 1025, 1026, 1027, 1028, 1029, 1030, 1031, 1032] (by decide +kernel) (by decide +kernel)
set_option maxRecDepth 20000 in
theorem gL_law_X10_matches : GoodIn wsL_law (wsV RL 93 RX10 yX10_matches wsX10_matches) := goodIn_app (goodIn_of _ (by decide +kernel)) ggL_law_X10_matches
set_option maxRecDepth 20000 in
theorem ggL_law_X9_failing : GoodIn wsL_law wsX9_failing := goodIn_r _ [828, 24, 23, 264, 265, 266, 22, 267, 70, 268, 261, 262, 263, 71, 72, 73, 197, 198, 571, 572, 573, 574, 74, 347, 356, 357, 358, 359, 360, 575, 576, 577, 18, 578, 188, 579, 253, 254, 255, 519, 249, 250, 251, 252, 408, 409, 410, 411, 580, 581, 582, 583, 394, 395, 396, 397, 398, 399, 400, 401, 402, 403, 404, 405, 406, 407, 584, 585, 586, 587, 997, 998, 999, 1000, 1001, 1002, 1003, 1004, 1005, 1006, 1007, 1050, 1051, 1052, 1053, 1054, 1055, 1056, 1041, 1042, 1043, 1044, 1045, 1046, 1047, 1048, 1049] (by decide +kernel) (by decide +kernel)
set_option maxRecDepth 20000 in
theorem gL_law_X9_failing : GoodIn wsL_law (wsV RL 94 RX9 yX9_failing wsX9_failing) := goodIn_app (goodIn_of _ (by decide +kernel)) ggL_law_X9_failing
set_option maxRecDepth 20000 in
theorem ggL_law_X10_failing : GoodIn wsL_law wsX10_failing := goodIn_r _ [832, 119, 118, 718, 719, 720, 5, 721, 139, 140, 141, 604, 605, 606, 607, 608, 609, 610, 611, 116, 546, 547, 548, 612, 613, 614, 615, 425, 426, 427, 428, 429, 430, 431, 1008, 1009, 1010, 1011, 1012, 1013, 1014, 1015, 1016, 1017, 1018, 1019, 1020, 1021, 1022, 1023, 1024, 1025, 1026, 1027, 1028, 1029, 1030, 1031, 1032] (by decide +kernel) (by decide +kernel)
set_option maxRecDepth 20000 in
theorem gL_law_X10_failing : GoodIn wsL_law (wsV RL 97 RX10 yX10_failing wsX10_failing) := goodIn_app (goodIn_of _ (by decide +kernel)) ggL_law_X10_failing
set_option maxRecDepth 20000 in
theorem ggL_law_X9_run : GoodIn wsL_law wsX9_run := goodIn_r _ [836, 149, 24, 23, 341, 264, 265, 266, 22, 267, 70, 268, 261, 262, 263, 71, 72, 73, 197, 198, 571, 572, 573, 574, 74, 347, 356, 357, 358, 359, 360, 575, 576, 577, 18, 578, 188, 579, 253, 254, 255, 519, 249, 250, 251, 252, 408, 409, 410, 411, 580, 581, 582, 583, 394, 395, 396, 397, 398, 399, 400, 401, 402, 403, 404, 405, 406, 407, 584, 585, 586, 587, 997, 998, 999, 1000, 1001, 1002, 1003, 1004, 1005, 1006, 1007, 1050, 1051, 1052, 1053, 1054, 1055, 1056, 1041, 1042, 1043, 1044, 1045, 1046, 1047, 1048, 1049] (by decide +kernel) (by decide +kernel)
set_option maxRecDepth 20000 in
theorem gL_law_X9_run : GoodIn wsL_law (wsV RL 98 RX9 yX9_run wsX9_run) := goodIn_app (goodIn_of _ (by decide +kernel)) ggL_law_X9_run
set_option maxRecDepth 20000 in
theorem ggL_law_X10_run : GoodIn wsL_law wsX10_run := goodIn_r _ [840, 603, 162, 119, 142, 143, 5, 144, 718, 719, 720, 721, 118, 139, 140, 141, 604, 605, 606, 607, 608, 609, 610, 611, 116, 546, 547, 548, 612, 613, 614, 615, 425, 426, 427, 428, 429, 430, 431, 1008, 1009, 1010, 1011, 1012, 1013, 1014, 1015, 1016, 1017, 1018, 1019, 1020, 1021, 1022, 1023, 1024, 1025, 1026, 1027, 1028, 1029, 1030, 1031, 1032] (by decide +kernel) (by decide +kernel)
set_option maxRecDepth 20000 in
theorem gL_law_X10_run : GoodIn wsL_law (wsV RL 101 RX10 yX10_run wsX10_run) := goodIn_app (goodIn_of _ (by decide +kernel)) ggL_law_X10_run
set_option maxRecDepth 20000 in
theorem ggL_law_X9_credit : GoodIn wsL_law wsX9_credit := goodIn_r _ [844, 19, 381, 23, 382, 384, 845, 253, 254, 255, 473, 474, 475, 18, 476, 446, 439, 440, 441, 191, 477, 387, 388, 389, 190, 478, 358, 359, 22, 360, 70, 497, 498, 499, 500, 71, 501, 502, 503, 504, 74, 73, 505, 506, 507, 508, 192, 408, 409, 410, 411, 197, 846, 399, 400, 401, 72, 847, 403, 404, 405, 406, 407, 997, 998, 999, 1000, 1001, 1002, 1003, 1004, 1005, 1006, 1007, 1050, 1051, 1052, 1053, 1054, 1055, 1056, 1041, 1042, 1043, 1044, 1045, 1046, 1047, 1048, 1049] (by decide +kernel) (by decide +kernel)
set_option maxRecDepth 20000 in
theorem gL_law_X9_credit : GoodIn wsL_law (wsV RL 102 RX9 yX9_credit wsX9_credit) := goodIn_app (goodIn_of _ (by decide +kernel)) ggL_law_X9_credit
set_option maxRecDepth 20000 in
theorem ggL_law_X10_credit : GoodIn wsL_law wsX10_credit := goodIn_r _ [851, 416, 119, 461, 462, 463, 5, 464, 116, 142, 143, 144, 417, 418, 419, 420, 526, 527, 528, 529, 118, 530, 531, 532, 533, 534, 535, 536, 537, 429, 430, 431, 718, 719, 720, 721, 139, 140, 141, 425, 426, 427, 428, 1008, 1009, 1010, 1011, 1012, 1013, 1014, 1015, 1016, 1017, 1018, 1019, 1020, 1021, 1022, 1023, 1024, 1025, 1026, 1027, 1028, 1029, 1030, 1031, 1032] (by decide +kernel) (by decide +kernel)
set_option maxRecDepth 20000 in
theorem gL_law_X10_credit : GoodIn wsL_law (wsV RL 105 RX10 yX10_credit wsX10_credit) := goodIn_app (goodIn_of _ (by decide +kernel)) ggL_law_X10_credit
set_option maxRecDepth 20000 in
theorem ggL_law_X9_rumours : GoodIn wsL_law wsX9_rumours := goodIn_r _ [855, 149, 856, 857] (by decide +kernel) (by decide +kernel)
set_option maxRecDepth 20000 in
theorem gL_law_X9_rumours : GoodIn wsL_law (wsV RL 106 RX9 yX9_rumours wsX9_rumours) := goodIn_app (goodIn_of _ (by decide +kernel)) ggL_law_X9_rumours
set_option maxRecDepth 20000 in
theorem ggL_law_X10_rumours : GoodIn wsL_law wsX10_rumours := goodIn_r _ [861, 862, 863, 162, 864, 142, 143, 5, 144] (by decide +kernel) (by decide +kernel)
set_option maxRecDepth 20000 in
theorem gL_law_X10_rumours : GoodIn wsL_law (wsV RL 109 RX10 yX10_rumours wsX10_rumours) := goodIn_app (goodIn_of _ (by decide +kernel)) ggL_law_X10_rumours
set_option maxRecDepth 20000 in
theorem ggL_law_X9_card : GoodIn wsL_law wsX9_card := goodIn_r _ [868, 19, 381, 149, 40, 172, 151, 473, 474, 475, 18, 476, 446, 439, 440, 441, 191, 477, 387, 388, 389, 190, 869, 870, 871, 39, 872, 873, 94, 95, 96, 98, 997, 998, 999, 1000, 1001, 1002, 1003, 1004, 1005, 1006, 1007, 1064, 1065, 1066, 1067, 1068, 1069, 1070, 1041, 1042, 1043, 1044, 1045, 1046, 1047, 1048, 1049] (by decide +kernel) (by decide +kernel)
set_option maxRecDepth 20000 in
theorem gL_law_X9_card : GoodIn wsL_law (wsV RL 110 RX9 yX9_card wsX9_card) := goodIn_app (goodIn_of _ (by decide +kernel)) ggL_law_X9_card
set_option maxRecDepth 20000 in
theorem ggL_law_X10_card : GoodIn wsL_law wsX10_card := goodIn_r _ [877, 416, 878, 162, 137, 164, 125, 461, 462, 463, 5, 464, 116, 142, 143, 144, 417, 418, 419, 420, 1008, 1009, 1010, 1011, 1012, 1013, 1014, 1015, 1016, 1017, 1018, 1019, 1020, 1021, 1022, 1023, 1024, 1025, 1026, 1027, 1028, 1029, 1030, 1031, 1032] (by decide +kernel) (by decide +kernel)
set_option maxRecDepth 20000 in
theorem gL_law_X10_card : GoodIn wsL_law (wsV RL 114 RX10 yX10_card wsX10_card) := goodIn_app (goodIn_of _ (by decide +kernel)) ggL_law_X10_card
set_option maxRecDepth 20000 in
theorem ggL_law_X9_had : GoodIn wsL_law wsX9_had := goodIn_r _ [882, 19, 381, 149, 40, 883, 473, 474, 475, 18, 476, 446, 439, 440, 441, 191, 477, 387, 388, 389, 190, 884, 885, 886, 39, 887, 888, 99, 889, 890, 891, 892, 873, 94, 95, 96, 98, 893, 894, 895, 896, 576, 577, 578, 188, 579, 253, 254, 255, 897, 783, 784, 785, 63, 64, 898, 899, 900, 901, 902, 903, 904, 905, 997, 998, 999, 1000, 1001, 1002, 1003, 1004, 1005, 1006, 1007, 1064, 1065, 1066, 1067, 1068, 1069, 1070, 1041, 1042, 1043, 1044, 1045, 1046, 1047, 1048, 1049] (by decide +kernel) (by decide +kernel)
set_option maxRecDepth 20000 in
theorem gL_law_X9_had : GoodIn wsL_law (wsV RL 115 RX9 yX9_had wsX9_had) := goodIn_app (goodIn_of _ (by decide +kernel)) ggL_law_X9_had
set_option maxRecDepth 20000 in
theorem ggL_law_X10_had : GoodIn wsL_law wsX10_had := goodIn_r _ [909, 416, 910, 162, 461, 462, 463, 5, 464, 116, 142, 143, 144, 417, 418, 419, 420, 911, 912, 913, 914, 137, 125, 915, 916, 917, 918, 608, 609, 610, 611, 546, 547, 548, 1008, 1009, 1010, 1011, 1012, 1013, 1014, 1015, 1016, 1017, 1018, 1019, 1020, 1021, 1022, 1023, 1024, 1025, 1026, 1027, 1028, 1029, 1030, 1031, 1032] (by decide +kernel) (by decide +kernel)
set_option maxRecDepth 20000 in
theorem gL_law_X10_had : GoodIn wsL_law (wsV RL 118 RX10 yX10_had wsX10_had) := goodIn_app (goodIn_of _ (by decide +kernel)) ggL_law_X10_had
set_option maxRecDepth 20000 in
theorem ggL_law_X9_lookAt : GoodIn wsL_law wsX9_lookAt := goodIn_r _ [922, 19, 381, 40, 473, 474, 475, 18, 476, 446, 439, 440, 441, 191, 477, 387, 388, 389, 190, 884, 885, 886, 39, 887, 888, 99, 889, 890, 891, 892, 873, 94, 95, 96, 98, 893, 894, 895, 896, 576, 577, 578, 188, 579, 253, 254, 255, 897, 783, 784, 785, 63, 64, 923, 924, 925, 926, 927, 928, 929, 997, 998, 999, 1000, 1001, 1002, 1003, 1004, 1005, 1006, 1007, 1041, 1042, 1043, 1044, 1045, 1046, 1047, 1048, 1049, 1064, 1065, 1066, 1067, 1068, 1069, 1070] (by decide +kernel) (by decide +kernel)
set_option maxRecDepth 20000 in
theorem gL_law_X9_lookAt : GoodIn wsL_law (wsV RL 119 RX9 yX9_lookAt wsX9_lookAt) := goodIn_app (goodIn_of _ (by decide +kernel)) ggL_law_X9_lookAt
set_option maxRecDepth 20000 in
theorem ggL_law_X10_lookAt : GoodIn wsL_law wsX10_lookAt := goodIn_r _ [933, 416, 461, 462, 463, 5, 464, 116, 142, 143, 144, 417, 418, 419, 420, 934, 907, 908, 909, 910, 162, 911, 912, 913, 914, 137, 125, 915, 916, 917, 918, 608, 609, 610, 611, 546, 547, 548, 1008, 1009, 1010, 1011, 1012, 1013, 1014, 1015, 1016, 1017, 1018, 1019, 1020, 1021, 1022, 1023, 1024, 1025, 1026, 1027, 1028, 1029, 1030, 1031, 1032] (by decide +kernel) (by decide +kernel)
set_option maxRecDepth 20000 in
theorem gL_law_X10_lookAt : GoodIn wsL_law (wsV RL 122 RX10 yX10_lookAt wsX10_lookAt) := goodIn_app (goodIn_of _ (by decide +kernel)) ggL_law_X10_lookAt
set_option maxRecDepth 20000 in
theorem ggL_law_X9_write : GoodIn wsL_law wsX9_write := goodIn_r _ [938, 19, 381, 149, 44, 173, 151, 438, 439, 440, 18, 441, 191, 939, 940, 941, 43, 942, 943, 103, 104, 997, 998, 999, 1000, 1001, 1002, 1003, 1004, 1005, 1006, 1007, 1071, 1072, 1073, 1041, 1042, 1043, 1044, 1045, 1046, 1047, 1048, 1049] (by decide +kernel) (by decide +kernel)
set_option maxRecDepth 20000 in
theorem gL_law_X9_write : GoodIn wsL_law (wsV RL 123 RX9 yX9_write wsX9_write) := goodIn_app (goodIn_of _ (by decide +kernel)) ggL_law_X9_write
set_option maxRecDepth 20000 in
theorem ggL_law_X10_write : GoodIn wsL_law wsX10_write := goodIn_r _ [947, 416, 948, 949, 162, 138, 164, 126, 461, 462, 463, 5, 464, 116, 142, 143, 144, 1008, 1009, 1010, 1011, 1012, 1013, 1014, 1015, 1016, 1017, 1018, 1019, 1020, 1021, 1022, 1023, 1024, 1025, 1026, 1027, 1028, 1029, 1030, 1031, 1032] (by decide +kernel) (by decide +kernel)
set_option maxRecDepth 20000 in
theorem gL_law_X10_write : GoodIn wsL_law (wsV RL 126 RX10 yX10_write wsX10_write) := goodIn_app (goodIn_of _ (by decide +kernel)) ggL_law_X10_write
set_option maxRecDepth 20000 in
theorem ggL_law_X9_judge : GoodIn wsL_law wsX9_judge := goodIn_r _ [953, 44, 23, 954, 955, 956, 43, 957, 943, 103, 104, 958, 449, 450, 22, 451, 74, 356, 394, 395, 396, 397, 357, 358, 359, 360, 70, 398, 399, 400, 401, 72, 402, 403, 404, 405, 406, 407, 408, 409, 410, 411, 197, 452, 453, 454, 455, 456, 997, 998, 999, 1000, 1001, 1002, 1003, 1004, 1005, 1006, 1007, 1071, 1072, 1073, 1050, 1051, 1052, 1053, 1054, 1055, 1056, 1041, 1042, 1043, 1044, 1045, 1046, 1047, 1048, 1049] (by decide +kernel) (by decide +kernel)
set_option maxRecDepth 20000 in
theorem gL_law_X9_judge : GoodIn wsL_law (wsV RL 127 RX9 yX9_judge wsX9_judge) := goodIn_app (goodIn_of _ (by decide +kernel)) ggL_law_X9_judge
set_option maxRecDepth 20000 in
theorem ggL_law_X10_judge : GoodIn wsL_law wsX10_judge := goodIn_r _ [962, 138, 118, 126, 465, 466, 467, 5, 468, 116, 425, 426, 427, 428, 429, 430, 431, 1008, 1009, 1010, 1011, 1012, 1013, 1014, 1015, 1016, 1017, 1018, 1019, 1020, 1021, 1022, 1023, 1024, 1025, 1026, 1027, 1028, 1029, 1030, 1031, 1032] (by decide +kernel) (by decide +kernel)
set_option maxRecDepth 20000 in
theorem gL_law_X10_judge : GoodIn wsL_law (wsV RL 130 RX10 yX10_judge wsX10_judge) := goodIn_app (goodIn_of _ (by decide +kernel)) ggL_law_X10_judge
set_option maxRecDepth 20000 in
theorem ggL_law_X9_tear : GoodIn wsL_law wsX9_tear := goodIn_r _ [966, 40, 172, 44, 173, 997, 998, 999, 1000, 1001, 1002, 1003, 1004, 1005, 1006, 1007, 1064, 1065, 1066, 1067, 1068, 1069, 1070, 1071, 1072, 1073] (by decide +kernel) (by decide +kernel)
set_option maxRecDepth 20000 in
theorem gL_law_X9_tear : GoodIn wsL_law (wsV RL 131 RX9 yX9_tear wsX9_tear) := goodIn_app (goodIn_of _ (by decide +kernel)) ggL_law_X9_tear
set_option maxRecDepth 20000 in
theorem ggL_law_X10_tear : GoodIn wsL_law wsX10_tear := goodIn_r _ [970, 137, 138, 1008, 1009, 1010, 1011, 1012, 1013, 1014, 1015, 1016, 1017, 1018, 1019, 1020, 1021, 1022, 1023, 1024, 1025, 1026, 1027, 1028, 1029, 1030, 1031, 1032] (by decide +kernel) (by decide +kernel)
set_option maxRecDepth 20000 in
theorem gL_law_X10_tear : GoodIn wsL_law (wsV RL 134 RX10 yX10_tear wsX10_tear) := goodIn_app (goodIn_of _ (by decide +kernel)) ggL_law_X10_tear
set_option maxRecDepth 20000 in
theorem ggL_law_X9_seed : GoodIn wsL_law wsX9_seed := goodIn_r _ [974, 149, 49, 997, 998, 999, 1000, 1001, 1002, 1003, 1004, 1005, 1006, 1007] (by decide +kernel) (by decide +kernel)
set_option maxRecDepth 20000 in
theorem gL_law_X9_seed : GoodIn wsL_law (wsV RL 135 RX9 yX9_seed wsX9_seed) := goodIn_app (goodIn_of _ (by decide +kernel)) ggL_law_X9_seed
set_option maxRecDepth 20000 in
theorem ggL_law_X10_seed : GoodIn wsL_law wsX10_seed := goodIn_r _ [978, 162, 684, 1008, 1009, 1010, 1011, 1012, 1013, 1014, 1015, 1016, 1017, 1018, 1019, 1020, 1021, 1022, 1023, 1024, 1025, 1026, 1027, 1028, 1029, 1030, 1031, 1032] (by decide +kernel) (by decide +kernel)
set_option maxRecDepth 20000 in
theorem gL_law_X10_seed : GoodIn wsL_law (wsV RL 138 RX10 yX10_seed wsX10_seed) := goodIn_app (goodIn_of _ (by decide +kernel)) ggL_law_X10_seed
set_option maxRecDepth 20000 in
theorem ggL_law_X9_keep : GoodIn wsL_law wsX9_keep := goodIn_r _ [982, 381, 46, 983, 23, 49, 984, 174, 28, 264, 265, 266, 22, 267, 70, 268, 261, 262, 263, 71, 72, 73, 197, 198, 269, 270, 271, 27, 272, 273, 997, 998, 999, 1000, 1001, 1002, 1003, 1004, 1005, 1006, 1007, 1074, 1075, 1076, 1050, 1051, 1052, 1053, 1054, 1055, 1056, 1057, 1058, 1059] (by decide +kernel) (by decide +kernel)
set_option maxRecDepth 20000 in
theorem gL_law_X9_keep : GoodIn wsL_law (wsV RL 139 RX9 yX9_keep wsX9_keep) := goodIn_app (goodIn_of _ (by decide +kernel)) ggL_law_X9_keep
set_option maxRecDepth 20000 in
theorem ggL_law_X10_keep : GoodIn wsL_law wsX10_keep := goodIn_r _ [988, 416, 118, 121, 684, 122, 136, 142, 143, 5, 144, 139, 140, 141, 1008, 1009, 1010, 1011, 1012, 1013, 1014, 1015, 1016, 1017, 1018, 1019, 1020, 1021, 1022, 1023, 1024, 1025, 1026, 1027, 1028, 1029, 1030, 1031, 1032] (by decide +kernel) (by decide +kernel)
set_option maxRecDepth 20000 in
theorem gL_law_X10_keep : GoodIn wsL_law (wsV RL 142 RX10 yX10_keep wsX10_keep) := goodIn_app (goodIn_of _ (by decide +kernel)) ggL_law_X10_keep
set_option maxRecDepth 20000 in
theorem ggL_law_X9_goBack : GoodIn wsL_law wsX9_goBack := goodIn_r _ [992, 381, 46, 174, 496, 23, 983, 984, 49, 28, 264, 265, 266, 22, 267, 70, 268, 261, 262, 263, 71, 72, 73, 197, 198, 269, 270, 271, 27, 272, 273, 997, 998, 999, 1000, 1001, 1002, 1003, 1004, 1005, 1006, 1007, 1074, 1075, 1076, 1050, 1051, 1052, 1053, 1054, 1055, 1056, 1057, 1058, 1059] (by decide +kernel) (by decide +kernel)
set_option maxRecDepth 20000 in
theorem gL_law_X9_goBack : GoodIn wsL_law (wsV RL 143 RX9 yX9_goBack wsX9_goBack) := goodIn_app (goodIn_of _ (by decide +kernel)) ggL_law_X9_goBack
set_option maxRecDepth 20000 in
theorem ggL_law_X10_goBack : GoodIn wsL_law wsX10_goBack := goodIn_r _ [996, 416, 122, 525, 121, 118, 684, 136, 142, 143, 5, 144, 139, 140, 141, 1008, 1009, 1010, 1011, 1012, 1013, 1014, 1015, 1016, 1017, 1018, 1019, 1020, 1021, 1022, 1023, 1024, 1025, 1026, 1027, 1028, 1029, 1030, 1031, 1032] (by decide +kernel) (by decide +kernel)
set_option maxRecDepth 20000 in
theorem gL_law_X10_goBack : GoodIn wsL_law (wsV RL 146 RX10 yX10_goBack wsX10_goBack) := goodIn_app (goodIn_of _ (by decide +kernel)) ggL_law_X10_goBack
abbrev vwCl : List vw_C := [(RX0, TX0, 3), (RX1, TX1, 7), (RX2, TX2, 3), (RX3, TX3, 3), (RX4, TX4, 1), (RX5, TX5, 3), (RX6, TX6, 8), (RX7, TX7, 7), (RX8, TX8, 9), (RX9, TX9, 11), (RX10, TX10, 25)]
