/-! ===== BEGIN words of one list among another's, by their places ===== -/
theorem goodIn_r {big : List Cond} (ws : List Cond) (ps : List Nat) (hp : ws = ps.filterMap (fun i => big[i]?)) (h : ws.all goodWord = true) : GoodIn big ws := by
  intro w hw
  have h1 := List.all_eq_true.mp h w hw
  rw [hp] at hw
  obtain ⟨i, -, hi⟩ := List.mem_filterMap.mp hw
  have hm : w ∈ big := by first | exact List.mem_of_getElem? hi | exact List.getElem?_mem hi
  exact ⟨hm, good_of_word h1⟩
theorem goodIn_app {big a b : List Cond} (ha : GoodIn big a) (hb : GoodIn big b) : GoodIn big (a ++ b) := fun w h => (List.mem_append.mp h).elim (ha w) (hb w)
theorem goodIn_ca {big a b : List Cond} {c : Cond} (ha : GoodIn big (c :: a)) (hb : GoodIn big b) : GoodIn big (c :: (a ++ b)) := fun w h => (List.mem_cons.mp h).elim (fun e => ha w (List.mem_cons.mpr (Or.inl e))) (fun h => (List.mem_append.mp h).elim (fun h => ha w (List.mem_cons.mpr (Or.inr h))) (hb w))
theorem goodIn_sub {big ws : List Cond} (hm : ∀ w ∈ ws, w ∈ big) (h : ws.all goodWord = true) : GoodIn big ws := fun w hw => ⟨hm w hw, good_of_word (List.all_eq_true.mp h w hw)⟩
/-! ===== END ===== -/

/-! ===== BEGIN printed: names, fields, word lists, decode rows ===== -/
def RX0 : String := "NineBags$Guess"
def TX0 : u_T := fun k => match k with
  | 0 => ("NineBags$Guess", "ways", "LNineBags$Ways;", true)
  | 1 => ("NineBags$Guess", "sure", "LNineBags$Hands;", true)
  | 2 => ("NineBags$Guess", "enviedWays", "[I", true)
  | 3 => ("NineBags$Guess", "fitting", "I", false)
  | _ => ("NineBags$Guess", "known", "Z", false)
def tyX0 : Nat → FieldType := fun k => match k with
  | 0 => .object "NineBags$Ways"
  | 1 => .object "NineBags$Hands"
  | 2 => .array .int
  | 3 => .int
  | _ => .boolean
abbrev wsX00 : List Cond := u_ws RX0 TX0 5
theorem nmX0 : ∀ a, a < 5 → ∀ b, b < 5 → a ≠ b → (TX0 a).2.1 ≠ (TX0 b).2.1 := by decide +kernel
theorem tyX0_ok : ∀ k, k < 5 → parseFieldDescriptor (TX0 k).2.2.1 = some (tyX0 k) := by decide +kernel
abbrev cX0_init : ByteArray := prog_2_method_1_code
def yX0_init : MethodName := ⟨RX0, "<init>", "()V"⟩
abbrev cX0_forget : ByteArray := prog_2_method_2_code
def yX0_forget : MethodName := ⟨RX0, "forget", "()V"⟩
abbrev cX0_find : ByteArray := prog_2_method_3_code
def yX0_find : MethodName := ⟨RX0, "find", "(LNineBags$Party;LNineBags$Notebook;)V"⟩
abbrev cX0_addWay : ByteArray := prog_2_method_4_code
def yX0_addWay : MethodName := ⟨RX0, "addWay", "(LNineBags$Party;I)V"⟩
abbrev cX0_fitting : ByteArray := prog_2_method_5_code
def yX0_fitting : MethodName := ⟨RX0, "fitting", "()I"⟩
abbrev cX0_sureHolderOf : ByteArray := prog_2_method_6_code
def yX0_sureHolderOf : MethodName := ⟨RX0, "sureHolderOf", "(I)I"⟩
abbrev cX0_bestPair : ByteArray := prog_2_method_7_code
def yX0_bestPair : MethodName := ⟨RX0, "bestPair", "(LNineBags$Party;)I"⟩
def RX1 : String := "NineBags$Hands"
def TX1 : u_T := fun k => match k with
  | _ => ("NineBags$Hands", "holder", "[I", true)
def tyX1 : Nat → FieldType := fun k => match k with
  | _ => .array .int
abbrev wsX10 : List Cond := u_ws RX1 TX1 1
theorem nmX1 : ∀ a, a < 1 → ∀ b, b < 1 → a ≠ b → (TX1 a).2.1 ≠ (TX1 b).2.1 := by decide +kernel
theorem tyX1_ok : ∀ k, k < 1 → parseFieldDescriptor (TX1 k).2.2.1 = some (tyX1 k) := by decide +kernel
abbrev cX1_init : ByteArray := prog_3_method_1_code
def yX1_init : MethodName := ⟨RX1, "<init>", "()V"⟩
abbrev cX1_layAllOnTable : ByteArray := prog_3_method_2_code
def yX1_layAllOnTable : MethodName := ⟨RX1, "layAllOnTable", "()V"⟩
abbrev cX1_holderOf : ByteArray := prog_3_method_3_code
def yX1_holderOf : MethodName := ⟨RX1, "holderOf", "(I)I"⟩
abbrev cX1_put : ByteArray := prog_3_method_4_code
def yX1_put : MethodName := ⟨RX1, "put", "(II)V"⟩
abbrev cX1_canExchange : ByteArray := prog_3_method_5_code
def yX1_canExchange : MethodName := ⟨RX1, "canExchange", "(II)Z"⟩
abbrev cX1_exchange : ByteArray := prog_3_method_6_code
def yX1_exchange : MethodName := ⟨RX1, "exchange", "(II)V"⟩
abbrev cX1_bagOf : ByteArray := prog_3_method_7_code
def yX1_bagOf : MethodName := ⟨RX1, "bagOf", "(II)I"⟩
abbrev cX1_illOf : ByteArray := prog_3_method_8_code
def yX1_illOf : MethodName := ⟨RX1, "illOf", "(LNineBags$Party;)I"⟩
abbrev cX1_copy : ByteArray := prog_3_method_9_code
def yX1_copy : MethodName := ⟨RX1, "copy", "(LNineBags$Hands;)V"⟩
abbrev cX1_packed : ByteArray := prog_3_method_10_code
def yX1_packed : MethodName := ⟨RX1, "packed", "()I"⟩
abbrev cX1_unpack : ByteArray := prog_3_method_11_code
def yX1_unpack : MethodName := ⟨RX1, "unpack", "(I)V"⟩
def RX2 : String := "NineBags$Notebook"
def TX2 : u_T := fun k => match k with
  | 0 => ("NineBags$Notebook", "seen", "I", false)
  | 1 => ("NineBags$Notebook", "envied", "I", false)
  | 2 => ("NineBags$Notebook", "calm", "I", false)
  | 3 => ("NineBags$Notebook", "bookThings", "[I", true)
  | 4 => ("NineBags$Notebook", "bookHolders", "[I", true)
  | _ => ("NineBags$Notebook", "written", "I", false)
def tyX2 : Nat → FieldType := fun k => match k with
  | 0 => .int
  | 1 => .int
  | 2 => .int
  | 3 => .array .int
  | 4 => .array .int
  | _ => .int
abbrev wsX20 : List Cond := u_ws RX2 TX2 6
theorem nmX2 : ∀ a, a < 6 → ∀ b, b < 6 → a ≠ b → (TX2 a).2.1 ≠ (TX2 b).2.1 := by decide +kernel
theorem tyX2_ok : ∀ k, k < 6 → parseFieldDescriptor (TX2 k).2.2.1 = some (tyX2 k) := by decide +kernel
abbrev cX2_init : ByteArray := prog_4_method_1_code
def yX2_init : MethodName := ⟨RX2, "<init>", "()V"⟩
abbrev cX2_clear : ByteArray := prog_4_method_2_code
def yX2_clear : MethodName := ⟨RX2, "clear", "()V"⟩
abbrev cX2_sights : ByteArray := prog_4_method_3_code
def yX2_sights : MethodName := ⟨RX2, "sights", "()I"⟩
abbrev cX2_addSight : ByteArray := prog_4_method_4_code
def yX2_addSight : MethodName := ⟨RX2, "addSight", "(IIZ)V"⟩
abbrev cX2_fits : ByteArray := prog_4_method_5_code
def yX2_fits : MethodName := ⟨RX2, "fits", "(I)Z"⟩
abbrev cX2_entries : ByteArray := prog_4_method_6_code
def yX2_entries : MethodName := ⟨RX2, "entries", "()I"⟩
abbrev cX2_addEntry : ByteArray := prog_4_method_7_code
def yX2_addEntry : MethodName := ⟨RX2, "addEntry", "(II)V"⟩
abbrev cX2_firstWrong : ByteArray := prog_4_method_8_code
def yX2_firstWrong : MethodName := ⟨RX2, "firstWrong", "(LNineBags$Hands;)I"⟩
def RX3 : String := "NineBags$Party"
def TX3 : u_T := fun k => match k with
  | 0 => ("NineBags$Party", "kinds", "I", false)
  | 1 => ("NineBags$Party", "children", "I", false)
  | 2 => ("NineBags$Party", "things", "I", false)
  | 3 => ("NineBags$Party", "pairs", "I", false)
  | 4 => ("NineBags$Party", "costs", "[I", true)
  | 5 => ("NineBags$Party", "days", "[I", true)
  | 6 => ("NineBags$Party", "banned", "[I", true)
  | 7 => ("NineBags$Party", "looks", "[I", true)
  | 8 => ("NineBags$Party", "prices", "[I", true)
  | 9 => ("NineBags$Party", "worthsOfKinds", "[I", true)
  | 10 => ("NineBags$Party", "lookers", "[I", true)
  | 11 => ("NineBags$Party", "lookedAt", "[I", true)
  | _ => ("NineBags$Party", "kindOf", "[I", true)
def tyX3 : Nat → FieldType := fun k => match k with
  | 0 => .int
  | 1 => .int
  | 2 => .int
  | 3 => .int
  | 4 => .array .int
  | 5 => .array .int
  | 6 => .array .int
  | 7 => .array .int
  | 8 => .array .int
  | 9 => .array .int
  | 10 => .array .int
  | 11 => .array .int
  | _ => .array .int
abbrev wsX30 : List Cond := u_ws RX3 TX3 13
theorem nmX3 : ∀ a, a < 13 → ∀ b, b < 13 → a ≠ b → (TX3 a).2.1 ≠ (TX3 b).2.1 := by decide +kernel
theorem tyX3_ok : ∀ k, k < 13 → parseFieldDescriptor (TX3 k).2.2.1 = some (tyX3 k) := by decide +kernel
abbrev cX3_init : ByteArray := prog_5_method_1_code
def yX3_init : MethodName := ⟨RX3, "<init>", "()V"⟩
abbrev cX3_clear : ByteArray := prog_5_method_2_code
def yX3_clear : MethodName := ⟨RX3, "clear", "()V"⟩
abbrev cX3_addKind : ByteArray := prog_5_method_3_code
def yX3_addKind : MethodName := ⟨RX3, "addKind", "(II)V"⟩
abbrev cX3_setNextPrice : ByteArray := prog_5_method_4_code
def yX3_setNextPrice : MethodName := ⟨RX3, "setNextPrice", "(II)V"⟩
abbrev cX3_addChild : ByteArray := prog_5_method_5_code
def yX3_addChild : MethodName := ⟨RX3, "addChild", "(I)V"⟩
abbrev cX3_addLook : ByteArray := prog_5_method_6_code
def yX3_addLook : MethodName := ⟨RX3, "addLook", "(II)V"⟩
abbrev cX3_addThing : ByteArray := prog_5_method_7_code
def yX3_addThing : MethodName := ⟨RX3, "addThing", "(I)V"⟩
abbrev cX3_hasKind : ByteArray := prog_5_method_8_code
def yX3_hasKind : MethodName := ⟨RX3, "hasKind", "(I)Z"⟩
abbrev cX3_hasChild : ByteArray := prog_5_method_9_code
def yX3_hasChild : MethodName := ⟨RX3, "hasChild", "(I)Z"⟩
abbrev cX3_hasThing : ByteArray := prog_5_method_10_code
def yX3_hasThing : MethodName := ⟨RX3, "hasThing", "(I)Z"⟩
abbrev cX3_hasPair : ByteArray := prog_5_method_11_code
def yX3_hasPair : MethodName := ⟨RX3, "hasPair", "(II)Z"⟩
abbrev cX3_looksAt : ByteArray := prog_5_method_12_code
def yX3_looksAt : MethodName := ⟨RX3, "looksAt", "(II)Z"⟩
abbrev cX3_isBanned : ByteArray := prog_5_method_13_code
def yX3_isBanned : MethodName := ⟨RX3, "isBanned", "(II)Z"⟩
abbrev cX3_priceOf : ByteArray := prog_5_method_14_code
def yX3_priceOf : MethodName := ⟨RX3, "priceOf", "(II)I"⟩
abbrev cX3_worthOfKind : ByteArray := prog_5_method_15_code
def yX3_worthOfKind : MethodName := ⟨RX3, "worthOfKind", "(II)I"⟩
abbrev cX3_worthOfThing : ByteArray := prog_5_method_16_code
def yX3_worthOfThing : MethodName := ⟨RX3, "worthOfThing", "(II)I"⟩
abbrev cX3_pence : ByteArray := prog_5_method_17_code
def yX3_pence : MethodName := ⟨RX3, "pence", "()I"⟩
def RX4 : String := "NineBags$Past"
def TX4 : u_T := fun k => match k with
  | 0 => ("NineBags$Past", "acts", "[I", true)
  | 1 => ("NineBags$Past", "imageHands", "[I", true)
  | 2 => ("NineBags$Past", "imageChances", "[I", true)
  | 3 => ("NineBags$Past", "kept", "[Z", true)
  | _ => ("NineBags$Past", "count", "I", false)
def tyX4 : Nat → FieldType := fun k => match k with
  | 0 => .array .int
  | 1 => .array .int
  | 2 => .array .int
  | 3 => .array .boolean
  | _ => .int
abbrev wsX40 : List Cond := u_ws RX4 TX4 5
theorem nmX4 : ∀ a, a < 5 → ∀ b, b < 5 → a ≠ b → (TX4 a).2.1 ≠ (TX4 b).2.1 := by decide +kernel
theorem tyX4_ok : ∀ k, k < 5 → parseFieldDescriptor (TX4 k).2.2.1 = some (tyX4 k) := by decide +kernel
abbrev cX4_init : ByteArray := prog_6_method_1_code
def yX4_init : MethodName := ⟨RX4, "<init>", "()V"⟩
abbrev cX4_clear : ByteArray := prog_6_method_2_code
def yX4_clear : MethodName := ⟨RX4, "clear", "()V"⟩
abbrev cX4_forgetActs : ByteArray := prog_6_method_3_code
def yX4_forgetActs : MethodName := ⟨RX4, "forgetActs", "()V"⟩
abbrev cX4_size : ByteArray := prog_6_method_4_code
def yX4_size : MethodName := ⟨RX4, "size", "()I"⟩
abbrev cX4_remember : ByteArray := prog_6_method_5_code
def yX4_remember : MethodName := ⟨RX4, "remember", "(I)V"⟩
abbrev cX4_takeLatest : ByteArray := prog_6_method_6_code
def yX4_takeLatest : MethodName := ⟨RX4, "takeLatest", "()I"⟩
abbrev cX4_keepImage : ByteArray := prog_6_method_7_code
def yX4_keepImage : MethodName := ⟨RX4, "keepImage", "(III)V"⟩
abbrev cX4_hasImage : ByteArray := prog_6_method_8_code
def yX4_hasImage : MethodName := ⟨RX4, "hasImage", "(I)Z"⟩
abbrev cX4_imageHands : ByteArray := prog_6_method_9_code
def yX4_imageHands : MethodName := ⟨RX4, "imageHands", "(I)I"⟩
abbrev cX4_imageChance : ByteArray := prog_6_method_10_code
def yX4_imageChance : MethodName := ⟨RX4, "imageChance", "(I)I"⟩
def RX5 : String := "NineBags$Reader"
def TX5 : u_T := fun k => match k with
  | 0 => ("NineBags$Reader", "letters", "[I", true)
  | 1 => ("NineBags$Reader", "count", "I", false)
  | 2 => ("NineBags$Reader", "place", "I", false)
  | 3 => ("NineBags$Reader", "numberPlace", "I", false)
  | 4 => ("NineBags$Reader", "fault", "I", false)
  | _ => ("NineBags$Reader", "faultPlace", "I", false)
def tyX5 : Nat → FieldType := fun k => match k with
  | 0 => .array .int
  | 1 => .int
  | 2 => .int
  | 3 => .int
  | 4 => .int
  | _ => .int
abbrev wsX50 : List Cond := u_ws RX5 TX5 6
theorem nmX5 : ∀ a, a < 6 → ∀ b, b < 6 → a ≠ b → (TX5 a).2.1 ≠ (TX5 b).2.1 := by decide +kernel
theorem tyX5_ok : ∀ k, k < 6 → parseFieldDescriptor (TX5 k).2.2.1 = some (tyX5 k) := by decide +kernel
abbrev cX5_init : ByteArray := prog_7_method_1_code
def yX5_init : MethodName := ⟨RX5, "<init>", "()V"⟩
abbrev cX5_length : ByteArray := prog_7_method_2_code
def yX5_length : MethodName := ⟨RX5, "length", "()I"⟩
abbrev cX5_isFull : ByteArray := prog_7_method_3_code
def yX5_isFull : MethodName := ⟨RX5, "isFull", "()Z"⟩
abbrev cX5_append : ByteArray := prog_7_method_4_code
def yX5_append : MethodName := ⟨RX5, "append", "(I)V"⟩
abbrev cX5_clear : ByteArray := prog_7_method_5_code
def yX5_clear : MethodName := ⟨RX5, "clear", "()V"⟩
abbrev cX5_faultPlace : ByteArray := prog_7_method_6_code
def yX5_faultPlace : MethodName := ⟨RX5, "faultPlace", "()I"⟩
abbrev cX5_readInto : ByteArray := prog_7_method_7_code
def yX5_readInto : MethodName := ⟨RX5, "readInto", "(LNineBags$Party;)I"⟩
abbrev cX5_readClause : ByteArray := prog_7_method_8_code
def yX5_readClause : MethodName := ⟨RX5, "readClause", "(LNineBags$Party;)V"⟩
abbrev cX5_readKind : ByteArray := prog_7_method_9_code
def yX5_readKind : MethodName := ⟨RX5, "readKind", "(LNineBags$Party;)V"⟩
abbrev cX5_readChild : ByteArray := prog_7_method_10_code
def yX5_readChild : MethodName := ⟨RX5, "readChild", "(LNineBags$Party;)V"⟩
abbrev cX5_readLook : ByteArray := prog_7_method_11_code
def yX5_readLook : MethodName := ⟨RX5, "readLook", "(LNineBags$Party;)V"⟩
abbrev cX5_readThing : ByteArray := prog_7_method_12_code
def yX5_readThing : MethodName := ⟨RX5, "readThing", "(LNineBags$Party;)V"⟩
abbrev cX5_readNumber : ByteArray := prog_7_method_13_code
def yX5_readNumber : MethodName := ⟨RX5, "readNumber", "(I)I"⟩
abbrev cX5_readSign : ByteArray := prog_7_method_14_code
def yX5_readSign : MethodName := ⟨RX5, "readSign", "(I)V"⟩
abbrev cX5_skipBlanks : ByteArray := prog_7_method_15_code
def yX5_skipBlanks : MethodName := ⟨RX5, "skipBlanks", "()V"⟩
abbrev cX5_letterHere : ByteArray := prog_7_method_16_code
def yX5_letterHere : MethodName := ⟨RX5, "letterHere", "()I"⟩
abbrev cX5_isFigureHere : ByteArray := prog_7_method_17_code
def yX5_isFigureHere : MethodName := ⟨RX5, "isFigureHere", "()Z"⟩
abbrev cX5_fail : ByteArray := prog_7_method_18_code
def yX5_fail : MethodName := ⟨RX5, "fail", "(II)V"⟩
def RX6 : String := "NineBags$Sharing"
def TX6 : u_T := fun k => match k with
  | 0 => ("NineBags$Sharing", "ways", "LNineBags$Ways;", true)
  | 1 => ("NineBags$Sharing", "best", "LNineBags$Hands;", true)
  | 2 => ("NineBags$Sharing", "least", "I", false)
  | _ => ("NineBags$Sharing", "known", "Z", false)
def tyX6 : Nat → FieldType := fun k => match k with
  | 0 => .object "NineBags$Ways"
  | 1 => .object "NineBags$Hands"
  | 2 => .int
  | _ => .boolean
abbrev wsX60 : List Cond := u_ws RX6 TX6 4
theorem nmX6 : ∀ a, a < 4 → ∀ b, b < 4 → a ≠ b → (TX6 a).2.1 ≠ (TX6 b).2.1 := by decide +kernel
theorem tyX6_ok : ∀ k, k < 4 → parseFieldDescriptor (TX6 k).2.2.1 = some (tyX6 k) := by decide +kernel
abbrev cX6_init : ByteArray := prog_8_method_1_code
def yX6_init : MethodName := ⟨RX6, "<init>", "()V"⟩
abbrev cX6_forget : ByteArray := prog_8_method_2_code
def yX6_forget : MethodName := ⟨RX6, "forget", "()V"⟩
abbrev cX6_find : ByteArray := prog_8_method_3_code
def yX6_find : MethodName := ⟨RX6, "find", "(LNineBags$Party;)V"⟩
abbrev cX6_least : ByteArray := prog_8_method_4_code
def yX6_least : MethodName := ⟨RX6, "least", "()I"⟩
abbrev cX6_holderOf : ByteArray := prog_8_method_5_code
def yX6_holderOf : MethodName := ⟨RX6, "holderOf", "(I)I"⟩
def RX7 : String := "NineBags$Trials"
def TX7 : u_T := fun k => match k with
  | 0 => ("NineBags$Trials", "then", "LNineBags$Hands;", true)
  | 1 => ("NineBags$Trials", "worths", "LNineBags$Worths;", true)
  | 2 => ("NineBags$Trials", "turns", "[I", true)
  | _ => ("NineBags$Trials", "leastByOrder", "I", false)
def tyX7 : Nat → FieldType := fun k => match k with
  | 0 => .object "NineBags$Hands"
  | 1 => .object "NineBags$Worths"
  | 2 => .array .int
  | _ => .int
abbrev wsX70 : List Cond := u_ws RX7 TX7 4
theorem nmX7 : ∀ a, a < 4 → ∀ b, b < 4 → a ≠ b → (TX7 a).2.1 ≠ (TX7 b).2.1 := by decide +kernel
theorem tyX7_ok : ∀ k, k < 4 → parseFieldDescriptor (TX7 k).2.2.1 = some (tyX7 k) := by decide +kernel
abbrev cX7_init : ByteArray := prog_9_method_1_code
def yX7_init : MethodName := ⟨RX7, "<init>", "()V"⟩
abbrev cX7_holderThen : ByteArray := prog_9_method_2_code
def yX7_holderThen : MethodName := ⟨RX7, "holderThen", "(I)I"⟩
abbrev cX7_tearsThen : ByteArray := prog_9_method_3_code
def yX7_tearsThen : MethodName := ⟨RX7, "tearsThen", "(LNineBags$Party;)I"⟩
abbrev cX7_leastByOrder : ByteArray := prog_9_method_4_code
def yX7_leastByOrder : MethodName := ⟨RX7, "leastByOrder", "()I"⟩
abbrev cX7_agree : ByteArray := prog_9_method_5_code
def yX7_agree : MethodName := ⟨RX7, "agree", "(LNineBags$Party;LNineBags$Hands;II)Z"⟩
abbrev cX7_countOfSwaps : ByteArray := prog_9_method_6_code
def yX7_countOfSwaps : MethodName := ⟨RX7, "countOfSwaps", "(LNineBags$Party;LNineBags$Hands;)I"⟩
abbrev cX7_swapAt : ByteArray := prog_9_method_7_code
def yX7_swapAt : MethodName := ⟨RX7, "swapAt", "(LNineBags$Party;LNineBags$Hands;I)I"⟩
abbrev cX7_settle : ByteArray := prog_9_method_8_code
def yX7_settle : MethodName := ⟨RX7, "settle", "(LNineBags$Party;LNineBags$Hands;)I"⟩
abbrev cX7_isOrder : ByteArray := prog_9_method_9_code
def yX7_isOrder : MethodName := ⟨RX7, "isOrder", "(LNineBags$Party;I)Z"⟩
abbrev cX7_choose : ByteArray := prog_9_method_10_code
def yX7_choose : MethodName := ⟨RX7, "choose", "(LNineBags$Party;LNineBags$Hands;)V"⟩
abbrev cX7_favourite : ByteArray := prog_9_method_11_code
def yX7_favourite : MethodName := ⟨RX7, "favourite", "(LNineBags$Party;I)I"⟩
abbrev cX7_bestOrderOf : ByteArray := prog_9_method_12_code
def yX7_bestOrderOf : MethodName := ⟨RX7, "bestOrderOf", "(LNineBags$Party;LNineBags$Hands;)I"⟩
def RX8 : String := "NineBags$Ways"
def TX8 : u_T := fun k => match k with
  | 0 => ("NineBags$Ways", "hands", "LNineBags$Hands;", true)
  | _ => ("NineBags$Ways", "worths", "LNineBags$Worths;", true)
def tyX8 : Nat → FieldType := fun k => match k with
  | 0 => .object "NineBags$Hands"
  | _ => .object "NineBags$Worths"
abbrev wsX80 : List Cond := u_ws RX8 TX8 2
theorem nmX8 : ∀ a, a < 2 → ∀ b, b < 2 → a ≠ b → (TX8 a).2.1 ≠ (TX8 b).2.1 := by decide +kernel
theorem tyX8_ok : ∀ k, k < 2 → parseFieldDescriptor (TX8 k).2.2.1 = some (tyX8 k) := by decide +kernel
abbrev cX8_init : ByteArray := prog_10_method_1_code
def yX8_init : MethodName := ⟨RX8, "<init>", "()V"⟩
abbrev cX8_countOf : ByteArray := prog_10_method_2_code
def yX8_countOf : MethodName := ⟨RX8, "countOf", "(LNineBags$Party;)I"⟩
abbrev cX8_start : ByteArray := prog_10_method_3_code
def yX8_start : MethodName := ⟨RX8, "start", "(LNineBags$Party;)V"⟩
abbrev cX8_advance : ByteArray := prog_10_method_4_code
def yX8_advance : MethodName := ⟨RX8, "advance", "(LNineBags$Party;)V"⟩
abbrev cX8_isEven : ByteArray := prog_10_method_5_code
def yX8_isEven : MethodName := ⟨RX8, "isEven", "(LNineBags$Party;)Z"⟩
def RX9 : String := "NineBags$Worths"
def TX9 : u_T := fun k => match k with
  | _ => ("NineBags$Worths", "worth", "[I", true)
def tyX9 : Nat → FieldType := fun k => match k with
  | _ => .array .int
abbrev wsX90 : List Cond := u_ws RX9 TX9 1
theorem nmX9 : ∀ a, a < 1 → ∀ b, b < 1 → a ≠ b → (TX9 a).2.1 ≠ (TX9 b).2.1 := by decide +kernel
theorem tyX9_ok : ∀ k, k < 1 → parseFieldDescriptor (TX9 k).2.2.1 = some (tyX9 k) := by decide +kernel
abbrev cX9_init : ByteArray := prog_11_method_1_code
def yX9_init : MethodName := ⟨RX9, "<init>", "()V"⟩
abbrev cX9_count : ByteArray := prog_11_method_2_code
def yX9_count : MethodName := ⟨RX9, "count", "(LNineBags$Party;LNineBags$Hands;)V"⟩
abbrev cX9_change : ByteArray := prog_11_method_3_code
def yX9_change : MethodName := ⟨RX9, "change", "(LNineBags$Party;III)V"⟩
abbrev cX9_of : ByteArray := prog_11_method_4_code
def yX9_of : MethodName := ⟨RX9, "of", "(II)I"⟩
abbrev cX9_grudge : ByteArray := prog_11_method_5_code
def yX9_grudge : MethodName := ⟨RX9, "grudge", "(LNineBags$Party;II)I"⟩
abbrev cX9_allGrudges : ByteArray := prog_11_method_6_code
def yX9_allGrudges : MethodName := ⟨RX9, "allGrudges", "(LNineBags$Party;)I"⟩
abbrev cX9_tears : ByteArray := prog_11_method_7_code
def yX9_tears : MethodName := ⟨RX9, "tears", "(LNineBags$Party;)I"⟩
abbrev cX9_enviedPairs : ByteArray := prog_11_method_8_code
def yX9_enviedPairs : MethodName := ⟨RX9, "enviedPairs", "(LNineBags$Party;)I"⟩
abbrev cX9_lead : ByteArray := prog_11_method_9_code
def yX9_lead : MethodName := ⟨RX9, "lead", "(II)I"⟩
abbrev cX9_pairBit : ByteArray := prog_11_method_10_code
def yX9_pairBit : MethodName := ⟨RX9, "pairBit", "(II)I"⟩
def RX10 : String := "NineBags"
def TX10 : u_T := fun k => match k with
  | 0 => ("NineBags", "text", "LNineBags$Reader;", true)
  | 1 => ("NineBags", "hands", "LNineBags$Hands;", true)
  | 2 => ("NineBags", "worths", "LNineBags$Worths;", true)
  | 3 => ("NineBags", "past", "LNineBags$Past;", true)
  | 4 => ("NineBags", "notes", "LNineBags$Notebook;", true)
  | 5 => ("NineBags", "trials", "LNineBags$Trials;", true)
  | 6 => ("NineBags", "sharing", "LNineBags$Sharing;", true)
  | 7 => ("NineBags", "guess", "LNineBags$Guess;", true)
  | 8 => ("NineBags", "party", "LNineBags$Party;", false)
  | 9 => ("NineBags", "draft", "LNineBags$Party;", false)
  | _ => ("NineBags", "chance", "I", false)
def tyX10 : Nat → FieldType := fun k => match k with
  | 0 => .object "NineBags$Reader"
  | 1 => .object "NineBags$Hands"
  | 2 => .object "NineBags$Worths"
  | 3 => .object "NineBags$Past"
  | 4 => .object "NineBags$Notebook"
  | 5 => .object "NineBags$Trials"
  | 6 => .object "NineBags$Sharing"
  | 7 => .object "NineBags$Guess"
  | 8 => .object "NineBags$Party"
  | 9 => .object "NineBags$Party"
  | _ => .int
abbrev wsX100 : List Cond := u_ws RX10 TX10 11
theorem nmX10 : ∀ a, a < 11 → ∀ b, b < 11 → a ≠ b → (TX10 a).2.1 ≠ (TX10 b).2.1 := by decide +kernel
theorem tyX10_ok : ∀ k, k < 11 → parseFieldDescriptor (TX10 k).2.2.1 = some (tyX10 k) := by decide +kernel
abbrev cX10_init : ByteArray := prog_1_method_1_code
def yX10_init : MethodName := ⟨RX10, "<init>", "()V"⟩
abbrev cX10_feed : ByteArray := prog_1_method_2_code
def yX10_feed : MethodName := ⟨RX10, "feed", "(I)I"⟩
abbrev cX10_party : ByteArray := prog_1_method_3_code
def yX10_party : MethodName := ⟨RX10, "party", "()I"⟩
abbrev cX10_fault : ByteArray := prog_1_method_4_code
def yX10_fault : MethodName := ⟨RX10, "fault", "()I"⟩
abbrev cX10_told : ByteArray := prog_1_method_5_code
def yX10_told : MethodName := ⟨RX10, "told", "(I)I"⟩
abbrev cX10_kind : ByteArray := prog_1_method_6_code
def yX10_kind : MethodName := ⟨RX10, "kind", "(II)I"⟩
abbrev cX10_child : ByteArray := prog_1_method_7_code
def yX10_child : MethodName := ⟨RX10, "child", "(II)I"⟩
abbrev cX10_gives : ByteArray := prog_1_method_8_code
def yX10_gives : MethodName := ⟨RX10, "gives", "(II)I"⟩
abbrev cX10_thing : ByteArray := prog_1_method_9_code
def yX10_thing : MethodName := ⟨RX10, "thing", "(II)I"⟩
abbrev cX10_envy : ByteArray := prog_1_method_10_code
def yX10_envy : MethodName := ⟨RX10, "envy", "(II)I"⟩
abbrev cX10_give : ByteArray := prog_1_method_11_code
def yX10_give : MethodName := ⟨RX10, "give", "(II)I"⟩
abbrev cX10_take : ByteArray := prog_1_method_12_code
def yX10_take : MethodName := ⟨RX10, "take", "(I)I"⟩
abbrev cX10_swap : ByteArray := prog_1_method_13_code
def yX10_swap : MethodName := ⟨RX10, "swap", "(II)I"⟩
abbrev cX10_draw : ByteArray := prog_1_method_14_code
def yX10_draw : MethodName := ⟨RX10, "draw", "(I)I"⟩
abbrev cX10_drift : ByteArray := prog_1_method_15_code
def yX10_drift : MethodName := ⟨RX10, "drift", "(I)I"⟩
abbrev cX10_undo : ByteArray := prog_1_method_16_code
def yX10_undo : MethodName := ⟨RX10, "undo", "()I"⟩
abbrev cX10_swaps : ByteArray := prog_1_method_17_code
def yX10_swaps : MethodName := ⟨RX10, "swaps", "(I)I"⟩
abbrev cX10_settled : ByteArray := prog_1_method_18_code
def yX10_settled : MethodName := ⟨RX10, "settled", "(I)I"⟩
abbrev cX10_share : ByteArray := prog_1_method_19_code
def yX10_share : MethodName := ⟨RX10, "share", "(I)I"⟩
abbrev cX10_choice : ByteArray := prog_1_method_20_code
def yX10_choice : MethodName := ⟨RX10, "choice", "(II)I"⟩
abbrev cX10_bestOrder : ByteArray := prog_1_method_21_code
def yX10_bestOrder : MethodName := ⟨RX10, "bestOrder", "(I)I"⟩
abbrev cX10_sweets : ByteArray := prog_1_method_22_code
def yX10_sweets : MethodName := ⟨RX10, "sweets", "(II)I"⟩
abbrev cX10_lasts : ByteArray := prog_1_method_23_code
def yX10_lasts : MethodName := ⟨RX10, "lasts", "(I)I"⟩
abbrev cX10_rises : ByteArray := prog_1_method_24_code
def yX10_rises : MethodName := ⟨RX10, "rises", "(I)I"⟩
abbrev cX10_spare : ByteArray := prog_1_method_25_code
def yX10_spare : MethodName := ⟨RX10, "spare", "(I)I"⟩
abbrev cX10_dry : ByteArray := prog_1_method_26_code
def yX10_dry : MethodName := ⟨RX10, "dry", "()I"⟩
abbrev cX10_see : ByteArray := prog_1_method_27_code
def yX10_see : MethodName := ⟨RX10, "see", "(IIZ)I"⟩
abbrev cX10_had : ByteArray := prog_1_method_28_code
def yX10_had : MethodName := ⟨RX10, "had", "(I)I"⟩
abbrev cX10_watch : ByteArray := prog_1_method_29_code
def yX10_watch : MethodName := ⟨RX10, "watch", "()I"⟩
abbrev cX10_write : ByteArray := prog_1_method_30_code
def yX10_write : MethodName := ⟨RX10, "write", "(II)I"⟩
abbrev cX10_tear : ByteArray := prog_1_method_31_code
def yX10_tear : MethodName := ⟨RX10, "tear", "()I"⟩
abbrev cX10_judge : ByteArray := prog_1_method_32_code
def yX10_judge : MethodName := ⟨RX10, "judge", "()I"⟩
abbrev cX10_seed : ByteArray := prog_1_method_33_code
def yX10_seed : MethodName := ⟨RX10, "seed", "(I)I"⟩
abbrev cX10_keep : ByteArray := prog_1_method_34_code
def yX10_keep : MethodName := ⟨RX10, "keep", "(I)I"⟩
abbrev cX10_goBack : ByteArray := prog_1_method_35_code
def yX10_goBack : MethodName := ⟨RX10, "goBack", "(I)I"⟩
abbrev cX10_worthsNow : ByteArray := prog_1_method_36_code
def yX10_worthsNow : MethodName := ⟨RX10, "worthsNow", "()LNineBags$Worths;"⟩
abbrev cX10_drawOf : ByteArray := prog_1_method_37_code
def yX10_drawOf : MethodName := ⟨RX10, "drawOf", "(I)I"⟩
abbrev cX10_canPart : ByteArray := prog_1_method_38_code
def yX10_canPart : MethodName := ⟨RX10, "canPart", "(III)Z"⟩
def RX11 : String := "NineBagsModel"
def TX11 : u_T := fun k => match k with
  | 0 => ("NineBagsModel", "kinds", "I", false)
  | 1 => ("NineBagsModel", "pence", "[I", true)
  | 2 => ("NineBagsModel", "days", "[I", true)
  | 3 => ("NineBagsModel", "children", "I", false)
  | 4 => ("NineBagsModel", "mustNot", "[I", true)
  | 5 => ("NineBagsModel", "wants", "[I", true)
  | 6 => ("NineBagsModel", "looks", "[I", true)
  | 7 => ("NineBagsModel", "things", "I", false)
  | 8 => ("NineBagsModel", "kindOf", "[I", true)
  | 9 => ("NineBagsModel", "now", "[I", true)
  | 10 => ("NineBagsModel", "seed", "I", false)
  | 11 => ("NineBagsModel", "text", "[I", true)
  | 12 => ("NineBagsModel", "texted", "I", false)
  | 13 => ("NineBagsModel", "faultPlace", "I", false)
  | 14 => ("NineBagsModel", "at0", "I", false)
  | 15 => ("NineBagsModel", "number", "I", false)
  | 16 => ("NineBagsModel", "numberAt", "I", false)
  | 17 => ("NineBagsModel", "readKinds", "I", false)
  | 18 => ("NineBagsModel", "readPence", "[I", true)
  | 19 => ("NineBagsModel", "readDays", "[I", true)
  | 20 => ("NineBagsModel", "readChildren", "I", false)
  | 21 => ("NineBagsModel", "readMustNot", "[I", true)
  | 22 => ("NineBagsModel", "readWants", "[I", true)
  | 23 => ("NineBagsModel", "readLooks", "[I", true)
  | 24 => ("NineBagsModel", "readThings", "I", false)
  | 25 => ("NineBagsModel", "readKindOf", "[I", true)
  | 26 => ("NineBagsModel", "undos", "I", false)
  | 27 => ("NineBagsModel", "past", "[I", true)
  | 28 => ("NineBagsModel", "was", "[I", true)
  | 29 => ("NineBagsModel", "row", "[I", true)
  | 30 => ("NineBagsModel", "seen", "I", false)
  | 31 => ("NineBagsModel", "seenOne", "[I", true)
  | 32 => ("NineBagsModel", "seenAt", "[I", true)
  | 33 => ("NineBagsModel", "seenIs", "[Z", true)
  | 34 => ("NineBagsModel", "fitting", "I", false)
  | 35 => ("NineBagsModel", "surely", "[I", true)
  | 36 => ("NineBagsModel", "envies", "[I", true)
  | 37 => ("NineBagsModel", "booked", "I", false)
  | 38 => ("NineBagsModel", "bookOf", "[I", true)
  | 39 => ("NineBagsModel", "bookWho", "[I", true)
  | 40 => ("NineBagsModel", "images", "[I", true)
  | _ => ("NineBagsModel", "isKept", "[Z", true)
def tyX11 : Nat → FieldType := fun k => match k with
  | 0 => .int
  | 1 => .array .int
  | 2 => .array .int
  | 3 => .int
  | 4 => .array .int
  | 5 => .array .int
  | 6 => .array .int
  | 7 => .int
  | 8 => .array .int
  | 9 => .array .int
  | 10 => .int
  | 11 => .array .int
  | 12 => .int
  | 13 => .int
  | 14 => .int
  | 15 => .int
  | 16 => .int
  | 17 => .int
  | 18 => .array .int
  | 19 => .array .int
  | 20 => .int
  | 21 => .array .int
  | 22 => .array .int
  | 23 => .array .int
  | 24 => .int
  | 25 => .array .int
  | 26 => .int
  | 27 => .array .int
  | 28 => .array .int
  | 29 => .array .int
  | 30 => .int
  | 31 => .array .int
  | 32 => .array .int
  | 33 => .array .boolean
  | 34 => .int
  | 35 => .array .int
  | 36 => .array .int
  | 37 => .int
  | 38 => .array .int
  | 39 => .array .int
  | 40 => .array .int
  | _ => .array .boolean
abbrev wsX110 : List Cond := u_ws RX11 TX11 42
theorem nmX11 : ∀ a, a < 42 → ∀ b, b < 42 → a ≠ b → (TX11 a).2.1 ≠ (TX11 b).2.1 := by decide +kernel
theorem tyX11_ok : ∀ k, k < 42 → parseFieldDescriptor (TX11 k).2.2.1 = some (tyX11 k) := by decide +kernel
abbrev cX11_init : ByteArray := prog_13_method_1_code
def yX11_init : MethodName := ⟨RX11, "<init>", "()V"⟩
abbrev cX11_in : ByteArray := prog_13_method_3_code
def yX11_in : MethodName := ⟨RX11, "in", "(JJJ)Z"⟩
abbrev cX11_has : ByteArray := prog_13_method_4_code
def yX11_has : MethodName := ⟨RX11, "has", "(II)Z"⟩
abbrev cX11_isKind : ByteArray := prog_13_method_5_code
def yX11_isKind : MethodName := ⟨RX11, "isKind", "(I)Z"⟩
abbrev cX11_isChild : ByteArray := prog_13_method_6_code
def yX11_isChild : MethodName := ⟨RX11, "isChild", "(I)Z"⟩
abbrev cX11_isThing : ByteArray := prog_13_method_7_code
def yX11_isThing : MethodName := ⟨RX11, "isThing", "(I)Z"⟩
abbrev cX11_areTwo : ByteArray := prog_13_method_8_code
def yX11_areTwo : MethodName := ⟨RX11, "areTwo", "(II)Z"⟩
abbrev cX11_feed : ByteArray := prog_13_method_9_code
def yX11_feed : MethodName := ⟨RX11, "feed", "(I)I"⟩
abbrev cX11_here : ByteArray := prog_13_method_10_code
def yX11_here : MethodName := ⟨RX11, "here", "()I"⟩
abbrev cX11_fails : ByteArray := prog_13_method_11_code
def yX11_fails : MethodName := ⟨RX11, "fails", "(II)I"⟩
abbrev cX11_takeNumber : ByteArray := prog_13_method_12_code
def yX11_takeNumber : MethodName := ⟨RX11, "takeNumber", "(II)I"⟩
abbrev cX11_into : ByteArray := prog_13_method_13_code
def yX11_into : MethodName := ⟨RX11, "into", "([IIII)I"⟩
abbrev cX11_takeKind : ByteArray := prog_13_method_14_code
def yX11_takeKind : MethodName := ⟨RX11, "takeKind", "()I"⟩
abbrev cX11_takeChild : ByteArray := prog_13_method_15_code
def yX11_takeChild : MethodName := ⟨RX11, "takeChild", "()I"⟩
abbrev cX11_takeLook : ByteArray := prog_13_method_16_code
def yX11_takeLook : MethodName := ⟨RX11, "takeLook", "()I"⟩
abbrev cX11_takeThing : ByteArray := prog_13_method_17_code
def yX11_takeThing : MethodName := ⟨RX11, "takeThing", "()I"⟩
abbrev cX11_takeClause : ByteArray := prog_13_method_18_code
def yX11_takeClause : MethodName := ⟨RX11, "takeClause", "()I"⟩
abbrev cX11_takeRead : ByteArray := prog_13_method_19_code
def yX11_takeRead : MethodName := ⟨RX11, "takeRead", "()V"⟩
abbrev cX11_party : ByteArray := prog_13_method_20_code
def yX11_party : MethodName := ⟨RX11, "party", "()I"⟩
abbrev cX11_fault : ByteArray := prog_13_method_21_code
def yX11_fault : MethodName := ⟨RX11, "fault", "()I"⟩
abbrev cX11_bagOf : ByteArray := prog_13_method_22_code
def yX11_bagOf : MethodName := ⟨RX11, "bagOf", "(I)I"⟩
abbrev cX11_worthOf : ByteArray := prog_13_method_23_code
def yX11_worthOf : MethodName := ⟨RX11, "worthOf", "(II)I"⟩
abbrev cX11_worth : ByteArray := prog_13_method_24_code
def yX11_worth : MethodName := ⟨RX11, "worth", "(II)I"⟩
abbrev cX11_envyOf : ByteArray := prog_13_method_25_code
def yX11_envyOf : MethodName := ⟨RX11, "envyOf", "(II)I"⟩
abbrev cX11_allEnvy : ByteArray := prog_13_method_26_code
def yX11_allEnvy : MethodName := ⟨RX11, "allEnvy", "()I"⟩
abbrev cX11_tears : ByteArray := prog_13_method_27_code
def yX11_tears : MethodName := ⟨RX11, "tears", "()I"⟩
abbrev cX11_ill : ByteArray := prog_13_method_28_code
def yX11_ill : MethodName := ⟨RX11, "ill", "()I"⟩
abbrev cX11_costs : ByteArray := prog_13_method_29_code
def yX11_costs : MethodName := ⟨RX11, "costs", "()I"⟩
abbrev cX11_told : ByteArray := prog_13_method_30_code
def yX11_told : MethodName := ⟨RX11, "told", "(I)I"⟩
abbrev cX11_kind : ByteArray := prog_13_method_31_code
def yX11_kind : MethodName := ⟨RX11, "kind", "(II)I"⟩
abbrev cX11_child : ByteArray := prog_13_method_32_code
def yX11_child : MethodName := ⟨RX11, "child", "(II)I"⟩
abbrev cX11_gives : ByteArray := prog_13_method_33_code
def yX11_gives : MethodName := ⟨RX11, "gives", "(II)I"⟩
abbrev cX11_thing : ByteArray := prog_13_method_34_code
def yX11_thing : MethodName := ⟨RX11, "thing", "(II)I"⟩
abbrev cX11_envy : ByteArray := prog_13_method_35_code
def yX11_envy : MethodName := ⟨RX11, "envy", "(II)I"⟩
abbrev cX11_remember : ByteArray := prog_13_method_36_code
def yX11_remember : MethodName := ⟨RX11, "remember", "()V"⟩
abbrev cX11_give : ByteArray := prog_13_method_37_code
def yX11_give : MethodName := ⟨RX11, "give", "(II)I"⟩
abbrev cX11_take : ByteArray := prog_13_method_38_code
def yX11_take : MethodName := ⟨RX11, "take", "(I)I"⟩
abbrev cX11_canSwap : ByteArray := prog_13_method_39_code
def yX11_canSwap : MethodName := ⟨RX11, "canSwap", "(II)Z"⟩
abbrev cX11_swapNow : ByteArray := prog_13_method_40_code
def yX11_swapNow : MethodName := ⟨RX11, "swapNow", "(II)V"⟩
abbrev cX11_gain : ByteArray := prog_13_method_41_code
def yX11_gain : MethodName := ⟨RX11, "gain", "(II)I"⟩
abbrev cX11_agree : ByteArray := prog_13_method_42_code
def yX11_agree : MethodName := ⟨RX11, "agree", "(II)Z"⟩
abbrev cX11_swap : ByteArray := prog_13_method_43_code
def yX11_swap : MethodName := ⟨RX11, "swap", "(II)I"⟩
abbrev cX11_draw : ByteArray := prog_13_method_44_code
def yX11_draw : MethodName := ⟨RX11, "draw", "(I)I"⟩
abbrev cX11_drawOf : ByteArray := prog_13_method_45_code
def yX11_drawOf : MethodName := ⟨RX11, "drawOf", "(I)I"⟩
abbrev cX11_drift : ByteArray := prog_13_method_46_code
def yX11_drift : MethodName := ⟨RX11, "drift", "(I)I"⟩
abbrev cX11_undo : ByteArray := prog_13_method_47_code
def yX11_undo : MethodName := ⟨RX11, "undo", "()I"⟩
abbrev cX11_save : ByteArray := prog_13_method_48_code
def yX11_save : MethodName := ⟨RX11, "save", "()V"⟩
abbrev cX11_putBack : ByteArray := prog_13_method_49_code
def yX11_putBack : MethodName := ⟨RX11, "putBack", "()V"⟩
abbrev cX11_swapsNow : ByteArray := prog_13_method_50_code
def yX11_swapsNow : MethodName := ⟨RX11, "swapsNow", "(I)I"⟩
abbrev cX11_swaps : ByteArray := prog_13_method_51_code
def yX11_swaps : MethodName := ⟨RX11, "swaps", "(I)I"⟩
abbrev cX11_settled : ByteArray := prog_13_method_52_code
def yX11_settled : MethodName := ⟨RX11, "settled", "(I)I"⟩
abbrev cX11_waysToGive : ByteArray := prog_13_method_53_code
def yX11_waysToGive : MethodName := ⟨RX11, "waysToGive", "()I"⟩
abbrev cX11_giveBy : ByteArray := prog_13_method_54_code
def yX11_giveBy : MethodName := ⟨RX11, "giveBy", "(I)V"⟩
abbrev cX11_isEven : ByteArray := prog_13_method_55_code
def yX11_isEven : MethodName := ⟨RX11, "isEven", "()Z"⟩
abbrev cX11_share : ByteArray := prog_13_method_56_code
def yX11_share : MethodName := ⟨RX11, "share", "(I)I"⟩
abbrev cX11_takeOrder : ByteArray := prog_13_method_57_code
def yX11_takeOrder : MethodName := ⟨RX11, "takeOrder", "(I)Z"⟩
abbrev cX11_pickOf : ByteArray := prog_13_method_58_code
def yX11_pickOf : MethodName := ⟨RX11, "pickOf", "(I)I"⟩
abbrev cX11_chooseAll : ByteArray := prog_13_method_59_code
def yX11_chooseAll : MethodName := ⟨RX11, "chooseAll", "()V"⟩
abbrev cX11_choice : ByteArray := prog_13_method_60_code
def yX11_choice : MethodName := ⟨RX11, "choice", "(II)I"⟩
abbrev cX11_bestOrder : ByteArray := prog_13_method_61_code
def yX11_bestOrder : MethodName := ⟨RX11, "bestOrder", "(I)I"⟩
abbrev cX11_sweets : ByteArray := prog_13_method_62_code
def yX11_sweets : MethodName := ⟨RX11, "sweets", "(II)I"⟩
abbrev cX11_lasts : ByteArray := prog_13_method_63_code
def yX11_lasts : MethodName := ⟨RX11, "lasts", "(I)I"⟩
abbrev cX11_rises : ByteArray := prog_13_method_64_code
def yX11_rises : MethodName := ⟨RX11, "rises", "(I)I"⟩
abbrev cX11_envyWith : ByteArray := prog_13_method_65_code
def yX11_envyWith : MethodName := ⟨RX11, "envyWith", "(II)I"⟩
abbrev cX11_spare : ByteArray := prog_13_method_66_code
def yX11_spare : MethodName := ⟨RX11, "spare", "(I)I"⟩
abbrev cX11_dry : ByteArray := prog_13_method_67_code
def yX11_dry : MethodName := ⟨RX11, "dry", "()I"⟩
abbrev cX11_see : ByteArray := prog_13_method_68_code
def yX11_see : MethodName := ⟨RX11, "see", "(IIZ)I"⟩
abbrev cX11_allSeen : ByteArray := prog_13_method_69_code
def yX11_allSeen : MethodName := ⟨RX11, "allSeen", "()Z"⟩
abbrev cX11_countWay : ByteArray := prog_13_method_70_code
def yX11_countWay : MethodName := ⟨RX11, "countWay", "()V"⟩
abbrev cX11_findWays : ByteArray := prog_13_method_71_code
def yX11_findWays : MethodName := ⟨RX11, "findWays", "()V"⟩
abbrev cX11_had : ByteArray := prog_13_method_72_code
def yX11_had : MethodName := ⟨RX11, "had", "(I)I"⟩
abbrev cX11_watch : ByteArray := prog_13_method_73_code
def yX11_watch : MethodName := ⟨RX11, "watch", "()I"⟩
abbrev cX11_write : ByteArray := prog_13_method_74_code
def yX11_write : MethodName := ⟨RX11, "write", "(II)I"⟩
abbrev cX11_tear : ByteArray := prog_13_method_75_code
def yX11_tear : MethodName := ⟨RX11, "tear", "()I"⟩
abbrev cX11_judge : ByteArray := prog_13_method_76_code
def yX11_judge : MethodName := ⟨RX11, "judge", "()I"⟩
abbrev cX11_seed : ByteArray := prog_13_method_77_code
def yX11_seed : MethodName := ⟨RX11, "seed", "(I)I"⟩
abbrev cX11_keep : ByteArray := prog_13_method_78_code
def yX11_keep : MethodName := ⟨RX11, "keep", "(I)I"⟩
abbrev cX11_goBack : ByteArray := prog_13_method_79_code
def yX11_goBack : MethodName := ⟨RX11, "goBack", "(I)I"⟩
def RJ6 : String := "java/lang/Integer"
def TJ6 : u_T := fun k => match k with
  | _ => ("", "", "", false)
def tyJ6 : Nat → FieldType := fun k => match k with
  | _ => .int
abbrev wsJ60 : List Cond := u_ws RJ6 TJ6 0
theorem nmJ6 : ∀ a, a < 0 → ∀ b, b < 0 → a ≠ b → (TJ6 a).2.1 ≠ (TJ6 b).2.1 := by decide +kernel
theorem tyJ6_ok : ∀ k, k < 0 → parseFieldDescriptor (TJ6 k).2.2.1 = some (tyJ6 k) := by decide +kernel
abbrev cJ6_bitCount_0f7a4 : ByteArray := prog_14_method_49_code
def yJ6_bitCount_0f7a4 : MethodName := ⟨RJ6, "bitCount", "(I)I"⟩
def RJ9 : String := "java/lang/Math"
def TJ9 : u_T := fun k => match k with
  | _ => ("", "", "", false)
def tyJ9 : Nat → FieldType := fun k => match k with
  | _ => .int
abbrev wsJ90 : List Cond := u_ws RJ9 TJ9 0
theorem nmJ9 : ∀ a, a < 0 → ∀ b, b < 0 → a ≠ b → (TJ9 a).2.1 ≠ (TJ9 b).2.1 := by decide +kernel
theorem tyJ9_ok : ∀ k, k < 0 → parseFieldDescriptor (TJ9 k).2.2.1 = some (tyJ9 k) := by decide +kernel
abbrev cJ9_max_7cf53 : ByteArray := prog_15_method_65_code
def yJ9_max_7cf53 : MethodName := ⟨RJ9, "max", "(II)I"⟩
abbrev cJ9_min_7cf53 : ByteArray := prog_15_method_69_code
def yJ9_min_7cf53 : MethodName := ⟨RJ9, "min", "(II)I"⟩
def RJ10 : String := "java/lang/System"
def TJ10 : u_T := fun k => match k with
  | _ => ("", "", "", false)
def tyJ10 : Nat → FieldType := fun k => match k with
  | _ => .int
abbrev wsJ100 : List Cond := u_ws RJ10 TJ10 0
theorem nmJ10 : ∀ a, a < 0 → ∀ b, b < 0 → a ≠ b → (TJ10 a).2.1 ≠ (TJ10 b).2.1 := by decide +kernel
theorem tyJ10_ok : ∀ k, k < 0 → parseFieldDescriptor (TJ10 k).2.2.1 = some (tyJ10 k) := by decide +kernel
def RJ7 : String := "java/util/Arrays"
def TJ7 : u_T := fun k => match k with
  | _ => ("", "", "", false)
def tyJ7 : Nat → FieldType := fun k => match k with
  | _ => .int
abbrev wsJ70 : List Cond := u_ws RJ7 TJ7 0
theorem nmJ7 : ∀ a, a < 0 → ∀ b, b < 0 → a ≠ b → (TJ7 a).2.1 ≠ (TJ7 b).2.1 := by decide +kernel
theorem tyJ7_ok : ∀ k, k < 0 → parseFieldDescriptor (TJ7 k).2.2.1 = some (tyJ7 k) := by decide +kernel
abbrev cJ7_fill_53178 : ByteArray := prog_17_method_103_code
def yJ7_fill_53178 : MethodName := ⟨RJ7, "fill", "([II)V"⟩
def RL : String := "NineBagsLaw"
abbrev cL_law : ByteArray := code
def yL_law : MethodName := ⟨RL, "law", "([I)Z"⟩
abbrev vwCl : List vw_C := [(RX0, TX0, 5), (RX1, TX1, 1), (RX2, TX2, 6), (RX3, TX3, 13), (RX4, TX4, 5), (RX5, TX5, 6), (RX6, TX6, 4), (RX7, TX7, 4), (RX8, TX8, 2), (RX9, TX9, 1), (RX10, TX10, 11), (RX11, TX11, 42)]
set_option maxRecDepth 20000 in
theorem inX0 : ∀ w ∈ wsX00, w ∈ lw_tbl := fun w h => (goodIn_r wsX00 [257, 259, 261, 263, 265] (by decide +kernel) (by decide +kernel) w h).1
set_option maxRecDepth 20000 in
theorem gdX0 : ∀ w ∈ wsX00, goodWord w = true := by decide +kernel
set_option maxRecDepth 20000 in
theorem inX1 : ∀ w ∈ wsX10, w ∈ lw_tbl := fun w h => (goodIn_r wsX10 [116] (by decide +kernel) (by decide +kernel) w h).1
set_option maxRecDepth 20000 in
theorem gdX1 : ∀ w ∈ wsX10, goodWord w = true := by decide +kernel
set_option maxRecDepth 20000 in
theorem inX2 : ∀ w ∈ wsX20, w ∈ lw_tbl := fun w h => (goodIn_r wsX20 [164, 166, 168, 170, 172, 174] (by decide +kernel) (by decide +kernel) w h).1
set_option maxRecDepth 20000 in
theorem gdX2 : ∀ w ∈ wsX20, goodWord w = true := by decide +kernel
set_option maxRecDepth 20000 in
theorem inX3 : ∀ w ∈ wsX30, w ∈ lw_tbl := fun w h => (goodIn_r wsX30 [313, 315, 317, 319, 321, 323, 325, 327, 329, 331, 333, 335, 337] (by decide +kernel) (by decide +kernel) w h).1
set_option maxRecDepth 20000 in
theorem gdX3 : ∀ w ∈ wsX30, goodWord w = true := by decide +kernel
set_option maxRecDepth 20000 in
theorem inX4 : ∀ w ∈ wsX40, w ∈ lw_tbl := fun w h => (goodIn_r wsX40 [140, 142, 144, 146, 148] (by decide +kernel) (by decide +kernel) w h).1
set_option maxRecDepth 20000 in
theorem gdX4 : ∀ w ∈ wsX40, goodWord w = true := by decide +kernel
set_option maxRecDepth 20000 in
theorem inX5 : ∀ w ∈ wsX50, w ∈ lw_tbl := fun w h => (goodIn_r wsX50 [95, 97, 99, 101, 103, 105] (by decide +kernel) (by decide +kernel) w h).1
set_option maxRecDepth 20000 in
theorem gdX5 : ∀ w ∈ wsX50, goodWord w = true := by decide +kernel
set_option maxRecDepth 20000 in
theorem inX6 : ∀ w ∈ wsX60, w ∈ lw_tbl := fun w h => (goodIn_r wsX60 [233, 235, 237, 239] (by decide +kernel) (by decide +kernel) w h).1
set_option maxRecDepth 20000 in
theorem gdX6 : ∀ w ∈ wsX60, goodWord w = true := by decide +kernel
set_option maxRecDepth 20000 in
theorem inX7 : ∀ w ∈ wsX70, w ∈ lw_tbl := fun w h => (goodIn_r wsX70 [191, 193, 195, 197] (by decide +kernel) (by decide +kernel) w h).1
set_option maxRecDepth 20000 in
theorem gdX7 : ∀ w ∈ wsX70, goodWord w = true := by decide +kernel
set_option maxRecDepth 20000 in
theorem inX8 : ∀ w ∈ wsX80, w ∈ lw_tbl := fun w h => (goodIn_r wsX80 [222, 224] (by decide +kernel) (by decide +kernel) w h).1
set_option maxRecDepth 20000 in
theorem gdX8 : ∀ w ∈ wsX80, goodWord w = true := by decide +kernel
set_option maxRecDepth 20000 in
theorem inX9 : ∀ w ∈ wsX90, w ∈ lw_tbl := fun w h => (goodIn_r wsX90 [126] (by decide +kernel) (by decide +kernel) w h).1
set_option maxRecDepth 20000 in
theorem gdX9 : ∀ w ∈ wsX90, goodWord w = true := by decide +kernel
set_option maxRecDepth 20000 in
theorem inX10 : ∀ w ∈ wsX100, w ∈ lw_tbl := fun w h => (goodIn_r wsX100 [351, 353, 355, 357, 359, 361, 363, 365, 367, 369, 371] (by decide +kernel) (by decide +kernel) w h).1
set_option maxRecDepth 20000 in
theorem gdX10 : ∀ w ∈ wsX100, goodWord w = true := by decide +kernel
set_option maxRecDepth 20000 in
theorem inX11 : ∀ w ∈ wsX110, w ∈ lw_tbl := fun w h => (goodIn_r wsX110 [1023, 1025, 1027, 1029, 1031, 1033, 1035, 1037, 1039, 1041, 1043, 1045, 1047, 1049, 1051, 1053, 1055, 1057, 1059, 1061, 1063, 1065, 1067, 1069, 1071, 1073, 1075, 1077, 1079, 1081, 1083, 1085, 1087, 1089, 1091, 1093, 1095, 1097, 1099, 1101, 1103, 1105] (by decide +kernel) (by decide +kernel) w h).1
set_option maxRecDepth 20000 in
theorem gdX11 : ∀ w ∈ wsX110, goodWord w = true := by decide +kernel
