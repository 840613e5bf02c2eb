/-! ===== BEGIN words of one list among another's, by their places ===== -/
theorem goodIn_r {big : List Cond} (ws : List Cond) (ps : List Nat) (hp : ws = ps.filterMap (fun i => big[i]?)) (h : ws.all goodWord = true) : GoodIn big ws := by
  intro w hw
  have h1 := List.all_eq_true.mp h w hw
  rw [hp] at hw
  obtain ⟨i, -, hi⟩ := List.mem_filterMap.mp hw
  have hm : w ∈ big := by first | exact List.mem_of_getElem? hi | exact List.getElem?_mem hi
  exact ⟨hm, good_of_word h1⟩
theorem goodIn_app {big a b : List Cond} (ha : GoodIn big a) (hb : GoodIn big b) : GoodIn big (a ++ b) := fun w h => (List.mem_append.mp h).elim (ha w) (hb w)
theorem goodIn_ca {big a b : List Cond} {c : Cond} (ha : GoodIn big (c :: a)) (hb : GoodIn big b) : GoodIn big (c :: (a ++ b)) := fun w h => (List.mem_cons.mp h).elim (fun e => ha w (List.mem_cons.mpr (Or.inl e))) (fun h => (List.mem_append.mp h).elim (fun h => ha w (List.mem_cons.mpr (Or.inr h))) (hb w))
theorem goodIn_sub {big ws : List Cond} (hm : ∀ w ∈ ws, w ∈ big) (h : ws.all goodWord = true) : GoodIn big ws := fun w hw => ⟨hm w hw, good_of_word (List.all_eq_true.mp h w hw)⟩
/-! ===== END ===== -/

/-! ===== BEGIN printed: names, fields, word lists, decode rows ===== -/
def RX0 : String := "DimBooks$Choice"
def TX0 : u_T := fun k => match k with
  | 0 => ("DimBooks$Choice", "set", "I", false)
  | 1 => ("DimBooks$Choice", "sum", "I", false)
  | _ => ("DimBooks$Choice", "lost", "I", false)
def tyX0 : Nat → FieldType := fun k => match k with
  | 0 => .int
  | 1 => .int
  | _ => .int
abbrev wsX00 : List Cond := u_ws RX0 TX0 3
theorem nmX0 : ∀ a, a < 3 → ∀ b, b < 3 → a ≠ b → (TX0 a).2.1 ≠ (TX0 b).2.1 := by decide +kernel
theorem tyX0_ok : ∀ k, k < 3 → parseFieldDescriptor (TX0 k).2.2.1 = some (tyX0 k) := by decide +kernel
abbrev cX0_init : ByteArray := prog_2_method_1_code
def yX0_init : MethodName := ⟨RX0, "<init>", "()V"⟩
abbrev cX0_clear : ByteArray := prog_2_method_2_code
def yX0_clear : MethodName := ⟨RX0, "clear", "()V"⟩
abbrev cX0_addLine : ByteArray := prog_2_method_3_code
def yX0_addLine : MethodName := ⟨RX0, "addLine", "(IIIZ)V"⟩
def RX1 : String := "DimBooks$Library"
def TX1 : u_T := fun k => match k with
  | 0 => ("DimBooks$Library", "worths", "[I", true)
  | 1 => ("DimBooks$Library", "firstShades", "[I", true)
  | 2 => ("DimBooks$Library", "kinds", "[I", true)
  | 3 => ("DimBooks$Library", "terms", "[I", true)
  | 4 => ("DimBooks$Library", "lines", "I", false)
  | 5 => ("DimBooks$Library", "readers", "I", false)
  | 6 => ("DimBooks$Library", "error", "I", false)
  | _ => ("DimBooks$Library", "errorTold", "Z", false)
def tyX1 : Nat → FieldType := fun k => match k with
  | 0 => .array .int
  | 1 => .array .int
  | 2 => .array .int
  | 3 => .array .int
  | 4 => .int
  | 5 => .int
  | 6 => .int
  | _ => .boolean
abbrev wsX10 : List Cond := u_ws RX1 TX1 8
theorem nmX1 : ∀ a, a < 8 → ∀ b, b < 8 → a ≠ b → (TX1 a).2.1 ≠ (TX1 b).2.1 := by decide +kernel
theorem tyX1_ok : ∀ k, k < 8 → parseFieldDescriptor (TX1 k).2.2.1 = some (tyX1 k) := by decide +kernel
abbrev cX1_init : ByteArray := prog_3_method_1_code
def yX1_init : MethodName := ⟨RX1, "<init>", "()V"⟩
abbrev cX1_clear : ByteArray := prog_3_method_2_code
def yX1_clear : MethodName := ⟨RX1, "clear", "()V"⟩
abbrev cX1_copyFrom : ByteArray := prog_3_method_3_code
def yX1_copyFrom : MethodName := ⟨RX1, "copyFrom", "(LDimBooks$Library;)V"⟩
abbrev cX1_addLine : ByteArray := prog_3_method_4_code
def yX1_addLine : MethodName := ⟨RX1, "addLine", "(II)V"⟩
abbrev cX1_addReader : ByteArray := prog_3_method_5_code
def yX1_addReader : MethodName := ⟨RX1, "addReader", "(II)V"⟩
abbrev cX1_tellError : ByteArray := prog_3_method_6_code
def yX1_tellError : MethodName := ⟨RX1, "tellError", "(I)V"⟩
abbrev cX1_hasLine : ByteArray := prog_3_method_7_code
def yX1_hasLine : MethodName := ⟨RX1, "hasLine", "(I)Z"⟩
abbrev cX1_hasReader : ByteArray := prog_3_method_8_code
def yX1_hasReader : MethodName := ⟨RX1, "hasReader", "(I)Z"⟩
abbrev cX1_readersOfKind : ByteArray := prog_3_method_9_code
def yX1_readersOfKind : MethodName := ⟨RX1, "readersOfKind", "(I)I"⟩
def RX2 : String := "DimBooks$Log"
def TX2 : u_T := fun k => match k with
  | 0 => ("DimBooks$Log", "days", "[I", true)
  | 1 => ("DimBooks$Log", "pages", "[I", true)
  | 2 => ("DimBooks$Log", "readers", "[I", true)
  | _ => ("DimBooks$Log", "count", "I", false)
def tyX2 : Nat → FieldType := fun k => match k with
  | 0 => .array .int
  | 1 => .array .int
  | 2 => .array .int
  | _ => .int
abbrev wsX20 : List Cond := u_ws RX2 TX2 4
theorem nmX2 : ∀ a, a < 4 → ∀ b, b < 4 → a ≠ b → (TX2 a).2.1 ≠ (TX2 b).2.1 := by decide +kernel
theorem tyX2_ok : ∀ k, k < 4 → parseFieldDescriptor (TX2 k).2.2.1 = some (tyX2 k) := by decide +kernel
abbrev cX2_init : ByteArray := prog_4_method_1_code
def yX2_init : MethodName := ⟨RX2, "<init>", "()V"⟩
abbrev cX2_add : ByteArray := prog_4_method_2_code
def yX2_add : MethodName := ⟨RX2, "add", "(III)V"⟩
abbrev cX2_timesRead : ByteArray := prog_4_method_3_code
def yX2_timesRead : MethodName := ⟨RX2, "timesRead", "(I)I"⟩
abbrev cX2_copyFrom : ByteArray := prog_4_method_4_code
def yX2_copyFrom : MethodName := ⟨RX2, "copyFrom", "(LDimBooks$Log;)V"⟩
def RX3 : String := "DimBooks$Requests"
def TX3 : u_T := fun k => match k with
  | 0 => ("DimBooks$Requests", "readers", "[I", true)
  | 1 => ("DimBooks$Requests", "lines", "[I", true)
  | 2 => ("DimBooks$Requests", "worths", "[I", true)
  | _ => ("DimBooks$Requests", "count", "I", false)
def tyX3 : Nat → FieldType := fun k => match k with
  | 0 => .array .int
  | 1 => .array .int
  | 2 => .array .int
  | _ => .int
abbrev wsX30 : List Cond := u_ws RX3 TX3 4
theorem nmX3 : ∀ a, a < 4 → ∀ b, b < 4 → a ≠ b → (TX3 a).2.1 ≠ (TX3 b).2.1 := by decide +kernel
theorem tyX3_ok : ∀ k, k < 4 → parseFieldDescriptor (TX3 k).2.2.1 = some (tyX3 k) := by decide +kernel
abbrev cX3_init : ByteArray := prog_5_method_1_code
def yX3_init : MethodName := ⟨RX3, "<init>", "()V"⟩
abbrev cX3_add : ByteArray := prog_5_method_2_code
def yX3_add : MethodName := ⟨RX3, "add", "(III)I"⟩
abbrev cX3_forLine : ByteArray := prog_5_method_3_code
def yX3_forLine : MethodName := ⟨RX3, "forLine", "(I)I"⟩
abbrev cX3_fulfil : ByteArray := prog_5_method_4_code
def yX3_fulfil : MethodName := ⟨RX3, "fulfil", "(ILDimBooks$State;)I"⟩
def RX4 : String := "DimBooks$Script"
def TX4 : u_T := fun k => match k with
  | 0 => ("DimBooks$Script", "bytes", "[I", true)
  | 1 => ("DimBooks$Script", "length", "I", false)
  | 2 => ("DimBooks$Script", "fault", "I", false)
  | 3 => ("DimBooks$Script", "faultAt", "I", false)
  | _ => ("DimBooks$Script", "at", "I", false)
def tyX4 : Nat → FieldType := fun k => match k with
  | 0 => .array .int
  | 1 => .int
  | 2 => .int
  | 3 => .int
  | _ => .int
abbrev wsX40 : List Cond := u_ws RX4 TX4 5
theorem nmX4 : ∀ a, a < 5 → ∀ b, b < 5 → a ≠ b → (TX4 a).2.1 ≠ (TX4 b).2.1 := by decide +kernel
theorem tyX4_ok : ∀ k, k < 5 → parseFieldDescriptor (TX4 k).2.2.1 = some (tyX4 k) := by decide +kernel
abbrev cX4_init : ByteArray := prog_6_method_1_code
def yX4_init : MethodName := ⟨RX4, "<init>", "()V"⟩
abbrev cX4_append : ByteArray := prog_6_method_2_code
def yX4_append : MethodName := ⟨RX4, "append", "(I)V"⟩
abbrev cX4_parseInto : ByteArray := prog_6_method_3_code
def yX4_parseInto : MethodName := ⟨RX4, "parseInto", "(LDimBooks$Library;)V"⟩
abbrev cX4_parseClause : ByteArray := prog_6_method_4_code
def yX4_parseClause : MethodName := ⟨RX4, "parseClause", "(LDimBooks$Library;)V"⟩
abbrev cX4_parseLine : ByteArray := prog_6_method_5_code
def yX4_parseLine : MethodName := ⟨RX4, "parseLine", "(LDimBooks$Library;I)V"⟩
abbrev cX4_parseReader : ByteArray := prog_6_method_6_code
def yX4_parseReader : MethodName := ⟨RX4, "parseReader", "(LDimBooks$Library;I)V"⟩
abbrev cX4_parseError : ByteArray := prog_6_method_7_code
def yX4_parseError : MethodName := ⟨RX4, "parseError", "(LDimBooks$Library;I)V"⟩
abbrev cX4_takeKind : ByteArray := prog_6_method_8_code
def yX4_takeKind : MethodName := ⟨RX4, "takeKind", "()I"⟩
abbrev cX4_takeNumber : ByteArray := prog_6_method_9_code
def yX4_takeNumber : MethodName := ⟨RX4, "takeNumber", "(II)I"⟩
abbrev cX4_takeEnd : ByteArray := prog_6_method_10_code
def yX4_takeEnd : MethodName := ⟨RX4, "takeEnd", "()V"⟩
abbrev cX4_skipBlanks : ByteArray := prog_6_method_11_code
def yX4_skipBlanks : MethodName := ⟨RX4, "skipBlanks", "()V"⟩
abbrev cX4_wordEnd : ByteArray := prog_6_method_12_code
def yX4_wordEnd : MethodName := ⟨RX4, "wordEnd", "()I"⟩
abbrev cX4_spells : ByteArray := prog_6_method_13_code
def yX4_spells : MethodName := ⟨RX4, "spells", "(IILjava/lang/String;)Z"⟩
abbrev cX4_isFigure : ByteArray := prog_6_method_14_code
def yX4_isFigure : MethodName := ⟨RX4, "isFigure", "(I)Z"⟩
abbrev cX4_fail : ByteArray := prog_6_method_15_code
def yX4_fail : MethodName := ⟨RX4, "fail", "(II)V"⟩
def RX5 : String := "DimBooks$State"
def TX5 : u_T := fun k => match k with
  | 0 => ("DimBooks$State", "lib", "LDimBooks$Library;", true)
  | 1 => ("DimBooks$State", "log", "LDimBooks$Log;", true)
  | 2 => ("DimBooks$State", "lineOf", "[I", true)
  | 3 => ("DimBooks$State", "variantOf", "[I", true)
  | 4 => ("DimBooks$State", "shadeOf", "[I", true)
  | 5 => ("DimBooks$State", "writerOf", "[I", true)
  | 6 => ("DimBooks$State", "variantHeld", "[I", true)
  | 7 => ("DimBooks$State", "daySince", "[I", true)
  | 8 => ("DimBooks$State", "entryShades", "[I", true)
  | 9 => ("DimBooks$State", "pages", "I", false)
  | 10 => ("DimBooks$State", "day", "I", false)
  | _ => ("DimBooks$State", "seed", "I", false)
def tyX5 : Nat → FieldType := fun k => match k with
  | 0 => .object "DimBooks$Library"
  | 1 => .object "DimBooks$Log"
  | 2 => .array .int
  | 3 => .array .int
  | 4 => .array .int
  | 5 => .array .int
  | 6 => .array .int
  | 7 => .array .int
  | 8 => .array .int
  | 9 => .int
  | 10 => .int
  | _ => .int
abbrev wsX50 : List Cond := u_ws RX5 TX5 12
theorem nmX5 : ∀ a, a < 12 → ∀ b, b < 12 → a ≠ b → (TX5 a).2.1 ≠ (TX5 b).2.1 := by decide +kernel
theorem tyX5_ok : ∀ k, k < 12 → parseFieldDescriptor (TX5 k).2.2.1 = some (tyX5 k) := by decide +kernel
abbrev cX5_init : ByteArray := prog_7_method_1_code
def yX5_init : MethodName := ⟨RX5, "<init>", "(LDimBooks$Library;)V"⟩
abbrev cX5_open : ByteArray := prog_7_method_2_code
def yX5_open : MethodName := ⟨RX5, "open", "()V"⟩
abbrev cX5_copyFrom : ByteArray := prog_7_method_3_code
def yX5_copyFrom : MethodName := ⟨RX5, "copyFrom", "(LDimBooks$State;)V"⟩
abbrev cX5_copyBooks : ByteArray := prog_7_method_4_code
def yX5_copyBooks : MethodName := ⟨RX5, "copyBooks", "(LDimBooks$State;)V"⟩
abbrev cX5_hasPage : ByteArray := prog_7_method_5_code
def yX5_hasPage : MethodName := ⟨RX5, "hasPage", "(I)Z"⟩
abbrev cX5_isGone : ByteArray := prog_7_method_6_code
def yX5_isGone : MethodName := ⟨RX5, "isGone", "(I)Z"⟩
abbrev cX5_isFull : ByteArray := prog_7_method_7_code
def yX5_isFull : MethodName := ⟨RX5, "isFull", "()Z"⟩
abbrev cX5_heart : ByteArray := prog_7_method_8_code
def yX5_heart : MethodName := ⟨RX5, "heart", "(II)I"⟩
abbrev cX5_variantAt : ByteArray := prog_7_method_9_code
def yX5_variantAt : MethodName := ⟨RX5, "variantAt", "(III)I"⟩
abbrev cX5_variantKnown : ByteArray := prog_7_method_10_code
def yX5_variantKnown : MethodName := ⟨RX5, "variantKnown", "(II)I"⟩
abbrev cX5_knowsAny : ByteArray := prog_7_method_11_code
def yX5_knowsAny : MethodName := ⟨RX5, "knowsAny", "(II)Z"⟩
abbrev cX5_dayLearnt : ByteArray := prog_7_method_12_code
def yX5_dayLearnt : MethodName := ⟨RX5, "dayLearnt", "(II)I"⟩
abbrev cX5_learn : ByteArray := prog_7_method_13_code
def yX5_learn : MethodName := ⟨RX5, "learn", "(III)V"⟩
abbrev cX5_readPage : ByteArray := prog_7_method_14_code
def yX5_readPage : MethodName := ⟨RX5, "readPage", "(II)V"⟩
abbrev cX5_addPage : ByteArray := prog_7_method_15_code
def yX5_addPage : MethodName := ⟨RX5, "addPage", "(III)I"⟩
abbrev cX5_draw : ByteArray := prog_7_method_16_code
def yX5_draw : MethodName := ⟨RX5, "draw", "(I)I"⟩
abbrev cX5_daysAhead : ByteArray := prog_7_method_17_code
def yX5_daysAhead : MethodName := ⟨RX5, "daysAhead", "(I)I"⟩
abbrev cX5_passDusks : ByteArray := prog_7_method_18_code
def yX5_passDusks : MethodName := ⟨RX5, "passDusks", "(I)V"⟩
abbrev cX5_liveByDraws : ByteArray := prog_7_method_19_code
def yX5_liveByDraws : MethodName := ⟨RX5, "liveByDraws", "(I)V"⟩
abbrev cX5_isKept : ByteArray := prog_7_method_20_code
def yX5_isKept : MethodName := ⟨RX5, "isKept", "(II)Z"⟩
abbrev cX5_countKept : ByteArray := prog_7_method_21_code
def yX5_countKept : MethodName := ⟨RX5, "countKept", "(I)I"⟩
abbrev cX5_countGone : ByteArray := prog_7_method_22_code
def yX5_countGone : MethodName := ⟨RX5, "countGone", "()I"⟩
abbrev cX5_isLeft : ByteArray := prog_7_method_23_code
def yX5_isLeft : MethodName := ⟨RX5, "isLeft", "(II)Z"⟩
abbrev cX5_pagesLeft : ByteArray := prog_7_method_24_code
def yX5_pagesLeft : MethodName := ⟨RX5, "pagesLeft", "(I)I"⟩
abbrev cX5_pagesLeftWith : ByteArray := prog_7_method_25_code
def yX5_pagesLeftWith : MethodName := ⟨RX5, "pagesLeftWith", "(II)I"⟩
abbrev cX5_truePages : ByteArray := prog_7_method_26_code
def yX5_truePages : MethodName := ⟨RX5, "truePages", "(I)I"⟩
abbrev cX5_trueReadingsLeft : ByteArray := prog_7_method_27_code
def yX5_trueReadingsLeft : MethodName := ⟨RX5, "trueReadingsLeft", "(I)I"⟩
abbrev cX5_firstPage : ByteArray := prog_7_method_28_code
def yX5_firstPage : MethodName := ⟨RX5, "firstPage", "(I)I"⟩
abbrev cX5_darkestPage : ByteArray := prog_7_method_29_code
def yX5_darkestPage : MethodName := ⟨RX5, "darkestPage", "(I)I"⟩
abbrev cX5_knowers : ByteArray := prog_7_method_30_code
def yX5_knowers : MethodName := ⟨RX5, "knowers", "(I)I"⟩
abbrev cX5_knowersOf : ByteArray := prog_7_method_31_code
def yX5_knowersOf : MethodName := ⟨RX5, "knowersOf", "(II)I"⟩
abbrev cX5_trueKnowers : ByteArray := prog_7_method_32_code
def yX5_trueKnowers : MethodName := ⟨RX5, "trueKnowers", "(I)I"⟩
abbrev cX5_linesKnown : ByteArray := prog_7_method_33_code
def yX5_linesKnown : MethodName := ⟨RX5, "linesKnown", "(I)I"⟩
abbrev cX5_voteOn : ByteArray := prog_7_method_34_code
def yX5_voteOn : MethodName := ⟨RX5, "voteOn", "(I)I"⟩
abbrev cX5_canBeCopied : ByteArray := prog_7_method_35_code
def yX5_canBeCopied : MethodName := ⟨RX5, "canBeCopied", "(III)Z"⟩
abbrev cX5_firstWriter : ByteArray := prog_7_method_36_code
def yX5_firstWriter : MethodName := ⟨RX5, "firstWriter", "(II)I"⟩
def RX6 : String := "DimBooks"
def TX6 : u_T := fun k => match k with
  | 0 => ("DimBooks", "script", "LDimBooks$Script;", true)
  | 1 => ("DimBooks", "draft", "LDimBooks$Library;", true)
  | 2 => ("DimBooks", "lib", "LDimBooks$Library;", true)
  | 3 => ("DimBooks", "now", "LDimBooks$State;", true)
  | 4 => ("DimBooks", "trial", "LDimBooks$State;", true)
  | 5 => ("DimBooks", "images", "[LDimBooks$State;", true)
  | 6 => ("DimBooks", "imagesKept", "I", false)
  | 7 => ("DimBooks", "requests", "LDimBooks$Requests;", true)
  | 8 => ("DimBooks", "choice", "LDimBooks$Choice;", true)
  | 9 => ("DimBooks", "diary", "[I", true)
  | 10 => ("DimBooks", "entries", "I", false)
  | _ => ("DimBooks", "odds", "[I", true)
def tyX6 : Nat → FieldType := fun k => match k with
  | 0 => .object "DimBooks$Script"
  | 1 => .object "DimBooks$Library"
  | 2 => .object "DimBooks$Library"
  | 3 => .object "DimBooks$State"
  | 4 => .object "DimBooks$State"
  | 5 => .array (.object "DimBooks$State")
  | 6 => .int
  | 7 => .object "DimBooks$Requests"
  | 8 => .object "DimBooks$Choice"
  | 9 => .array .int
  | 10 => .int
  | _ => .array .int
abbrev wsX60 : List Cond := u_ws RX6 TX6 12
theorem nmX6 : ∀ a, a < 12 → ∀ b, b < 12 → a ≠ b → (TX6 a).2.1 ≠ (TX6 b).2.1 := by decide +kernel
theorem tyX6_ok : ∀ k, k < 12 → parseFieldDescriptor (TX6 k).2.2.1 = some (tyX6 k) := by decide +kernel
abbrev cX6_init : ByteArray := prog_1_method_1_code
def yX6_init : MethodName := ⟨RX6, "<init>", "()V"⟩
abbrev cX6_feed : ByteArray := prog_1_method_2_code
def yX6_feed : MethodName := ⟨RX6, "feed", "(IJ)I"⟩
abbrev cX6_library : ByteArray := prog_1_method_3_code
def yX6_library : MethodName := ⟨RX6, "library", "()I"⟩
abbrev cX6_fault : ByteArray := prog_1_method_4_code
def yX6_fault : MethodName := ⟨RX6, "fault", "()I"⟩
abbrev cX6_told : ByteArray := prog_1_method_5_code
def yX6_told : MethodName := ⟨RX6, "told", "(I)I"⟩
abbrev cX6_line : ByteArray := prog_1_method_6_code
def yX6_line : MethodName := ⟨RX6, "line", "(II)I"⟩
abbrev cX6_reader : ByteArray := prog_1_method_7_code
def yX6_reader : MethodName := ⟨RX6, "reader", "(II)I"⟩
abbrev cX6_page : ByteArray := prog_1_method_8_code
def yX6_page : MethodName := ⟨RX6, "page", "(II)I"⟩
abbrev cX6_knows : ByteArray := prog_1_method_9_code
def yX6_knows : MethodName := ⟨RX6, "knows", "(III)I"⟩
abbrev cX6_reading : ByteArray := prog_1_method_10_code
def yX6_reading : MethodName := ⟨RX6, "reading", "(II)I"⟩
abbrev cX6_read : ByteArray := prog_1_method_11_code
def yX6_read : MethodName := ⟨RX6, "read", "(II)I"⟩
abbrev cX6_copy : ByteArray := prog_1_method_12_code
def yX6_copy : MethodName := ⟨RX6, "copy", "(II)I"⟩
abbrev cX6_write : ByteArray := prog_1_method_13_code
def yX6_write : MethodName := ⟨RX6, "write", "(II)I"⟩
abbrev cX6_teach : ByteArray := prog_1_method_14_code
def yX6_teach : MethodName := ⟨RX6, "teach", "(III)I"⟩
abbrev cX6_dusk : ByteArray := prog_1_method_15_code
def yX6_dusk : MethodName := ⟨RX6, "dusk", "(I)I"⟩
abbrev cX6_run : ByteArray := prog_1_method_16_code
def yX6_run : MethodName := ⟨RX6, "run", "(I)I"⟩
abbrev cX6_where : ByteArray := prog_1_method_17_code
def yX6_where : MethodName := ⟨RX6, "where", "(I)I"⟩
abbrev cX6_request : ByteArray := prog_1_method_18_code
def yX6_request : MethodName := ⟨RX6, "request", "(III)I"⟩
abbrev cX6_forget : ByteArray := prog_1_method_19_code
def yX6_forget : MethodName := ⟨RX6, "forget", "()I"⟩
abbrev cX6_grant : ByteArray := prog_1_method_20_code
def yX6_grant : MethodName := ⟨RX6, "grant", "(I)I"⟩
abbrev cX6_best : ByteArray := prog_1_method_21_code
def yX6_best : MethodName := ⟨RX6, "best", "(II)I"⟩
abbrev cX6_chooseFor : ByteArray := prog_1_method_22_code
def yX6_chooseFor : MethodName := ⟨RX6, "chooseFor", "(II)V"⟩
abbrev cX6_toKnow : ByteArray := prog_1_method_23_code
def yX6_toKnow : MethodName := ⟨RX6, "toKnow", "(II)I"⟩
abbrev cX6_fewestToKnow : ByteArray := prog_1_method_24_code
def yX6_fewestToKnow : MethodName := ⟨RX6, "fewestToKnow", "(II)I"⟩
abbrev cX6_pagesAllow : ByteArray := prog_1_method_25_code
def yX6_pagesAllow : MethodName := ⟨RX6, "pagesAllow", "(II)Z"⟩
abbrev cX6_life : ByteArray := prog_1_method_26_code
def yX6_life : MethodName := ⟨RX6, "life", "(III)I"⟩
abbrev cX6_right : ByteArray := prog_1_method_27_code
def yX6_right : MethodName := ⟨RX6, "right", "(I)I"⟩
abbrev cX6_claim : ByteArray := prog_1_method_28_code
def yX6_claim : MethodName := ⟨RX6, "claim", "(III)I"⟩
abbrev cX6_whence : ByteArray := prog_1_method_29_code
def yX6_whence : MethodName := ⟨RX6, "whence", "(II)I"⟩
abbrev cX6_span : ByteArray := prog_1_method_30_code
def yX6_span : MethodName := ⟨RX6, "span", "(III)I"⟩
abbrev cX6_note : ByteArray := prog_1_method_31_code
def yX6_note : MethodName := ⟨RX6, "note", "(I)I"⟩
abbrev cX6_tear : ByteArray := prog_1_method_32_code
def yX6_tear : MethodName := ⟨RX6, "tear", "()I"⟩
abbrev cX6_judge : ByteArray := prog_1_method_33_code
def yX6_judge : MethodName := ⟨RX6, "judge", "()I"⟩
abbrev cX6_seed : ByteArray := prog_1_method_34_code
def yX6_seed : MethodName := ⟨RX6, "seed", "(I)I"⟩
abbrev cX6_keep : ByteArray := prog_1_method_35_code
def yX6_keep : MethodName := ⟨RX6, "keep", "(I)I"⟩
abbrev cX6_goBack : ByteArray := prog_1_method_36_code
def yX6_goBack : MethodName := ⟨RX6, "goBack", "(I)I"⟩
abbrev cX6_has : ByteArray := prog_1_method_37_code
def yX6_has : MethodName := ⟨RX6, "has", "(II)Z"⟩
abbrev cX6_isSetOf : ByteArray := prog_1_method_38_code
def yX6_isSetOf : MethodName := ⟨RX6, "isSetOf", "(II)Z"⟩
def RX7 : String := "DimBooksModel"
def TX7 : u_T := fun k => match k with
  | 0 => ("DimBooksModel", "w", "[I", true)
  | 1 => ("DimBooksModel", "isKept", "[Z", true)
  | 2 => ("DimBooksModel", "worths", "[I", true)
  | 3 => ("DimBooksModel", "shades", "[I", true)
  | 4 => ("DimBooksModel", "kinds", "[I", true)
  | 5 => ("DimBooksModel", "fades", "[I", true)
  | 6 => ("DimBooksModel", "many", "[I", true)
  | 7 => ("DimBooksModel", "error", "I", false)
  | 8 => ("DimBooksModel", "newError", "I", false)
  | 9 => ("DimBooksModel", "isTold", "Z", false)
  | 10 => ("DimBooksModel", "text", "[I", true)
  | 11 => ("DimBooksModel", "textSize", "I", false)
  | 12 => ("DimBooksModel", "at", "I", false)
  | 13 => ("DimBooksModel", "first", "I", false)
  | 14 => ("DimBooksModel", "length", "I", false)
  | 15 => ("DimBooksModel", "faultOf", "I", false)
  | 16 => ("DimBooksModel", "fault", "I", false)
  | 17 => ("DimBooksModel", "requests", "I", false)
  | 18 => ("DimBooksModel", "asker", "[I", true)
  | 19 => ("DimBooksModel", "asked", "[I", true)
  | 20 => ("DimBooksModel", "offered", "[I", true)
  | 21 => ("DimBooksModel", "lostBy", "I", false)
  | 22 => ("DimBooksModel", "odds", "[I", true)
  | 23 => ("DimBooksModel", "notes", "[I", true)
  | _ => ("DimBooksModel", "noted", "I", false)
def tyX7 : Nat → FieldType := fun k => match k with
  | 0 => .array .int
  | 1 => .array .boolean
  | 2 => .array .int
  | 3 => .array .int
  | 4 => .array .int
  | 5 => .array .int
  | 6 => .array .int
  | 7 => .int
  | 8 => .int
  | 9 => .boolean
  | 10 => .array .int
  | 11 => .int
  | 12 => .int
  | 13 => .int
  | 14 => .int
  | 15 => .int
  | 16 => .int
  | 17 => .int
  | 18 => .array .int
  | 19 => .array .int
  | 20 => .array .int
  | 21 => .int
  | 22 => .array .int
  | 23 => .array .int
  | _ => .int
abbrev wsX70 : List Cond := u_ws RX7 TX7 25
theorem nmX7 : ∀ a, a < 25 → ∀ b, b < 25 → a ≠ b → (TX7 a).2.1 ≠ (TX7 b).2.1 := by decide +kernel
theorem tyX7_ok : ∀ k, k < 25 → parseFieldDescriptor (TX7 k).2.2.1 = some (tyX7 k) := by decide +kernel
abbrev cX7_init : ByteArray := prog_9_method_1_code
def yX7_init : MethodName := ⟨RX7, "<init>", "()V"⟩
abbrev cX7_in : ByteArray := prog_9_method_3_code
def yX7_in : MethodName := ⟨RX7, "in", "(JJJ)Z"⟩
abbrev cX7_one : ByteArray := prog_9_method_4_code
def yX7_one : MethodName := ⟨RX7, "one", "(Z)I"⟩
abbrev cX7_has : ByteArray := prog_9_method_5_code
def yX7_has : MethodName := ⟨RX7, "has", "(II)Z"⟩
abbrev cX7_ones : ByteArray := prog_9_method_6_code
def yX7_ones : MethodName := ⟨RX7, "ones", "(I)I"⟩
abbrev cX7_feed : ByteArray := prog_9_method_7_code
def yX7_feed : MethodName := ⟨RX7, "feed", "(IJ)I"⟩
abbrev cX7_here : ByteArray := prog_9_method_8_code
def yX7_here : MethodName := ⟨RX7, "here", "()I"⟩
abbrev cX7_want : ByteArray := prog_9_method_9_code
def yX7_want : MethodName := ⟨RX7, "want", "(ZII)Z"⟩
abbrev cX7_takeWord : ByteArray := prog_9_method_10_code
def yX7_takeWord : MethodName := ⟨RX7, "takeWord", "()V"⟩
abbrev cX7_isWord : ByteArray := prog_9_method_11_code
def yX7_isWord : MethodName := ⟨RX7, "isWord", "(IIIIIIII)Z"⟩
abbrev cX7_takeNumber : ByteArray := prog_9_method_12_code
def yX7_takeNumber : MethodName := ⟨RX7, "takeNumber", "(II)I"⟩
abbrev cX7_kindHere : ByteArray := prog_9_method_13_code
def yX7_kindHere : MethodName := ⟨RX7, "kindHere", "()I"⟩
abbrev cX7_takeClause : ByteArray := prog_9_method_14_code
def yX7_takeClause : MethodName := ⟨RX7, "takeClause", "()V"⟩
abbrev cX7_library : ByteArray := prog_9_method_15_code
def yX7_library : MethodName := ⟨RX7, "library", "()I"⟩
abbrev cX7_fault : ByteArray := prog_9_method_16_code
def yX7_fault : MethodName := ⟨RX7, "fault", "()I"⟩
abbrev cX7_isLine : ByteArray := prog_9_method_17_code
def yX7_isLine : MethodName := ⟨RX7, "isLine", "(I)Z"⟩
abbrev cX7_isReader : ByteArray := prog_9_method_18_code
def yX7_isReader : MethodName := ⟨RX7, "isReader", "(I)Z"⟩
abbrev cX7_isPage : ByteArray := prog_9_method_19_code
def yX7_isPage : MethodName := ⟨RX7, "isPage", "(I)Z"⟩
abbrev cX7_copyRow : ByteArray := prog_9_method_20_code
def yX7_copyRow : MethodName := ⟨RX7, "copyRow", "(II)V"⟩
abbrev cX7_isKeptLine : ByteArray := prog_9_method_21_code
def yX7_isKeptLine : MethodName := ⟨RX7, "isKeptLine", "(II)Z"⟩
abbrev cX7_keptMany : ByteArray := prog_9_method_22_code
def yX7_keptMany : MethodName := ⟨RX7, "keptMany", "(I)I"⟩
abbrev cX7_told : ByteArray := prog_9_method_23_code
def yX7_told : MethodName := ⟨RX7, "told", "(I)I"⟩
abbrev cX7_pagesOf : ByteArray := prog_9_method_24_code
def yX7_pagesOf : MethodName := ⟨RX7, "pagesOf", "(I)I"⟩
abbrev cX7_knowers : ByteArray := prog_9_method_25_code
def yX7_knowers : MethodName := ⟨RX7, "knowers", "(I)I"⟩
abbrev cX7_votesFor : ByteArray := prog_9_method_26_code
def yX7_votesFor : MethodName := ⟨RX7, "votesFor", "(II)I"⟩
abbrev cX7_vote : ByteArray := prog_9_method_27_code
def yX7_vote : MethodName := ⟨RX7, "vote", "(I)I"⟩
abbrev cX7_line : ByteArray := prog_9_method_28_code
def yX7_line : MethodName := ⟨RX7, "line", "(II)I"⟩
abbrev cX7_knownBy : ByteArray := prog_9_method_29_code
def yX7_knownBy : MethodName := ⟨RX7, "knownBy", "(I)I"⟩
abbrev cX7_reader : ByteArray := prog_9_method_30_code
def yX7_reader : MethodName := ⟨RX7, "reader", "(II)I"⟩
abbrev cX7_readMany : ByteArray := prog_9_method_31_code
def yX7_readMany : MethodName := ⟨RX7, "readMany", "(I)I"⟩
abbrev cX7_page : ByteArray := prog_9_method_32_code
def yX7_page : MethodName := ⟨RX7, "page", "(II)I"⟩
abbrev cX7_knows : ByteArray := prog_9_method_33_code
def yX7_knows : MethodName := ⟨RX7, "knows", "(III)I"⟩
abbrev cX7_reading : ByteArray := prog_9_method_34_code
def yX7_reading : MethodName := ⟨RX7, "reading", "(II)I"⟩
abbrev cX7_know : ByteArray := prog_9_method_35_code
def yX7_know : MethodName := ⟨RX7, "know", "(IIII)V"⟩
abbrev cX7_readPage : ByteArray := prog_9_method_36_code
def yX7_readPage : MethodName := ⟨RX7, "readPage", "(III)V"⟩
abbrev cX7_read : ByteArray := prog_9_method_37_code
def yX7_read : MethodName := ⟨RX7, "read", "(II)I"⟩
abbrev cX7_draw : ByteArray := prog_9_method_38_code
def yX7_draw : MethodName := ⟨RX7, "draw", "(II)I"⟩
abbrev cX7_make : ByteArray := prog_9_method_39_code
def yX7_make : MethodName := ⟨RX7, "make", "(III)I"⟩
abbrev cX7_copy : ByteArray := prog_9_method_40_code
def yX7_copy : MethodName := ⟨RX7, "copy", "(II)I"⟩
abbrev cX7_write : ByteArray := prog_9_method_41_code
def yX7_write : MethodName := ⟨RX7, "write", "(II)I"⟩
abbrev cX7_teach : ByteArray := prog_9_method_42_code
def yX7_teach : MethodName := ⟨RX7, "teach", "(III)I"⟩
abbrev cX7_darken : ByteArray := prog_9_method_43_code
def yX7_darken : MethodName := ⟨RX7, "darken", "(I)V"⟩
abbrev cX7_dusk : ByteArray := prog_9_method_44_code
def yX7_dusk : MethodName := ⟨RX7, "dusk", "(I)I"⟩
abbrev cX7_runDays : ByteArray := prog_9_method_45_code
def yX7_runDays : MethodName := ⟨RX7, "runDays", "(II)V"⟩
abbrev cX7_run : ByteArray := prog_9_method_46_code
def yX7_run : MethodName := ⟨RX7, "run", "(I)I"⟩
abbrev cX7_where : ByteArray := prog_9_method_47_code
def yX7_where : MethodName := ⟨RX7, "where", "(I)I"⟩
abbrev cX7_request : ByteArray := prog_9_method_48_code
def yX7_request : MethodName := ⟨RX7, "request", "(III)I"⟩
abbrev cX7_forget : ByteArray := prog_9_method_49_code
def yX7_forget : MethodName := ⟨RX7, "forget", "()I"⟩
abbrev cX7_palest : ByteArray := prog_9_method_50_code
def yX7_palest : MethodName := ⟨RX7, "palest", "(II)I"⟩
abbrev cX7_grantAll : ByteArray := prog_9_method_51_code
def yX7_grantAll : MethodName := ⟨RX7, "grantAll", "(II)I"⟩
abbrev cX7_grant : ByteArray := prog_9_method_52_code
def yX7_grant : MethodName := ⟨RX7, "grant", "(I)I"⟩
abbrev cX7_sumBy : ByteArray := prog_9_method_53_code
def yX7_sumBy : MethodName := ⟨RX7, "sumBy", "(II)I"⟩
abbrev cX7_best : ByteArray := prog_9_method_54_code
def yX7_best : MethodName := ⟨RX7, "best", "(II)I"⟩
abbrev cX7_isTrue : ByteArray := prog_9_method_55_code
def yX7_isTrue : MethodName := ⟨RX7, "isTrue", "(II)Z"⟩
abbrev cX7_lesser : ByteArray := prog_9_method_56_code
def yX7_lesser : MethodName := ⟨RX7, "lesser", "(IIZ)I"⟩
abbrev cX7_fewest : ByteArray := prog_9_method_57_code
def yX7_fewest : MethodName := ⟨RX7, "fewest", "(II)I"⟩
abbrev cX7_toKnow : ByteArray := prog_9_method_58_code
def yX7_toKnow : MethodName := ⟨RX7, "toKnow", "(II)I"⟩
abbrev cX7_life : ByteArray := prog_9_method_59_code
def yX7_life : MethodName := ⟨RX7, "life", "(III)I"⟩
abbrev cX7_right : ByteArray := prog_9_method_60_code
def yX7_right : MethodName := ⟨RX7, "right", "(I)I"⟩
abbrev cX7_claim : ByteArray := prog_9_method_61_code
def yX7_claim : MethodName := ⟨RX7, "claim", "(III)I"⟩
abbrev cX7_whence : ByteArray := prog_9_method_62_code
def yX7_whence : MethodName := ⟨RX7, "whence", "(II)I"⟩
abbrev cX7_span : ByteArray := prog_9_method_63_code
def yX7_span : MethodName := ⟨RX7, "span", "(III)I"⟩
abbrev cX7_note : ByteArray := prog_9_method_64_code
def yX7_note : MethodName := ⟨RX7, "note", "(I)I"⟩
abbrev cX7_tear : ByteArray := prog_9_method_65_code
def yX7_tear : MethodName := ⟨RX7, "tear", "()I"⟩
abbrev cX7_judge : ByteArray := prog_9_method_66_code
def yX7_judge : MethodName := ⟨RX7, "judge", "()I"⟩
abbrev cX7_seed : ByteArray := prog_9_method_67_code
def yX7_seed : MethodName := ⟨RX7, "seed", "(I)I"⟩
abbrev cX7_keep : ByteArray := prog_9_method_68_code
def yX7_keep : MethodName := ⟨RX7, "keep", "(I)I"⟩
abbrev cX7_goBack : ByteArray := prog_9_method_69_code
def yX7_goBack : MethodName := ⟨RX7, "goBack", "(I)I"⟩
def RJx145de : String := "java/io/Serializable"
def TJx145de : u_T := fun k => match k with
  | _ => ("", "", "", false)
def tyJx145de : Nat → FieldType := fun k => match k with
  | _ => .int
abbrev wsJx145de0 : List Cond := u_ws RJx145de TJx145de 0
theorem nmJx145de : ∀ a, a < 0 → ∀ b, b < 0 → a ≠ b → (TJx145de a).2.1 ≠ (TJx145de b).2.1 := by decide +kernel
theorem tyJx145de_ok : ∀ k, k < 0 → parseFieldDescriptor (TJx145de k).2.2.1 = some (tyJx145de k) := by decide +kernel
def RJx9f9b0 : String := "java/lang/CharSequence"
def TJx9f9b0 : u_T := fun k => match k with
  | _ => ("", "", "", false)
def tyJx9f9b0 : Nat → FieldType := fun k => match k with
  | _ => .int
abbrev wsJx9f9b00 : List Cond := u_ws RJx9f9b0 TJx9f9b0 0
theorem nmJx9f9b0 : ∀ a, a < 0 → ∀ b, b < 0 → a ≠ b → (TJx9f9b0 a).2.1 ≠ (TJx9f9b0 b).2.1 := by decide +kernel
theorem tyJx9f9b0_ok : ∀ k, k < 0 → parseFieldDescriptor (TJx9f9b0 k).2.2.1 = some (tyJx9f9b0 k) := by decide +kernel
def RJxb160c : String := "java/lang/Comparable"
def TJxb160c : u_T := fun k => match k with
  | _ => ("", "", "", false)
def tyJxb160c : Nat → FieldType := fun k => match k with
  | _ => .int
abbrev wsJxb160c0 : List Cond := u_ws RJxb160c TJxb160c 0
theorem nmJxb160c : ∀ a, a < 0 → ∀ b, b < 0 → a ≠ b → (TJxb160c a).2.1 ≠ (TJxb160c b).2.1 := by decide +kernel
theorem tyJxb160c_ok : ∀ k, k < 0 → parseFieldDescriptor (TJxb160c k).2.2.1 = some (tyJxb160c k) := by decide +kernel
def RJ6 : String := "java/lang/Integer"
def TJ6 : u_T := fun k => match k with
  | _ => ("", "", "", false)
def tyJ6 : Nat → FieldType := fun k => match k with
  | _ => .int
abbrev wsJ60 : List Cond := u_ws RJ6 TJ6 0
theorem nmJ6 : ∀ a, a < 0 → ∀ b, b < 0 → a ≠ b → (TJ6 a).2.1 ≠ (TJ6 b).2.1 := by decide +kernel
theorem tyJ6_ok : ∀ k, k < 0 → parseFieldDescriptor (TJ6 k).2.2.1 = some (tyJ6 k) := by decide +kernel
abbrev cJ6_bitCount_0f7a4 : ByteArray := prog_10_method_49_code
def yJ6_bitCount_0f7a4 : MethodName := ⟨RJ6, "bitCount", "(I)I"⟩
def RJ9 : String := "java/lang/Math"
def TJ9 : u_T := fun k => match k with
  | _ => ("", "", "", false)
def tyJ9 : Nat → FieldType := fun k => match k with
  | _ => .int
abbrev wsJ90 : List Cond := u_ws RJ9 TJ9 0
theorem nmJ9 : ∀ a, a < 0 → ∀ b, b < 0 → a ≠ b → (TJ9 a).2.1 ≠ (TJ9 b).2.1 := by decide +kernel
theorem tyJ9_ok : ∀ k, k < 0 → parseFieldDescriptor (TJ9 k).2.2.1 = some (tyJ9 k) := by decide +kernel
abbrev cJ9_max_7cf53 : ByteArray := prog_11_method_65_code
def yJ9_max_7cf53 : MethodName := ⟨RJ9, "max", "(II)I"⟩
abbrev cJ9_min_7cf53 : ByteArray := prog_11_method_69_code
def yJ9_min_7cf53 : MethodName := ⟨RJ9, "min", "(II)I"⟩
def RJ0 : String := "java/lang/String"
def TJ0 : u_T := fun k => match k with
  | _ => ("", "", "", false)
def tyJ0 : Nat → FieldType := fun k => match k with
  | _ => .int
abbrev wsJ00 : List Cond := u_ws RJ0 TJ0 0
theorem nmJ0 : ∀ a, a < 0 → ∀ b, b < 0 → a ≠ b → (TJ0 a).2.1 ≠ (TJ0 b).2.1 := by decide +kernel
theorem tyJ0_ok : ∀ k, k < 0 → parseFieldDescriptor (TJ0 k).2.2.1 = some (tyJ0 k) := by decide +kernel
abbrev cJ0_length_8abf5 : ByteArray := prog_12_method_54_code
def yJ0_length_8abf5 : MethodName := ⟨RJ0, "length", "()I"⟩
abbrev cJ0_charAt_5068e : ByteArray := prog_12_method_56_code
def yJ0_charAt_5068e : MethodName := ⟨RJ0, "charAt", "(I)C"⟩
abbrev cJ0_coder_7d493 : ByteArray := prog_12_method_152_code
def yJ0_coder_7d493 : MethodName := ⟨RJ0, "coder", "()B"⟩
abbrev cJ0_isLatin1_aae02 : ByteArray := prog_12_method_154_code
def yJ0_isLatin1_aae02 : MethodName := ⟨RJ0, "isLatin1", "()Z"⟩
abbrev cJ0_checkIndex_df160 : ByteArray := prog_12_method_155_code
def yJ0_checkIndex_df160 : MethodName := ⟨RJ0, "checkIndex", "(II)V"⟩
def RJ1 : String := "java/lang/StringLatin1"
def TJ1 : u_T := fun k => match k with
  | _ => ("", "", "", false)
def tyJ1 : Nat → FieldType := fun k => match k with
  | _ => .int
abbrev wsJ10 : List Cond := u_ws RJ1 TJ1 0
theorem nmJ1 : ∀ a, a < 0 → ∀ b, b < 0 → a ≠ b → (TJ1 a).2.1 ≠ (TJ1 b).2.1 := by decide +kernel
theorem tyJ1_ok : ∀ k, k < 0 → parseFieldDescriptor (TJ1 k).2.2.1 = some (tyJ1 k) := by decide +kernel
abbrev cJ1_charAt_3b067 : ByteArray := prog_13_method_2_code
def yJ1_charAt_3b067 : MethodName := ⟨RJ1, "charAt", "([BI)C"⟩
def RJ2 : String := "java/lang/StringUTF16"
def TJ2 : u_T := fun k => match k with
  | _ => ("", "", "", false)
def tyJ2 : Nat → FieldType := fun k => match k with
  | _ => .int
abbrev wsJ20 : List Cond := u_ws RJ2 TJ2 0
theorem nmJ2 : ∀ a, a < 0 → ∀ b, b < 0 → a ≠ b → (TJ2 a).2.1 ≠ (TJ2 b).2.1 := by decide +kernel
theorem tyJ2_ok : ∀ k, k < 0 → parseFieldDescriptor (TJ2 k).2.2.1 = some (tyJ2 k) := by decide +kernel
abbrev cJ2_getChar_3b067 : ByteArray := prog_14_method_5_code
def yJ2_getChar_3b067 : MethodName := ⟨RJ2, "getChar", "([BI)C"⟩
abbrev cJ2_length_9d52b : ByteArray := prog_14_method_6_code
def yJ2_length_9d52b : MethodName := ⟨RJ2, "length", "([B)I"⟩
abbrev cJ2_charAt_3b067 : ByteArray := prog_14_method_83_code
def yJ2_charAt_3b067 : MethodName := ⟨RJ2, "charAt", "([BI)C"⟩
abbrev cJ2_checkIndex_2214a : ByteArray := prog_14_method_91_code
def yJ2_checkIndex_2214a : MethodName := ⟨RJ2, "checkIndex", "(I[B)V"⟩
def RJ10 : String := "java/lang/System"
def TJ10 : u_T := fun k => match k with
  | _ => ("", "", "", false)
def tyJ10 : Nat → FieldType := fun k => match k with
  | _ => .int
abbrev wsJ100 : List Cond := u_ws RJ10 TJ10 0
theorem nmJ10 : ∀ a, a < 0 → ∀ b, b < 0 → a ≠ b → (TJ10 a).2.1 ≠ (TJ10 b).2.1 := by decide +kernel
theorem tyJ10_ok : ∀ k, k < 0 → parseFieldDescriptor (TJ10 k).2.2.1 = some (tyJ10 k) := by decide +kernel
def RJxfd54e : String := "java/lang/constant/Constable"
def TJxfd54e : u_T := fun k => match k with
  | _ => ("", "", "", false)
def tyJxfd54e : Nat → FieldType := fun k => match k with
  | _ => .int
abbrev wsJxfd54e0 : List Cond := u_ws RJxfd54e TJxfd54e 0
theorem nmJxfd54e : ∀ a, a < 0 → ∀ b, b < 0 → a ≠ b → (TJxfd54e a).2.1 ≠ (TJxfd54e b).2.1 := by decide +kernel
theorem tyJxfd54e_ok : ∀ k, k < 0 → parseFieldDescriptor (TJxfd54e k).2.2.1 = some (tyJxfd54e k) := by decide +kernel
def RJx3cf43 : String := "java/lang/constant/ConstantDesc"
def TJx3cf43 : u_T := fun k => match k with
  | _ => ("", "", "", false)
def tyJx3cf43 : Nat → FieldType := fun k => match k with
  | _ => .int
abbrev wsJx3cf430 : List Cond := u_ws RJx3cf43 TJx3cf43 0
theorem nmJx3cf43 : ∀ a, a < 0 → ∀ b, b < 0 → a ≠ b → (TJx3cf43 a).2.1 ≠ (TJx3cf43 b).2.1 := by decide +kernel
theorem tyJx3cf43_ok : ∀ k, k < 0 → parseFieldDescriptor (TJx3cf43 k).2.2.1 = some (tyJx3cf43 k) := by decide +kernel
def RJ7 : String := "java/util/Arrays"
def TJ7 : u_T := fun k => match k with
  | _ => ("", "", "", false)
def tyJ7 : Nat → FieldType := fun k => match k with
  | _ => .int
abbrev wsJ70 : List Cond := u_ws RJ7 TJ7 0
theorem nmJ7 : ∀ a, a < 0 → ∀ b, b < 0 → a ≠ b → (TJ7 a).2.1 ≠ (TJ7 b).2.1 := by decide +kernel
theorem tyJ7_ok : ∀ k, k < 0 → parseFieldDescriptor (TJ7 k).2.2.1 = some (tyJ7 k) := by decide +kernel
abbrev cJ7_fill_53178 : ByteArray := prog_16_method_103_code
def yJ7_fill_53178 : MethodName := ⟨RJ7, "fill", "([II)V"⟩
def RJ3 : String := "jdk/internal/util/Preconditions"
def TJ3 : u_T := fun k => match k with
  | _ => ("", "", "", false)
def tyJ3 : Nat → FieldType := fun k => match k with
  | _ => .int
abbrev wsJ30 : List Cond := u_ws RJ3 TJ3 0
theorem nmJ3 : ∀ a, a < 0 → ∀ b, b < 0 → a ≠ b → (TJ3 a).2.1 ≠ (TJ3 b).2.1 := by decide +kernel
theorem tyJ3_ok : ∀ k, k < 0 → parseFieldDescriptor (TJ3 k).2.2.1 = some (tyJ3 k) := by decide +kernel
abbrev cJ3_checkIndex_8e157 : ByteArray := prog_17_method_11_code
def yJ3_checkIndex_8e157 : MethodName := ⟨RJ3, "checkIndex", "(IILjava/util/function/BiFunction;)I"⟩
def RL : String := "DimBooksLaw"
abbrev cL_law : ByteArray := code
def yL_law : MethodName := ⟨RL, "law", "([I)Z"⟩
