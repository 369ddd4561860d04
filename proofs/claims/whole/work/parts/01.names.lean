/-! ===== BEGIN words of one list among another's, by their places ===== -/
theorem goodIn_r {big : List Cond} (ws : List Cond) (ps : List Nat) (hp : ws = ps.filterMap (fun i => big[i]?)) (h : ws.all goodWord = true) : GoodIn big ws := by
  intro w hw
  have h1 := List.all_eq_true.mp h w hw
  rw [hp] at hw
  obtain ⟨i, -, hi⟩ := List.mem_filterMap.mp hw
  have hm : w ∈ big := by first | exact List.mem_of_getElem? hi | exact List.getElem?_mem hi
  exact ⟨hm, good_of_word h1⟩
theorem goodIn_app {big a b : List Cond} (ha : GoodIn big a) (hb : GoodIn big b) : GoodIn big (a ++ b) := fun w h => (List.mem_append.mp h).elim (ha w) (hb w)
theorem goodIn_ca {big a b : List Cond} {c : Cond} (ha : GoodIn big (c :: a)) (hb : GoodIn big b) : GoodIn big (c :: (a ++ b)) := fun w h => (List.mem_cons.mp h).elim (fun e => ha w (List.mem_cons.mpr (Or.inl e))) (fun h => (List.mem_append.mp h).elim (fun h => ha w (List.mem_cons.mpr (Or.inr h))) (hb w))
theorem goodIn_sub {big ws : List Cond} (hm : ∀ w ∈ ws, w ∈ big) (h : ws.all goodWord = true) : GoodIn big ws := fun w hw => ⟨hm w hw, good_of_word (List.all_eq_true.mp h w hw)⟩
/-! ===== END ===== -/
def RX0 : String := "HedgeCourt$Law"
def TX0 : u_T := fun k => match k with
  | 0 => ("HedgeCourt$Law", "weight", "[I", true)
  | 1 => ("HedgeCourt$Law", "newerAlone", "[Z", true)
  | 2 => ("HedgeCourt$Law", "thrown", "I", false)
  | 3 => ("HedgeCourt$Law", "hold", "I", false)
  | _ => ("HedgeCourt$Law", "bend", "I", false)
def tyX0 : Nat → FieldType := fun k => match k with
  | 0 => .array .int
  | 1 => .array .boolean
  | 2 => .int
  | 3 => .int
  | _ => .int
abbrev wsX00 : List Cond := u_ws RX0 TX0 5
theorem nmX0 : ∀ a, a < 5 → ∀ b, b < 5 → a ≠ b → (TX0 a).2.1 ≠ (TX0 b).2.1 := by decide +kernel
theorem tyX0_ok : ∀ k, k < 5 → parseFieldDescriptor (TX0 k).2.2.1 = some (tyX0 k) := by decide +kernel
abbrev cX0_init : ByteArray := prog_2_method_1_code
def yX0_init : MethodName := ⟨RX0, "<init>", "()V"⟩
abbrev cX0_reset : ByteArray := prog_2_method_2_code
def yX0_reset : MethodName := ⟨RX0, "reset", "()V"⟩
def RX1 : String := "HedgeCourt$LawReader"
def TX1 : u_T := fun k => match k with
  | 0 => ("HedgeCourt$LawReader", "fault", "I", false)
  | 1 => ("HedgeCourt$LawReader", "faultPlace", "I", false)
  | 2 => ("HedgeCourt$LawReader", "lines", "I", false)
  | 3 => ("HedgeCourt$LawReader", "tape", "LHedgeCourt$Tape;", true)
  | 4 => ("HedgeCourt$LawReader", "next", "I", false)
  | 5 => ("HedgeCourt$LawReader", "token", "I", false)
  | 6 => ("HedgeCourt$LawReader", "tokenPlace", "I", false)
  | _ => ("HedgeCourt$LawReader", "tokenValue", "I", false)
def tyX1 : Nat → FieldType := fun k => match k with
  | 0 => .int
  | 1 => .int
  | 2 => .int
  | 3 => .object "HedgeCourt$Tape"
  | 4 => .int
  | 5 => .int
  | 6 => .int
  | _ => .int
abbrev wsX10 : List Cond := u_ws RX1 TX1 8
theorem nmX1 : ∀ a, a < 8 → ∀ b, b < 8 → a ≠ b → (TX1 a).2.1 ≠ (TX1 b).2.1 := by decide +kernel
theorem tyX1_ok : ∀ k, k < 8 → parseFieldDescriptor (TX1 k).2.2.1 = some (tyX1 k) := by decide +kernel
abbrev cX1_init : ByteArray := prog_3_method_1_code
def yX1_init : MethodName := ⟨RX1, "<init>", "(LHedgeCourt$Tape;)V"⟩
abbrev cX1_read : ByteArray := prog_3_method_2_code
def yX1_read : MethodName := ⟨RX1, "read", "(LHedgeCourt$Law;)V"⟩
abbrev cX1_readLine : ByteArray := prog_3_method_3_code
def yX1_readLine : MethodName := ⟨RX1, "readLine", "(LHedgeCourt$Law;)V"⟩
abbrev cX1_kindHere : ByteArray := prog_3_method_4_code
def yX1_kindHere : MethodName := ⟨RX1, "kindHere", "()I"⟩
abbrev cX1_numberHere : ByteArray := prog_3_method_5_code
def yX1_numberHere : MethodName := ⟨RX1, "numberHere", "(I)I"⟩
abbrev cX1_demand : ByteArray := prog_3_method_6_code
def yX1_demand : MethodName := ⟨RX1, "demand", "(ZI)V"⟩
abbrev cX1_fits : ByteArray := prog_3_method_7_code
def yX1_fits : MethodName := ⟨RX1, "fits", "(II)Z"⟩
abbrev cX1_enact : ByteArray := prog_3_method_8_code
def yX1_enact : MethodName := ⟨RX1, "enact", "(LHedgeCourt$Law;III)V"⟩
abbrev cX1_advance : ByteArray := prog_3_method_9_code
def yX1_advance : MethodName := ⟨RX1, "advance", "()V"⟩
abbrev cX1_scanWord : ByteArray := prog_3_method_10_code
def yX1_scanWord : MethodName := ⟨RX1, "scanWord", "()V"⟩
abbrev cX1_isSpelled : ByteArray := prog_3_method_11_code
def yX1_isSpelled : MethodName := ⟨RX1, "isSpelled", "(Ljava/lang/String;)Z"⟩
abbrev cX1_scanNumber : ByteArray := prog_3_method_12_code
def yX1_scanNumber : MethodName := ⟨RX1, "scanNumber", "()V"⟩
abbrev cX1_keyword : ByteArray := prog_3_method_13_code
def yX1_keyword : MethodName := ⟨RX1, "keyword", "(I)Ljava/lang/String;"⟩
abbrev cX1_isBlank : ByteArray := prog_3_method_14_code
def yX1_isBlank : MethodName := ⟨RX1, "isBlank", "(B)Z"⟩
abbrev cX1_isLetter : ByteArray := prog_3_method_15_code
def yX1_isLetter : MethodName := ⟨RX1, "isLetter", "(B)Z"⟩
abbrev cX1_isDigit : ByteArray := prog_3_method_16_code
def yX1_isDigit : MethodName := ⟨RX1, "isDigit", "(B)Z"⟩
def RX2 : String := "HedgeCourt$Mowings"
def TX2 : u_T := fun k => match k with
  | 0 => ("HedgeCourt$Mowings", "count", "I", false)
  | 1 => ("HedgeCourt$Mowings", "years", "[I", true)
  | 2 => ("HedgeCourt$Mowings", "yearCount", "I", false)
  | 3 => ("HedgeCourt$Mowings", "who", "[I", true)
  | 4 => ("HedgeCourt$Mowings", "from", "[I", true)
  | 5 => ("HedgeCourt$Mowings", "to", "[I", true)
  | 6 => ("HedgeCourt$Mowings", "reach", "[I", true)
  | _ => ("HedgeCourt$Mowings", "when", "[I", true)
def tyX2 : Nat → FieldType := fun k => match k with
  | 0 => .int
  | 1 => .array .int
  | 2 => .int
  | 3 => .array .int
  | 4 => .array .int
  | 5 => .array .int
  | 6 => .array .int
  | _ => .array .int
abbrev wsX20 : List Cond := u_ws RX2 TX2 8
theorem nmX2 : ∀ a, a < 8 → ∀ b, b < 8 → a ≠ b → (TX2 a).2.1 ≠ (TX2 b).2.1 := by decide +kernel
theorem tyX2_ok : ∀ k, k < 8 → parseFieldDescriptor (TX2 k).2.2.1 = some (tyX2 k) := by decide +kernel
abbrev cX2_init : ByteArray := prog_4_method_1_code
def yX2_init : MethodName := ⟨RX2, "<init>", "()V"⟩
abbrev cX2_tell : ByteArray := prog_4_method_2_code
def yX2_tell : MethodName := ⟨RX2, "tell", "(IIIII)Z"⟩
abbrev cX2_noteYear : ByteArray := prog_4_method_3_code
def yX2_noteYear : MethodName := ⟨RX2, "noteYear", "(I)V"⟩
abbrev cX2_reachOf : ByteArray := prog_4_method_4_code
def yX2_reachOf : MethodName := ⟨RX2, "reachOf", "(III)I"⟩
def RX3 : String := "HedgeCourt$PaperLine"
def TX3 : u_T := fun k => match k with
  | 0 => ("HedgeCourt$PaperLine", "feet", "[I", true)
  | 1 => ("HedgeCourt$PaperLine", "cost", "I", false)
  | _ => ("HedgeCourt$PaperLine", "onward", "[[I", true)
def tyX3 : Nat → FieldType := fun k => match k with
  | 0 => .array .int
  | 1 => .int
  | _ => .array (.array .int)
abbrev wsX30 : List Cond := u_ws RX3 TX3 3
theorem nmX3 : ∀ a, a < 3 → ∀ b, b < 3 → a ≠ b → (TX3 a).2.1 ≠ (TX3 b).2.1 := by decide +kernel
theorem tyX3_ok : ∀ k, k < 3 → parseFieldDescriptor (TX3 k).2.2.1 = some (tyX3 k) := by decide +kernel
abbrev cX3_init : ByteArray := prog_5_method_1_code
def yX3_init : MethodName := ⟨RX3, "<init>", "()V"⟩
abbrev cX3_draw : ByteArray := prog_5_method_2_code
def yX3_draw : MethodName := ⟨RX3, "draw", "(Ljava/util/ArrayList;LHedgeCourt$Law;)V"⟩
abbrev cX3_bendTowards : ByteArray := prog_5_method_3_code
def yX3_bendTowards : MethodName := ⟨RX3, "bendTowards", "([I[II)V"⟩
abbrev cX3_addMisses : ByteArray := prog_5_method_4_code
def yX3_addMisses : MethodName := ⟨RX3, "addMisses", "([IILjava/util/ArrayList;LHedgeCourt$Law;)V"⟩
abbrev cX3_chooseFeet : ByteArray := prog_5_method_5_code
def yX3_chooseFeet : MethodName := ⟨RX3, "chooseFeet", "(I)V"⟩
abbrev cX3_cheapest : ByteArray := prog_5_method_6_code
def yX3_cheapest : MethodName := ⟨RX3, "cheapest", "([III)I"⟩
abbrev cX3_priceOf : ByteArray := prog_5_method_7_code
def yX3_priceOf : MethodName := ⟨RX3, "priceOf", "([IIII)I"⟩
def RX4 : String := "HedgeCourt$Protests"
def TX4 : u_T := fun k => match k with
  | 0 => ("HedgeCourt$Protests", "station", "[I", true)
  | 1 => ("HedgeCourt$Protests", "when", "[I", true)
  | _ => ("HedgeCourt$Protests", "count", "I", false)
def tyX4 : Nat → FieldType := fun k => match k with
  | 0 => .array .int
  | 1 => .array .int
  | _ => .int
abbrev wsX40 : List Cond := u_ws RX4 TX4 3
theorem nmX4 : ∀ a, a < 3 → ∀ b, b < 3 → a ≠ b → (TX4 a).2.1 ≠ (TX4 b).2.1 := by decide +kernel
theorem tyX4_ok : ∀ k, k < 3 → parseFieldDescriptor (TX4 k).2.2.1 = some (tyX4 k) := by decide +kernel
abbrev cX4_init : ByteArray := prog_6_method_1_code
def yX4_init : MethodName := ⟨RX4, "<init>", "()V"⟩
abbrev cX4_tell : ByteArray := prog_6_method_2_code
def yX4_tell : MethodName := ⟨RX4, "tell", "(II)Z"⟩
abbrev cX4_isTold : ByteArray := prog_6_method_3_code
def yX4_isTold : MethodName := ⟨RX4, "isTold", "(II)Z"⟩
def RX5 : String := "HedgeCourt$Quarrel"
def TX5 : u_T := fun k => match k with
  | 0 => ("HedgeCourt$Quarrel", "opened", "Z", false)
  | 1 => ("HedgeCourt$Quarrel", "fair", "I", false)
  | 2 => ("HedgeCourt$Quarrel", "leastFair", "I", false)
  | 3 => ("HedgeCourt$Quarrel", "greatestFair", "I", false)
  | 4 => ("HedgeCourt$Quarrel", "fairest", "I", false)
  | 5 => ("HedgeCourt$Quarrel", "greater", "I", false)
  | 6 => ("HedgeCourt$Quarrel", "lesser", "I", false)
  | 7 => ("HedgeCourt$Quarrel", "worth", "[I", true)
  | 8 => ("HedgeCourt$Quarrel", "cost", "[I", true)
  | _ => ("HedgeCourt$Quarrel", "chance", "[I", true)
def tyX5 : Nat → FieldType := fun k => match k with
  | 0 => .boolean
  | 1 => .int
  | 2 => .int
  | 3 => .int
  | 4 => .int
  | 5 => .int
  | 6 => .int
  | 7 => .array .int
  | 8 => .array .int
  | _ => .array .int
abbrev wsX50 : List Cond := u_ws RX5 TX5 10
theorem nmX5 : ∀ a, a < 10 → ∀ b, b < 10 → a ≠ b → (TX5 a).2.1 ≠ (TX5 b).2.1 := by decide +kernel
theorem tyX5_ok : ∀ k, k < 10 → parseFieldDescriptor (TX5 k).2.2.1 = some (tyX5 k) := by decide +kernel
abbrev cX5_init : ByteArray := prog_7_method_1_code
def yX5_init : MethodName := ⟨RX5, "<init>", "()V"⟩
abbrev cX5_isParty : ByteArray := prog_7_method_2_code
def yX5_isParty : MethodName := ⟨RX5, "isParty", "(III)Z"⟩
abbrev cX5_open : ByteArray := prog_7_method_3_code
def yX5_open : MethodName := ⟨RX5, "open", "(II)V"⟩
abbrev cX5_setParty : ByteArray := prog_7_method_4_code
def yX5_setParty : MethodName := ⟨RX5, "setParty", "(IIII)V"⟩
abbrev cX5_judge : ByteArray := prog_7_method_5_code
def yX5_judge : MethodName := ⟨RX5, "judge", "()V"⟩
abbrev cX5_gainOf : ByteArray := prog_7_method_6_code
def yX5_gainOf : MethodName := ⟨RX5, "gainOf", "(II)I"⟩
def RX6 : String := "HedgeCourt$Saying"
def TX6 : u_T := fun k => match k with
  | 0 => ("HedgeCourt$Saying", "kind", "I", true)
  | 1 => ("HedgeCourt$Saying", "from", "I", true)
  | 2 => ("HedgeCourt$Saying", "to", "I", true)
  | 3 => ("HedgeCourt$Saying", "low", "I", true)
  | 4 => ("HedgeCourt$Saying", "high", "I", true)
  | 5 => ("HedgeCourt$Saying", "year", "I", true)
  | _ => ("HedgeCourt$Saying", "side", "I", true)
def tyX6 : Nat → FieldType := fun k => match k with
  | 0 => .int
  | 1 => .int
  | 2 => .int
  | 3 => .int
  | 4 => .int
  | 5 => .int
  | _ => .int
abbrev wsX60 : List Cond := u_ws RX6 TX6 7
theorem nmX6 : ∀ a, a < 7 → ∀ b, b < 7 → a ≠ b → (TX6 a).2.1 ≠ (TX6 b).2.1 := by decide +kernel
theorem tyX6_ok : ∀ k, k < 7 → parseFieldDescriptor (TX6 k).2.2.1 = some (tyX6 k) := by decide +kernel
abbrev cX6_init : ByteArray := prog_8_method_1_code
def yX6_init : MethodName := ⟨RX6, "<init>", "(IIIIIII)V"⟩
abbrev cX6_counted : ByteArray := prog_8_method_2_code
def yX6_counted : MethodName := ⟨RX6, "counted", "(ILHedgeCourt$Law;)I"⟩
abbrev cX6_has : ByteArray := prog_8_method_3_code
def yX6_has : MethodName := ⟨RX6, "has", "(I)Z"⟩
abbrev cX6_countsAt : ByteArray := prog_8_method_4_code
def yX6_countsAt : MethodName := ⟨RX6, "countsAt", "(ILjava/util/ArrayList;LHedgeCourt$Law;)Z"⟩
def RX7 : String := "HedgeCourt$Tape"
def TX7 : u_T := fun k => match k with
  | 0 => ("HedgeCourt$Tape", "bytes", "[B", true)
  | _ => ("HedgeCourt$Tape", "length", "I", false)
def tyX7 : Nat → FieldType := fun k => match k with
  | 0 => .array .byte
  | _ => .int
abbrev wsX70 : List Cond := u_ws RX7 TX7 2
theorem nmX7 : ∀ a, a < 2 → ∀ b, b < 2 → a ≠ b → (TX7 a).2.1 ≠ (TX7 b).2.1 := by decide +kernel
theorem tyX7_ok : ∀ k, k < 2 → parseFieldDescriptor (TX7 k).2.2.1 = some (tyX7 k) := by decide +kernel
abbrev cX7_init : ByteArray := prog_9_method_1_code
def yX7_init : MethodName := ⟨RX7, "<init>", "()V"⟩
abbrev cX7_append : ByteArray := prog_9_method_2_code
def yX7_append : MethodName := ⟨RX7, "append", "(I)V"⟩
abbrev cX7_cut : ByteArray := prog_9_method_3_code
def yX7_cut : MethodName := ⟨RX7, "cut", "(I)Z"⟩
def RX8 : String := "HedgeCourt$TrueLine"
def TX8 : u_T := fun k => match k with
  | 0 => ("HedgeCourt$TrueLine", "foot", "I", false)
  | 1 => ("HedgeCourt$TrueLine", "movedIn", "I", false)
  | 2 => ("HedgeCourt$TrueLine", "won", "[I", true)
  | 3 => ("HedgeCourt$TrueLine", "mowings", "LHedgeCourt$Mowings;", true)
  | 4 => ("HedgeCourt$TrueLine", "protests", "LHedgeCourt$Protests;", true)
  | 5 => ("HedgeCourt$TrueLine", "run", "[I", true)
  | _ => ("HedgeCourt$TrueLine", "reach", "[[I", true)
def tyX8 : Nat → FieldType := fun k => match k with
  | 0 => .int
  | 1 => .int
  | 2 => .array .int
  | 3 => .object "HedgeCourt$Mowings"
  | 4 => .object "HedgeCourt$Protests"
  | 5 => .array .int
  | _ => .array (.array .int)
abbrev wsX80 : List Cond := u_ws RX8 TX8 7
theorem nmX8 : ∀ a, a < 7 → ∀ b, b < 7 → a ≠ b → (TX8 a).2.1 ≠ (TX8 b).2.1 := by decide +kernel
theorem tyX8_ok : ∀ k, k < 7 → parseFieldDescriptor (TX8 k).2.2.1 = some (tyX8 k) := by decide +kernel
abbrev cX8_init : ByteArray := prog_10_method_1_code
def yX8_init : MethodName := ⟨RX8, "<init>", "(LHedgeCourt$Mowings;LHedgeCourt$Protests;)V"⟩
abbrev cX8_draw : ByteArray := prog_10_method_2_code
def yX8_draw : MethodName := ⟨RX8, "draw", "(III)V"⟩
abbrev cX8_extendRun : ByteArray := prog_10_method_3_code
def yX8_extendRun : MethodName := ⟨RX8, "extendRun", "(IIII)V"⟩
abbrev cX8_nearest : ByteArray := prog_10_method_4_code
def yX8_nearest : MethodName := ⟨RX8, "nearest", "(III)I"⟩
abbrev cX8_moveLine : ByteArray := prog_10_method_5_code
def yX8_moveLine : MethodName := ⟨RX8, "moveLine", "(III)V"⟩
abbrev cX8_isBeyond : ByteArray := prog_10_method_6_code
def yX8_isBeyond : MethodName := ⟨RX8, "isBeyond", "(III)Z"⟩
def RX9 : String := "HedgeCourt"
def TX9 : u_T := fun k => match k with
  | 0 => ("HedgeCourt", "sayings", "Ljava/util/ArrayList;", true)
  | 1 => ("HedgeCourt", "tape", "LHedgeCourt$Tape;", true)
  | 2 => ("HedgeCourt", "reader", "LHedgeCourt$LawReader;", true)
  | 3 => ("HedgeCourt", "paperLine", "LHedgeCourt$PaperLine;", true)
  | 4 => ("HedgeCourt", "mowings", "LHedgeCourt$Mowings;", true)
  | 5 => ("HedgeCourt", "protests", "LHedgeCourt$Protests;", true)
  | 6 => ("HedgeCourt", "trueLine", "LHedgeCourt$TrueLine;", true)
  | 7 => ("HedgeCourt", "latestQuarrel", "LHedgeCourt$Quarrel;", true)
  | 8 => ("HedgeCourt", "law", "LHedgeCourt$Law;", false)
  | 9 => ("HedgeCourt", "draft", "LHedgeCourt$Law;", false)
  | _ => ("HedgeCourt", "drawn", "Z", false)
def tyX9 : Nat → FieldType := fun k => match k with
  | 0 => .object "java/util/ArrayList"
  | 1 => .object "HedgeCourt$Tape"
  | 2 => .object "HedgeCourt$LawReader"
  | 3 => .object "HedgeCourt$PaperLine"
  | 4 => .object "HedgeCourt$Mowings"
  | 5 => .object "HedgeCourt$Protests"
  | 6 => .object "HedgeCourt$TrueLine"
  | 7 => .object "HedgeCourt$Quarrel"
  | 8 => .object "HedgeCourt$Law"
  | 9 => .object "HedgeCourt$Law"
  | _ => .boolean
abbrev wsX90 : List Cond := u_ws RX9 TX9 11
theorem nmX9 : ∀ a, a < 11 → ∀ b, b < 11 → a ≠ b → (TX9 a).2.1 ≠ (TX9 b).2.1 := by decide +kernel
theorem tyX9_ok : ∀ k, k < 11 → parseFieldDescriptor (TX9 k).2.2.1 = some (tyX9 k) := by decide +kernel
abbrev cX9_init : ByteArray := prog_1_method_1_code
def yX9_init : MethodName := ⟨RX9, "<init>", "()V"⟩
abbrev cX9_say : ByteArray := prog_1_method_2_code
def yX9_say : MethodName := ⟨RX9, "say", "(IIIIIII)I"⟩
abbrev cX9_feed : ByteArray := prog_1_method_3_code
def yX9_feed : MethodName := ⟨RX9, "feed", "(IIIII)I"⟩
abbrev cX9_end : ByteArray := prog_1_method_4_code
def yX9_end : MethodName := ⟨RX9, "end", "(I)Z"⟩
abbrev cX9_rules : ByteArray := prog_1_method_5_code
def yX9_rules : MethodName := ⟨RX9, "rules", "()I"⟩
abbrev cX9_fault : ByteArray := prog_1_method_6_code
def yX9_fault : MethodName := ⟨RX9, "fault", "(I)I"⟩
abbrev cX9_look : ByteArray := prog_1_method_7_code
def yX9_look : MethodName := ⟨RX9, "look", "(I)I"⟩
abbrev cX9_lookAtKinds : ByteArray := prog_1_method_8_code
def yX9_lookAtKinds : MethodName := ⟨RX9, "lookAtKinds", "(I)I"⟩
abbrev cX9_said : ByteArray := prog_1_method_9_code
def yX9_said : MethodName := ⟨RX9, "said", "(II)I"⟩
abbrev cX9_stationsOf : ByteArray := prog_1_method_10_code
def yX9_stationsOf : MethodName := ⟨RX9, "stationsOf", "(LHedgeCourt$Saying;)I"⟩
abbrev cX9_paper : ByteArray := prog_1_method_11_code
def yX9_paper : MethodName := ⟨RX9, "paper", "(I)I"⟩
abbrev cX9_drawPaperLine : ByteArray := prog_1_method_12_code
def yX9_drawPaperLine : MethodName := ⟨RX9, "drawPaperLine", "()V"⟩
abbrev cX9_straight : ByteArray := prog_1_method_13_code
def yX9_straight : MethodName := ⟨RX9, "straight", "(I)I"⟩
abbrev cX9_mow : ByteArray := prog_1_method_14_code
def yX9_mow : MethodName := ⟨RX9, "mow", "(IIIII)Z"⟩
abbrev cX9_protest : ByteArray := prog_1_method_15_code
def yX9_protest : MethodName := ⟨RX9, "protest", "(II)Z"⟩
abbrev cX9_mowed : ByteArray := prog_1_method_16_code
def yX9_mowed : MethodName := ⟨RX9, "mowed", "(III)I"⟩
abbrev cX9_spells : ByteArray := prog_1_method_17_code
def yX9_spells : MethodName := ⟨RX9, "spells", "(II)I"⟩
abbrev cX9_line : ByteArray := prog_1_method_18_code
def yX9_line : MethodName := ⟨RX9, "line", "(I)I"⟩
abbrev cX9_drawTrueLine : ByteArray := prog_1_method_19_code
def yX9_drawTrueLine : MethodName := ⟨RX9, "drawTrueLine", "(I)V"⟩
abbrev cX9_quarrel : ByteArray := prog_1_method_20_code
def yX9_quarrel : MethodName := ⟨RX9, "quarrel", "(IIIIIIII)Z"⟩
abbrev cX9_split : ByteArray := prog_1_method_21_code
def yX9_split : MethodName := ⟨RX9, "split", "(I)I"⟩
abbrev cX9_below : ByteArray := prog_1_method_22_code
def yX9_below : MethodName := ⟨RX9, "below", "(II)Z"⟩
abbrev cX9_isStretch : ByteArray := prog_1_method_23_code
def yX9_isStretch : MethodName := ⟨RX9, "isStretch", "(III)Z"⟩
abbrev cX9_missOf : ByteArray := prog_1_method_24_code
def yX9_missOf : MethodName := ⟨RX9, "missOf", "(III)I"⟩
def RX10 : String := "HedgeCourtModel"
def TX10 : u_T := fun k => match k with
  | 0 => ("HedgeCourtModel", "sayings", "I", false)
  | 1 => ("HedgeCourtModel", "mows", "I", false)
  | 2 => ("HedgeCourtModel", "protests", "I", false)
  | 3 => ("HedgeCourtModel", "kind", "[I", true)
  | 4 => ("HedgeCourtModel", "from", "[I", true)
  | 5 => ("HedgeCourtModel", "to", "[I", true)
  | 6 => ("HedgeCourtModel", "low", "[I", true)
  | 7 => ("HedgeCourtModel", "high", "[I", true)
  | 8 => ("HedgeCourtModel", "year", "[I", true)
  | 9 => ("HedgeCourtModel", "side", "[I", true)
  | 10 => ("HedgeCourtModel", "thrown", "I", false)
  | 11 => ("HedgeCourtModel", "hold", "I", false)
  | 12 => ("HedgeCourtModel", "bend", "I", false)
  | 13 => ("HedgeCourtModel", "weight", "[I", true)
  | 14 => ("HedgeCourtModel", "newer", "[Z", true)
  | 15 => ("HedgeCourtModel", "tape", "[I", true)
  | 16 => ("HedgeCourtModel", "line", "[I", true)
  | 17 => ("HedgeCourtModel", "taped", "I", false)
  | 18 => ("HedgeCourtModel", "at", "I", false)
  | 19 => ("HedgeCourtModel", "token", "I", false)
  | 20 => ("HedgeCourtModel", "tokenAt", "I", false)
  | 21 => ("HedgeCourtModel", "value", "I", false)
  | 22 => ("HedgeCourtModel", "wrong", "I", false)
  | 23 => ("HedgeCourtModel", "wrongAt", "I", false)
  | 24 => ("HedgeCourtModel", "faultKind", "I", false)
  | 25 => ("HedgeCourtModel", "lines", "I", false)
  | 26 => ("HedgeCourtModel", "faultPlace", "I", false)
  | 27 => ("HedgeCourtModel", "costs", "[I", true)
  | 28 => ("HedgeCourtModel", "papers", "[I", true)
  | 29 => ("HedgeCourtModel", "mower", "[I", true)
  | 30 => ("HedgeCourtModel", "mowFrom", "[I", true)
  | 31 => ("HedgeCourtModel", "mowTo", "[I", true)
  | 32 => ("HedgeCourtModel", "mowFoot", "[I", true)
  | 33 => ("HedgeCourtModel", "mowYear", "[I", true)
  | 34 => ("HedgeCourtModel", "protestAt", "[I", true)
  | 35 => ("HedgeCourtModel", "protestIn", "[I", true)
  | 36 => ("HedgeCourtModel", "many", "[I", true)
  | 37 => ("HedgeCourtModel", "run", "[I", true)
  | 38 => ("HedgeCourtModel", "feet", "[I", true)
  | 39 => ("HedgeCourtModel", "trueLine", "I", false)
  | 40 => ("HedgeCourtModel", "lastYear", "I", false)
  | 41 => ("HedgeCourtModel", "isQuarrel", "Z", false)
  | 42 => ("HedgeCourtModel", "claim0", "I", false)
  | 43 => ("HedgeCourtModel", "claim1", "I", false)
  | 44 => ("HedgeCourtModel", "worth0", "I", false)
  | 45 => ("HedgeCourtModel", "worth1", "I", false)
  | 46 => ("HedgeCourtModel", "cost0", "I", false)
  | 47 => ("HedgeCourtModel", "cost1", "I", false)
  | 48 => ("HedgeCourtModel", "p", "I", false)
  | _ => ("HedgeCourtModel", "q", "I", false)
def tyX10 : Nat → FieldType := fun k => match k with
  | 0 => .int
  | 1 => .int
  | 2 => .int
  | 3 => .array .int
  | 4 => .array .int
  | 5 => .array .int
  | 6 => .array .int
  | 7 => .array .int
  | 8 => .array .int
  | 9 => .array .int
  | 10 => .int
  | 11 => .int
  | 12 => .int
  | 13 => .array .int
  | 14 => .array .boolean
  | 15 => .array .int
  | 16 => .array .int
  | 17 => .int
  | 18 => .int
  | 19 => .int
  | 20 => .int
  | 21 => .int
  | 22 => .int
  | 23 => .int
  | 24 => .int
  | 25 => .int
  | 26 => .int
  | 27 => .array .int
  | 28 => .array .int
  | 29 => .array .int
  | 30 => .array .int
  | 31 => .array .int
  | 32 => .array .int
  | 33 => .array .int
  | 34 => .array .int
  | 35 => .array .int
  | 36 => .array .int
  | 37 => .array .int
  | 38 => .array .int
  | 39 => .int
  | 40 => .int
  | 41 => .boolean
  | 42 => .int
  | 43 => .int
  | 44 => .int
  | 45 => .int
  | 46 => .int
  | 47 => .int
  | 48 => .int
  | _ => .int
abbrev wsX100 : List Cond := u_ws RX10 TX10 50
theorem nmX10 : ∀ a, a < 50 → ∀ b, b < 50 → a ≠ b → (TX10 a).2.1 ≠ (TX10 b).2.1 := by decide +kernel
theorem tyX10_ok : ∀ k, k < 50 → parseFieldDescriptor (TX10 k).2.2.1 = some (tyX10 k) := by decide +kernel
abbrev cX10_init : ByteArray := prog_12_method_1_code
def yX10_init : MethodName := ⟨RX10, "<init>", "()V"⟩
abbrev cX10_isIn : ByteArray := prog_12_method_2_code
def yX10_isIn : MethodName := ⟨RX10, "isIn", "(III)Z"⟩
abbrev cX10_isStation : ByteArray := prog_12_method_3_code
def yX10_isStation : MethodName := ⟨RX10, "isStation", "(I)Z"⟩
abbrev cX10_isFoot : ByteArray := prog_12_method_4_code
def yX10_isFoot : MethodName := ⟨RX10, "isFoot", "(I)Z"⟩
abbrev cX10_isYear : ByteArray := prog_12_method_5_code
def yX10_isYear : MethodName := ⟨RX10, "isYear", "(I)Z"⟩
abbrev cX10_isSpan : ByteArray := prog_12_method_6_code
def yX10_isSpan : MethodName := ⟨RX10, "isSpan", "(II)Z"⟩
abbrev cX10_say : ByteArray := prog_12_method_7_code
def yX10_say : MethodName := ⟨RX10, "say", "(IIIIIII)I"⟩
abbrev cX10_feed : ByteArray := prog_12_method_8_code
def yX10_feed : MethodName := ⟨RX10, "feed", "(IIIII)I"⟩
abbrev cX10_end : ByteArray := prog_12_method_9_code
def yX10_end : MethodName := ⟨RX10, "end", "(I)Z"⟩
abbrev cX10_see : ByteArray := prog_12_method_10_code
def yX10_see : MethodName := ⟨RX10, "see", "(I)I"⟩
abbrev cX10_isLetter : ByteArray := prog_12_method_11_code
def yX10_isLetter : MethodName := ⟨RX10, "isLetter", "(I)Z"⟩
abbrev cX10_isDigit : ByteArray := prog_12_method_12_code
def yX10_isDigit : MethodName := ⟨RX10, "isDigit", "(I)Z"⟩
abbrev cX10_word : ByteArray := prog_12_method_13_code
def yX10_word : MethodName := ⟨RX10, "word", "(J)I"⟩
abbrev cX10_next0 : ByteArray := prog_12_method_14_code
def yX10_next0 : MethodName := ⟨RX10, "next0", "()V"⟩
abbrev cX10_bad : ByteArray := prog_12_method_15_code
def yX10_bad : MethodName := ⟨RX10, "bad", "(I)Z"⟩
abbrev cX10_aKind : ByteArray := prog_12_method_16_code
def yX10_aKind : MethodName := ⟨RX10, "aKind", "()Z"⟩
abbrev cX10_aNumber : ByteArray := prog_12_method_17_code
def yX10_aNumber : MethodName := ⟨RX10, "aNumber", "(II)Z"⟩
abbrev cX10_aLine : ByteArray := prog_12_method_18_code
def yX10_aLine : MethodName := ⟨RX10, "aLine", "()Z"⟩
abbrev cX10_rules : ByteArray := prog_12_method_19_code
def yX10_rules : MethodName := ⟨RX10, "rules", "()I"⟩
abbrev cX10_tells : ByteArray := prog_12_method_20_code
def yX10_tells : MethodName := ⟨RX10, "tells", "(III)V"⟩
abbrev cX10_fault : ByteArray := prog_12_method_21_code
def yX10_fault : MethodName := ⟨RX10, "fault", "(I)I"⟩
abbrev cX10_look : ByteArray := prog_12_method_22_code
def yX10_look : MethodName := ⟨RX10, "look", "(I)I"⟩
abbrev cX10_moved : ByteArray := prog_12_method_23_code
def yX10_moved : MethodName := ⟨RX10, "moved", "(II)I"⟩
abbrev cX10_counts : ByteArray := prog_12_method_24_code
def yX10_counts : MethodName := ⟨RX10, "counts", "(II)Z"⟩
abbrev cX10_said : ByteArray := prog_12_method_25_code
def yX10_said : MethodName := ⟨RX10, "said", "(II)I"⟩
abbrev cX10_costAt : ByteArray := prog_12_method_26_code
def yX10_costAt : MethodName := ⟨RX10, "costAt", "(II)I"⟩
abbrev cX10_abs : ByteArray := prog_12_method_27_code
def yX10_abs : MethodName := ⟨RX10, "abs", "(I)I"⟩
abbrev cX10_lines : ByteArray := prog_12_method_28_code
def yX10_lines : MethodName := ⟨RX10, "lines", "()V"⟩
abbrev cX10_onFrom : ByteArray := prog_12_method_29_code
def yX10_onFrom : MethodName := ⟨RX10, "onFrom", "(II)I"⟩
abbrev cX10_paper : ByteArray := prog_12_method_30_code
def yX10_paper : MethodName := ⟨RX10, "paper", "(I)I"⟩
abbrev cX10_straight : ByteArray := prog_12_method_31_code
def yX10_straight : MethodName := ⟨RX10, "straight", "(I)I"⟩
abbrev cX10_mow : ByteArray := prog_12_method_32_code
def yX10_mow : MethodName := ⟨RX10, "mow", "(IIIII)Z"⟩
abbrev cX10_isProtested : ByteArray := prog_12_method_33_code
def yX10_isProtested : MethodName := ⟨RX10, "isProtested", "(II)Z"⟩
abbrev cX10_protest : ByteArray := prog_12_method_34_code
def yX10_protest : MethodName := ⟨RX10, "protest", "(II)Z"⟩
abbrev cX10_mowedIn : ByteArray := prog_12_method_35_code
def yX10_mowedIn : MethodName := ⟨RX10, "mowedIn", "(III)I"⟩
abbrev cX10_mowed : ByteArray := prog_12_method_36_code
def yX10_mowed : MethodName := ⟨RX10, "mowed", "(III)I"⟩
abbrev cX10_spells : ByteArray := prog_12_method_37_code
def yX10_spells : MethodName := ⟨RX10, "spells", "(I)V"⟩
abbrev cX10_goes : ByteArray := prog_12_method_38_code
def yX10_goes : MethodName := ⟨RX10, "goes", "(III)V"⟩
abbrev cX10_spells_ : ByteArray := prog_12_method_39_code
def yX10_spells_ : MethodName := ⟨RX10, "spells", "(II)I"⟩
abbrev cX10_line : ByteArray := prog_12_method_40_code
def yX10_line : MethodName := ⟨RX10, "line", "(I)I"⟩
abbrev cX10_quarrel : ByteArray := prog_12_method_41_code
def yX10_quarrel : MethodName := ⟨RX10, "quarrel", "(IIIIIIII)Z"⟩
abbrev cX10_gain : ByteArray := prog_12_method_42_code
def yX10_gain : MethodName := ⟨RX10, "gain", "(I)I"⟩
abbrev cX10_split : ByteArray := prog_12_method_43_code
def yX10_split : MethodName := ⟨RX10, "split", "(I)I"⟩
def RJx145de : String := "java/io/Serializable"
def TJx145de : u_T := fun k => match k with
  | _ => ("", "", "", false)
def tyJx145de : Nat → FieldType := fun k => match k with
  | _ => .int
abbrev wsJx145de0 : List Cond := u_ws RJx145de TJx145de 0
theorem nmJx145de : ∀ a, a < 0 → ∀ b, b < 0 → a ≠ b → (TJx145de a).2.1 ≠ (TJx145de b).2.1 := by decide +kernel
theorem tyJx145de_ok : ∀ k, k < 0 → parseFieldDescriptor (TJx145de k).2.2.1 = some (tyJx145de k) := by decide +kernel
def RJx8e188 : String := "java/lang/Cloneable"
def TJx8e188 : u_T := fun k => match k with
  | _ => ("", "", "", false)
def tyJx8e188 : Nat → FieldType := fun k => match k with
  | _ => .int
abbrev wsJx8e1880 : List Cond := u_ws RJx8e188 TJx8e188 0
theorem nmJx8e188 : ∀ a, a < 0 → ∀ b, b < 0 → a ≠ b → (TJx8e188 a).2.1 ≠ (TJx8e188 b).2.1 := by decide +kernel
theorem tyJx8e188_ok : ∀ k, k < 0 → parseFieldDescriptor (TJx8e188 k).2.2.1 = some (tyJx8e188 k) := by decide +kernel
def RJ6 : String := "java/lang/Integer"
def TJ6 : u_T := fun k => match k with
  | _ => ("", "", "", false)
def tyJ6 : Nat → FieldType := fun k => match k with
  | _ => .int
abbrev wsJ60 : List Cond := u_ws RJ6 TJ6 0
theorem nmJ6 : ∀ a, a < 0 → ∀ b, b < 0 → a ≠ b → (TJ6 a).2.1 ≠ (TJ6 b).2.1 := by decide +kernel
theorem tyJ6_ok : ∀ k, k < 0 → parseFieldDescriptor (TJ6 k).2.2.1 = some (tyJ6 k) := by decide +kernel
abbrev cJ6_bitCount_0f7a4 : ByteArray := prog_15_method_49_code
def yJ6_bitCount_0f7a4 : MethodName := ⟨RJ6, "bitCount", "(I)I"⟩
def RJxab1ab : String := "java/lang/Iterable"
def TJxab1ab : u_T := fun k => match k with
  | _ => ("", "", "", false)
def tyJxab1ab : Nat → FieldType := fun k => match k with
  | _ => .int
abbrev wsJxab1ab0 : List Cond := u_ws RJxab1ab TJxab1ab 0
theorem nmJxab1ab : ∀ a, a < 0 → ∀ b, b < 0 → a ≠ b → (TJxab1ab a).2.1 ≠ (TJxab1ab b).2.1 := by decide +kernel
theorem tyJxab1ab_ok : ∀ k, k < 0 → parseFieldDescriptor (TJxab1ab k).2.2.1 = some (tyJxab1ab k) := by decide +kernel
def RJ9 : String := "java/lang/Math"
def TJ9 : u_T := fun k => match k with
  | _ => ("", "", "", false)
def tyJ9 : Nat → FieldType := fun k => match k with
  | _ => .int
abbrev wsJ90 : List Cond := u_ws RJ9 TJ9 0
theorem nmJ9 : ∀ a, a < 0 → ∀ b, b < 0 → a ≠ b → (TJ9 a).2.1 ≠ (TJ9 b).2.1 := by decide +kernel
theorem tyJ9_ok : ∀ k, k < 0 → parseFieldDescriptor (TJ9 k).2.2.1 = some (tyJ9 k) := by decide +kernel
abbrev cJ9_abs_0f7a4 : ByteArray := prog_17_method_59_code
def yJ9_abs_0f7a4 : MethodName := ⟨RJ9, "abs", "(I)I"⟩
abbrev cJ9_max_7cf53 : ByteArray := prog_17_method_65_code
def yJ9_max_7cf53 : MethodName := ⟨RJ9, "max", "(II)I"⟩
abbrev cJ9_min_7cf53 : ByteArray := prog_17_method_69_code
def yJ9_min_7cf53 : MethodName := ⟨RJ9, "min", "(II)I"⟩
def RJ0 : String := "java/lang/String"
def TJ0 : u_T := fun k => match k with
  | _ => ("", "", "", false)
def tyJ0 : Nat → FieldType := fun k => match k with
  | _ => .int
abbrev wsJ00 : List Cond := u_ws RJ0 TJ0 0
theorem nmJ0 : ∀ a, a < 0 → ∀ b, b < 0 → a ≠ b → (TJ0 a).2.1 ≠ (TJ0 b).2.1 := by decide +kernel
theorem tyJ0_ok : ∀ k, k < 0 → parseFieldDescriptor (TJ0 k).2.2.1 = some (tyJ0 k) := by decide +kernel
abbrev cJ0_length_8abf5 : ByteArray := prog_18_method_54_code
def yJ0_length_8abf5 : MethodName := ⟨RJ0, "length", "()I"⟩
abbrev cJ0_charAt_5068e : ByteArray := prog_18_method_56_code
def yJ0_charAt_5068e : MethodName := ⟨RJ0, "charAt", "(I)C"⟩
abbrev cJ0_coder_7d493 : ByteArray := prog_18_method_152_code
def yJ0_coder_7d493 : MethodName := ⟨RJ0, "coder", "()B"⟩
abbrev cJ0_isLatin1_aae02 : ByteArray := prog_18_method_154_code
def yJ0_isLatin1_aae02 : MethodName := ⟨RJ0, "isLatin1", "()Z"⟩
abbrev cJ0_checkIndex_df160 : ByteArray := prog_18_method_155_code
def yJ0_checkIndex_df160 : MethodName := ⟨RJ0, "checkIndex", "(II)V"⟩
def RJ1 : String := "java/lang/StringLatin1"
def TJ1 : u_T := fun k => match k with
  | _ => ("", "", "", false)
def tyJ1 : Nat → FieldType := fun k => match k with
  | _ => .int
abbrev wsJ10 : List Cond := u_ws RJ1 TJ1 0
theorem nmJ1 : ∀ a, a < 0 → ∀ b, b < 0 → a ≠ b → (TJ1 a).2.1 ≠ (TJ1 b).2.1 := by decide +kernel
theorem tyJ1_ok : ∀ k, k < 0 → parseFieldDescriptor (TJ1 k).2.2.1 = some (tyJ1 k) := by decide +kernel
abbrev cJ1_charAt_3b067 : ByteArray := prog_19_method_2_code
def yJ1_charAt_3b067 : MethodName := ⟨RJ1, "charAt", "([BI)C"⟩
def RJ2 : String := "java/lang/StringUTF16"
def TJ2 : u_T := fun k => match k with
  | _ => ("", "", "", false)
def tyJ2 : Nat → FieldType := fun k => match k with
  | _ => .int
abbrev wsJ20 : List Cond := u_ws RJ2 TJ2 0
theorem nmJ2 : ∀ a, a < 0 → ∀ b, b < 0 → a ≠ b → (TJ2 a).2.1 ≠ (TJ2 b).2.1 := by decide +kernel
theorem tyJ2_ok : ∀ k, k < 0 → parseFieldDescriptor (TJ2 k).2.2.1 = some (tyJ2 k) := by decide +kernel
abbrev cJ2_getChar_3b067 : ByteArray := prog_20_method_5_code
def yJ2_getChar_3b067 : MethodName := ⟨RJ2, "getChar", "([BI)C"⟩
abbrev cJ2_length_9d52b : ByteArray := prog_20_method_6_code
def yJ2_length_9d52b : MethodName := ⟨RJ2, "length", "([B)I"⟩
abbrev cJ2_charAt_3b067 : ByteArray := prog_20_method_83_code
def yJ2_charAt_3b067 : MethodName := ⟨RJ2, "charAt", "([BI)C"⟩
abbrev cJ2_checkIndex_2214a : ByteArray := prog_20_method_91_code
def yJ2_checkIndex_2214a : MethodName := ⟨RJ2, "checkIndex", "(I[B)V"⟩
def RJ10 : String := "java/lang/System"
def TJ10 : u_T := fun k => match k with
  | _ => ("", "", "", false)
def tyJ10 : Nat → FieldType := fun k => match k with
  | _ => .int
abbrev wsJ100 : List Cond := u_ws RJ10 TJ10 0
theorem nmJ10 : ∀ a, a < 0 → ∀ b, b < 0 → a ≠ b → (TJ10 a).2.1 ≠ (TJ10 b).2.1 := by decide +kernel
theorem tyJ10_ok : ∀ k, k < 0 → parseFieldDescriptor (TJ10 k).2.2.1 = some (tyJ10 k) := by decide +kernel
def RJxa1e45 : String := "java/util/AbstractCollection"
def TJxa1e45 : u_T := fun k => match k with
  | _ => ("", "", "", false)
def tyJxa1e45 : Nat → FieldType := fun k => match k with
  | _ => .int
abbrev wsJxa1e450 : List Cond := u_ws RJxa1e45 TJxa1e45 0
theorem nmJxa1e45 : ∀ a, a < 0 → ∀ b, b < 0 → a ≠ b → (TJxa1e45 a).2.1 ≠ (TJxa1e45 b).2.1 := by decide +kernel
theorem tyJxa1e45_ok : ∀ k, k < 0 → parseFieldDescriptor (TJxa1e45 k).2.2.1 = some (tyJxa1e45 k) := by decide +kernel
abbrev cJxa1e45_init_da8c8 : ByteArray := prog_22_method_1_code
def yJxa1e45_init_da8c8 : MethodName := ⟨RJxa1e45, "<init>", "()V"⟩
def RJxc12de : String := "java/util/AbstractList"
def TJxc12de : u_T := fun k => match k with
  | _ => ("", "", "", false)
def tyJxc12de : Nat → FieldType := fun k => match k with
  | _ => .int
abbrev wsJxc12de0 : List Cond := u_ws RJxc12de TJxc12de 0
theorem nmJxc12de : ∀ a, a < 0 → ∀ b, b < 0 → a ≠ b → (TJxc12de a).2.1 ≠ (TJxc12de b).2.1 := by decide +kernel
theorem tyJxc12de_ok : ∀ k, k < 0 → parseFieldDescriptor (TJxc12de k).2.2.1 = some (tyJxc12de k) := by decide +kernel
abbrev cJxc12de_init_da8c8 : ByteArray := prog_23_method_1_code
def yJxc12de_init_da8c8 : MethodName := ⟨RJxc12de, "<init>", "()V"⟩
def RJx4a65c : String := "java/util/ArrayList"
def TJx4a65c : u_T := fun k => match k with
  | 0 => ("java/util/AbstractList", "modCount", "I", false)
  | 1 => ("java/util/ArrayList", "elementData", "[Ljava/lang/Object;", false)
  | _ => ("java/util/ArrayList", "size", "I", false)
def tyJx4a65c : Nat → FieldType := fun k => match k with
  | 0 => .int
  | 1 => .array (.object "java/lang/Object")
  | _ => .int
abbrev wsJx4a65c0 : List Cond := u_ws RJx4a65c TJx4a65c 3
theorem nmJx4a65c : ∀ a, a < 3 → ∀ b, b < 3 → a ≠ b → (TJx4a65c a).2.1 ≠ (TJx4a65c b).2.1 := by decide +kernel
theorem tyJx4a65c_ok : ∀ k, k < 3 → parseFieldDescriptor (TJx4a65c k).2.2.1 = some (tyJx4a65c k) := by decide +kernel
abbrev cJx4a65c_init_da8c8 : ByteArray := prog_24_method_2_code
def yJx4a65c_init_da8c8 : MethodName := ⟨RJx4a65c, "<init>", "()V"⟩
abbrev cJx4a65c_grow_92f84 : ByteArray := prog_24_method_6_code
def yJx4a65c_grow_92f84 : MethodName := ⟨RJx4a65c, "grow", "(I)[Ljava/lang/Object;"⟩
abbrev cJx4a65c_grow_d5877 : ByteArray := prog_24_method_7_code
def yJx4a65c_grow_d5877 : MethodName := ⟨RJx4a65c, "grow", "()[Ljava/lang/Object;"⟩
abbrev cJx4a65c_size_8abf5 : ByteArray := prog_24_method_8_code
def yJx4a65c_size_8abf5 : MethodName := ⟨RJx4a65c, "size", "()I"⟩
abbrev cJx4a65c_elementData_915e3 : ByteArray := prog_24_method_18_code
def yJx4a65c_elementData_915e3 : MethodName := ⟨RJx4a65c, "elementData", "(I)Ljava/lang/Object;"⟩
abbrev cJx4a65c_get_915e3 : ByteArray := prog_24_method_20_code
def yJx4a65c_get_915e3 : MethodName := ⟨RJx4a65c, "get", "(I)Ljava/lang/Object;"⟩
abbrev cJx4a65c_add_72be8 : ByteArray := prog_24_method_24_code
def yJx4a65c_add_72be8 : MethodName := ⟨RJx4a65c, "add", "(Ljava/lang/Object;[Ljava/lang/Object;I)V"⟩
abbrev cJx4a65c_add_9ea2d : ByteArray := prog_24_method_25_code
def yJx4a65c_add_9ea2d : MethodName := ⟨RJx4a65c, "add", "(Ljava/lang/Object;)Z"⟩
def RJ7 : String := "java/util/Arrays"
def TJ7 : u_T := fun k => match k with
  | _ => ("", "", "", false)
def tyJ7 : Nat → FieldType := fun k => match k with
  | _ => .int
abbrev wsJ70 : List Cond := u_ws RJ7 TJ7 0
theorem nmJ7 : ∀ a, a < 0 → ∀ b, b < 0 → a ≠ b → (TJ7 a).2.1 ≠ (TJ7 b).2.1 := by decide +kernel
theorem tyJ7_ok : ∀ k, k < 0 → parseFieldDescriptor (TJ7 k).2.2.1 = some (tyJ7 k) := by decide +kernel
abbrev cJ7_fill_53178 : ByteArray := prog_25_method_103_code
def yJ7_fill_53178 : MethodName := ⟨RJ7, "fill", "([II)V"⟩
abbrev cJ7_copyOf_1904c : ByteArray := prog_25_method_119_code
def yJ7_copyOf_1904c : MethodName := ⟨RJ7, "copyOf", "([Ljava/lang/Object;I)[Ljava/lang/Object;"⟩
abbrev cJ7_copyOf_6403c : ByteArray := prog_25_method_120_code
def yJ7_copyOf_6403c : MethodName := ⟨RJ7, "copyOf", "([Ljava/lang/Object;ILjava/lang/Class;)[Ljava/lang/Object;"⟩
def RJx5ef63 : String := "java/util/Collection"
def TJx5ef63 : u_T := fun k => match k with
  | _ => ("", "", "", false)
def tyJx5ef63 : Nat → FieldType := fun k => match k with
  | _ => .int
abbrev wsJx5ef630 : List Cond := u_ws RJx5ef63 TJx5ef63 0
theorem nmJx5ef63 : ∀ a, a < 0 → ∀ b, b < 0 → a ≠ b → (TJx5ef63 a).2.1 ≠ (TJx5ef63 b).2.1 := by decide +kernel
theorem tyJx5ef63_ok : ∀ k, k < 0 → parseFieldDescriptor (TJx5ef63 k).2.2.1 = some (tyJx5ef63 k) := by decide +kernel
def RJxbd725 : String := "java/util/List"
def TJxbd725 : u_T := fun k => match k with
  | _ => ("", "", "", false)
def tyJxbd725 : Nat → FieldType := fun k => match k with
  | _ => .int
abbrev wsJxbd7250 : List Cond := u_ws RJxbd725 TJxbd725 0
theorem nmJxbd725 : ∀ a, a < 0 → ∀ b, b < 0 → a ≠ b → (TJxbd725 a).2.1 ≠ (TJxbd725 b).2.1 := by decide +kernel
theorem tyJxbd725_ok : ∀ k, k < 0 → parseFieldDescriptor (TJxbd725 k).2.2.1 = some (tyJxbd725 k) := by decide +kernel
def RJ15 : String := "java/util/Objects"
def TJ15 : u_T := fun k => match k with
  | _ => ("", "", "", false)
def tyJ15 : Nat → FieldType := fun k => match k with
  | _ => .int
abbrev wsJ150 : List Cond := u_ws RJ15 TJ15 0
theorem nmJ15 : ∀ a, a < 0 → ∀ b, b < 0 → a ≠ b → (TJ15 a).2.1 ≠ (TJ15 b).2.1 := by decide +kernel
theorem tyJ15_ok : ∀ k, k < 0 → parseFieldDescriptor (TJ15 k).2.2.1 = some (tyJ15 k) := by decide +kernel
abbrev cJ15_checkIndex_7cf53 : ByteArray := prog_28_method_17_code
def yJ15_checkIndex_7cf53 : MethodName := ⟨RJ15, "checkIndex", "(II)I"⟩
def RJxf0a74 : String := "java/util/RandomAccess"
def TJxf0a74 : u_T := fun k => match k with
  | _ => ("", "", "", false)
def tyJxf0a74 : Nat → FieldType := fun k => match k with
  | _ => .int
abbrev wsJxf0a740 : List Cond := u_ws RJxf0a74 TJxf0a74 0
theorem nmJxf0a74 : ∀ a, a < 0 → ∀ b, b < 0 → a ≠ b → (TJxf0a74 a).2.1 ≠ (TJxf0a74 b).2.1 := by decide +kernel
theorem tyJxf0a74_ok : ∀ k, k < 0 → parseFieldDescriptor (TJxf0a74 k).2.2.1 = some (tyJxf0a74 k) := by decide +kernel
def RJxa66e6 : String := "java/util/SequencedCollection"
def TJxa66e6 : u_T := fun k => match k with
  | _ => ("", "", "", false)
def tyJxa66e6 : Nat → FieldType := fun k => match k with
  | _ => .int
abbrev wsJxa66e60 : List Cond := u_ws RJxa66e6 TJxa66e6 0
theorem nmJxa66e6 : ∀ a, a < 0 → ∀ b, b < 0 → a ≠ b → (TJxa66e6 a).2.1 ≠ (TJxa66e6 b).2.1 := by decide +kernel
theorem tyJxa66e6_ok : ∀ k, k < 0 → parseFieldDescriptor (TJxa66e6 k).2.2.1 = some (tyJxa66e6 k) := by decide +kernel
def RJ8 : String := "jdk/internal/util/ArraysSupport"
def TJ8 : u_T := fun k => match k with
  | _ => ("", "", "", false)
def tyJ8 : Nat → FieldType := fun k => match k with
  | _ => .int
abbrev wsJ80 : List Cond := u_ws RJ8 TJ8 0
theorem nmJ8 : ∀ a, a < 0 → ∀ b, b < 0 → a ≠ b → (TJ8 a).2.1 ≠ (TJ8 b).2.1 := by decide +kernel
theorem tyJ8_ok : ∀ k, k < 0 → parseFieldDescriptor (TJ8 k).2.2.1 = some (tyJ8 k) := by decide +kernel
abbrev cJ8_newLength_cabcc : ByteArray := prog_31_method_27_code
def yJ8_newLength_cabcc : MethodName := ⟨RJ8, "newLength", "(III)I"⟩
abbrev cJ8_hugeLength_7cf53 : ByteArray := prog_31_method_28_code
def yJ8_hugeLength_7cf53 : MethodName := ⟨RJ8, "hugeLength", "(II)I"⟩
def RJ3 : String := "jdk/internal/util/Preconditions"
def TJ3 : u_T := fun k => match k with
  | _ => ("", "", "", false)
def tyJ3 : Nat → FieldType := fun k => match k with
  | _ => .int
abbrev wsJ30 : List Cond := u_ws RJ3 TJ3 0
theorem nmJ3 : ∀ a, a < 0 → ∀ b, b < 0 → a ≠ b → (TJ3 a).2.1 ≠ (TJ3 b).2.1 := by decide +kernel
theorem tyJ3_ok : ∀ k, k < 0 → parseFieldDescriptor (TJ3 k).2.2.1 = some (tyJ3 k) := by decide +kernel
abbrev cJ3_checkIndex_8e157 : ByteArray := prog_32_method_11_code
def yJ3_checkIndex_8e157 : MethodName := ⟨RJ3, "checkIndex", "(IILjava/util/function/BiFunction;)I"⟩
def RL : String := "HedgeCourtLaw"
abbrev cL_law : ByteArray := code
def yL_law : MethodName := ⟨RL, "law", "([I)Z"⟩
def wsL_law_r1 : List Cond := [Cond.classLink RL 7 RX9, Cond.instantiable RX9 11, Cond.initialized RX9, Cond.classLink RL 10 RX10, Cond.instantiable RX10 50, Cond.initialized RX10, Cond.methodLink RL 9 yX9_init, Cond.instanceMethod yX9_init, Cond.code yX9_init cX9_init 1 none, Cond.methodLink RX9 1 objectInit, Cond.instanceMethod objectInit, Cond.code objectInit ⟨#[0xb1]⟩ 1 none, Cond.classLink RX9 7 RJx4a65c, Cond.instantiable RJx4a65c 3, Cond.initialized RJx4a65c, Cond.fieldLink RX9 10 "HedgeCourt" "sayings" "Ljava/util/ArrayList;", Cond.classLink RX9 16 RX7, Cond.instantiable RX7 2, Cond.initialized RX7, Cond.fieldLink RX9 19 "HedgeCourt" "tape" "LHedgeCourt$Tape;", Cond.classLink RX9 23 RX1, Cond.instantiable RX1 8, Cond.initialized RX1, Cond.fieldLink RX9 28 "HedgeCourt" "reader" "LHedgeCourt$LawReader;"]
def wsL_law_r2 : List Cond := [Cond.classLink RX9 32 RX3, Cond.instantiable RX3 3, Cond.initialized RX3, Cond.fieldLink RX9 35 "HedgeCourt" "paperLine" "LHedgeCourt$PaperLine;", Cond.classLink RX9 39 RX2, Cond.instantiable RX2 8, Cond.initialized RX2, Cond.fieldLink RX9 42 "HedgeCourt" "mowings" "LHedgeCourt$Mowings;", Cond.classLink RX9 46 RX4, Cond.instantiable RX4 3, Cond.initialized RX4, Cond.fieldLink RX9 49 "HedgeCourt" "protests" "LHedgeCourt$Protests;", Cond.classLink RX9 53 RX8, Cond.instantiable RX8 7, Cond.initialized RX8, Cond.fieldLink RX9 58 "HedgeCourt" "trueLine" "LHedgeCourt$TrueLine;", Cond.classLink RX9 62 RX5, Cond.instantiable RX5 10, Cond.initialized RX5, Cond.fieldLink RX9 65 "HedgeCourt" "latestQuarrel" "LHedgeCourt$Quarrel;", Cond.classLink RX9 69 RX0, Cond.instantiable RX0 5, Cond.initialized RX0, Cond.fieldLink RX9 72 "HedgeCourt" "law" "LHedgeCourt$Law;"]
def wsL_law_r3 : List Cond := [Cond.fieldLink RX9 76 "HedgeCourt" "draft" "LHedgeCourt$Law;", Cond.fieldLink RX9 79 "HedgeCourt" "drawn" "Z", Cond.methodLink RX9 9 yJx4a65c_init_da8c8, Cond.instanceMethod yJx4a65c_init_da8c8, Cond.code yJx4a65c_init_da8c8 cJx4a65c_init_da8c8 1 none, Cond.fieldLink RJx4a65c 39 "java/util/ArrayList" "DEFAULTCAPACITY_EMPTY_ELEMENTDATA" "[Ljava/lang/Object;", Cond.fieldLink RJx4a65c 9 "java/util/ArrayList" "elementData" "[Ljava/lang/Object;", Cond.methodLink RJx4a65c 1 yJxc12de_init_da8c8, Cond.instanceMethod yJxc12de_init_da8c8, Cond.initialized RJxc12de, Cond.code yJxc12de_init_da8c8 cJxc12de_init_da8c8 1 none, Cond.fieldLink RJxc12de 7 "java/util/AbstractList" "modCount" "I", Cond.methodLink RJxc12de 1 yJxa1e45_init_da8c8, Cond.instanceMethod yJxa1e45_init_da8c8, Cond.initialized RJxa1e45, Cond.code yJxa1e45_init_da8c8 cJxa1e45_init_da8c8 1 none, Cond.methodLink RJxa1e45 1 objectInit, Cond.instanceMethod yX7_init, Cond.code yX7_init cX7_init 1 none, Cond.methodLink RX7 3 objectInit, Cond.arrayClass .byte, Cond.fieldLink RX7 9 "HedgeCourt$Tape" "bytes" "[B", Cond.fieldLink RX7 15 "HedgeCourt$Tape" "length" "I", Cond.methodLink RX9 25 yX1_init]
def wsL_law_r4 : List Cond := [Cond.instanceMethod yX1_init, Cond.code yX1_init cX1_init 2 none, Cond.methodLink RX1 3 objectInit, Cond.fieldLink RX1 9 "HedgeCourt$LawReader" "fault" "I", Cond.fieldLink RX1 15 "HedgeCourt$LawReader" "faultPlace" "I", Cond.fieldLink RX1 18 "HedgeCourt$LawReader" "lines" "I", Cond.fieldLink RX1 21 "HedgeCourt$LawReader" "next" "I", Cond.fieldLink RX1 24 "HedgeCourt$LawReader" "token" "I", Cond.fieldLink RX1 27 "HedgeCourt$LawReader" "tokenPlace" "I", Cond.fieldLink RX1 30 "HedgeCourt$LawReader" "tokenValue" "I", Cond.fieldLink RX1 33 "HedgeCourt$LawReader" "tape" "LHedgeCourt$Tape;", Cond.instanceMethod yX3_init, Cond.code yX3_init cX3_init 1 none, Cond.methodLink RX3 3 objectInit, Cond.arrayClass .int, Cond.fieldLink RX3 9 "HedgeCourt$PaperLine" "feet" "[I", Cond.fieldLink RX3 15 "HedgeCourt$PaperLine" "cost" "I", Cond.classLink RX3 19 "[[I", Cond.fieldLink RX3 21 "HedgeCourt$PaperLine" "onward" "[[I", Cond.instanceMethod yX2_init, Cond.code yX2_init cX2_init 1 none, Cond.methodLink RX2 3 objectInit, Cond.fieldLink RX2 9 "HedgeCourt$Mowings" "count" "I", Cond.fieldLink RX2 15 "HedgeCourt$Mowings" "years" "[I"]
def wsL_law_r5 : List Cond := [Cond.fieldLink RX2 19 "HedgeCourt$Mowings" "yearCount" "I", Cond.fieldLink RX2 22 "HedgeCourt$Mowings" "who" "[I", Cond.fieldLink RX2 25 "HedgeCourt$Mowings" "from" "[I", Cond.fieldLink RX2 28 "HedgeCourt$Mowings" "to" "[I", Cond.fieldLink RX2 31 "HedgeCourt$Mowings" "reach" "[I", Cond.fieldLink RX2 34 "HedgeCourt$Mowings" "when" "[I", Cond.instanceMethod yX4_init, Cond.code yX4_init cX4_init 1 none, Cond.methodLink RX4 3 objectInit, Cond.fieldLink RX4 9 "HedgeCourt$Protests" "station" "[I", Cond.fieldLink RX4 15 "HedgeCourt$Protests" "when" "[I", Cond.fieldLink RX4 18 "HedgeCourt$Protests" "count" "I", Cond.methodLink RX9 55 yX8_init, Cond.instanceMethod yX8_init, Cond.code yX8_init cX8_init 3 none, Cond.methodLink RX8 3 objectInit, Cond.fieldLink RX8 9 "HedgeCourt$TrueLine" "foot" "I", Cond.fieldLink RX8 15 "HedgeCourt$TrueLine" "movedIn" "I", Cond.fieldLink RX8 18 "HedgeCourt$TrueLine" "won" "[I", Cond.fieldLink RX8 22 "HedgeCourt$TrueLine" "run" "[I", Cond.classLink RX8 25 "[[I", Cond.fieldLink RX8 27 "HedgeCourt$TrueLine" "reach" "[[I", Cond.fieldLink RX8 30 "HedgeCourt$TrueLine" "mowings" "LHedgeCourt$Mowings;", Cond.fieldLink RX8 34 "HedgeCourt$TrueLine" "protests" "LHedgeCourt$Protests;"]
def wsL_law_r6 : List Cond := [Cond.instanceMethod yX5_init, Cond.code yX5_init cX5_init 1 none, Cond.methodLink RX5 3 objectInit, Cond.fieldLink RX5 9 "HedgeCourt$Quarrel" "opened" "Z", Cond.fieldLink RX5 15 "HedgeCourt$Quarrel" "fair" "I", Cond.fieldLink RX5 19 "HedgeCourt$Quarrel" "leastFair" "I", Cond.fieldLink RX5 22 "HedgeCourt$Quarrel" "greatestFair" "I", Cond.fieldLink RX5 25 "HedgeCourt$Quarrel" "fairest" "I", Cond.fieldLink RX5 28 "HedgeCourt$Quarrel" "greater" "I", Cond.fieldLink RX5 31 "HedgeCourt$Quarrel" "lesser" "I", Cond.fieldLink RX5 34 "HedgeCourt$Quarrel" "worth" "[I", Cond.fieldLink RX5 38 "HedgeCourt$Quarrel" "cost" "[I", Cond.fieldLink RX5 41 "HedgeCourt$Quarrel" "chance" "[I", Cond.methodLink RX9 71 yX0_init, Cond.instanceMethod yX0_init, Cond.code yX0_init cX0_init 1 none, Cond.methodLink RX0 3 objectInit, Cond.fieldLink RX0 9 "HedgeCourt$Law" "weight" "[I", Cond.arrayClass .boolean, Cond.fieldLink RX0 15 "HedgeCourt$Law" "newerAlone" "[Z", Cond.methodLink RX0 19 yX0_reset, Cond.instanceMethod yX0_reset, Cond.selects RX0 yX0_reset yX0_reset, Cond.code yX0_reset cX0_reset 2 none]
def wsL_law_r7 : List Cond := [Cond.fieldLink RX0 28 "HedgeCourt$Law" "thrown" "I", Cond.fieldLink RX0 32 "HedgeCourt$Law" "hold" "I", Cond.fieldLink RX0 35 "HedgeCourt$Law" "bend" "I", Cond.methodLink RX0 22 yJ7_fill_53178, Cond.static yJ7_fill_53178, Cond.initialized RJ7, Cond.code yJ7_fill_53178 cJ7_fill_53178 4 none, Cond.methodLink RL 12 yX10_init, Cond.instanceMethod yX10_init, Cond.code yX10_init cX10_init 2 none, Cond.methodLink RX10 1 objectInit, Cond.fieldLink RX10 7 "HedgeCourtModel" "kind" "[I", Cond.fieldLink RX10 13 "HedgeCourtModel" "from" "[I", Cond.fieldLink RX10 16 "HedgeCourtModel" "to" "[I", Cond.fieldLink RX10 19 "HedgeCourtModel" "low" "[I", Cond.fieldLink RX10 22 "HedgeCourtModel" "high" "[I", Cond.fieldLink RX10 25 "HedgeCourtModel" "year" "[I", Cond.fieldLink RX10 28 "HedgeCourtModel" "side" "[I", Cond.fieldLink RX10 31 "HedgeCourtModel" "hold" "I", Cond.fieldLink RX10 35 "HedgeCourtModel" "bend" "I", Cond.fieldLink RX10 38 "HedgeCourtModel" "weight" "[I", Cond.fieldLink RX10 41 "HedgeCourtModel" "newer" "[Z", Cond.fieldLink RX10 45 "HedgeCourtModel" "tape" "[I", Cond.fieldLink RX10 48 "HedgeCourtModel" "line" "[I"]
def wsL_law_r8 : List Cond := [Cond.fieldLink RX10 51 "HedgeCourtModel" "faultPlace" "I", Cond.fieldLink RX10 54 "HedgeCourtModel" "costs" "[I", Cond.fieldLink RX10 57 "HedgeCourtModel" "papers" "[I", Cond.fieldLink RX10 60 "HedgeCourtModel" "mower" "[I", Cond.fieldLink RX10 63 "HedgeCourtModel" "mowFrom" "[I", Cond.fieldLink RX10 66 "HedgeCourtModel" "mowTo" "[I", Cond.fieldLink RX10 69 "HedgeCourtModel" "mowFoot" "[I", Cond.fieldLink RX10 72 "HedgeCourtModel" "mowYear" "[I", Cond.fieldLink RX10 75 "HedgeCourtModel" "protestAt" "[I", Cond.fieldLink RX10 78 "HedgeCourtModel" "protestIn" "[I", Cond.fieldLink RX10 81 "HedgeCourtModel" "many" "[I", Cond.fieldLink RX10 84 "HedgeCourtModel" "run" "[I", Cond.fieldLink RX10 87 "HedgeCourtModel" "feet" "[I", Cond.methodLink RL 13 yX9_say, Cond.instanceMethod yX9_say, Cond.selects RX9 yX9_say yX9_say, Cond.code yX9_say cX9_say 9 (some .int), Cond.classLink RX9 95 RX6, Cond.instantiable RX6 7, Cond.initialized RX6, Cond.methodLink RX9 83 yX9_below, Cond.static yX9_below, Cond.code yX9_below cX9_below 2 (some .boolean), Cond.methodLink RX9 87 yX9_isStretch]
def wsL_law_r9 : List Cond := [Cond.static yX9_isStretch, Cond.code yX9_isStretch cX9_isStretch 3 (some .boolean), Cond.methodLink RX9 91 yJx4a65c_size_8abf5, Cond.instanceMethod yJx4a65c_size_8abf5, Cond.selects RJx4a65c yJx4a65c_size_8abf5 yJx4a65c_size_8abf5, Cond.code yJx4a65c_size_8abf5 cJx4a65c_size_8abf5 1 (some .int), Cond.fieldLink RJx4a65c 48 "java/util/ArrayList" "size" "I", Cond.methodLink RX9 97 yX6_init, Cond.instanceMethod yX6_init, Cond.code yX6_init cX6_init 8 none, Cond.methodLink RX6 3 objectInit, Cond.fieldLink RX6 9 "HedgeCourt$Saying" "kind" "I", Cond.fieldLink RX6 15 "HedgeCourt$Saying" "from" "I", Cond.fieldLink RX6 18 "HedgeCourt$Saying" "to" "I", Cond.fieldLink RX6 21 "HedgeCourt$Saying" "low" "I", Cond.fieldLink RX6 24 "HedgeCourt$Saying" "high" "I", Cond.fieldLink RX6 27 "HedgeCourt$Saying" "year" "I", Cond.fieldLink RX6 30 "HedgeCourt$Saying" "side" "I", Cond.methodLink RX9 100 yJx4a65c_add_9ea2d, Cond.instanceMethod yJx4a65c_add_9ea2d, Cond.selects RJx4a65c yJx4a65c_add_9ea2d yJx4a65c_add_9ea2d, Cond.code yJx4a65c_add_9ea2d cJx4a65c_add_9ea2d 2 (some .boolean), Cond.fieldLink RJx4a65c 63 "java/util/ArrayList" "modCount" "I", Cond.sameField "java/util/ArrayList" "java/util/AbstractList" "modCount" "I"]
def wsL_law_r10 : List Cond := [Cond.methodLink RJx4a65c 131 yJx4a65c_add_72be8, Cond.instanceMethod yJx4a65c_add_72be8, Cond.selects RJx4a65c yJx4a65c_add_72be8 yJx4a65c_add_72be8, Cond.code yJx4a65c_add_72be8 cJx4a65c_add_72be8 4 none, Cond.methodLink RJx4a65c 129 yJx4a65c_grow_d5877, Cond.instanceMethod yJx4a65c_grow_d5877, Cond.selects RJx4a65c yJx4a65c_grow_d5877 yJx4a65c_grow_d5877, Cond.code yJx4a65c_grow_d5877 cJx4a65c_grow_d5877 1 (some (.array (.object "java/lang/Object"))), Cond.methodLink RJx4a65c 69 yJx4a65c_grow_92f84, Cond.instanceMethod yJx4a65c_grow_92f84, Cond.selects RJx4a65c yJx4a65c_grow_92f84 yJx4a65c_grow_92f84, Cond.code yJx4a65c_grow_92f84 cJx4a65c_grow_92f84 4 (some (.array (.object "java/lang/Object"))), Cond.methodLink RJx4a65c 79 Lib.Math.max.name, Cond.static Lib.Math.max.name, Cond.initialized "java/lang/Math", Cond.code Lib.Math.max.name Lib.Math.max.code 2 (some .int), Cond.classLink RJx4a65c 7 "java/lang/Object", Cond.methodLink RJx4a65c 73 yJ8_newLength_cabcc, Cond.static yJ8_newLength_cabcc, Cond.initialized RJ8, Cond.code yJ8_newLength_cabcc cJ8_newLength_cabcc 4 (some .int), Cond.methodLink RJ8 194 Lib.Math.max.name, Cond.constant RJ8 200 (2147483639), Cond.methodLink RJ8 201 yJ8_hugeLength_7cf53]
def wsL_law_r11 : List Cond := [Cond.static yJ8_hugeLength_7cf53, Cond.code yJ8_hugeLength_7cf53 cJ8_hugeLength_7cf53 3 (some .int), Cond.methodLink RJx4a65c 66 yJ7_copyOf_1904c, Cond.static yJ7_copyOf_1904c, Cond.code yJ7_copyOf_1904c cJ7_copyOf_1904c 2 (some (.array (.object "java/lang/Object"))), Cond.methodLink RJ7 86 ⟨"java/lang/Object", "getClass", "()Ljava/lang/Class;"⟩, Cond.selects "[Ljava/lang/Object;" ⟨"java/lang/Object", "getClass", "()Ljava/lang/Class;"⟩ ⟨"java/lang/Object", "getClass", "()Ljava/lang/Class;"⟩, Cond.instanceMethod ⟨"java/lang/Object", "getClass", "()Ljava/lang/Class;"⟩, Cond.native ⟨"java/lang/Object", "getClass", "()Ljava/lang/Class;"⟩, Cond.methodLink RJ7 300 yJ7_copyOf_6403c, Cond.static yJ7_copyOf_6403c, Cond.code yJ7_copyOf_6403c cJ7_copyOf_6403c 4 (some (.array (.object "java/lang/Object"))), Cond.classLink RJ7 110 "[Ljava/lang/Object;", Cond.classLink RJ7 2 "java/lang/Object", Cond.methodLink RJ7 304 Lib.Math.min.name, Cond.static Lib.Math.min.name, Cond.code Lib.Math.min.name Lib.Math.min.code 2 (some .int), Cond.methodLink RJ7 150 arraycopyName, Cond.native arraycopyName, Cond.static arraycopyName, Cond.initialized "java/lang/System", Cond.methodLink RL 17 yX10_say, Cond.instanceMethod yX10_say, Cond.selects RX10 yX10_say yX10_say]
def wsL_law_r12 : List Cond := [Cond.code yX10_say cX10_say 8 (some .int), Cond.fieldLink RX10 108 "HedgeCourtModel" "sayings" "I", Cond.methodLink RX10 90 yX10_isIn, Cond.static yX10_isIn, Cond.code yX10_isIn cX10_isIn 3 (some .boolean), Cond.methodLink RX10 98 yX10_isSpan, Cond.static yX10_isSpan, Cond.code yX10_isSpan cX10_isSpan 2 (some .boolean), Cond.methodLink RX10 94 yX10_isStation, Cond.static yX10_isStation, Cond.code yX10_isStation cX10_isStation 1 (some .boolean), Cond.methodLink RX10 102 yX10_isFoot, Cond.static yX10_isFoot, Cond.code yX10_isFoot cX10_isFoot 1 (some .boolean), Cond.methodLink RX10 105 yX10_isYear, Cond.static yX10_isYear, Cond.code yX10_isYear cX10_isYear 1 (some .boolean), Cond.methodLink RL 18 yX9_feed, Cond.instanceMethod yX9_feed, Cond.selects RX9 yX9_feed yX9_feed, Cond.code yX9_feed cX9_feed 6 (some .int), Cond.fieldLink RX9 104 "HedgeCourt$Tape" "length" "I", Cond.methodLink RX9 108 yX7_append, Cond.instanceMethod yX7_append]
def wsL_law_r13 : List Cond := [Cond.selects RX7 yX7_append yX7_append, Cond.code yX7_append cX7_append 3 none, Cond.methodLink RL 22 yX10_feed, Cond.instanceMethod yX10_feed, Cond.selects RX10 yX10_feed yX10_feed, Cond.code yX10_feed cX10_feed 8 (some .int), Cond.fieldLink RX10 111 "HedgeCourtModel" "taped" "I", Cond.methodLink RL 23 yX9_end, Cond.instanceMethod yX9_end, Cond.selects RX9 yX9_end yX9_end, Cond.code yX9_end cX9_end 2 (some .boolean), Cond.methodLink RX9 112 yX7_cut, Cond.instanceMethod yX7_cut, Cond.selects RX7 yX7_cut yX7_cut, Cond.code yX7_cut cX7_cut 2 (some .boolean), Cond.methodLink RL 27 yX10_end, Cond.instanceMethod yX10_end, Cond.selects RX10 yX10_end yX10_end, Cond.code yX10_end cX10_end 2 (some .boolean), Cond.methodLink RL 28 yX9_rules, Cond.instanceMethod yX9_rules, Cond.selects RX9 yX9_rules yX9_rules, Cond.code yX9_rules cX9_rules 2 (some .int), Cond.fieldLink RX9 120 "HedgeCourt$LawReader" "fault" "I"]
def wsL_law_r14 : List Cond := [Cond.fieldLink RX9 123 "HedgeCourt$LawReader" "lines" "I", Cond.methodLink RX9 116 yX1_read, Cond.instanceMethod yX1_read, Cond.selects RX1 yX1_read yX1_read, Cond.code yX1_read cX1_read 3 none, Cond.methodLink RX1 37 yX0_reset, Cond.methodLink RX1 42 yX1_advance, Cond.instanceMethod yX1_advance, Cond.selects RX1 yX1_advance yX1_advance, Cond.code yX1_advance cX1_advance 1 none, Cond.fieldLink RX1 86 "HedgeCourt$Tape" "length" "I", Cond.fieldLink RX1 91 "HedgeCourt$Tape" "bytes" "[B", Cond.methodLink RX1 95 yX1_isBlank, Cond.static yX1_isBlank, Cond.code yX1_isBlank cX1_isBlank 1 (some .boolean), Cond.methodLink RX1 99 yX1_isLetter, Cond.static yX1_isLetter, Cond.code yX1_isLetter cX1_isLetter 1 (some .boolean), Cond.methodLink RX1 102 yX1_scanWord, Cond.instanceMethod yX1_scanWord, Cond.selects RX1 yX1_scanWord yX1_scanWord, Cond.code yX1_scanWord cX1_scanWord 2 none, Cond.methodLink RX1 111 yX1_keyword, Cond.static yX1_keyword]
def wsL_law_r15 : List Cond := [Cond.code yX1_keyword cX1_keyword 1 (some (.object "java/lang/String")), Cond.methodLink RX1 115 yX1_isSpelled, Cond.instanceMethod yX1_isSpelled, Cond.selects RX1 yX1_isSpelled yX1_isSpelled, Cond.code yX1_isSpelled cX1_isSpelled 3 (some .boolean), Cond.methodLink RX1 119 yJ0_length_8abf5, Cond.instanceMethod yJ0_length_8abf5, Cond.selects RJ0 yJ0_length_8abf5 yJ0_length_8abf5, Cond.initialized RJ0, Cond.code yJ0_length_8abf5 cJ0_length_8abf5 1 (some .int), Cond.fieldLink RJ0 9 "java/lang/String" "value" "[B", Cond.methodLink RJ0 335 yJ0_coder_7d493, Cond.instanceMethod yJ0_coder_7d493, Cond.selects RJ0 yJ0_coder_7d493 yJ0_coder_7d493, Cond.code yJ0_coder_7d493 cJ0_coder_7d493 1 (some .byte), Cond.fieldLink RJ0 38 "java/lang/String" "COMPACT_STRINGS" "Z", Cond.fieldLink RJ0 15 "java/lang/String" "coder" "B", Cond.methodLink RX1 123 yJ0_charAt_5068e, Cond.instanceMethod yJ0_charAt_5068e, Cond.selects RJ0 yJ0_charAt_5068e yJ0_charAt_5068e, Cond.code yJ0_charAt_5068e cJ0_charAt_5068e 2 (some .char), Cond.methodLink RJ0 492 yJ0_isLatin1_aae02, Cond.instanceMethod yJ0_isLatin1_aae02, Cond.selects RJ0 yJ0_isLatin1_aae02 yJ0_isLatin1_aae02]
def wsL_law_r16 : List Cond := [Cond.code yJ0_isLatin1_aae02 cJ0_isLatin1_aae02 1 (some .boolean), Cond.methodLink RJ0 495 yJ1_charAt_3b067, Cond.static yJ1_charAt_3b067, Cond.initialized RJ1, Cond.code yJ1_charAt_3b067 cJ1_charAt_3b067 2 (some .char), Cond.methodLink RJ1 9 yJ0_checkIndex_df160, Cond.static yJ0_checkIndex_df160, Cond.code yJ0_checkIndex_df160 cJ0_checkIndex_df160 2 none, Cond.fieldLink RJ0 1053 "jdk/internal/util/Preconditions" "SIOOBE_FORMATTER" "Ljava/util/function/BiFunction;", Cond.methodLink RJ0 1059 yJ3_checkIndex_8e157, Cond.static yJ3_checkIndex_8e157, Cond.initialized RJ3, Cond.code yJ3_checkIndex_8e157 cJ3_checkIndex_8e157 3 (some .int), Cond.methodLink RJ0 498 yJ2_charAt_3b067, Cond.static yJ2_charAt_3b067, Cond.initialized RJ2, Cond.code yJ2_charAt_3b067 cJ2_charAt_3b067 2 (some .char), Cond.methodLink RJ2 67 yJ2_checkIndex_2214a, Cond.static yJ2_checkIndex_2214a, Cond.code yJ2_checkIndex_2214a cJ2_checkIndex_2214a 2 none, Cond.methodLink RJ2 48 yJ2_length_9d52b, Cond.static yJ2_length_9d52b, Cond.code yJ2_length_9d52b cJ2_length_9d52b 1 (some .int), Cond.methodLink RJ2 414 yJ0_checkIndex_df160]
def wsL_law_r17 : List Cond := [Cond.methodLink RJ2 71 yJ2_getChar_3b067, Cond.static yJ2_getChar_3b067, Cond.code yJ2_getChar_3b067 cJ2_getChar_3b067 2 (some .char), Cond.fieldLink RJ2 44 "java/lang/StringUTF16" "$assertionsDisabled" "Z", Cond.fieldLink RJ2 59 "java/lang/StringUTF16" "HI_BYTE_SHIFT" "I", Cond.fieldLink RJ2 63 "java/lang/StringUTF16" "LO_BYTE_SHIFT" "I", Cond.methodLink RX1 105 yX1_isDigit, Cond.static yX1_isDigit, Cond.code yX1_isDigit cX1_isDigit 1 (some .boolean), Cond.methodLink RX1 108 yX1_scanNumber, Cond.instanceMethod yX1_scanNumber, Cond.selects RX1 yX1_scanNumber yX1_scanNumber, Cond.code yX1_scanNumber cX1_scanNumber 2 none, Cond.methodLink RX1 45 yX1_readLine, Cond.instanceMethod yX1_readLine, Cond.selects RX1 yX1_readLine yX1_readLine, Cond.code yX1_readLine cX1_readLine 5 none, Cond.methodLink RX1 49 yX1_demand, Cond.instanceMethod yX1_demand, Cond.selects RX1 yX1_demand yX1_demand, Cond.code yX1_demand cX1_demand 3 none, Cond.methodLink RX1 53 yX1_kindHere, Cond.instanceMethod yX1_kindHere, Cond.selects RX1 yX1_kindHere yX1_kindHere]
def wsL_law_r18 : List Cond := [Cond.code yX1_kindHere cX1_kindHere 1 (some .int), Cond.methodLink RX1 57 yX1_numberHere, Cond.instanceMethod yX1_numberHere, Cond.selects RX1 yX1_numberHere yX1_numberHere, Cond.code yX1_numberHere cX1_numberHere 2 (some .int), Cond.methodLink RX1 65 yX1_fits, Cond.static yX1_fits, Cond.code yX1_fits cX1_fits 2 (some .boolean), Cond.methodLink RX1 61 yX1_enact, Cond.static yX1_enact, Cond.code yX1_enact cX1_enact 5 none, Cond.fieldLink RX1 69 "HedgeCourt$Law" "weight" "[I", Cond.fieldLink RX1 73 "HedgeCourt$Law" "newerAlone" "[Z", Cond.fieldLink RX1 77 "HedgeCourt$Law" "thrown" "I", Cond.fieldLink RX1 80 "HedgeCourt$Law" "hold" "I", Cond.fieldLink RX1 83 "HedgeCourt$Law" "bend" "I", Cond.methodLink RL 32 yX10_rules, Cond.instanceMethod yX10_rules, Cond.selects RX10 yX10_rules yX10_rules, Cond.code yX10_rules cX10_rules 3 (some .int), Cond.fieldLink RX10 162 "HedgeCourtModel" "wrong" "I", Cond.fieldLink RX10 136 "HedgeCourtModel" "at" "I", Cond.fieldLink RX10 171 "HedgeCourtModel" "lines" "I", Cond.fieldLink RX10 146 "HedgeCourtModel" "token" "I"]
def wsL_law_r19 : List Cond := [Cond.fieldLink RX10 187 "HedgeCourtModel" "faultKind" "I", Cond.fieldLink RX10 165 "HedgeCourtModel" "wrongAt" "I", Cond.fieldLink RX10 190 "HedgeCourtModel" "thrown" "I", Cond.methodLink RX10 174 yX10_next0, Cond.instanceMethod yX10_next0, Cond.selects RX10 yX10_next0 yX10_next0, Cond.code yX10_next0 cX10_next0 5 none, Cond.fieldLink RX10 143 "HedgeCourtModel" "tokenAt" "I", Cond.fieldLink RX10 159 "HedgeCourtModel" "value" "I", Cond.methodLink RX10 139 yX10_see, Cond.instanceMethod yX10_see, Cond.selects RX10 yX10_see yX10_see, Cond.code yX10_see cX10_see 2 (some .int), Cond.methodLink RX10 149 yX10_isLetter, Cond.static yX10_isLetter, Cond.code yX10_isLetter cX10_isLetter 1 (some .boolean), Cond.methodLink RX10 152 yX10_word, Cond.static yX10_word, Cond.code yX10_word cX10_word 2 (some .int), Cond.constantLong RX10 114 (512802514792), Cond.constantLong RX10 116 (499968536439), Cond.constantLong RX10 118 (1752132708), Cond.constantLong RX10 120 (1650814564), Cond.constantLong RX10 122 (474148726130)]
def wsL_law_r20 : List Cond := [Cond.constantLong RX10 124 (1684366692), Cond.constantLong RX10 126 (7168368), Cond.constantLong RX10 128 (431265964904), Cond.constantLong RX10 130 (1886352244), Cond.constantLong RX10 132 (2003792484), Cond.constantLong RX10 134 (126948268729721), Cond.methodLink RX10 156 yX10_isDigit, Cond.static yX10_isDigit, Cond.code yX10_isDigit cX10_isDigit 1 (some .boolean), Cond.methodLink RX10 184 yX10_aLine, Cond.instanceMethod yX10_aLine, Cond.selects RX10 yX10_aLine yX10_aLine, Cond.code yX10_aLine cX10_aLine 2 (some .boolean), Cond.methodLink RX10 168 yX10_bad, Cond.instanceMethod yX10_bad, Cond.selects RX10 yX10_bad yX10_bad, Cond.code yX10_bad cX10_bad 2 (some .boolean), Cond.methodLink RX10 177 yX10_aKind, Cond.instanceMethod yX10_aKind, Cond.selects RX10 yX10_aKind yX10_aKind, Cond.code yX10_aKind cX10_aKind 1 (some .boolean), Cond.methodLink RX10 181 yX10_aNumber, Cond.instanceMethod yX10_aNumber, Cond.selects RX10 yX10_aNumber yX10_aNumber]
def wsL_law_r21 : List Cond := [Cond.code yX10_aNumber cX10_aNumber 3 (some .boolean), Cond.methodLink RX10 193 yX10_tells, Cond.instanceMethod yX10_tells, Cond.selects RX10 yX10_tells yX10_tells, Cond.code yX10_tells cX10_tells 4 none, Cond.methodLink RL 33 yX9_fault, Cond.instanceMethod yX9_fault, Cond.selects RX9 yX9_fault yX9_fault, Cond.code yX9_fault cX9_fault 2 (some .int), Cond.fieldLink RX9 126 "HedgeCourt$LawReader" "faultPlace" "I", Cond.methodLink RL 37 yX10_fault, Cond.instanceMethod yX10_fault, Cond.selects RX10 yX10_fault yX10_fault, Cond.code yX10_fault cX10_fault 2 (some .int), Cond.methodLink RL 38 yX9_look, Cond.instanceMethod yX9_look, Cond.selects RX9 yX9_look yX9_look, Cond.code yX9_look cX9_look 2 (some .int), Cond.fieldLink RX9 129 "HedgeCourt$Law" "thrown" "I", Cond.fieldLink RX9 132 "HedgeCourt$Law" "hold" "I", Cond.fieldLink RX9 135 "HedgeCourt$Law" "bend" "I", Cond.fieldLink RX9 138 "HedgeCourt$Mowings" "count" "I", Cond.methodLink RX9 141 yX9_lookAtKinds, Cond.instanceMethod yX9_lookAtKinds]
def wsL_law_r22 : List Cond := [Cond.selects RX9 yX9_lookAtKinds yX9_lookAtKinds, Cond.code yX9_lookAtKinds cX9_lookAtKinds 2 (some .int), Cond.fieldLink RX9 145 "HedgeCourt$Law" "weight" "[I", Cond.fieldLink RX9 149 "HedgeCourt$Law" "newerAlone" "[Z", Cond.methodLink RL 41 yX10_look, Cond.instanceMethod yX10_look, Cond.selects RX10 yX10_look yX10_look, Cond.code yX10_look cX10_look 2 (some .int), Cond.fieldLink RX10 197 "HedgeCourtModel" "mows" "I", Cond.methodLink RL 42 yX9_said, Cond.instanceMethod yX9_said, Cond.selects RX9 yX9_said yX9_said, Cond.code yX9_said cX9_said 4 (some .int), Cond.classLink RX9 95 "HedgeCourt$Saying", Cond.fieldLink RX9 157 "HedgeCourt$Saying" "kind" "I", Cond.fieldLink RX9 160 "HedgeCourt$Saying" "low" "I", Cond.fieldLink RX9 167 "HedgeCourt$Saying" "high" "I", Cond.fieldLink RX9 170 "HedgeCourt$Saying" "year" "I", Cond.methodLink RX9 153 yJx4a65c_get_915e3, Cond.instanceMethod yJx4a65c_get_915e3, Cond.selects RJx4a65c yJx4a65c_get_915e3 yJx4a65c_get_915e3, Cond.code yJx4a65c_get_915e3 cJx4a65c_get_915e3 2 (some (.object "java/lang/Object")), Cond.methodLink RJx4a65c 118 yJ15_checkIndex_7cf53, Cond.static yJ15_checkIndex_7cf53]
def wsL_law_r23 : List Cond := [Cond.initialized RJ15, Cond.code yJ15_checkIndex_7cf53 cJ15_checkIndex_7cf53 2 (some .int), Cond.methodLink RJ15 105 yJ3_checkIndex_8e157, Cond.methodLink RJx4a65c 123 yJx4a65c_elementData_915e3, Cond.instanceMethod yJx4a65c_elementData_915e3, Cond.selects RJx4a65c yJx4a65c_elementData_915e3 yJx4a65c_elementData_915e3, Cond.code yJx4a65c_elementData_915e3 cJx4a65c_elementData_915e3 2 (some (.object "java/lang/Object")), Cond.methodLink RX9 163 yX6_counted, Cond.instanceMethod yX6_counted, Cond.selects RX6 yX6_counted yX6_counted, Cond.code yX6_counted cX6_counted 4 (some .int), Cond.fieldLink RX6 33 "HedgeCourt$Law" "thrown" "I", Cond.methodLink RX6 38 Lib.Math.min.name, Cond.methodLink RX6 44 Lib.Math.max.name, Cond.methodLink RX9 173 yX9_stationsOf, Cond.instanceMethod yX9_stationsOf, Cond.selects RX9 yX9_stationsOf yX9_stationsOf, Cond.code yX9_stationsOf cX9_stationsOf 4 (some .int), Cond.fieldLink RX9 177 "HedgeCourt$Saying" "from" "I", Cond.fieldLink RX9 180 "HedgeCourt$Saying" "to" "I", Cond.methodLink RX9 183 yX6_countsAt, Cond.instanceMethod yX6_countsAt, Cond.selects RX6 yX6_countsAt yX6_countsAt, Cond.code yX6_countsAt cX6_countsAt 6 (some .boolean)]
def wsL_law_r24 : List Cond := [Cond.fieldLink RX6 51 "HedgeCourt$Law" "newerAlone" "[Z", Cond.classLink RX6 10 "HedgeCourt$Saying", Cond.methodLink RX6 47 yX6_has, Cond.instanceMethod yX6_has, Cond.selects RX6 yX6_has yX6_has, Cond.code yX6_has cX6_has 2 (some .boolean), Cond.methodLink RX6 55 yJx4a65c_size_8abf5, Cond.methodLink RX6 61 yJx4a65c_get_915e3, Cond.methodLink RL 46 yX10_said, Cond.instanceMethod yX10_said, Cond.selects RX10 yX10_said yX10_said, Cond.code yX10_said cX10_said 5 (some .int), Cond.methodLink RX10 200 yX10_moved, Cond.instanceMethod yX10_moved, Cond.selects RX10 yX10_moved yX10_moved, Cond.code yX10_moved cX10_moved 4 (some .int), Cond.methodLink RX10 204 yX10_counts, Cond.instanceMethod yX10_counts, Cond.selects RX10 yX10_counts yX10_counts, Cond.code yX10_counts cX10_counts 5 (some .boolean), Cond.methodLink RL 47 yX9_paper, Cond.instanceMethod yX9_paper, Cond.selects RX9 yX9_paper yX9_paper, Cond.code yX9_paper cX9_paper 2 (some .int)]
def wsL_law_r25 : List Cond := [Cond.fieldLink RX9 190 "HedgeCourt$PaperLine" "cost" "I", Cond.fieldLink RX9 193 "HedgeCourt$PaperLine" "feet" "[I", Cond.methodLink RX9 187 yX9_drawPaperLine, Cond.instanceMethod yX9_drawPaperLine, Cond.selects RX9 yX9_drawPaperLine yX9_drawPaperLine, Cond.code yX9_drawPaperLine cX9_drawPaperLine 1 none, Cond.methodLink RX9 196 yX3_draw, Cond.instanceMethod yX3_draw, Cond.selects RX3 yX3_draw yX3_draw, Cond.code yX3_draw cX3_draw 5 none, Cond.fieldLink RX3 30 "HedgeCourt$Law" "bend" "I", Cond.methodLink RX3 24 yJ7_fill_53178, Cond.methodLink RX3 35 yX3_bendTowards, Cond.static yX3_bendTowards, Cond.code yX3_bendTowards cX3_bendTowards 4 none, Cond.methodLink RX3 47 arraycopyName, Cond.methodLink RX3 53 Lib.Math.min.name, Cond.methodLink RX3 39 yX3_addMisses, Cond.static yX3_addMisses, Cond.code yX3_addMisses cX3_addMisses 10 none, Cond.classLink RX3 69 "HedgeCourt$Saying", Cond.fieldLink RX3 75 "HedgeCourt$Law" "weight" "[I", Cond.fieldLink RX3 78 "HedgeCourt$Saying" "kind" "I", Cond.fieldLink RX3 81 "HedgeCourt$Saying" "low" "I"]
def wsL_law_r26 : List Cond := [Cond.fieldLink RX3 88 "HedgeCourt$Saying" "high" "I", Cond.methodLink RX3 59 yJx4a65c_size_8abf5, Cond.methodLink RX3 65 yJx4a65c_get_915e3, Cond.methodLink RX3 71 yX6_countsAt, Cond.methodLink RX3 84 yX6_counted, Cond.static yX9_missOf, Cond.code yX9_missOf cX9_missOf 3 (some .int), Cond.methodLink RX9 262 Lib.Math.max.name, Cond.methodLink RX3 43 yX3_chooseFeet, Cond.instanceMethod yX3_chooseFeet, Cond.selects RX3 yX3_chooseFeet yX3_chooseFeet, Cond.code yX3_chooseFeet cX3_chooseFeet 3 none, Cond.methodLink RX3 95 yX3_cheapest, Cond.static yX3_cheapest, Cond.code yX3_cheapest cX3_cheapest 5 (some .int), Cond.methodLink RX3 99 yX3_priceOf, Cond.static yX3_priceOf, Cond.code yX3_priceOf cX3_priceOf 4 (some .int), Cond.methodLink RX3 103 Lib.Math.abs.name, Cond.static Lib.Math.abs.name, Cond.code Lib.Math.abs.name Lib.Math.abs.code 1 (some .int), Cond.methodLink RL 50 yX10_paper, Cond.instanceMethod yX10_paper, Cond.selects RX10 yX10_paper yX10_paper]
def wsL_law_r27 : List Cond := [Cond.code yX10_paper cX10_paper 2 (some .int), Cond.methodLink RX10 216 yX10_lines, Cond.instanceMethod yX10_lines, Cond.selects RX10 yX10_lines yX10_lines, Cond.code yX10_lines cX10_lines 6 none, Cond.methodLink RX10 207 yX10_abs, Cond.static yX10_abs, Cond.code yX10_abs cX10_abs 1 (some .int), Cond.methodLink RX10 210 yX10_costAt, Cond.instanceMethod yX10_costAt, Cond.selects RX10 yX10_costAt yX10_costAt, Cond.code yX10_costAt cX10_costAt 7 (some .int), Cond.methodLink RX10 213 yX10_onFrom, Cond.instanceMethod yX10_onFrom, Cond.selects RX10 yX10_onFrom yX10_onFrom, Cond.code yX10_onFrom cX10_onFrom 3 (some .int), Cond.methodLink RL 51 yX9_straight, Cond.instanceMethod yX9_straight, Cond.selects RX9 yX9_straight yX9_straight, Cond.code yX9_straight cX9_straight 7 (some .int), Cond.methodLink RX9 200 yJ6_bitCount_0f7a4, Cond.static yJ6_bitCount_0f7a4, Cond.initialized RJ6, Cond.code yJ6_bitCount_0f7a4 cJ6_bitCount_0f7a4 1 (some .int)]
def wsL_law_r28 : List Cond := [Cond.constant RJ6 265 (1431655765), Cond.constant RJ6 266 (858993459), Cond.constant RJ6 267 (252645135), Cond.methodLink RX9 205 yX9_missOf, Cond.methodLink RL 54 yX10_straight, Cond.instanceMethod yX10_straight, Cond.selects RX10 yX10_straight yX10_straight, Cond.code yX10_straight cX10_straight 4 (some .int), Cond.methodLink RL 55 yX9_mow, Cond.instanceMethod yX9_mow, Cond.selects RX9 yX9_mow yX9_mow, Cond.code yX9_mow cX9_mow 7 (some .boolean), Cond.methodLink RX9 209 yX2_tell, Cond.instanceMethod yX2_tell, Cond.selects RX2 yX2_tell yX2_tell, Cond.code yX2_tell cX2_tell 6 (some .boolean), Cond.methodLink RX2 37 yX2_noteYear, Cond.instanceMethod yX2_noteYear, Cond.selects RX2 yX2_noteYear yX2_noteYear, Cond.code yX2_noteYear cX2_noteYear 5 none, Cond.methodLink RL 59 yX10_mow, Cond.instanceMethod yX10_mow, Cond.selects RX10 yX10_mow yX10_mow, Cond.code yX10_mow cX10_mow 6 (some .boolean)]
def wsL_law_r29 : List Cond := [Cond.methodLink RL 60 yX9_protest, Cond.instanceMethod yX9_protest, Cond.selects RX9 yX9_protest yX9_protest, Cond.code yX9_protest cX9_protest 3 (some .boolean), Cond.methodLink RX9 213 yX4_tell, Cond.instanceMethod yX4_tell, Cond.selects RX4 yX4_tell yX4_tell, Cond.code yX4_tell cX4_tell 3 (some .boolean), Cond.methodLink RX4 22 yX4_isTold, Cond.instanceMethod yX4_isTold, Cond.selects RX4 yX4_isTold yX4_isTold, Cond.code yX4_isTold cX4_isTold 4 (some .boolean), Cond.methodLink RL 64 yX10_protest, Cond.instanceMethod yX10_protest, Cond.selects RX10 yX10_protest yX10_protest, Cond.code yX10_protest cX10_protest 3 (some .boolean), Cond.fieldLink RX10 218 "HedgeCourtModel" "protests" "I", Cond.methodLink RX10 221 yX10_isProtested, Cond.instanceMethod yX10_isProtested, Cond.selects RX10 yX10_isProtested yX10_isProtested, Cond.code yX10_isProtested cX10_isProtested 5 (some .boolean), Cond.methodLink RL 65 yX9_mowed, Cond.instanceMethod yX9_mowed, Cond.selects RX9 yX9_mowed yX9_mowed]
def wsL_law_r30 : List Cond := [Cond.code yX9_mowed cX9_mowed 5 (some .int), Cond.methodLink RX9 215 yX2_reachOf, Cond.instanceMethod yX2_reachOf, Cond.selects RX2 yX2_reachOf yX2_reachOf, Cond.code yX2_reachOf cX2_reachOf 5 (some .int), Cond.methodLink RL 69 yX10_mowed, Cond.instanceMethod yX10_mowed, Cond.selects RX10 yX10_mowed yX10_mowed, Cond.code yX10_mowed cX10_mowed 4 (some .int), Cond.methodLink RX10 224 yX10_mowedIn, Cond.instanceMethod yX10_mowedIn, Cond.selects RX10 yX10_mowedIn yX10_mowedIn, Cond.code yX10_mowedIn cX10_mowedIn 6 (some .int), Cond.methodLink RL 70 yX9_spells, Cond.instanceMethod yX9_spells, Cond.selects RX9 yX9_spells yX9_spells, Cond.code yX9_spells cX9_spells 3 (some .int), Cond.fieldLink RX9 221 "HedgeCourt$TrueLine" "won" "[I", Cond.fieldLink RX9 224 "HedgeCourt$TrueLine" "movedIn" "I", Cond.methodLink RX9 218 yX9_drawTrueLine, Cond.instanceMethod yX9_drawTrueLine, Cond.selects RX9 yX9_drawTrueLine yX9_drawTrueLine, Cond.code yX9_drawTrueLine cX9_drawTrueLine 2 none, Cond.methodLink RX9 230 yX8_draw]
def wsL_law_r31 : List Cond := [Cond.instanceMethod yX8_draw, Cond.selects RX8 yX8_draw yX8_draw, Cond.code yX8_draw cX8_draw 6 none, Cond.fieldLink RX8 44 "HedgeCourt$Mowings" "yearCount" "I", Cond.fieldLink RX8 57 "HedgeCourt$Mowings" "years" "[I", Cond.methodLink RX8 38 yJ7_fill_53178, Cond.methodLink RX8 49 yX8_extendRun, Cond.instanceMethod yX8_extendRun, Cond.selects RX8 yX8_extendRun yX8_extendRun, Cond.code yX8_extendRun cX8_extendRun 9 none, Cond.methodLink RX8 64 yX2_reachOf, Cond.methodLink RX8 67 yX8_isBeyond, Cond.static yX8_isBeyond, Cond.code yX8_isBeyond cX8_isBeyond 3 (some .boolean), Cond.methodLink RX8 71 yX4_isTold, Cond.methodLink RX8 53 yX8_nearest, Cond.instanceMethod yX8_nearest, Cond.selects RX8 yX8_nearest yX8_nearest, Cond.code yX8_nearest cX8_nearest 6 (some .int), Cond.methodLink RX8 60 yX8_moveLine, Cond.instanceMethod yX8_moveLine, Cond.selects RX8 yX8_moveLine yX8_moveLine, Cond.code yX8_moveLine cX8_moveLine 4 none, Cond.methodLink RL 73 yX10_spells_]
def wsL_law_r32 : List Cond := [Cond.instanceMethod yX10_spells_, Cond.selects RX10 yX10_spells_ yX10_spells_, Cond.code yX10_spells_ cX10_spells_ 3 (some .int), Cond.fieldLink RX10 231 "HedgeCourtModel" "lastYear" "I", Cond.methodLink RX10 237 yX10_spells, Cond.instanceMethod yX10_spells, Cond.selects RX10 yX10_spells yX10_spells, Cond.code yX10_spells cX10_spells 4 none, Cond.fieldLink RX10 228 "HedgeCourtModel" "trueLine" "I", Cond.methodLink RX10 234 yX10_goes, Cond.instanceMethod yX10_goes, Cond.selects RX10 yX10_goes yX10_goes, Cond.code yX10_goes cX10_goes 9 none, Cond.methodLink RL 74 yX9_line, Cond.instanceMethod yX9_line, Cond.selects RX9 yX9_line yX9_line, Cond.code yX9_line cX9_line 2 (some .int), Cond.fieldLink RX9 227 "HedgeCourt$TrueLine" "foot" "I", Cond.methodLink RL 77 yX10_line, Cond.instanceMethod yX10_line, Cond.selects RX10 yX10_line yX10_line, Cond.code yX10_line cX10_line 2 (some .int), Cond.methodLink RL 78 yX9_quarrel, Cond.instanceMethod yX9_quarrel]
def wsL_law_r33 : List Cond := [Cond.selects RX9 yX9_quarrel yX9_quarrel, Cond.code yX9_quarrel cX9_quarrel 10 (some .boolean), Cond.methodLink RX9 233 yX5_isParty, Cond.static yX5_isParty, Cond.code yX5_isParty cX5_isParty 3 (some .boolean), Cond.methodLink RX9 236 yX5_open, Cond.instanceMethod yX5_open, Cond.selects RX5 yX5_open yX5_open, Cond.code yX5_open cX5_open 3 none, Cond.methodLink RX9 240 yX5_setParty, Cond.instanceMethod yX5_setParty, Cond.selects RX5 yX5_setParty yX5_setParty, Cond.code yX5_setParty cX5_setParty 5 none, Cond.methodLink RX9 244 yX5_judge, Cond.instanceMethod yX5_judge, Cond.selects RX5 yX5_judge yX5_judge, Cond.code yX5_judge cX5_judge 4 none, Cond.methodLink RX5 52 Lib.Math.min.name, Cond.methodLink RX5 48 yX5_gainOf, Cond.instanceMethod yX5_gainOf, Cond.selects RX5 yX5_gainOf yX5_gainOf, Cond.code yX5_gainOf cX5_gainOf 4 (some .int), Cond.methodLink RL 82 yX10_quarrel, Cond.instanceMethod yX10_quarrel]
def wsL_law_r34 : List Cond := [Cond.selects RX10 yX10_quarrel yX10_quarrel, Cond.code yX10_quarrel cX10_quarrel 9 (some .boolean), Cond.fieldLink RX10 241 "HedgeCourtModel" "isQuarrel" "Z", Cond.fieldLink RX10 245 "HedgeCourtModel" "claim0" "I", Cond.fieldLink RX10 248 "HedgeCourtModel" "claim1" "I", Cond.fieldLink RX10 251 "HedgeCourtModel" "worth0" "I", Cond.fieldLink RX10 254 "HedgeCourtModel" "worth1" "I", Cond.fieldLink RX10 257 "HedgeCourtModel" "cost0" "I", Cond.fieldLink RX10 260 "HedgeCourtModel" "cost1" "I", Cond.fieldLink RX10 263 "HedgeCourtModel" "p" "I", Cond.fieldLink RX10 266 "HedgeCourtModel" "q" "I", Cond.methodLink RL 83 yX9_split, Cond.instanceMethod yX9_split, Cond.selects RX9 yX9_split yX9_split, Cond.code yX9_split cX9_split 2 (some .int), Cond.fieldLink RX9 247 "HedgeCourt$Quarrel" "opened" "Z", Cond.fieldLink RX9 250 "HedgeCourt$Quarrel" "fair" "I", Cond.fieldLink RX9 253 "HedgeCourt$Quarrel" "leastFair" "I", Cond.fieldLink RX9 256 "HedgeCourt$Quarrel" "greatestFair" "I", Cond.fieldLink RX9 259 "HedgeCourt$Quarrel" "fairest" "I", Cond.methodLink RL 86 yX10_split, Cond.instanceMethod yX10_split, Cond.selects RX10 yX10_split yX10_split, Cond.code yX10_split cX10_split 7 (some .int)]
def wsL_law_r35 : List Cond := [Cond.methodLink RX10 269 yX10_gain, Cond.instanceMethod yX10_gain, Cond.selects RX10 yX10_gain yX10_gain, Cond.code yX10_gain cX10_gain 4 (some .int)]
def wsL_law : List Cond := (wsL_law_r1 ++ (wsL_law_r2 ++ (wsL_law_r3 ++ (wsL_law_r4 ++ (wsL_law_r5 ++ (wsL_law_r6 ++ (wsL_law_r7 ++ (wsL_law_r8 ++ (wsL_law_r9 ++ (wsL_law_r10 ++ (wsL_law_r11 ++ (wsL_law_r12 ++ (wsL_law_r13 ++ (wsL_law_r14 ++ (wsL_law_r15 ++ (wsL_law_r16 ++ (wsL_law_r17 ++ (wsL_law_r18 ++ (wsL_law_r19 ++ (wsL_law_r20 ++ (wsL_law_r21 ++ (wsL_law_r22 ++ (wsL_law_r23 ++ (wsL_law_r24 ++ (wsL_law_r25 ++ (wsL_law_r26 ++ (wsL_law_r27 ++ (wsL_law_r28 ++ (wsL_law_r29 ++ (wsL_law_r30 ++ (wsL_law_r31 ++ (wsL_law_r32 ++ (wsL_law_r33 ++ (wsL_law_r34 ++ wsL_law_r35)))))))))))))))))))))))))))))))))) ++ wsX90 ++ wsX100 ++ wsJx4a65c0 ++ wsX70 ++ wsX10 ++ wsX30 ++ wsX20 ++ wsX40 ++ wsX80 ++ wsX50 ++ wsX00 ++ wsX60 ++ ([] : List Cond)
theorem inlX0 : ∀ w ∈ wsX00, w ∈ wsL_law := fun _ h => List.mem_append_left _ (List.mem_append_left _ (List.mem_append_right _ h))
theorem inlX1 : ∀ w ∈ wsX10, w ∈ wsL_law := fun _ h => List.mem_append_left _ (List.mem_append_left _ (List.mem_append_left _ (List.mem_append_left _ (List.mem_append_left _ (List.mem_append_left _ (List.mem_append_left _ (List.mem_append_left _ (List.mem_append_right _ h))))))))
theorem inlX2 : ∀ w ∈ wsX20, w ∈ wsL_law := fun _ h => List.mem_append_left _ (List.mem_append_left _ (List.mem_append_left _ (List.mem_append_left _ (List.mem_append_left _ (List.mem_append_left _ (List.mem_append_right _ h))))))
theorem inlX3 : ∀ w ∈ wsX30, w ∈ wsL_law := fun _ h => List.mem_append_left _ (List.mem_append_left _ (List.mem_append_left _ (List.mem_append_left _ (List.mem_append_left _ (List.mem_append_left _ (List.mem_append_left _ (List.mem_append_right _ h)))))))
theorem inlX4 : ∀ w ∈ wsX40, w ∈ wsL_law := fun _ h => List.mem_append_left _ (List.mem_append_left _ (List.mem_append_left _ (List.mem_append_left _ (List.mem_append_left _ (List.mem_append_right _ h)))))
theorem inlX5 : ∀ w ∈ wsX50, w ∈ wsL_law := fun _ h => List.mem_append_left _ (List.mem_append_left _ (List.mem_append_left _ (List.mem_append_right _ h)))
theorem inlX6 : ∀ w ∈ wsX60, w ∈ wsL_law := fun _ h => List.mem_append_left _ (List.mem_append_right _ h)
theorem inlX7 : ∀ w ∈ wsX70, w ∈ wsL_law := fun _ h => List.mem_append_left _ (List.mem_append_left _ (List.mem_append_left _ (List.mem_append_left _ (List.mem_append_left _ (List.mem_append_left _ (List.mem_append_left _ (List.mem_append_left _ (List.mem_append_left _ (List.mem_append_right _ h)))))))))
theorem inlX8 : ∀ w ∈ wsX80, w ∈ wsL_law := fun _ h => List.mem_append_left _ (List.mem_append_left _ (List.mem_append_left _ (List.mem_append_left _ (List.mem_append_right _ h))))
theorem inlX9 : ∀ w ∈ wsX90, w ∈ wsL_law := fun _ h => List.mem_append_left _ (List.mem_append_left _ (List.mem_append_left _ (List.mem_append_left _ (List.mem_append_left _ (List.mem_append_left _ (List.mem_append_left _ (List.mem_append_left _ (List.mem_append_left _ (List.mem_append_left _ (List.mem_append_left _ (List.mem_append_left _ (List.mem_append_right _ h))))))))))))
theorem inlX10 : ∀ w ∈ wsX100, w ∈ wsL_law := fun _ h => List.mem_append_left _ (List.mem_append_left _ (List.mem_append_left _ (List.mem_append_left _ (List.mem_append_left _ (List.mem_append_left _ (List.mem_append_left _ (List.mem_append_left _ (List.mem_append_left _ (List.mem_append_left _ (List.mem_append_left _ (List.mem_append_right _ h)))))))))))
theorem inlJx4a65c : ∀ w ∈ wsJx4a65c0, w ∈ wsL_law := fun _ h => List.mem_append_left _ (List.mem_append_left _ (List.mem_append_left _ (List.mem_append_left _ (List.mem_append_left _ (List.mem_append_left _ (List.mem_append_left _ (List.mem_append_left _ (List.mem_append_left _ (List.mem_append_left _ (List.mem_append_right _ h))))))))))
abbrev vwCl : List vw_C := [(RJx4a65c, TJx4a65c, 3), (RX0, TX0, 5), (RX1, TX1, 8), (RX2, TX2, 8), (RX3, TX3, 3), (RX4, TX4, 3), (RX5, TX5, 10), (RX6, TX6, 7), (RX7, TX7, 2), (RX8, TX8, 7), (RX9, TX9, 11), (RX10, TX10, 50)]
