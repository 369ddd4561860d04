section
/-! ===== BEGIN words of one list among another's, by their places ===== -/
theorem goodIn_r {big : List Cond} (ws : List Cond) (ps : List Nat) (hp : ws = ps.filterMap (fun i => big[i]?)) (h : ws.all goodWord = true) : GoodIn big ws := by
  intro w hw
  have h1 := List.all_eq_true.mp h w hw
  rw [hp] at hw
  obtain ⟨i, -, hi⟩ := List.mem_filterMap.mp hw
  have hm : w ∈ big := by first | exact List.mem_of_getElem? hi | exact List.getElem?_mem hi
  exact ⟨hm, good_of_word h1⟩
theorem goodIn_app {big a b : List Cond} (ha : GoodIn big a) (hb : GoodIn big b) : GoodIn big (a ++ b) := fun w h => (List.mem_append.mp h).elim (ha w) (hb w)
theorem goodIn_ca {big a b : List Cond} {c : Cond} (ha : GoodIn big (c :: a)) (hb : GoodIn big b) : GoodIn big (c :: (a ++ b)) := fun w h => (List.mem_cons.mp h).elim (fun e => ha w (List.mem_cons.mpr (Or.inl e))) (fun h => (List.mem_append.mp h).elim (fun h => ha w (List.mem_cons.mpr (Or.inr h))) (hb w))
theorem goodIn_sub {big ws : List Cond} (hm : ∀ w ∈ ws, w ∈ big) (h : ws.all goodWord = true) : GoodIn big ws := fun w hw => ⟨hm w hw, good_of_word (List.all_eq_true.mp h w hw)⟩
/-! ===== END ===== -/
def RX0 : String := "HedgeCourt$Law"
def TX0 : u_T := fun k => match k with
  | 0 => ("HedgeCourt$Law", "weight", "[I", true)
  | 1 => ("HedgeCourt$Law", "newerAlone", "[Z", true)
  | 2 => ("HedgeCourt$Law", "thrown", "I", false)
  | 3 => ("HedgeCourt$Law", "hold", "I", false)
  | _ => ("HedgeCourt$Law", "bend", "I", false)
def tyX0 : Nat → FieldType := fun k => match k with
  | 0 => .array .int
  | 1 => .array .boolean
  | 2 => .int
  | 3 => .int
  | _ => .int
abbrev wsX00 : List Cond := u_ws RX0 TX0 5
theorem nmX0 : ∀ a, a < 5 → ∀ b, b < 5 → a ≠ b → (TX0 a).2.1 ≠ (TX0 b).2.1 := by decide +kernel
theorem tyX0_ok : ∀ k, k < 5 → parseFieldDescriptor (TX0 k).2.2.1 = some (tyX0 k) := by decide +kernel
abbrev cX0_init : ByteArray := prog_2_method_1_code
def yX0_init : MethodName := ⟨RX0, "<init>", "()V"⟩
abbrev cX0_reset : ByteArray := prog_2_method_2_code
def yX0_reset : MethodName := ⟨RX0, "reset", "()V"⟩
def RX1 : String := "HedgeCourt$LawReader"
def TX1 : u_T := fun k => match k with
  | 0 => ("HedgeCourt$LawReader", "fault", "I", false)
  | 1 => ("HedgeCourt$LawReader", "faultPlace", "I", false)
  | 2 => ("HedgeCourt$LawReader", "lines", "I", false)
  | 3 => ("HedgeCourt$LawReader", "tape", "LHedgeCourt$Tape;", true)
  | 4 => ("HedgeCourt$LawReader", "next", "I", false)
  | 5 => ("HedgeCourt$LawReader", "token", "I", false)
  | 6 => ("HedgeCourt$LawReader", "tokenPlace", "I", false)
  | _ => ("HedgeCourt$LawReader", "tokenValue", "I", false)
def tyX1 : Nat → FieldType := fun k => match k with
  | 0 => .int
  | 1 => .int
  | 2 => .int
  | 3 => .object "HedgeCourt$Tape"
  | 4 => .int
  | 5 => .int
  | 6 => .int
  | _ => .int
abbrev wsX10 : List Cond := u_ws RX1 TX1 8
theorem nmX1 : ∀ a, a < 8 → ∀ b, b < 8 → a ≠ b → (TX1 a).2.1 ≠ (TX1 b).2.1 := by decide +kernel
theorem tyX1_ok : ∀ k, k < 8 → parseFieldDescriptor (TX1 k).2.2.1 = some (tyX1 k) := by decide +kernel
abbrev cX1_init : ByteArray := prog_3_method_1_code
def yX1_init : MethodName := ⟨RX1, "<init>", "(LHedgeCourt$Tape;)V"⟩
abbrev cX1_read : ByteArray := prog_3_method_2_code
def yX1_read : MethodName := ⟨RX1, "read", "(LHedgeCourt$Law;)V"⟩
abbrev cX1_readLine : ByteArray := prog_3_method_3_code
def yX1_readLine : MethodName := ⟨RX1, "readLine", "(LHedgeCourt$Law;)V"⟩
abbrev cX1_kindHere : ByteArray := prog_3_method_4_code
def yX1_kindHere : MethodName := ⟨RX1, "kindHere", "()I"⟩
abbrev cX1_numberHere : ByteArray := prog_3_method_5_code
def yX1_numberHere : MethodName := ⟨RX1, "numberHere", "(I)I"⟩
abbrev cX1_demand : ByteArray := prog_3_method_6_code
def yX1_demand : MethodName := ⟨RX1, "demand", "(ZI)V"⟩
abbrev cX1_fits : ByteArray := prog_3_method_7_code
def yX1_fits : MethodName := ⟨RX1, "fits", "(II)Z"⟩
abbrev cX1_enact : ByteArray := prog_3_method_8_code
def yX1_enact : MethodName := ⟨RX1, "enact", "(LHedgeCourt$Law;III)V"⟩
abbrev cX1_advance : ByteArray := prog_3_method_9_code
def yX1_advance : MethodName := ⟨RX1, "advance", "()V"⟩
abbrev cX1_scanWord : ByteArray := prog_3_method_10_code
def yX1_scanWord : MethodName := ⟨RX1, "scanWord", "()V"⟩
abbrev cX1_isSpelled : ByteArray := prog_3_method_11_code
def yX1_isSpelled : MethodName := ⟨RX1, "isSpelled", "(Ljava/lang/String;)Z"⟩
abbrev cX1_scanNumber : ByteArray := prog_3_method_12_code
def yX1_scanNumber : MethodName := ⟨RX1, "scanNumber", "()V"⟩
abbrev cX1_keyword : ByteArray := prog_3_method_13_code
def yX1_keyword : MethodName := ⟨RX1, "keyword", "(I)Ljava/lang/String;"⟩
abbrev cX1_isBlank : ByteArray := prog_3_method_14_code
def yX1_isBlank : MethodName := ⟨RX1, "isBlank", "(B)Z"⟩
abbrev cX1_isLetter : ByteArray := prog_3_method_15_code
def yX1_isLetter : MethodName := ⟨RX1, "isLetter", "(B)Z"⟩
abbrev cX1_isDigit : ByteArray := prog_3_method_16_code
def yX1_isDigit : MethodName := ⟨RX1, "isDigit", "(B)Z"⟩
def RX2 : String := "HedgeCourt$Mowings"
def TX2 : u_T := fun k => match k with
  | 0 => ("HedgeCourt$Mowings", "count", "I", false)
  | 1 => ("HedgeCourt$Mowings", "years", "[I", true)
  | 2 => ("HedgeCourt$Mowings", "yearCount", "I", false)
  | 3 => ("HedgeCourt$Mowings", "who", "[I", true)
  | 4 => ("HedgeCourt$Mowings", "from", "[I", true)
  | 5 => ("HedgeCourt$Mowings", "to", "[I", true)
  | 6 => ("HedgeCourt$Mowings", "reach", "[I", true)
  | _ => ("HedgeCourt$Mowings", "when", "[I", true)
def tyX2 : Nat → FieldType := fun k => match k with
  | 0 => .int
  | 1 => .array .int
  | 2 => .int
  | 3 => .array .int
  | 4 => .array .int
  | 5 => .array .int
  | 6 => .array .int
  | _ => .array .int
abbrev wsX20 : List Cond := u_ws RX2 TX2 8
theorem nmX2 : ∀ a, a < 8 → ∀ b, b < 8 → a ≠ b → (TX2 a).2.1 ≠ (TX2 b).2.1 := by decide +kernel
theorem tyX2_ok : ∀ k, k < 8 → parseFieldDescriptor (TX2 k).2.2.1 = some (tyX2 k) := by decide +kernel
abbrev cX2_init : ByteArray := prog_4_method_1_code
def yX2_init : MethodName := ⟨RX2, "<init>", "()V"⟩
abbrev cX2_tell : ByteArray := prog_4_method_2_code
def yX2_tell : MethodName := ⟨RX2, "tell", "(IIIII)Z"⟩
abbrev cX2_noteYear : ByteArray := prog_4_method_3_code
def yX2_noteYear : MethodName := ⟨RX2, "noteYear", "(I)V"⟩
abbrev cX2_reachOf : ByteArray := prog_4_method_4_code
def yX2_reachOf : MethodName := ⟨RX2, "reachOf", "(III)I"⟩
def RX3 : String := "HedgeCourt$PaperLine"
def TX3 : u_T := fun k => match k with
  | 0 => ("HedgeCourt$PaperLine", "feet", "[I", true)
  | 1 => ("HedgeCourt$PaperLine", "cost", "I", false)
  | _ => ("HedgeCourt$PaperLine", "onward", "[[I", true)
def tyX3 : Nat → FieldType := fun k => match k with
  | 0 => .array .int
  | 1 => .int
  | _ => .array (.array .int)
abbrev wsX30 : List Cond := u_ws RX3 TX3 3
theorem nmX3 : ∀ a, a < 3 → ∀ b, b < 3 → a ≠ b → (TX3 a).2.1 ≠ (TX3 b).2.1 := by decide +kernel
theorem tyX3_ok : ∀ k, k < 3 → parseFieldDescriptor (TX3 k).2.2.1 = some (tyX3 k) := by decide +kernel
abbrev cX3_init : ByteArray := prog_5_method_1_code
def yX3_init : MethodName := ⟨RX3, "<init>", "()V"⟩
abbrev cX3_draw : ByteArray := prog_5_method_2_code
def yX3_draw : MethodName := ⟨RX3, "draw", "(Ljava/util/ArrayList;LHedgeCourt$Law;)V"⟩
abbrev cX3_bendTowards : ByteArray := prog_5_method_3_code
def yX3_bendTowards : MethodName := ⟨RX3, "bendTowards", "([I[II)V"⟩
abbrev cX3_addMisses : ByteArray := prog_5_method_4_code
def yX3_addMisses : MethodName := ⟨RX3, "addMisses", "([IILjava/util/ArrayList;LHedgeCourt$Law;)V"⟩
abbrev cX3_chooseFeet : ByteArray := prog_5_method_5_code
def yX3_chooseFeet : MethodName := ⟨RX3, "chooseFeet", "(I)V"⟩
abbrev cX3_cheapest : ByteArray := prog_5_method_6_code
def yX3_cheapest : MethodName := ⟨RX3, "cheapest", "([III)I"⟩
def RX4 : String := "HedgeCourt$Protests"
def TX4 : u_T := fun k => match k with
  | 0 => ("HedgeCourt$Protests", "station", "[I", true)
  | 1 => ("HedgeCourt$Protests", "when", "[I", true)
  | _ => ("HedgeCourt$Protests", "count", "I", false)
def tyX4 : Nat → FieldType := fun k => match k with
  | 0 => .array .int
  | 1 => .array .int
  | _ => .int
abbrev wsX40 : List Cond := u_ws RX4 TX4 3
theorem nmX4 : ∀ a, a < 3 → ∀ b, b < 3 → a ≠ b → (TX4 a).2.1 ≠ (TX4 b).2.1 := by decide +kernel
theorem tyX4_ok : ∀ k, k < 3 → parseFieldDescriptor (TX4 k).2.2.1 = some (tyX4 k) := by decide +kernel
abbrev cX4_init : ByteArray := prog_6_method_1_code
def yX4_init : MethodName := ⟨RX4, "<init>", "()V"⟩
abbrev cX4_tell : ByteArray := prog_6_method_2_code
def yX4_tell : MethodName := ⟨RX4, "tell", "(II)Z"⟩
abbrev cX4_isTold : ByteArray := prog_6_method_3_code
def yX4_isTold : MethodName := ⟨RX4, "isTold", "(II)Z"⟩
def RX5 : String := "HedgeCourt$Quarrel"
def TX5 : u_T := fun k => match k with
  | 0 => ("HedgeCourt$Quarrel", "opened", "Z", false)
  | 1 => ("HedgeCourt$Quarrel", "fair", "I", false)
  | 2 => ("HedgeCourt$Quarrel", "leastFair", "I", false)
  | 3 => ("HedgeCourt$Quarrel", "greatestFair", "I", false)
  | 4 => ("HedgeCourt$Quarrel", "fairest", "I", false)
  | 5 => ("HedgeCourt$Quarrel", "greater", "I", false)
  | 6 => ("HedgeCourt$Quarrel", "lesser", "I", false)
  | 7 => ("HedgeCourt$Quarrel", "worth", "[I", true)
  | 8 => ("HedgeCourt$Quarrel", "cost", "[I", true)
  | _ => ("HedgeCourt$Quarrel", "chance", "[I", true)
def tyX5 : Nat → FieldType := fun k => match k with
  | 0 => .boolean
  | 1 => .int
  | 2 => .int
  | 3 => .int
  | 4 => .int
  | 5 => .int
  | 6 => .int
  | 7 => .array .int
  | 8 => .array .int
  | _ => .array .int
abbrev wsX50 : List Cond := u_ws RX5 TX5 10
theorem nmX5 : ∀ a, a < 10 → ∀ b, b < 10 → a ≠ b → (TX5 a).2.1 ≠ (TX5 b).2.1 := by decide +kernel
theorem tyX5_ok : ∀ k, k < 10 → parseFieldDescriptor (TX5 k).2.2.1 = some (tyX5 k) := by decide +kernel
abbrev cX5_init : ByteArray := prog_7_method_1_code
def yX5_init : MethodName := ⟨RX5, "<init>", "()V"⟩
abbrev cX5_isParty : ByteArray := prog_7_method_2_code
def yX5_isParty : MethodName := ⟨RX5, "isParty", "(III)Z"⟩
abbrev cX5_open : ByteArray := prog_7_method_3_code
def yX5_open : MethodName := ⟨RX5, "open", "(II)V"⟩
abbrev cX5_setParty : ByteArray := prog_7_method_4_code
def yX5_setParty : MethodName := ⟨RX5, "setParty", "(IIII)V"⟩
abbrev cX5_judge : ByteArray := prog_7_method_5_code
def yX5_judge : MethodName := ⟨RX5, "judge", "()V"⟩
abbrev cX5_gainOf : ByteArray := prog_7_method_6_code
def yX5_gainOf : MethodName := ⟨RX5, "gainOf", "(II)I"⟩
def RX6 : String := "HedgeCourt$Saying"
def TX6 : u_T := fun k => match k with
  | 0 => ("HedgeCourt$Saying", "kind", "I", true)
  | 1 => ("HedgeCourt$Saying", "from", "I", true)
  | 2 => ("HedgeCourt$Saying", "to", "I", true)
  | 3 => ("HedgeCourt$Saying", "low", "I", true)
  | 4 => ("HedgeCourt$Saying", "high", "I", true)
  | 5 => ("HedgeCourt$Saying", "year", "I", true)
  | _ => ("HedgeCourt$Saying", "side", "I", true)
def tyX6 : Nat → FieldType := fun k => match k with
  | 0 => .int
  | 1 => .int
  | 2 => .int
  | 3 => .int
  | 4 => .int
  | 5 => .int
  | _ => .int
abbrev wsX60 : List Cond := u_ws RX6 TX6 7
theorem nmX6 : ∀ a, a < 7 → ∀ b, b < 7 → a ≠ b → (TX6 a).2.1 ≠ (TX6 b).2.1 := by decide +kernel
theorem tyX6_ok : ∀ k, k < 7 → parseFieldDescriptor (TX6 k).2.2.1 = some (tyX6 k) := by decide +kernel
abbrev cX6_init : ByteArray := prog_8_method_1_code
def yX6_init : MethodName := ⟨RX6, "<init>", "(IIIIIII)V"⟩
abbrev cX6_counted : ByteArray := prog_8_method_2_code
def yX6_counted : MethodName := ⟨RX6, "counted", "(ILHedgeCourt$Law;)I"⟩
abbrev cX6_has : ByteArray := prog_8_method_3_code
def yX6_has : MethodName := ⟨RX6, "has", "(I)Z"⟩
abbrev cX6_countsAt : ByteArray := prog_8_method_4_code
def yX6_countsAt : MethodName := ⟨RX6, "countsAt", "(ILjava/util/ArrayList;LHedgeCourt$Law;)Z"⟩
def RX7 : String := "HedgeCourt$Tape"
def TX7 : u_T := fun k => match k with
  | 0 => ("HedgeCourt$Tape", "bytes", "[B", true)
  | _ => ("HedgeCourt$Tape", "length", "I", false)
def tyX7 : Nat → FieldType := fun k => match k with
  | 0 => .array .byte
  | _ => .int
abbrev wsX70 : List Cond := u_ws RX7 TX7 2
theorem nmX7 : ∀ a, a < 2 → ∀ b, b < 2 → a ≠ b → (TX7 a).2.1 ≠ (TX7 b).2.1 := by decide +kernel
theorem tyX7_ok : ∀ k, k < 2 → parseFieldDescriptor (TX7 k).2.2.1 = some (tyX7 k) := by decide +kernel
abbrev cX7_init : ByteArray := prog_9_method_1_code
def yX7_init : MethodName := ⟨RX7, "<init>", "()V"⟩
abbrev cX7_append : ByteArray := prog_9_method_2_code
def yX7_append : MethodName := ⟨RX7, "append", "(I)V"⟩
abbrev cX7_cut : ByteArray := prog_9_method_3_code
def yX7_cut : MethodName := ⟨RX7, "cut", "(I)Z"⟩
def RX8 : String := "HedgeCourt$TrueLine"
def TX8 : u_T := fun k => match k with
  | 0 => ("HedgeCourt$TrueLine", "foot", "I", false)
  | 1 => ("HedgeCourt$TrueLine", "movedIn", "I", false)
  | 2 => ("HedgeCourt$TrueLine", "won", "[I", true)
  | 3 => ("HedgeCourt$TrueLine", "mowings", "LHedgeCourt$Mowings;", true)
  | 4 => ("HedgeCourt$TrueLine", "protests", "LHedgeCourt$Protests;", true)
  | 5 => ("HedgeCourt$TrueLine", "run", "[I", true)
  | _ => ("HedgeCourt$TrueLine", "reach", "[[I", true)
def tyX8 : Nat → FieldType := fun k => match k with
  | 0 => .int
  | 1 => .int
  | 2 => .array .int
  | 3 => .object "HedgeCourt$Mowings"
  | 4 => .object "HedgeCourt$Protests"
  | 5 => .array .int
  | _ => .array (.array .int)
abbrev wsX80 : List Cond := u_ws RX8 TX8 7
theorem nmX8 : ∀ a, a < 7 → ∀ b, b < 7 → a ≠ b → (TX8 a).2.1 ≠ (TX8 b).2.1 := by decide +kernel
theorem tyX8_ok : ∀ k, k < 7 → parseFieldDescriptor (TX8 k).2.2.1 = some (tyX8 k) := by decide +kernel
abbrev cX8_init : ByteArray := prog_10_method_1_code
def yX8_init : MethodName := ⟨RX8, "<init>", "(LHedgeCourt$Mowings;LHedgeCourt$Protests;)V"⟩
abbrev cX8_draw : ByteArray := prog_10_method_2_code
def yX8_draw : MethodName := ⟨RX8, "draw", "(III)V"⟩
abbrev cX8_extendRun : ByteArray := prog_10_method_3_code
def yX8_extendRun : MethodName := ⟨RX8, "extendRun", "(IIII)V"⟩
abbrev cX8_nearest : ByteArray := prog_10_method_4_code
def yX8_nearest : MethodName := ⟨RX8, "nearest", "(III)I"⟩
abbrev cX8_moveLine : ByteArray := prog_10_method_5_code
def yX8_moveLine : MethodName := ⟨RX8, "moveLine", "(III)V"⟩
abbrev cX8_isBeyond : ByteArray := prog_10_method_6_code
def yX8_isBeyond : MethodName := ⟨RX8, "isBeyond", "(III)Z"⟩
def RX9 : String := "HedgeCourt"
def TX9 : u_T := fun k => match k with
  | 0 => ("HedgeCourt", "sayings", "Ljava/util/ArrayList;", true)
  | 1 => ("HedgeCourt", "tape", "LHedgeCourt$Tape;", true)
  | 2 => ("HedgeCourt", "reader", "LHedgeCourt$LawReader;", true)
  | 3 => ("HedgeCourt", "paperLine", "LHedgeCourt$PaperLine;", true)
  | 4 => ("HedgeCourt", "mowings", "LHedgeCourt$Mowings;", true)
  | 5 => ("HedgeCourt", "protests", "LHedgeCourt$Protests;", true)
  | 6 => ("HedgeCourt", "trueLine", "LHedgeCourt$TrueLine;", true)
  | 7 => ("HedgeCourt", "latestQuarrel", "LHedgeCourt$Quarrel;", true)
  | 8 => ("HedgeCourt", "law", "LHedgeCourt$Law;", false)
  | 9 => ("HedgeCourt", "draft", "LHedgeCourt$Law;", false)
  | _ => ("HedgeCourt", "drawn", "Z", false)
def tyX9 : Nat → FieldType := fun k => match k with
  | 0 => .object "java/util/ArrayList"
  | 1 => .object "HedgeCourt$Tape"
  | 2 => .object "HedgeCourt$LawReader"
  | 3 => .object "HedgeCourt$PaperLine"
  | 4 => .object "HedgeCourt$Mowings"
  | 5 => .object "HedgeCourt$Protests"
  | 6 => .object "HedgeCourt$TrueLine"
  | 7 => .object "HedgeCourt$Quarrel"
  | 8 => .object "HedgeCourt$Law"
  | 9 => .object "HedgeCourt$Law"
  | _ => .boolean
abbrev wsX90 : List Cond := u_ws RX9 TX9 11
theorem nmX9 : ∀ a, a < 11 → ∀ b, b < 11 → a ≠ b → (TX9 a).2.1 ≠ (TX9 b).2.1 := by decide +kernel
theorem tyX9_ok : ∀ k, k < 11 → parseFieldDescriptor (TX9 k).2.2.1 = some (tyX9 k) := by decide +kernel
abbrev cX9_init : ByteArray := prog_1_method_1_code
def yX9_init : MethodName := ⟨RX9, "<init>", "()V"⟩
abbrev cX9_say : ByteArray := prog_1_method_2_code
def yX9_say : MethodName := ⟨RX9, "say", "(IIIIIII)I"⟩
abbrev cX9_feed : ByteArray := prog_1_method_3_code
def yX9_feed : MethodName := ⟨RX9, "feed", "(IIIII)I"⟩
abbrev cX9_end : ByteArray := prog_1_method_4_code
def yX9_end : MethodName := ⟨RX9, "end", "(I)Z"⟩
abbrev cX9_rules : ByteArray := prog_1_method_5_code
def yX9_rules : MethodName := ⟨RX9, "rules", "()I"⟩
abbrev cX9_fault : ByteArray := prog_1_method_6_code
def yX9_fault : MethodName := ⟨RX9, "fault", "(I)I"⟩
abbrev cX9_look : ByteArray := prog_1_method_7_code
def yX9_look : MethodName := ⟨RX9, "look", "(I)I"⟩
abbrev cX9_lookAtKinds : ByteArray := prog_1_method_8_code
def yX9_lookAtKinds : MethodName := ⟨RX9, "lookAtKinds", "(I)I"⟩
abbrev cX9_said : ByteArray := prog_1_method_9_code
def yX9_said : MethodName := ⟨RX9, "said", "(II)I"⟩
abbrev cX9_stationsOf : ByteArray := prog_1_method_10_code
def yX9_stationsOf : MethodName := ⟨RX9, "stationsOf", "(LHedgeCourt$Saying;)I"⟩
abbrev cX9_paper : ByteArray := prog_1_method_11_code
def yX9_paper : MethodName := ⟨RX9, "paper", "(I)I"⟩
abbrev cX9_drawPaperLine : ByteArray := prog_1_method_12_code
def yX9_drawPaperLine : MethodName := ⟨RX9, "drawPaperLine", "()V"⟩
abbrev cX9_straight : ByteArray := prog_1_method_13_code
def yX9_straight : MethodName := ⟨RX9, "straight", "(I)I"⟩
abbrev cX9_mow : ByteArray := prog_1_method_14_code
def yX9_mow : MethodName := ⟨RX9, "mow", "(IIIII)Z"⟩
abbrev cX9_protest : ByteArray := prog_1_method_15_code
def yX9_protest : MethodName := ⟨RX9, "protest", "(II)Z"⟩
abbrev cX9_mowed : ByteArray := prog_1_method_16_code
def yX9_mowed : MethodName := ⟨RX9, "mowed", "(III)I"⟩
abbrev cX9_spells : ByteArray := prog_1_method_17_code
def yX9_spells : MethodName := ⟨RX9, "spells", "(II)I"⟩
abbrev cX9_line : ByteArray := prog_1_method_18_code
def yX9_line : MethodName := ⟨RX9, "line", "(I)I"⟩
abbrev cX9_drawTrueLine : ByteArray := prog_1_method_19_code
def yX9_drawTrueLine : MethodName := ⟨RX9, "drawTrueLine", "(I)V"⟩
abbrev cX9_quarrel : ByteArray := prog_1_method_20_code
def yX9_quarrel : MethodName := ⟨RX9, "quarrel", "(IIIIIIII)Z"⟩
abbrev cX9_split : ByteArray := prog_1_method_21_code
def yX9_split : MethodName := ⟨RX9, "split", "(I)I"⟩
abbrev cX9_below : ByteArray := prog_1_method_22_code
def yX9_below : MethodName := ⟨RX9, "below", "(II)Z"⟩
abbrev cX9_isStretch : ByteArray := prog_1_method_23_code
def yX9_isStretch : MethodName := ⟨RX9, "isStretch", "(III)Z"⟩
abbrev cX9_missOf : ByteArray := prog_1_method_24_code
def yX9_missOf : MethodName := ⟨RX9, "missOf", "(III)I"⟩
def RX10 : String := "HedgeCourtModel"
def TX10 : u_T := fun k => match k with
  | 0 => ("HedgeCourtModel", "sayings", "I", false)
  | 1 => ("HedgeCourtModel", "mows", "I", false)
  | 2 => ("HedgeCourtModel", "protests", "I", false)
  | 3 => ("HedgeCourtModel", "kind", "[I", true)
  | 4 => ("HedgeCourtModel", "from", "[I", true)
  | 5 => ("HedgeCourtModel", "to", "[I", true)
  | 6 => ("HedgeCourtModel", "low", "[I", true)
  | 7 => ("HedgeCourtModel", "high", "[I", true)
  | 8 => ("HedgeCourtModel", "year", "[I", true)
  | 9 => ("HedgeCourtModel", "side", "[I", true)
  | 10 => ("HedgeCourtModel", "thrown", "I", false)
  | 11 => ("HedgeCourtModel", "hold", "I", false)
  | 12 => ("HedgeCourtModel", "bend", "I", false)
  | 13 => ("HedgeCourtModel", "weight", "[I", true)
  | 14 => ("HedgeCourtModel", "newer", "[Z", true)
  | 15 => ("HedgeCourtModel", "tape", "[I", true)
  | 16 => ("HedgeCourtModel", "line", "[I", true)
  | 17 => ("HedgeCourtModel", "taped", "I", false)
  | 18 => ("HedgeCourtModel", "at", "I", false)
  | 19 => ("HedgeCourtModel", "token", "I", false)
  | 20 => ("HedgeCourtModel", "tokenAt", "I", false)
  | 21 => ("HedgeCourtModel", "value", "I", false)
  | 22 => ("HedgeCourtModel", "wrong", "I", false)
  | 23 => ("HedgeCourtModel", "wrongAt", "I", false)
  | 24 => ("HedgeCourtModel", "faultKind", "I", false)
  | 25 => ("HedgeCourtModel", "lines", "I", false)
  | 26 => ("HedgeCourtModel", "faultPlace", "I", false)
  | 27 => ("HedgeCourtModel", "costs", "[I", true)
  | 28 => ("HedgeCourtModel", "papers", "[I", true)
  | 29 => ("HedgeCourtModel", "mower", "[I", true)
  | 30 => ("HedgeCourtModel", "mowFrom", "[I", true)
  | 31 => ("HedgeCourtModel", "mowTo", "[I", true)
  | 32 => ("HedgeCourtModel", "mowFoot", "[I", true)
  | 33 => ("HedgeCourtModel", "mowYear", "[I", true)
  | 34 => ("HedgeCourtModel", "protestAt", "[I", true)
  | 35 => ("HedgeCourtModel", "protestIn", "[I", true)
  | 36 => ("HedgeCourtModel", "many", "[I", true)
  | 37 => ("HedgeCourtModel", "run", "[I", true)
  | 38 => ("HedgeCourtModel", "feet", "[I", true)
  | 39 => ("HedgeCourtModel", "trueLine", "I", false)
  | 40 => ("HedgeCourtModel", "lastYear", "I", false)
  | 41 => ("HedgeCourtModel", "isQuarrel", "Z", false)
  | 42 => ("HedgeCourtModel", "claim0", "I", false)
  | 43 => ("HedgeCourtModel", "claim1", "I", false)
  | 44 => ("HedgeCourtModel", "worth0", "I", false)
  | 45 => ("HedgeCourtModel", "worth1", "I", false)
  | 46 => ("HedgeCourtModel", "cost0", "I", false)
  | 47 => ("HedgeCourtModel", "cost1", "I", false)
  | 48 => ("HedgeCourtModel", "p", "I", false)
  | _ => ("HedgeCourtModel", "q", "I", false)
def tyX10 : Nat → FieldType := fun k => match k with
  | 0 => .int
  | 1 => .int
  | 2 => .int
  | 3 => .array .int
  | 4 => .array .int
  | 5 => .array .int
  | 6 => .array .int
  | 7 => .array .int
  | 8 => .array .int
  | 9 => .array .int
  | 10 => .int
  | 11 => .int
  | 12 => .int
  | 13 => .array .int
  | 14 => .array .boolean
  | 15 => .array .int
  | 16 => .array .int
  | 17 => .int
  | 18 => .int
  | 19 => .int
  | 20 => .int
  | 21 => .int
  | 22 => .int
  | 23 => .int
  | 24 => .int
  | 25 => .int
  | 26 => .int
  | 27 => .array .int
  | 28 => .array .int
  | 29 => .array .int
  | 30 => .array .int
  | 31 => .array .int
  | 32 => .array .int
  | 33 => .array .int
  | 34 => .array .int
  | 35 => .array .int
  | 36 => .array .int
  | 37 => .array .int
  | 38 => .array .int
  | 39 => .int
  | 40 => .int
  | 41 => .boolean
  | 42 => .int
  | 43 => .int
  | 44 => .int
  | 45 => .int
  | 46 => .int
  | 47 => .int
  | 48 => .int
  | _ => .int
abbrev wsX100 : List Cond := u_ws RX10 TX10 50
theorem nmX10 : ∀ a, a < 50 → ∀ b, b < 50 → a ≠ b → (TX10 a).2.1 ≠ (TX10 b).2.1 := by decide +kernel
theorem tyX10_ok : ∀ k, k < 50 → parseFieldDescriptor (TX10 k).2.2.1 = some (tyX10 k) := by decide +kernel
abbrev cX10_init : ByteArray := prog_12_method_1_code
def yX10_init : MethodName := ⟨RX10, "<init>", "()V"⟩
abbrev cX10_isIn : ByteArray := prog_12_method_2_code
def yX10_isIn : MethodName := ⟨RX10, "isIn", "(III)Z"⟩
abbrev cX10_isStation : ByteArray := prog_12_method_3_code
def yX10_isStation : MethodName := ⟨RX10, "isStation", "(I)Z"⟩
abbrev cX10_isFoot : ByteArray := prog_12_method_4_code
def yX10_isFoot : MethodName := ⟨RX10, "isFoot", "(I)Z"⟩
abbrev cX10_isYear : ByteArray := prog_12_method_5_code
def yX10_isYear : MethodName := ⟨RX10, "isYear", "(I)Z"⟩
abbrev cX10_isSpan : ByteArray := prog_12_method_6_code
def yX10_isSpan : MethodName := ⟨RX10, "isSpan", "(II)Z"⟩
abbrev cX10_say : ByteArray := prog_12_method_7_code
def yX10_say : MethodName := ⟨RX10, "say", "(IIIIIII)I"⟩
abbrev cX10_feed : ByteArray := prog_12_method_8_code
def yX10_feed : MethodName := ⟨RX10, "feed", "(IIIII)I"⟩
abbrev cX10_end : ByteArray := prog_12_method_9_code
def yX10_end : MethodName := ⟨RX10, "end", "(I)Z"⟩
abbrev cX10_see : ByteArray := prog_12_method_10_code
def yX10_see : MethodName := ⟨RX10, "see", "(I)I"⟩
abbrev cX10_isLetter : ByteArray := prog_12_method_11_code
def yX10_isLetter : MethodName := ⟨RX10, "isLetter", "(I)Z"⟩
abbrev cX10_isDigit : ByteArray := prog_12_method_12_code
def yX10_isDigit : MethodName := ⟨RX10, "isDigit", "(I)Z"⟩
abbrev cX10_word : ByteArray := prog_12_method_13_code
def yX10_word : MethodName := ⟨RX10, "word", "(J)I"⟩
abbrev cX10_next0 : ByteArray := prog_12_method_14_code
def yX10_next0 : MethodName := ⟨RX10, "next0", "()V"⟩
abbrev cX10_bad : ByteArray := prog_12_method_15_code
def yX10_bad : MethodName := ⟨RX10, "bad", "(I)Z"⟩
abbrev cX10_aKind : ByteArray := prog_12_method_16_code
def yX10_aKind : MethodName := ⟨RX10, "aKind", "()Z"⟩
abbrev cX10_aNumber : ByteArray := prog_12_method_17_code
def yX10_aNumber : MethodName := ⟨RX10, "aNumber", "(II)Z"⟩
abbrev cX10_aLine : ByteArray := prog_12_method_18_code
def yX10_aLine : MethodName := ⟨RX10, "aLine", "()Z"⟩
abbrev cX10_rules : ByteArray := prog_12_method_19_code
def yX10_rules : MethodName := ⟨RX10, "rules", "()I"⟩
abbrev cX10_tells : ByteArray := prog_12_method_20_code
def yX10_tells : MethodName := ⟨RX10, "tells", "(III)V"⟩
abbrev cX10_fault : ByteArray := prog_12_method_21_code
def yX10_fault : MethodName := ⟨RX10, "fault", "(I)I"⟩
abbrev cX10_look : ByteArray := prog_12_method_22_code
def yX10_look : MethodName := ⟨RX10, "look", "(I)I"⟩
abbrev cX10_moved : ByteArray := prog_12_method_23_code
def yX10_moved : MethodName := ⟨RX10, "moved", "(II)I"⟩
abbrev cX10_counts : ByteArray := prog_12_method_24_code
def yX10_counts : MethodName := ⟨RX10, "counts", "(II)Z"⟩
abbrev cX10_said : ByteArray := prog_12_method_25_code
def yX10_said : MethodName := ⟨RX10, "said", "(II)I"⟩
abbrev cX10_costAt : ByteArray := prog_12_method_26_code
def yX10_costAt : MethodName := ⟨RX10, "costAt", "(II)I"⟩
abbrev cX10_abs : ByteArray := prog_12_method_27_code
def yX10_abs : MethodName := ⟨RX10, "abs", "(I)I"⟩
abbrev cX10_lines : ByteArray := prog_12_method_28_code
def yX10_lines : MethodName := ⟨RX10, "lines", "()V"⟩
abbrev cX10_onFrom : ByteArray := prog_12_method_29_code
def yX10_onFrom : MethodName := ⟨RX10, "onFrom", "(II)I"⟩
abbrev cX10_paper : ByteArray := prog_12_method_30_code
def yX10_paper : MethodName := ⟨RX10, "paper", "(I)I"⟩
abbrev cX10_straight : ByteArray := prog_12_method_31_code
def yX10_straight : MethodName := ⟨RX10, "straight", "(I)I"⟩
abbrev cX10_mow : ByteArray := prog_12_method_32_code
def yX10_mow : MethodName := ⟨RX10, "mow", "(IIIII)Z"⟩
abbrev cX10_isProtested : ByteArray := prog_12_method_33_code
def yX10_isProtested : MethodName := ⟨RX10, "isProtested", "(II)Z"⟩
abbrev cX10_protest : ByteArray := prog_12_method_34_code
def yX10_protest : MethodName := ⟨RX10, "protest", "(II)Z"⟩
abbrev cX10_mowedIn : ByteArray := prog_12_method_35_code
def yX10_mowedIn : MethodName := ⟨RX10, "mowedIn", "(III)I"⟩
abbrev cX10_mowed : ByteArray := prog_12_method_36_code
def yX10_mowed : MethodName := ⟨RX10, "mowed", "(III)I"⟩
abbrev cX10_spells : ByteArray := prog_12_method_37_code
def yX10_spells : MethodName := ⟨RX10, "spells", "(I)V"⟩
abbrev cX10_goes : ByteArray := prog_12_method_38_code
def yX10_goes : MethodName := ⟨RX10, "goes", "(III)V"⟩
abbrev cX10_spells_ : ByteArray := prog_12_method_39_code
def yX10_spells_ : MethodName := ⟨RX10, "spells", "(II)I"⟩
abbrev cX10_line : ByteArray := prog_12_method_40_code
def yX10_line : MethodName := ⟨RX10, "line", "(I)I"⟩
abbrev cX10_quarrel : ByteArray := prog_12_method_41_code
def yX10_quarrel : MethodName := ⟨RX10, "quarrel", "(IIIIIIII)Z"⟩
abbrev cX10_gain : ByteArray := prog_12_method_42_code
def yX10_gain : MethodName := ⟨RX10, "gain", "(I)I"⟩
abbrev cX10_split : ByteArray := prog_12_method_43_code
def yX10_split : MethodName := ⟨RX10, "split", "(I)I"⟩
def RJx145de : String := "java/io/Serializable"
def TJx145de : u_T := fun k => match k with
  | _ => ("", "", "", false)
def tyJx145de : Nat → FieldType := fun k => match k with
  | _ => .int
abbrev wsJx145de0 : List Cond := u_ws RJx145de TJx145de 0
theorem nmJx145de : ∀ a, a < 0 → ∀ b, b < 0 → a ≠ b → (TJx145de a).2.1 ≠ (TJx145de b).2.1 := by decide +kernel
theorem tyJx145de_ok : ∀ k, k < 0 → parseFieldDescriptor (TJx145de k).2.2.1 = some (tyJx145de k) := by decide +kernel
def RJx8e188 : String := "java/lang/Cloneable"
def TJx8e188 : u_T := fun k => match k with
  | _ => ("", "", "", false)
def tyJx8e188 : Nat → FieldType := fun k => match k with
  | _ => .int
abbrev wsJx8e1880 : List Cond := u_ws RJx8e188 TJx8e188 0
theorem nmJx8e188 : ∀ a, a < 0 → ∀ b, b < 0 → a ≠ b → (TJx8e188 a).2.1 ≠ (TJx8e188 b).2.1 := by decide +kernel
theorem tyJx8e188_ok : ∀ k, k < 0 → parseFieldDescriptor (TJx8e188 k).2.2.1 = some (tyJx8e188 k) := by decide +kernel
def RJ6 : String := "java/lang/Integer"
def TJ6 : u_T := fun k => match k with
  | _ => ("", "", "", false)
def tyJ6 : Nat → FieldType := fun k => match k with
  | _ => .int
abbrev wsJ60 : List Cond := u_ws RJ6 TJ6 0
theorem nmJ6 : ∀ a, a < 0 → ∀ b, b < 0 → a ≠ b → (TJ6 a).2.1 ≠ (TJ6 b).2.1 := by decide +kernel
theorem tyJ6_ok : ∀ k, k < 0 → parseFieldDescriptor (TJ6 k).2.2.1 = some (tyJ6 k) := by decide +kernel
abbrev cJ6_bitCount_0f7a4 : ByteArray := prog_15_method_49_code
def yJ6_bitCount_0f7a4 : MethodName := ⟨RJ6, "bitCount", "(I)I"⟩
def RJxab1ab : String := "java/lang/Iterable"
def TJxab1ab : u_T := fun k => match k with
  | _ => ("", "", "", false)
def tyJxab1ab : Nat → FieldType := fun k => match k with
  | _ => .int
abbrev wsJxab1ab0 : List Cond := u_ws RJxab1ab TJxab1ab 0
theorem nmJxab1ab : ∀ a, a < 0 → ∀ b, b < 0 → a ≠ b → (TJxab1ab a).2.1 ≠ (TJxab1ab b).2.1 := by decide +kernel
theorem tyJxab1ab_ok : ∀ k, k < 0 → parseFieldDescriptor (TJxab1ab k).2.2.1 = some (tyJxab1ab k) := by decide +kernel
def RJ9 : String := "java/lang/Math"
def TJ9 : u_T := fun k => match k with
  | _ => ("", "", "", false)
def tyJ9 : Nat → FieldType := fun k => match k with
  | _ => .int
abbrev wsJ90 : List Cond := u_ws RJ9 TJ9 0
theorem nmJ9 : ∀ a, a < 0 → ∀ b, b < 0 → a ≠ b → (TJ9 a).2.1 ≠ (TJ9 b).2.1 := by decide +kernel
theorem tyJ9_ok : ∀ k, k < 0 → parseFieldDescriptor (TJ9 k).2.2.1 = some (tyJ9 k) := by decide +kernel
abbrev cJ9_abs_0f7a4 : ByteArray := prog_17_method_59_code
def yJ9_abs_0f7a4 : MethodName := ⟨RJ9, "abs", "(I)I"⟩
abbrev cJ9_max_7cf53 : ByteArray := prog_17_method_65_code
def yJ9_max_7cf53 : MethodName := ⟨RJ9, "max", "(II)I"⟩
abbrev cJ9_min_7cf53 : ByteArray := prog_17_method_69_code
def yJ9_min_7cf53 : MethodName := ⟨RJ9, "min", "(II)I"⟩
def RJ0 : String := "java/lang/String"
def TJ0 : u_T := fun k => match k with
  | _ => ("", "", "", false)
def tyJ0 : Nat → FieldType := fun k => match k with
  | _ => .int
abbrev wsJ00 : List Cond := u_ws RJ0 TJ0 0
theorem nmJ0 : ∀ a, a < 0 → ∀ b, b < 0 → a ≠ b → (TJ0 a).2.1 ≠ (TJ0 b).2.1 := by decide +kernel
theorem tyJ0_ok : ∀ k, k < 0 → parseFieldDescriptor (TJ0 k).2.2.1 = some (tyJ0 k) := by decide +kernel
abbrev cJ0_length_8abf5 : ByteArray := prog_18_method_54_code
def yJ0_length_8abf5 : MethodName := ⟨RJ0, "length", "()I"⟩
abbrev cJ0_charAt_5068e : ByteArray := prog_18_method_56_code
def yJ0_charAt_5068e : MethodName := ⟨RJ0, "charAt", "(I)C"⟩
abbrev cJ0_coder_7d493 : ByteArray := prog_18_method_152_code
def yJ0_coder_7d493 : MethodName := ⟨RJ0, "coder", "()B"⟩
abbrev cJ0_isLatin1_aae02 : ByteArray := prog_18_method_154_code
def yJ0_isLatin1_aae02 : MethodName := ⟨RJ0, "isLatin1", "()Z"⟩
abbrev cJ0_checkIndex_df160 : ByteArray := prog_18_method_155_code
def yJ0_checkIndex_df160 : MethodName := ⟨RJ0, "checkIndex", "(II)V"⟩
def RJ1 : String := "java/lang/StringLatin1"
def TJ1 : u_T := fun k => match k with
  | _ => ("", "", "", false)
def tyJ1 : Nat → FieldType := fun k => match k with
  | _ => .int
abbrev wsJ10 : List Cond := u_ws RJ1 TJ1 0
theorem nmJ1 : ∀ a, a < 0 → ∀ b, b < 0 → a ≠ b → (TJ1 a).2.1 ≠ (TJ1 b).2.1 := by decide +kernel
theorem tyJ1_ok : ∀ k, k < 0 → parseFieldDescriptor (TJ1 k).2.2.1 = some (tyJ1 k) := by decide +kernel
abbrev cJ1_charAt_3b067 : ByteArray := prog_19_method_2_code
def yJ1_charAt_3b067 : MethodName := ⟨RJ1, "charAt", "([BI)C"⟩
def RJ2 : String := "java/lang/StringUTF16"
def TJ2 : u_T := fun k => match k with
  | _ => ("", "", "", false)
def tyJ2 : Nat → FieldType := fun k => match k with
  | _ => .int
abbrev wsJ20 : List Cond := u_ws RJ2 TJ2 0
theorem nmJ2 : ∀ a, a < 0 → ∀ b, b < 0 → a ≠ b → (TJ2 a).2.1 ≠ (TJ2 b).2.1 := by decide +kernel
theorem tyJ2_ok : ∀ k, k < 0 → parseFieldDescriptor (TJ2 k).2.2.1 = some (tyJ2 k) := by decide +kernel
abbrev cJ2_getChar_3b067 : ByteArray := prog_20_method_5_code
def yJ2_getChar_3b067 : MethodName := ⟨RJ2, "getChar", "([BI)C"⟩
abbrev cJ2_length_9d52b : ByteArray := prog_20_method_6_code
def yJ2_length_9d52b : MethodName := ⟨RJ2, "length", "([B)I"⟩
abbrev cJ2_charAt_3b067 : ByteArray := prog_20_method_83_code
def yJ2_charAt_3b067 : MethodName := ⟨RJ2, "charAt", "([BI)C"⟩
abbrev cJ2_checkIndex_2214a : ByteArray := prog_20_method_91_code
def yJ2_checkIndex_2214a : MethodName := ⟨RJ2, "checkIndex", "(I[B)V"⟩
def RJ10 : String := "java/lang/System"
def TJ10 : u_T := fun k => match k with
  | _ => ("", "", "", false)
def tyJ10 : Nat → FieldType := fun k => match k with
  | _ => .int
abbrev wsJ100 : List Cond := u_ws RJ10 TJ10 0
theorem nmJ10 : ∀ a, a < 0 → ∀ b, b < 0 → a ≠ b → (TJ10 a).2.1 ≠ (TJ10 b).2.1 := by decide +kernel
theorem tyJ10_ok : ∀ k, k < 0 → parseFieldDescriptor (TJ10 k).2.2.1 = some (tyJ10 k) := by decide +kernel
def RJxa1e45 : String := "java/util/AbstractCollection"
def TJxa1e45 : u_T := fun k => match k with
  | _ => ("", "", "", false)
def tyJxa1e45 : Nat → FieldType := fun k => match k with
  | _ => .int
abbrev wsJxa1e450 : List Cond := u_ws RJxa1e45 TJxa1e45 0
theorem nmJxa1e45 : ∀ a, a < 0 → ∀ b, b < 0 → a ≠ b → (TJxa1e45 a).2.1 ≠ (TJxa1e45 b).2.1 := by decide +kernel
theorem tyJxa1e45_ok : ∀ k, k < 0 → parseFieldDescriptor (TJxa1e45 k).2.2.1 = some (tyJxa1e45 k) := by decide +kernel
abbrev cJxa1e45_init_da8c8 : ByteArray := prog_22_method_1_code
def yJxa1e45_init_da8c8 : MethodName := ⟨RJxa1e45, "<init>", "()V"⟩
def RJxc12de : String := "java/util/AbstractList"
def TJxc12de : u_T := fun k => match k with
  | _ => ("", "", "", false)
def tyJxc12de : Nat → FieldType := fun k => match k with
  | _ => .int
abbrev wsJxc12de0 : List Cond := u_ws RJxc12de TJxc12de 0
theorem nmJxc12de : ∀ a, a < 0 → ∀ b, b < 0 → a ≠ b → (TJxc12de a).2.1 ≠ (TJxc12de b).2.1 := by decide +kernel
theorem tyJxc12de_ok : ∀ k, k < 0 → parseFieldDescriptor (TJxc12de k).2.2.1 = some (tyJxc12de k) := by decide +kernel
abbrev cJxc12de_init_da8c8 : ByteArray := prog_23_method_1_code
def yJxc12de_init_da8c8 : MethodName := ⟨RJxc12de, "<init>", "()V"⟩
def RJx4a65c : String := "java/util/ArrayList"
def TJx4a65c : u_T := fun k => match k with
  | 0 => ("java/util/AbstractList", "modCount", "I", false)
  | 1 => ("java/util/ArrayList", "elementData", "[Ljava/lang/Object;", false)
  | _ => ("java/util/ArrayList", "size", "I", false)
def tyJx4a65c : Nat → FieldType := fun k => match k with
  | 0 => .int
  | 1 => .array (.object "java/lang/Object")
  | _ => .int
abbrev wsJx4a65c0 : List Cond := u_ws RJx4a65c TJx4a65c 3
theorem nmJx4a65c : ∀ a, a < 3 → ∀ b, b < 3 → a ≠ b → (TJx4a65c a).2.1 ≠ (TJx4a65c b).2.1 := by decide +kernel
theorem tyJx4a65c_ok : ∀ k, k < 3 → parseFieldDescriptor (TJx4a65c k).2.2.1 = some (tyJx4a65c k) := by decide +kernel
abbrev cJx4a65c_init_da8c8 : ByteArray := prog_24_method_2_code
def yJx4a65c_init_da8c8 : MethodName := ⟨RJx4a65c, "<init>", "()V"⟩
abbrev cJx4a65c_grow_92f84 : ByteArray := prog_24_method_6_code
def yJx4a65c_grow_92f84 : MethodName := ⟨RJx4a65c, "grow", "(I)[Ljava/lang/Object;"⟩
abbrev cJx4a65c_grow_d5877 : ByteArray := prog_24_method_7_code
def yJx4a65c_grow_d5877 : MethodName := ⟨RJx4a65c, "grow", "()[Ljava/lang/Object;"⟩
abbrev cJx4a65c_size_8abf5 : ByteArray := prog_24_method_8_code
def yJx4a65c_size_8abf5 : MethodName := ⟨RJx4a65c, "size", "()I"⟩
abbrev cJx4a65c_elementData_915e3 : ByteArray := prog_24_method_18_code
def yJx4a65c_elementData_915e3 : MethodName := ⟨RJx4a65c, "elementData", "(I)Ljava/lang/Object;"⟩
abbrev cJx4a65c_get_915e3 : ByteArray := prog_24_method_20_code
def yJx4a65c_get_915e3 : MethodName := ⟨RJx4a65c, "get", "(I)Ljava/lang/Object;"⟩
abbrev cJx4a65c_add_72be8 : ByteArray := prog_24_method_24_code
def yJx4a65c_add_72be8 : MethodName := ⟨RJx4a65c, "add", "(Ljava/lang/Object;[Ljava/lang/Object;I)V"⟩
abbrev cJx4a65c_add_9ea2d : ByteArray := prog_24_method_25_code
def yJx4a65c_add_9ea2d : MethodName := ⟨RJx4a65c, "add", "(Ljava/lang/Object;)Z"⟩
def RJ7 : String := "java/util/Arrays"
def TJ7 : u_T := fun k => match k with
  | _ => ("", "", "", false)
def tyJ7 : Nat → FieldType := fun k => match k with
  | _ => .int
abbrev wsJ70 : List Cond := u_ws RJ7 TJ7 0
theorem nmJ7 : ∀ a, a < 0 → ∀ b, b < 0 → a ≠ b → (TJ7 a).2.1 ≠ (TJ7 b).2.1 := by decide +kernel
theorem tyJ7_ok : ∀ k, k < 0 → parseFieldDescriptor (TJ7 k).2.2.1 = some (tyJ7 k) := by decide +kernel
abbrev cJ7_fill_53178 : ByteArray := prog_25_method_103_code
def yJ7_fill_53178 : MethodName := ⟨RJ7, "fill", "([II)V"⟩
abbrev cJ7_copyOf_1904c : ByteArray := prog_25_method_119_code
def yJ7_copyOf_1904c : MethodName := ⟨RJ7, "copyOf", "([Ljava/lang/Object;I)[Ljava/lang/Object;"⟩
abbrev cJ7_copyOf_6403c : ByteArray := prog_25_method_120_code
def yJ7_copyOf_6403c : MethodName := ⟨RJ7, "copyOf", "([Ljava/lang/Object;ILjava/lang/Class;)[Ljava/lang/Object;"⟩
def RJx5ef63 : String := "java/util/Collection"
def TJx5ef63 : u_T := fun k => match k with
  | _ => ("", "", "", false)
def tyJx5ef63 : Nat → FieldType := fun k => match k with
  | _ => .int
abbrev wsJx5ef630 : List Cond := u_ws RJx5ef63 TJx5ef63 0
theorem nmJx5ef63 : ∀ a, a < 0 → ∀ b, b < 0 → a ≠ b → (TJx5ef63 a).2.1 ≠ (TJx5ef63 b).2.1 := by decide +kernel
theorem tyJx5ef63_ok : ∀ k, k < 0 → parseFieldDescriptor (TJx5ef63 k).2.2.1 = some (tyJx5ef63 k) := by decide +kernel
def RJxbd725 : String := "java/util/List"
def TJxbd725 : u_T := fun k => match k with
  | _ => ("", "", "", false)
def tyJxbd725 : Nat → FieldType := fun k => match k with
  | _ => .int
abbrev wsJxbd7250 : List Cond := u_ws RJxbd725 TJxbd725 0
theorem nmJxbd725 : ∀ a, a < 0 → ∀ b, b < 0 → a ≠ b → (TJxbd725 a).2.1 ≠ (TJxbd725 b).2.1 := by decide +kernel
theorem tyJxbd725_ok : ∀ k, k < 0 → parseFieldDescriptor (TJxbd725 k).2.2.1 = some (tyJxbd725 k) := by decide +kernel
def RJ15 : String := "java/util/Objects"
def TJ15 : u_T := fun k => match k with
  | _ => ("", "", "", false)
def tyJ15 : Nat → FieldType := fun k => match k with
  | _ => .int
abbrev wsJ150 : List Cond := u_ws RJ15 TJ15 0
theorem nmJ15 : ∀ a, a < 0 → ∀ b, b < 0 → a ≠ b → (TJ15 a).2.1 ≠ (TJ15 b).2.1 := by decide +kernel
theorem tyJ15_ok : ∀ k, k < 0 → parseFieldDescriptor (TJ15 k).2.2.1 = some (tyJ15 k) := by decide +kernel
abbrev cJ15_checkIndex_7cf53 : ByteArray := prog_28_method_17_code
def yJ15_checkIndex_7cf53 : MethodName := ⟨RJ15, "checkIndex", "(II)I"⟩
def RJxf0a74 : String := "java/util/RandomAccess"
def TJxf0a74 : u_T := fun k => match k with
  | _ => ("", "", "", false)
def tyJxf0a74 : Nat → FieldType := fun k => match k with
  | _ => .int
abbrev wsJxf0a740 : List Cond := u_ws RJxf0a74 TJxf0a74 0
theorem nmJxf0a74 : ∀ a, a < 0 → ∀ b, b < 0 → a ≠ b → (TJxf0a74 a).2.1 ≠ (TJxf0a74 b).2.1 := by decide +kernel
theorem tyJxf0a74_ok : ∀ k, k < 0 → parseFieldDescriptor (TJxf0a74 k).2.2.1 = some (tyJxf0a74 k) := by decide +kernel
def RJxa66e6 : String := "java/util/SequencedCollection"
def TJxa66e6 : u_T := fun k => match k with
  | _ => ("", "", "", false)
def tyJxa66e6 : Nat → FieldType := fun k => match k with
  | _ => .int
abbrev wsJxa66e60 : List Cond := u_ws RJxa66e6 TJxa66e6 0
theorem nmJxa66e6 : ∀ a, a < 0 → ∀ b, b < 0 → a ≠ b → (TJxa66e6 a).2.1 ≠ (TJxa66e6 b).2.1 := by decide +kernel
theorem tyJxa66e6_ok : ∀ k, k < 0 → parseFieldDescriptor (TJxa66e6 k).2.2.1 = some (tyJxa66e6 k) := by decide +kernel
def RJ8 : String := "jdk/internal/util/ArraysSupport"
def TJ8 : u_T := fun k => match k with
  | _ => ("", "", "", false)
def tyJ8 : Nat → FieldType := fun k => match k with
  | _ => .int
abbrev wsJ80 : List Cond := u_ws RJ8 TJ8 0
theorem nmJ8 : ∀ a, a < 0 → ∀ b, b < 0 → a ≠ b → (TJ8 a).2.1 ≠ (TJ8 b).2.1 := by decide +kernel
theorem tyJ8_ok : ∀ k, k < 0 → parseFieldDescriptor (TJ8 k).2.2.1 = some (tyJ8 k) := by decide +kernel
abbrev cJ8_newLength_cabcc : ByteArray := prog_31_method_27_code
def yJ8_newLength_cabcc : MethodName := ⟨RJ8, "newLength", "(III)I"⟩
abbrev cJ8_hugeLength_7cf53 : ByteArray := prog_31_method_28_code
def yJ8_hugeLength_7cf53 : MethodName := ⟨RJ8, "hugeLength", "(II)I"⟩
def RJ3 : String := "jdk/internal/util/Preconditions"
def TJ3 : u_T := fun k => match k with
  | _ => ("", "", "", false)
def tyJ3 : Nat → FieldType := fun k => match k with
  | _ => .int
abbrev wsJ30 : List Cond := u_ws RJ3 TJ3 0
theorem nmJ3 : ∀ a, a < 0 → ∀ b, b < 0 → a ≠ b → (TJ3 a).2.1 ≠ (TJ3 b).2.1 := by decide +kernel
theorem tyJ3_ok : ∀ k, k < 0 → parseFieldDescriptor (TJ3 k).2.2.1 = some (tyJ3 k) := by decide +kernel
abbrev cJ3_checkIndex_8e157 : ByteArray := prog_32_method_11_code
def yJ3_checkIndex_8e157 : MethodName := ⟨RJ3, "checkIndex", "(IILjava/util/function/BiFunction;)I"⟩
def RL : String := "HedgeCourtLaw"
abbrev cL_law : ByteArray := code
def yL_law : MethodName := ⟨RL, "law", "([I)Z"⟩
def wsL_law_r1 : List Cond := [Cond.classLink RL 7 RX9, Cond.instantiable RX9 11, Cond.initialized RX9, Cond.classLink RL 10 RX10, Cond.instantiable RX10 50, Cond.initialized RX10, Cond.methodLink RL 9 yX9_init, Cond.instanceMethod yX9_init, Cond.code yX9_init cX9_init 1 none, Cond.methodLink RX9 1 objectInit, Cond.instanceMethod objectInit, Cond.code objectInit ⟨#[0xb1]⟩ 1 none, Cond.classLink RX9 7 RJx4a65c, Cond.instantiable RJx4a65c 3, Cond.initialized RJx4a65c, Cond.fieldLink RX9 10 "HedgeCourt" "sayings" "Ljava/util/ArrayList;", Cond.classLink RX9 16 RX7, Cond.instantiable RX7 2, Cond.initialized RX7, Cond.fieldLink RX9 19 "HedgeCourt" "tape" "LHedgeCourt$Tape;", Cond.classLink RX9 23 RX1, Cond.instantiable RX1 8, Cond.initialized RX1, Cond.fieldLink RX9 28 "HedgeCourt" "reader" "LHedgeCourt$LawReader;"]
def wsL_law_r2 : List Cond := [Cond.classLink RX9 32 RX3, Cond.instantiable RX3 3, Cond.initialized RX3, Cond.fieldLink RX9 35 "HedgeCourt" "paperLine" "LHedgeCourt$PaperLine;", Cond.classLink RX9 39 RX2, Cond.instantiable RX2 8, Cond.initialized RX2, Cond.fieldLink RX9 42 "HedgeCourt" "mowings" "LHedgeCourt$Mowings;", Cond.classLink RX9 46 RX4, Cond.instantiable RX4 3, Cond.initialized RX4, Cond.fieldLink RX9 49 "HedgeCourt" "protests" "LHedgeCourt$Protests;", Cond.classLink RX9 53 RX8, Cond.instantiable RX8 7, Cond.initialized RX8, Cond.fieldLink RX9 58 "HedgeCourt" "trueLine" "LHedgeCourt$TrueLine;", Cond.classLink RX9 62 RX5, Cond.instantiable RX5 10, Cond.initialized RX5, Cond.fieldLink RX9 65 "HedgeCourt" "latestQuarrel" "LHedgeCourt$Quarrel;", Cond.classLink RX9 69 RX0, Cond.instantiable RX0 5, Cond.initialized RX0, Cond.fieldLink RX9 72 "HedgeCourt" "law" "LHedgeCourt$Law;"]
def wsL_law_r3 : List Cond := [Cond.fieldLink RX9 76 "HedgeCourt" "draft" "LHedgeCourt$Law;", Cond.fieldLink RX9 79 "HedgeCourt" "drawn" "Z", Cond.methodLink RX9 9 yJx4a65c_init_da8c8, Cond.instanceMethod yJx4a65c_init_da8c8, Cond.code yJx4a65c_init_da8c8 cJx4a65c_init_da8c8 1 none, Cond.fieldLink RJx4a65c 39 "java/util/ArrayList" "DEFAULTCAPACITY_EMPTY_ELEMENTDATA" "[Ljava/lang/Object;", Cond.fieldLink RJx4a65c 9 "java/util/ArrayList" "elementData" "[Ljava/lang/Object;", Cond.methodLink RJx4a65c 1 yJxc12de_init_da8c8, Cond.instanceMethod yJxc12de_init_da8c8, Cond.initialized RJxc12de, Cond.code yJxc12de_init_da8c8 cJxc12de_init_da8c8 1 none, Cond.fieldLink RJxc12de 7 "java/util/AbstractList" "modCount" "I", Cond.methodLink RJxc12de 1 yJxa1e45_init_da8c8, Cond.instanceMethod yJxa1e45_init_da8c8, Cond.initialized RJxa1e45, Cond.code yJxa1e45_init_da8c8 cJxa1e45_init_da8c8 1 none, Cond.methodLink RJxa1e45 1 objectInit, Cond.instanceMethod yX7_init, Cond.code yX7_init cX7_init 1 none, Cond.methodLink RX7 3 objectInit, Cond.arrayClass .byte, Cond.fieldLink RX7 9 "HedgeCourt$Tape" "bytes" "[B", Cond.fieldLink RX7 15 "HedgeCourt$Tape" "length" "I", Cond.methodLink RX9 25 yX1_init]
def wsL_law_r4 : List Cond := [Cond.instanceMethod yX1_init, Cond.code yX1_init cX1_init 2 none, Cond.methodLink RX1 3 objectInit, Cond.fieldLink RX1 9 "HedgeCourt$LawReader" "fault" "I", Cond.fieldLink RX1 15 "HedgeCourt$LawReader" "faultPlace" "I", Cond.fieldLink RX1 18 "HedgeCourt$LawReader" "lines" "I", Cond.fieldLink RX1 21 "HedgeCourt$LawReader" "next" "I", Cond.fieldLink RX1 24 "HedgeCourt$LawReader" "token" "I", Cond.fieldLink RX1 27 "HedgeCourt$LawReader" "tokenPlace" "I", Cond.fieldLink RX1 30 "HedgeCourt$LawReader" "tokenValue" "I", Cond.fieldLink RX1 33 "HedgeCourt$LawReader" "tape" "LHedgeCourt$Tape;", Cond.instanceMethod yX3_init, Cond.code yX3_init cX3_init 1 none, Cond.methodLink RX3 3 objectInit, Cond.arrayClass .int, Cond.fieldLink RX3 9 "HedgeCourt$PaperLine" "feet" "[I", Cond.fieldLink RX3 15 "HedgeCourt$PaperLine" "cost" "I", Cond.classLink RX3 19 "[[I", Cond.fieldLink RX3 21 "HedgeCourt$PaperLine" "onward" "[[I", Cond.instanceMethod yX2_init, Cond.code yX2_init cX2_init 1 none, Cond.methodLink RX2 3 objectInit, Cond.fieldLink RX2 9 "HedgeCourt$Mowings" "count" "I", Cond.fieldLink RX2 15 "HedgeCourt$Mowings" "years" "[I"]
def wsL_law_r5 : List Cond := [Cond.fieldLink RX2 19 "HedgeCourt$Mowings" "yearCount" "I", Cond.fieldLink RX2 22 "HedgeCourt$Mowings" "who" "[I", Cond.fieldLink RX2 25 "HedgeCourt$Mowings" "from" "[I", Cond.fieldLink RX2 28 "HedgeCourt$Mowings" "to" "[I", Cond.fieldLink RX2 31 "HedgeCourt$Mowings" "reach" "[I", Cond.fieldLink RX2 34 "HedgeCourt$Mowings" "when" "[I", Cond.instanceMethod yX4_init, Cond.code yX4_init cX4_init 1 none, Cond.methodLink RX4 3 objectInit, Cond.fieldLink RX4 9 "HedgeCourt$Protests" "station" "[I", Cond.fieldLink RX4 15 "HedgeCourt$Protests" "when" "[I", Cond.fieldLink RX4 18 "HedgeCourt$Protests" "count" "I", Cond.methodLink RX9 55 yX8_init, Cond.instanceMethod yX8_init, Cond.code yX8_init cX8_init 3 none, Cond.methodLink RX8 3 objectInit, Cond.fieldLink RX8 9 "HedgeCourt$TrueLine" "foot" "I", Cond.fieldLink RX8 15 "HedgeCourt$TrueLine" "movedIn" "I", Cond.fieldLink RX8 18 "HedgeCourt$TrueLine" "won" "[I", Cond.fieldLink RX8 22 "HedgeCourt$TrueLine" "run" "[I", Cond.classLink RX8 25 "[[I", Cond.fieldLink RX8 27 "HedgeCourt$TrueLine" "reach" "[[I", Cond.fieldLink RX8 30 "HedgeCourt$TrueLine" "mowings" "LHedgeCourt$Mowings;", Cond.fieldLink RX8 34 "HedgeCourt$TrueLine" "protests" "LHedgeCourt$Protests;"]
def wsL_law_r6 : List Cond := [Cond.instanceMethod yX5_init, Cond.code yX5_init cX5_init 1 none, Cond.methodLink RX5 3 objectInit, Cond.fieldLink RX5 9 "HedgeCourt$Quarrel" "opened" "Z", Cond.fieldLink RX5 15 "HedgeCourt$Quarrel" "fair" "I", Cond.fieldLink RX5 19 "HedgeCourt$Quarrel" "leastFair" "I", Cond.fieldLink RX5 22 "HedgeCourt$Quarrel" "greatestFair" "I", Cond.fieldLink RX5 25 "HedgeCourt$Quarrel" "fairest" "I", Cond.fieldLink RX5 28 "HedgeCourt$Quarrel" "greater" "I", Cond.fieldLink RX5 31 "HedgeCourt$Quarrel" "lesser" "I", Cond.fieldLink RX5 34 "HedgeCourt$Quarrel" "worth" "[I", Cond.fieldLink RX5 38 "HedgeCourt$Quarrel" "cost" "[I", Cond.fieldLink RX5 41 "HedgeCourt$Quarrel" "chance" "[I", Cond.methodLink RX9 71 yX0_init, Cond.instanceMethod yX0_init, Cond.code yX0_init cX0_init 1 none, Cond.methodLink RX0 3 objectInit, Cond.fieldLink RX0 9 "HedgeCourt$Law" "weight" "[I", Cond.arrayClass .boolean, Cond.fieldLink RX0 15 "HedgeCourt$Law" "newerAlone" "[Z", Cond.methodLink RX0 19 yX0_reset, Cond.instanceMethod yX0_reset, Cond.selects RX0 yX0_reset yX0_reset, Cond.code yX0_reset cX0_reset 2 none]
def wsL_law_r7 : List Cond := [Cond.fieldLink RX0 28 "HedgeCourt$Law" "thrown" "I", Cond.fieldLink RX0 32 "HedgeCourt$Law" "hold" "I", Cond.fieldLink RX0 35 "HedgeCourt$Law" "bend" "I", Cond.methodLink RX0 22 yJ7_fill_53178, Cond.static yJ7_fill_53178, Cond.initialized RJ7, Cond.code yJ7_fill_53178 cJ7_fill_53178 4 none, Cond.methodLink RL 12 yX10_init, Cond.instanceMethod yX10_init, Cond.code yX10_init cX10_init 2 none, Cond.methodLink RX10 1 objectInit, Cond.fieldLink RX10 7 "HedgeCourtModel" "kind" "[I", Cond.fieldLink RX10 13 "HedgeCourtModel" "from" "[I", Cond.fieldLink RX10 16 "HedgeCourtModel" "to" "[I", Cond.fieldLink RX10 19 "HedgeCourtModel" "low" "[I", Cond.fieldLink RX10 22 "HedgeCourtModel" "high" "[I", Cond.fieldLink RX10 25 "HedgeCourtModel" "year" "[I", Cond.fieldLink RX10 28 "HedgeCourtModel" "side" "[I", Cond.fieldLink RX10 31 "HedgeCourtModel" "hold" "I", Cond.fieldLink RX10 35 "HedgeCourtModel" "bend" "I", Cond.fieldLink RX10 38 "HedgeCourtModel" "weight" "[I", Cond.fieldLink RX10 41 "HedgeCourtModel" "newer" "[Z", Cond.fieldLink RX10 45 "HedgeCourtModel" "tape" "[I", Cond.fieldLink RX10 48 "HedgeCourtModel" "line" "[I"]
def wsL_law_r8 : List Cond := [Cond.fieldLink RX10 51 "HedgeCourtModel" "faultPlace" "I", Cond.fieldLink RX10 54 "HedgeCourtModel" "costs" "[I", Cond.fieldLink RX10 57 "HedgeCourtModel" "papers" "[I", Cond.fieldLink RX10 60 "HedgeCourtModel" "mower" "[I", Cond.fieldLink RX10 63 "HedgeCourtModel" "mowFrom" "[I", Cond.fieldLink RX10 66 "HedgeCourtModel" "mowTo" "[I", Cond.fieldLink RX10 69 "HedgeCourtModel" "mowFoot" "[I", Cond.fieldLink RX10 72 "HedgeCourtModel" "mowYear" "[I", Cond.fieldLink RX10 75 "HedgeCourtModel" "protestAt" "[I", Cond.fieldLink RX10 78 "HedgeCourtModel" "protestIn" "[I", Cond.fieldLink RX10 81 "HedgeCourtModel" "many" "[I", Cond.fieldLink RX10 84 "HedgeCourtModel" "run" "[I", Cond.fieldLink RX10 87 "HedgeCourtModel" "feet" "[I", Cond.methodLink RL 13 yX9_say, Cond.instanceMethod yX9_say, Cond.selects RX9 yX9_say yX9_say, Cond.code yX9_say cX9_say 9 (some .int), Cond.classLink RX9 95 RX6, Cond.instantiable RX6 7, Cond.initialized RX6, Cond.methodLink RX9 83 yX9_below, Cond.static yX9_below, Cond.code yX9_below cX9_below 2 (some .boolean), Cond.methodLink RX9 87 yX9_isStretch]
def wsL_law_r9 : List Cond := [Cond.static yX9_isStretch, Cond.code yX9_isStretch cX9_isStretch 3 (some .boolean), Cond.methodLink RX9 91 yJx4a65c_size_8abf5, Cond.instanceMethod yJx4a65c_size_8abf5, Cond.selects RJx4a65c yJx4a65c_size_8abf5 yJx4a65c_size_8abf5, Cond.code yJx4a65c_size_8abf5 cJx4a65c_size_8abf5 1 (some .int), Cond.fieldLink RJx4a65c 48 "java/util/ArrayList" "size" "I", Cond.methodLink RX9 97 yX6_init, Cond.instanceMethod yX6_init, Cond.code yX6_init cX6_init 8 none, Cond.methodLink RX6 3 objectInit, Cond.fieldLink RX6 9 "HedgeCourt$Saying" "kind" "I", Cond.fieldLink RX6 15 "HedgeCourt$Saying" "from" "I", Cond.fieldLink RX6 18 "HedgeCourt$Saying" "to" "I", Cond.fieldLink RX6 21 "HedgeCourt$Saying" "low" "I", Cond.fieldLink RX6 24 "HedgeCourt$Saying" "high" "I", Cond.fieldLink RX6 27 "HedgeCourt$Saying" "year" "I", Cond.fieldLink RX6 30 "HedgeCourt$Saying" "side" "I", Cond.methodLink RX9 100 yJx4a65c_add_9ea2d, Cond.instanceMethod yJx4a65c_add_9ea2d, Cond.selects RJx4a65c yJx4a65c_add_9ea2d yJx4a65c_add_9ea2d, Cond.code yJx4a65c_add_9ea2d cJx4a65c_add_9ea2d 2 (some .boolean), Cond.fieldLink RJx4a65c 63 "java/util/ArrayList" "modCount" "I", Cond.sameField "java/util/ArrayList" "java/util/AbstractList" "modCount" "I"]
def wsL_law_r10 : List Cond := [Cond.methodLink RJx4a65c 131 yJx4a65c_add_72be8, Cond.instanceMethod yJx4a65c_add_72be8, Cond.selects RJx4a65c yJx4a65c_add_72be8 yJx4a65c_add_72be8, Cond.code yJx4a65c_add_72be8 cJx4a65c_add_72be8 4 none, Cond.methodLink RJx4a65c 129 yJx4a65c_grow_d5877, Cond.instanceMethod yJx4a65c_grow_d5877, Cond.selects RJx4a65c yJx4a65c_grow_d5877 yJx4a65c_grow_d5877, Cond.code yJx4a65c_grow_d5877 cJx4a65c_grow_d5877 1 (some (.array (.object "java/lang/Object"))), Cond.methodLink RJx4a65c 69 yJx4a65c_grow_92f84, Cond.instanceMethod yJx4a65c_grow_92f84, Cond.selects RJx4a65c yJx4a65c_grow_92f84 yJx4a65c_grow_92f84, Cond.code yJx4a65c_grow_92f84 cJx4a65c_grow_92f84 4 (some (.array (.object "java/lang/Object"))), Cond.methodLink RJx4a65c 79 Lib.Math.max.name, Cond.static Lib.Math.max.name, Cond.initialized "java/lang/Math", Cond.code Lib.Math.max.name Lib.Math.max.code 2 (some .int), Cond.classLink RJx4a65c 7 "java/lang/Object", Cond.methodLink RJx4a65c 73 yJ8_newLength_cabcc, Cond.static yJ8_newLength_cabcc, Cond.initialized RJ8, Cond.code yJ8_newLength_cabcc cJ8_newLength_cabcc 4 (some .int), Cond.methodLink RJ8 194 Lib.Math.max.name, Cond.constant RJ8 200 (2147483639), Cond.methodLink RJ8 201 yJ8_hugeLength_7cf53]
def wsL_law_r11 : List Cond := [Cond.static yJ8_hugeLength_7cf53, Cond.code yJ8_hugeLength_7cf53 cJ8_hugeLength_7cf53 3 (some .int), Cond.methodLink RJx4a65c 66 yJ7_copyOf_1904c, Cond.static yJ7_copyOf_1904c, Cond.code yJ7_copyOf_1904c cJ7_copyOf_1904c 2 (some (.array (.object "java/lang/Object"))), Cond.methodLink RJ7 86 ⟨"java/lang/Object", "getClass", "()Ljava/lang/Class;"⟩, Cond.selects "[Ljava/lang/Object;" ⟨"java/lang/Object", "getClass", "()Ljava/lang/Class;"⟩ ⟨"java/lang/Object", "getClass", "()Ljava/lang/Class;"⟩, Cond.instanceMethod ⟨"java/lang/Object", "getClass", "()Ljava/lang/Class;"⟩, Cond.native ⟨"java/lang/Object", "getClass", "()Ljava/lang/Class;"⟩, Cond.methodLink RJ7 300 yJ7_copyOf_6403c, Cond.static yJ7_copyOf_6403c, Cond.code yJ7_copyOf_6403c cJ7_copyOf_6403c 4 (some (.array (.object "java/lang/Object"))), Cond.classLink RJ7 110 "[Ljava/lang/Object;", Cond.classLink RJ7 2 "java/lang/Object", Cond.methodLink RJ7 304 Lib.Math.min.name, Cond.static Lib.Math.min.name, Cond.code Lib.Math.min.name Lib.Math.min.code 2 (some .int), Cond.methodLink RJ7 150 arraycopyName, Cond.native arraycopyName, Cond.static arraycopyName, Cond.initialized "java/lang/System", Cond.methodLink RL 17 yX10_say, Cond.instanceMethod yX10_say, Cond.selects RX10 yX10_say yX10_say]
def wsL_law_r12 : List Cond := [Cond.code yX10_say cX10_say 8 (some .int), Cond.fieldLink RX10 108 "HedgeCourtModel" "sayings" "I", Cond.methodLink RX10 90 yX10_isIn, Cond.static yX10_isIn, Cond.code yX10_isIn cX10_isIn 3 (some .boolean), Cond.methodLink RX10 98 yX10_isSpan, Cond.static yX10_isSpan, Cond.code yX10_isSpan cX10_isSpan 2 (some .boolean), Cond.methodLink RX10 94 yX10_isStation, Cond.static yX10_isStation, Cond.code yX10_isStation cX10_isStation 1 (some .boolean), Cond.methodLink RX10 102 yX10_isFoot, Cond.static yX10_isFoot, Cond.code yX10_isFoot cX10_isFoot 1 (some .boolean), Cond.methodLink RX10 105 yX10_isYear, Cond.static yX10_isYear, Cond.code yX10_isYear cX10_isYear 1 (some .boolean), Cond.methodLink RL 18 yX9_feed, Cond.instanceMethod yX9_feed, Cond.selects RX9 yX9_feed yX9_feed, Cond.code yX9_feed cX9_feed 6 (some .int), Cond.fieldLink RX9 104 "HedgeCourt$Tape" "length" "I", Cond.methodLink RX9 108 yX7_append, Cond.instanceMethod yX7_append]
def wsL_law_r13 : List Cond := [Cond.selects RX7 yX7_append yX7_append, Cond.code yX7_append cX7_append 3 none, Cond.methodLink RL 22 yX10_feed, Cond.instanceMethod yX10_feed, Cond.selects RX10 yX10_feed yX10_feed, Cond.code yX10_feed cX10_feed 8 (some .int), Cond.fieldLink RX10 111 "HedgeCourtModel" "taped" "I", Cond.methodLink RL 23 yX9_end, Cond.instanceMethod yX9_end, Cond.selects RX9 yX9_end yX9_end, Cond.code yX9_end cX9_end 2 (some .boolean), Cond.methodLink RX9 112 yX7_cut, Cond.instanceMethod yX7_cut, Cond.selects RX7 yX7_cut yX7_cut, Cond.code yX7_cut cX7_cut 2 (some .boolean), Cond.methodLink RL 27 yX10_end, Cond.instanceMethod yX10_end, Cond.selects RX10 yX10_end yX10_end, Cond.code yX10_end cX10_end 2 (some .boolean), Cond.methodLink RL 28 yX9_rules, Cond.instanceMethod yX9_rules, Cond.selects RX9 yX9_rules yX9_rules, Cond.code yX9_rules cX9_rules 2 (some .int), Cond.fieldLink RX9 120 "HedgeCourt$LawReader" "fault" "I"]
def wsL_law_r14 : List Cond := [Cond.fieldLink RX9 123 "HedgeCourt$LawReader" "lines" "I", Cond.methodLink RX9 116 yX1_read, Cond.instanceMethod yX1_read, Cond.selects RX1 yX1_read yX1_read, Cond.code yX1_read cX1_read 3 none, Cond.methodLink RX1 37 yX0_reset, Cond.methodLink RX1 42 yX1_advance, Cond.instanceMethod yX1_advance, Cond.selects RX1 yX1_advance yX1_advance, Cond.code yX1_advance cX1_advance 1 none, Cond.fieldLink RX1 86 "HedgeCourt$Tape" "length" "I", Cond.fieldLink RX1 91 "HedgeCourt$Tape" "bytes" "[B", Cond.methodLink RX1 95 yX1_isBlank, Cond.static yX1_isBlank, Cond.code yX1_isBlank cX1_isBlank 1 (some .boolean), Cond.methodLink RX1 99 yX1_isLetter, Cond.static yX1_isLetter, Cond.code yX1_isLetter cX1_isLetter 1 (some .boolean), Cond.methodLink RX1 102 yX1_scanWord, Cond.instanceMethod yX1_scanWord, Cond.selects RX1 yX1_scanWord yX1_scanWord, Cond.code yX1_scanWord cX1_scanWord 2 none, Cond.methodLink RX1 111 yX1_keyword, Cond.static yX1_keyword]
def wsL_law_r15 : List Cond := [Cond.code yX1_keyword cX1_keyword 1 (some (.object "java/lang/String")), Cond.methodLink RX1 115 yX1_isSpelled, Cond.instanceMethod yX1_isSpelled, Cond.selects RX1 yX1_isSpelled yX1_isSpelled, Cond.code yX1_isSpelled cX1_isSpelled 3 (some .boolean), Cond.methodLink RX1 119 yJ0_length_8abf5, Cond.instanceMethod yJ0_length_8abf5, Cond.selects RJ0 yJ0_length_8abf5 yJ0_length_8abf5, Cond.initialized RJ0, Cond.code yJ0_length_8abf5 cJ0_length_8abf5 1 (some .int), Cond.fieldLink RJ0 9 "java/lang/String" "value" "[B", Cond.methodLink RJ0 335 yJ0_coder_7d493, Cond.instanceMethod yJ0_coder_7d493, Cond.selects RJ0 yJ0_coder_7d493 yJ0_coder_7d493, Cond.code yJ0_coder_7d493 cJ0_coder_7d493 1 (some .byte), Cond.fieldLink RJ0 38 "java/lang/String" "COMPACT_STRINGS" "Z", Cond.fieldLink RJ0 15 "java/lang/String" "coder" "B", Cond.methodLink RX1 123 yJ0_charAt_5068e, Cond.instanceMethod yJ0_charAt_5068e, Cond.selects RJ0 yJ0_charAt_5068e yJ0_charAt_5068e, Cond.code yJ0_charAt_5068e cJ0_charAt_5068e 2 (some .char), Cond.methodLink RJ0 492 yJ0_isLatin1_aae02, Cond.instanceMethod yJ0_isLatin1_aae02, Cond.selects RJ0 yJ0_isLatin1_aae02 yJ0_isLatin1_aae02]
def wsL_law_r16 : List Cond := [Cond.code yJ0_isLatin1_aae02 cJ0_isLatin1_aae02 1 (some .boolean), Cond.methodLink RJ0 495 yJ1_charAt_3b067, Cond.static yJ1_charAt_3b067, Cond.initialized RJ1, Cond.code yJ1_charAt_3b067 cJ1_charAt_3b067 2 (some .char), Cond.methodLink RJ1 9 yJ0_checkIndex_df160, Cond.static yJ0_checkIndex_df160, Cond.code yJ0_checkIndex_df160 cJ0_checkIndex_df160 2 none, Cond.fieldLink RJ0 1053 "jdk/internal/util/Preconditions" "SIOOBE_FORMATTER" "Ljava/util/function/BiFunction;", Cond.methodLink RJ0 1059 yJ3_checkIndex_8e157, Cond.static yJ3_checkIndex_8e157, Cond.initialized RJ3, Cond.code yJ3_checkIndex_8e157 cJ3_checkIndex_8e157 3 (some .int), Cond.methodLink RJ0 498 yJ2_charAt_3b067, Cond.static yJ2_charAt_3b067, Cond.initialized RJ2, Cond.code yJ2_charAt_3b067 cJ2_charAt_3b067 2 (some .char), Cond.methodLink RJ2 67 yJ2_checkIndex_2214a, Cond.static yJ2_checkIndex_2214a, Cond.code yJ2_checkIndex_2214a cJ2_checkIndex_2214a 2 none, Cond.methodLink RJ2 48 yJ2_length_9d52b, Cond.static yJ2_length_9d52b, Cond.code yJ2_length_9d52b cJ2_length_9d52b 1 (some .int), Cond.methodLink RJ2 414 yJ0_checkIndex_df160]
def wsL_law_r17 : List Cond := [Cond.methodLink RJ2 71 yJ2_getChar_3b067, Cond.static yJ2_getChar_3b067, Cond.code yJ2_getChar_3b067 cJ2_getChar_3b067 2 (some .char), Cond.fieldLink RJ2 44 "java/lang/StringUTF16" "$assertionsDisabled" "Z", Cond.fieldLink RJ2 59 "java/lang/StringUTF16" "HI_BYTE_SHIFT" "I", Cond.fieldLink RJ2 63 "java/lang/StringUTF16" "LO_BYTE_SHIFT" "I", Cond.methodLink RX1 105 yX1_isDigit, Cond.static yX1_isDigit, Cond.code yX1_isDigit cX1_isDigit 1 (some .boolean), Cond.methodLink RX1 108 yX1_scanNumber, Cond.instanceMethod yX1_scanNumber, Cond.selects RX1 yX1_scanNumber yX1_scanNumber, Cond.code yX1_scanNumber cX1_scanNumber 2 none, Cond.methodLink RX1 45 yX1_readLine, Cond.instanceMethod yX1_readLine, Cond.selects RX1 yX1_readLine yX1_readLine, Cond.code yX1_readLine cX1_readLine 5 none, Cond.methodLink RX1 49 yX1_demand, Cond.instanceMethod yX1_demand, Cond.selects RX1 yX1_demand yX1_demand, Cond.code yX1_demand cX1_demand 3 none, Cond.methodLink RX1 53 yX1_kindHere, Cond.instanceMethod yX1_kindHere, Cond.selects RX1 yX1_kindHere yX1_kindHere]
def wsL_law_r18 : List Cond := [Cond.code yX1_kindHere cX1_kindHere 1 (some .int), Cond.methodLink RX1 57 yX1_numberHere, Cond.instanceMethod yX1_numberHere, Cond.selects RX1 yX1_numberHere yX1_numberHere, Cond.code yX1_numberHere cX1_numberHere 2 (some .int), Cond.methodLink RX1 65 yX1_fits, Cond.static yX1_fits, Cond.code yX1_fits cX1_fits 2 (some .boolean), Cond.methodLink RX1 61 yX1_enact, Cond.static yX1_enact, Cond.code yX1_enact cX1_enact 5 none, Cond.fieldLink RX1 69 "HedgeCourt$Law" "weight" "[I", Cond.fieldLink RX1 73 "HedgeCourt$Law" "newerAlone" "[Z", Cond.fieldLink RX1 77 "HedgeCourt$Law" "thrown" "I", Cond.fieldLink RX1 80 "HedgeCourt$Law" "hold" "I", Cond.fieldLink RX1 83 "HedgeCourt$Law" "bend" "I", Cond.methodLink RL 32 yX10_rules, Cond.instanceMethod yX10_rules, Cond.selects RX10 yX10_rules yX10_rules, Cond.code yX10_rules cX10_rules 3 (some .int), Cond.fieldLink RX10 162 "HedgeCourtModel" "wrong" "I", Cond.fieldLink RX10 136 "HedgeCourtModel" "at" "I", Cond.fieldLink RX10 171 "HedgeCourtModel" "lines" "I", Cond.fieldLink RX10 146 "HedgeCourtModel" "token" "I"]
def wsL_law_r19 : List Cond := [Cond.fieldLink RX10 187 "HedgeCourtModel" "faultKind" "I", Cond.fieldLink RX10 165 "HedgeCourtModel" "wrongAt" "I", Cond.fieldLink RX10 190 "HedgeCourtModel" "thrown" "I", Cond.methodLink RX10 174 yX10_next0, Cond.instanceMethod yX10_next0, Cond.selects RX10 yX10_next0 yX10_next0, Cond.code yX10_next0 cX10_next0 5 none, Cond.fieldLink RX10 143 "HedgeCourtModel" "tokenAt" "I", Cond.fieldLink RX10 159 "HedgeCourtModel" "value" "I", Cond.methodLink RX10 139 yX10_see, Cond.instanceMethod yX10_see, Cond.selects RX10 yX10_see yX10_see, Cond.code yX10_see cX10_see 2 (some .int), Cond.methodLink RX10 149 yX10_isLetter, Cond.static yX10_isLetter, Cond.code yX10_isLetter cX10_isLetter 1 (some .boolean), Cond.methodLink RX10 152 yX10_word, Cond.static yX10_word, Cond.code yX10_word cX10_word 2 (some .int), Cond.constantLong RX10 114 (512802514792), Cond.constantLong RX10 116 (499968536439), Cond.constantLong RX10 118 (1752132708), Cond.constantLong RX10 120 (1650814564), Cond.constantLong RX10 122 (474148726130)]
def wsL_law_r20 : List Cond := [Cond.constantLong RX10 124 (1684366692), Cond.constantLong RX10 126 (7168368), Cond.constantLong RX10 128 (431265964904), Cond.constantLong RX10 130 (1886352244), Cond.constantLong RX10 132 (2003792484), Cond.constantLong RX10 134 (126948268729721), Cond.methodLink RX10 156 yX10_isDigit, Cond.static yX10_isDigit, Cond.code yX10_isDigit cX10_isDigit 1 (some .boolean), Cond.methodLink RX10 184 yX10_aLine, Cond.instanceMethod yX10_aLine, Cond.selects RX10 yX10_aLine yX10_aLine, Cond.code yX10_aLine cX10_aLine 2 (some .boolean), Cond.methodLink RX10 168 yX10_bad, Cond.instanceMethod yX10_bad, Cond.selects RX10 yX10_bad yX10_bad, Cond.code yX10_bad cX10_bad 2 (some .boolean), Cond.methodLink RX10 177 yX10_aKind, Cond.instanceMethod yX10_aKind, Cond.selects RX10 yX10_aKind yX10_aKind, Cond.code yX10_aKind cX10_aKind 1 (some .boolean), Cond.methodLink RX10 181 yX10_aNumber, Cond.instanceMethod yX10_aNumber, Cond.selects RX10 yX10_aNumber yX10_aNumber]
def wsL_law_r21 : List Cond := [Cond.code yX10_aNumber cX10_aNumber 3 (some .boolean), Cond.methodLink RX10 193 yX10_tells, Cond.instanceMethod yX10_tells, Cond.selects RX10 yX10_tells yX10_tells, Cond.code yX10_tells cX10_tells 4 none, Cond.methodLink RL 33 yX9_fault, Cond.instanceMethod yX9_fault, Cond.selects RX9 yX9_fault yX9_fault, Cond.code yX9_fault cX9_fault 2 (some .int), Cond.fieldLink RX9 126 "HedgeCourt$LawReader" "faultPlace" "I", Cond.methodLink RL 37 yX10_fault, Cond.instanceMethod yX10_fault, Cond.selects RX10 yX10_fault yX10_fault, Cond.code yX10_fault cX10_fault 2 (some .int), Cond.methodLink RL 38 yX9_look, Cond.instanceMethod yX9_look, Cond.selects RX9 yX9_look yX9_look, Cond.code yX9_look cX9_look 2 (some .int), Cond.fieldLink RX9 129 "HedgeCourt$Law" "thrown" "I", Cond.fieldLink RX9 132 "HedgeCourt$Law" "hold" "I", Cond.fieldLink RX9 135 "HedgeCourt$Law" "bend" "I", Cond.fieldLink RX9 138 "HedgeCourt$Mowings" "count" "I", Cond.methodLink RX9 141 yX9_lookAtKinds, Cond.instanceMethod yX9_lookAtKinds]
def wsL_law_r22 : List Cond := [Cond.selects RX9 yX9_lookAtKinds yX9_lookAtKinds, Cond.code yX9_lookAtKinds cX9_lookAtKinds 2 (some .int), Cond.fieldLink RX9 145 "HedgeCourt$Law" "weight" "[I", Cond.fieldLink RX9 149 "HedgeCourt$Law" "newerAlone" "[Z", Cond.methodLink RL 41 yX10_look, Cond.instanceMethod yX10_look, Cond.selects RX10 yX10_look yX10_look, Cond.code yX10_look cX10_look 2 (some .int), Cond.fieldLink RX10 197 "HedgeCourtModel" "mows" "I", Cond.methodLink RL 42 yX9_said, Cond.instanceMethod yX9_said, Cond.selects RX9 yX9_said yX9_said, Cond.code yX9_said cX9_said 4 (some .int), Cond.classLink RX9 95 "HedgeCourt$Saying", Cond.fieldLink RX9 157 "HedgeCourt$Saying" "kind" "I", Cond.fieldLink RX9 160 "HedgeCourt$Saying" "low" "I", Cond.fieldLink RX9 167 "HedgeCourt$Saying" "high" "I", Cond.fieldLink RX9 170 "HedgeCourt$Saying" "year" "I", Cond.methodLink RX9 153 yJx4a65c_get_915e3, Cond.instanceMethod yJx4a65c_get_915e3, Cond.selects RJx4a65c yJx4a65c_get_915e3 yJx4a65c_get_915e3, Cond.code yJx4a65c_get_915e3 cJx4a65c_get_915e3 2 (some (.object "java/lang/Object")), Cond.methodLink RJx4a65c 118 yJ15_checkIndex_7cf53, Cond.static yJ15_checkIndex_7cf53]
def wsL_law_r23 : List Cond := [Cond.initialized RJ15, Cond.code yJ15_checkIndex_7cf53 cJ15_checkIndex_7cf53 2 (some .int), Cond.methodLink RJ15 105 yJ3_checkIndex_8e157, Cond.methodLink RJx4a65c 123 yJx4a65c_elementData_915e3, Cond.instanceMethod yJx4a65c_elementData_915e3, Cond.selects RJx4a65c yJx4a65c_elementData_915e3 yJx4a65c_elementData_915e3, Cond.code yJx4a65c_elementData_915e3 cJx4a65c_elementData_915e3 2 (some (.object "java/lang/Object")), Cond.methodLink RX9 163 yX6_counted, Cond.instanceMethod yX6_counted, Cond.selects RX6 yX6_counted yX6_counted, Cond.code yX6_counted cX6_counted 4 (some .int), Cond.fieldLink RX6 33 "HedgeCourt$Law" "thrown" "I", Cond.methodLink RX6 38 Lib.Math.min.name, Cond.methodLink RX6 44 Lib.Math.max.name, Cond.methodLink RX9 173 yX9_stationsOf, Cond.instanceMethod yX9_stationsOf, Cond.selects RX9 yX9_stationsOf yX9_stationsOf, Cond.code yX9_stationsOf cX9_stationsOf 4 (some .int), Cond.fieldLink RX9 177 "HedgeCourt$Saying" "from" "I", Cond.fieldLink RX9 180 "HedgeCourt$Saying" "to" "I", Cond.methodLink RX9 183 yX6_countsAt, Cond.instanceMethod yX6_countsAt, Cond.selects RX6 yX6_countsAt yX6_countsAt, Cond.code yX6_countsAt cX6_countsAt 6 (some .boolean)]
def wsL_law_r24 : List Cond := [Cond.fieldLink RX6 51 "HedgeCourt$Law" "newerAlone" "[Z", Cond.classLink RX6 10 "HedgeCourt$Saying", Cond.methodLink RX6 47 yX6_has, Cond.instanceMethod yX6_has, Cond.selects RX6 yX6_has yX6_has, Cond.code yX6_has cX6_has 2 (some .boolean), Cond.methodLink RX6 55 yJx4a65c_size_8abf5, Cond.methodLink RX6 61 yJx4a65c_get_915e3, Cond.methodLink RL 46 yX10_said, Cond.instanceMethod yX10_said, Cond.selects RX10 yX10_said yX10_said, Cond.code yX10_said cX10_said 5 (some .int), Cond.methodLink RX10 200 yX10_moved, Cond.instanceMethod yX10_moved, Cond.selects RX10 yX10_moved yX10_moved, Cond.code yX10_moved cX10_moved 4 (some .int), Cond.methodLink RX10 204 yX10_counts, Cond.instanceMethod yX10_counts, Cond.selects RX10 yX10_counts yX10_counts, Cond.code yX10_counts cX10_counts 5 (some .boolean), Cond.methodLink RL 47 yX9_paper, Cond.instanceMethod yX9_paper, Cond.selects RX9 yX9_paper yX9_paper, Cond.code yX9_paper cX9_paper 2 (some .int)]
def wsL_law_r25 : List Cond := [Cond.fieldLink RX9 190 "HedgeCourt$PaperLine" "cost" "I", Cond.fieldLink RX9 193 "HedgeCourt$PaperLine" "feet" "[I", Cond.methodLink RX9 187 yX9_drawPaperLine, Cond.instanceMethod yX9_drawPaperLine, Cond.selects RX9 yX9_drawPaperLine yX9_drawPaperLine, Cond.code yX9_drawPaperLine cX9_drawPaperLine 1 none, Cond.methodLink RX9 196 yX3_draw, Cond.instanceMethod yX3_draw, Cond.selects RX3 yX3_draw yX3_draw, Cond.code yX3_draw cX3_draw 5 none, Cond.fieldLink RX3 30 "HedgeCourt$Law" "bend" "I", Cond.methodLink RX3 24 yJ7_fill_53178, Cond.methodLink RX3 35 yX3_bendTowards, Cond.static yX3_bendTowards, Cond.code yX3_bendTowards cX3_bendTowards 4 none, Cond.methodLink RX3 47 arraycopyName, Cond.methodLink RX3 53 Lib.Math.min.name, Cond.methodLink RX3 39 yX3_addMisses, Cond.static yX3_addMisses, Cond.code yX3_addMisses cX3_addMisses 10 none, Cond.classLink RX3 69 "HedgeCourt$Saying", Cond.fieldLink RX3 75 "HedgeCourt$Law" "weight" "[I", Cond.fieldLink RX3 78 "HedgeCourt$Saying" "kind" "I", Cond.fieldLink RX3 81 "HedgeCourt$Saying" "low" "I"]
def wsL_law_r26 : List Cond := [Cond.fieldLink RX3 88 "HedgeCourt$Saying" "high" "I", Cond.methodLink RX3 59 yJx4a65c_size_8abf5, Cond.methodLink RX3 65 yJx4a65c_get_915e3, Cond.methodLink RX3 71 yX6_countsAt, Cond.methodLink RX3 84 yX6_counted, Cond.static yX9_missOf, Cond.code yX9_missOf cX9_missOf 3 (some .int), Cond.methodLink RX9 262 Lib.Math.max.name, Cond.methodLink RX3 43 yX3_chooseFeet, Cond.instanceMethod yX3_chooseFeet, Cond.selects RX3 yX3_chooseFeet yX3_chooseFeet, Cond.code yX3_chooseFeet cX3_chooseFeet 3 none, Cond.methodLink RX3 95 yX3_cheapest, Cond.static yX3_cheapest, Cond.code yX3_cheapest cX3_cheapest 7 (some .int), Cond.constant RX3 101 (2147483647), Cond.methodLink RX3 102 Lib.Math.abs.name, Cond.static Lib.Math.abs.name, Cond.code Lib.Math.abs.name Lib.Math.abs.code 1 (some .int), Cond.methodLink RL 50 yX10_paper, Cond.instanceMethod yX10_paper, Cond.selects RX10 yX10_paper yX10_paper, Cond.code yX10_paper cX10_paper 2 (some .int), Cond.methodLink RX10 216 yX10_lines]
def wsL_law_r27 : List Cond := [Cond.instanceMethod yX10_lines, Cond.selects RX10 yX10_lines yX10_lines, Cond.code yX10_lines cX10_lines 6 none, Cond.methodLink RX10 207 yX10_abs, Cond.static yX10_abs, Cond.code yX10_abs cX10_abs 1 (some .int), Cond.methodLink RX10 210 yX10_costAt, Cond.instanceMethod yX10_costAt, Cond.selects RX10 yX10_costAt yX10_costAt, Cond.code yX10_costAt cX10_costAt 7 (some .int), Cond.methodLink RX10 213 yX10_onFrom, Cond.instanceMethod yX10_onFrom, Cond.selects RX10 yX10_onFrom yX10_onFrom, Cond.code yX10_onFrom cX10_onFrom 3 (some .int), Cond.methodLink RL 51 yX9_straight, Cond.instanceMethod yX9_straight, Cond.selects RX9 yX9_straight yX9_straight, Cond.code yX9_straight cX9_straight 7 (some .int), Cond.methodLink RX9 200 yJ6_bitCount_0f7a4, Cond.static yJ6_bitCount_0f7a4, Cond.initialized RJ6, Cond.code yJ6_bitCount_0f7a4 cJ6_bitCount_0f7a4 1 (some .int), Cond.constant RJ6 265 (1431655765), Cond.constant RJ6 266 (858993459)]
def wsL_law_r28 : List Cond := [Cond.constant RJ6 267 (252645135), Cond.methodLink RX9 205 yX9_missOf, Cond.methodLink RL 54 yX10_straight, Cond.instanceMethod yX10_straight, Cond.selects RX10 yX10_straight yX10_straight, Cond.code yX10_straight cX10_straight 4 (some .int), Cond.methodLink RL 55 yX9_mow, Cond.instanceMethod yX9_mow, Cond.selects RX9 yX9_mow yX9_mow, Cond.code yX9_mow cX9_mow 7 (some .boolean), Cond.methodLink RX9 209 yX2_tell, Cond.instanceMethod yX2_tell, Cond.selects RX2 yX2_tell yX2_tell, Cond.code yX2_tell cX2_tell 6 (some .boolean), Cond.methodLink RX2 37 yX2_noteYear, Cond.instanceMethod yX2_noteYear, Cond.selects RX2 yX2_noteYear yX2_noteYear, Cond.code yX2_noteYear cX2_noteYear 5 none, Cond.methodLink RL 59 yX10_mow, Cond.instanceMethod yX10_mow, Cond.selects RX10 yX10_mow yX10_mow, Cond.code yX10_mow cX10_mow 6 (some .boolean), Cond.methodLink RL 60 yX9_protest, Cond.instanceMethod yX9_protest]
def wsL_law_r29 : List Cond := [Cond.selects RX9 yX9_protest yX9_protest, Cond.code yX9_protest cX9_protest 3 (some .boolean), Cond.methodLink RX9 213 yX4_tell, Cond.instanceMethod yX4_tell, Cond.selects RX4 yX4_tell yX4_tell, Cond.code yX4_tell cX4_tell 3 (some .boolean), Cond.methodLink RX4 22 yX4_isTold, Cond.instanceMethod yX4_isTold, Cond.selects RX4 yX4_isTold yX4_isTold, Cond.code yX4_isTold cX4_isTold 4 (some .boolean), Cond.methodLink RL 64 yX10_protest, Cond.instanceMethod yX10_protest, Cond.selects RX10 yX10_protest yX10_protest, Cond.code yX10_protest cX10_protest 3 (some .boolean), Cond.fieldLink RX10 218 "HedgeCourtModel" "protests" "I", Cond.methodLink RX10 221 yX10_isProtested, Cond.instanceMethod yX10_isProtested, Cond.selects RX10 yX10_isProtested yX10_isProtested, Cond.code yX10_isProtested cX10_isProtested 5 (some .boolean), Cond.methodLink RL 65 yX9_mowed, Cond.instanceMethod yX9_mowed, Cond.selects RX9 yX9_mowed yX9_mowed, Cond.code yX9_mowed cX9_mowed 5 (some .int), Cond.methodLink RX9 215 yX2_reachOf]
def wsL_law_r30 : List Cond := [Cond.instanceMethod yX2_reachOf, Cond.selects RX2 yX2_reachOf yX2_reachOf, Cond.code yX2_reachOf cX2_reachOf 5 (some .int), Cond.methodLink RL 69 yX10_mowed, Cond.instanceMethod yX10_mowed, Cond.selects RX10 yX10_mowed yX10_mowed, Cond.code yX10_mowed cX10_mowed 4 (some .int), Cond.methodLink RX10 224 yX10_mowedIn, Cond.instanceMethod yX10_mowedIn, Cond.selects RX10 yX10_mowedIn yX10_mowedIn, Cond.code yX10_mowedIn cX10_mowedIn 6 (some .int), Cond.methodLink RL 70 yX9_spells, Cond.instanceMethod yX9_spells, Cond.selects RX9 yX9_spells yX9_spells, Cond.code yX9_spells cX9_spells 3 (some .int), Cond.fieldLink RX9 221 "HedgeCourt$TrueLine" "won" "[I", Cond.fieldLink RX9 224 "HedgeCourt$TrueLine" "movedIn" "I", Cond.methodLink RX9 218 yX9_drawTrueLine, Cond.instanceMethod yX9_drawTrueLine, Cond.selects RX9 yX9_drawTrueLine yX9_drawTrueLine, Cond.code yX9_drawTrueLine cX9_drawTrueLine 2 none, Cond.methodLink RX9 230 yX8_draw, Cond.instanceMethod yX8_draw, Cond.selects RX8 yX8_draw yX8_draw]
def wsL_law_r31 : List Cond := [Cond.code yX8_draw cX8_draw 6 none, Cond.fieldLink RX8 44 "HedgeCourt$Mowings" "yearCount" "I", Cond.fieldLink RX8 57 "HedgeCourt$Mowings" "years" "[I", Cond.methodLink RX8 38 yJ7_fill_53178, Cond.methodLink RX8 49 yX8_extendRun, Cond.instanceMethod yX8_extendRun, Cond.selects RX8 yX8_extendRun yX8_extendRun, Cond.code yX8_extendRun cX8_extendRun 9 none, Cond.methodLink RX8 64 yX2_reachOf, Cond.methodLink RX8 67 yX8_isBeyond, Cond.static yX8_isBeyond, Cond.code yX8_isBeyond cX8_isBeyond 3 (some .boolean), Cond.methodLink RX8 71 yX4_isTold, Cond.methodLink RX8 53 yX8_nearest, Cond.instanceMethod yX8_nearest, Cond.selects RX8 yX8_nearest yX8_nearest, Cond.code yX8_nearest cX8_nearest 6 (some .int), Cond.methodLink RX8 60 yX8_moveLine, Cond.instanceMethod yX8_moveLine, Cond.selects RX8 yX8_moveLine yX8_moveLine, Cond.code yX8_moveLine cX8_moveLine 4 none, Cond.methodLink RL 73 yX10_spells_, Cond.instanceMethod yX10_spells_, Cond.selects RX10 yX10_spells_ yX10_spells_]
def wsL_law_r32 : List Cond := [Cond.code yX10_spells_ cX10_spells_ 3 (some .int), Cond.fieldLink RX10 231 "HedgeCourtModel" "lastYear" "I", Cond.methodLink RX10 237 yX10_spells, Cond.instanceMethod yX10_spells, Cond.selects RX10 yX10_spells yX10_spells, Cond.code yX10_spells cX10_spells 4 none, Cond.fieldLink RX10 228 "HedgeCourtModel" "trueLine" "I", Cond.methodLink RX10 234 yX10_goes, Cond.instanceMethod yX10_goes, Cond.selects RX10 yX10_goes yX10_goes, Cond.code yX10_goes cX10_goes 9 none, Cond.methodLink RL 74 yX9_line, Cond.instanceMethod yX9_line, Cond.selects RX9 yX9_line yX9_line, Cond.code yX9_line cX9_line 2 (some .int), Cond.fieldLink RX9 227 "HedgeCourt$TrueLine" "foot" "I", Cond.methodLink RL 77 yX10_line, Cond.instanceMethod yX10_line, Cond.selects RX10 yX10_line yX10_line, Cond.code yX10_line cX10_line 2 (some .int), Cond.methodLink RL 78 yX9_quarrel, Cond.instanceMethod yX9_quarrel, Cond.selects RX9 yX9_quarrel yX9_quarrel, Cond.code yX9_quarrel cX9_quarrel 10 (some .boolean)]
def wsL_law_r33 : List Cond := [Cond.methodLink RX9 233 yX5_isParty, Cond.static yX5_isParty, Cond.code yX5_isParty cX5_isParty 3 (some .boolean), Cond.methodLink RX9 236 yX5_open, Cond.instanceMethod yX5_open, Cond.selects RX5 yX5_open yX5_open, Cond.code yX5_open cX5_open 3 none, Cond.methodLink RX9 240 yX5_setParty, Cond.instanceMethod yX5_setParty, Cond.selects RX5 yX5_setParty yX5_setParty, Cond.code yX5_setParty cX5_setParty 5 none, Cond.methodLink RX9 244 yX5_judge, Cond.instanceMethod yX5_judge, Cond.selects RX5 yX5_judge yX5_judge, Cond.code yX5_judge cX5_judge 4 none, Cond.methodLink RX5 52 Lib.Math.min.name, Cond.methodLink RX5 48 yX5_gainOf, Cond.instanceMethod yX5_gainOf, Cond.selects RX5 yX5_gainOf yX5_gainOf, Cond.code yX5_gainOf cX5_gainOf 4 (some .int), Cond.methodLink RL 82 yX10_quarrel, Cond.instanceMethod yX10_quarrel, Cond.selects RX10 yX10_quarrel yX10_quarrel, Cond.code yX10_quarrel cX10_quarrel 9 (some .boolean)]
def wsL_law_r34 : List Cond := [Cond.fieldLink RX10 241 "HedgeCourtModel" "isQuarrel" "Z", Cond.fieldLink RX10 245 "HedgeCourtModel" "claim0" "I", Cond.fieldLink RX10 248 "HedgeCourtModel" "claim1" "I", Cond.fieldLink RX10 251 "HedgeCourtModel" "worth0" "I", Cond.fieldLink RX10 254 "HedgeCourtModel" "worth1" "I", Cond.fieldLink RX10 257 "HedgeCourtModel" "cost0" "I", Cond.fieldLink RX10 260 "HedgeCourtModel" "cost1" "I", Cond.fieldLink RX10 263 "HedgeCourtModel" "p" "I", Cond.fieldLink RX10 266 "HedgeCourtModel" "q" "I", Cond.methodLink RL 83 yX9_split, Cond.instanceMethod yX9_split, Cond.selects RX9 yX9_split yX9_split, Cond.code yX9_split cX9_split 2 (some .int), Cond.fieldLink RX9 247 "HedgeCourt$Quarrel" "opened" "Z", Cond.fieldLink RX9 250 "HedgeCourt$Quarrel" "fair" "I", Cond.fieldLink RX9 253 "HedgeCourt$Quarrel" "leastFair" "I", Cond.fieldLink RX9 256 "HedgeCourt$Quarrel" "greatestFair" "I", Cond.fieldLink RX9 259 "HedgeCourt$Quarrel" "fairest" "I", Cond.methodLink RL 86 yX10_split, Cond.instanceMethod yX10_split, Cond.selects RX10 yX10_split yX10_split, Cond.code yX10_split cX10_split 7 (some .int), Cond.methodLink RX10 269 yX10_gain, Cond.instanceMethod yX10_gain]
def wsL_law_r35 : List Cond := [Cond.selects RX10 yX10_gain yX10_gain, Cond.code yX10_gain cX10_gain 4 (some .int)]
def wsL_law : List Cond := (wsL_law_r1 ++ (wsL_law_r2 ++ (wsL_law_r3 ++ (wsL_law_r4 ++ (wsL_law_r5 ++ (wsL_law_r6 ++ (wsL_law_r7 ++ (wsL_law_r8 ++ (wsL_law_r9 ++ (wsL_law_r10 ++ (wsL_law_r11 ++ (wsL_law_r12 ++ (wsL_law_r13 ++ (wsL_law_r14 ++ (wsL_law_r15 ++ (wsL_law_r16 ++ (wsL_law_r17 ++ (wsL_law_r18 ++ (wsL_law_r19 ++ (wsL_law_r20 ++ (wsL_law_r21 ++ (wsL_law_r22 ++ (wsL_law_r23 ++ (wsL_law_r24 ++ (wsL_law_r25 ++ (wsL_law_r26 ++ (wsL_law_r27 ++ (wsL_law_r28 ++ (wsL_law_r29 ++ (wsL_law_r30 ++ (wsL_law_r31 ++ (wsL_law_r32 ++ (wsL_law_r33 ++ (wsL_law_r34 ++ wsL_law_r35)))))))))))))))))))))))))))))))))) ++ wsX90 ++ wsX100 ++ wsJx4a65c0 ++ wsX70 ++ wsX10 ++ wsX30 ++ wsX20 ++ wsX40 ++ wsX80 ++ wsX50 ++ wsX00 ++ wsX60 ++ ([] : List Cond)
theorem inlX0 : ∀ w ∈ wsX00, w ∈ wsL_law := fun _ h => List.mem_append_left _ (List.mem_append_left _ (List.mem_append_right _ h))
theorem inlX1 : ∀ w ∈ wsX10, w ∈ wsL_law := fun _ h => List.mem_append_left _ (List.mem_append_left _ (List.mem_append_left _ (List.mem_append_left _ (List.mem_append_left _ (List.mem_append_left _ (List.mem_append_left _ (List.mem_append_left _ (List.mem_append_right _ h))))))))
theorem inlX2 : ∀ w ∈ wsX20, w ∈ wsL_law := fun _ h => List.mem_append_left _ (List.mem_append_left _ (List.mem_append_left _ (List.mem_append_left _ (List.mem_append_left _ (List.mem_append_left _ (List.mem_append_right _ h))))))
theorem inlX3 : ∀ w ∈ wsX30, w ∈ wsL_law := fun _ h => List.mem_append_left _ (List.mem_append_left _ (List.mem_append_left _ (List.mem_append_left _ (List.mem_append_left _ (List.mem_append_left _ (List.mem_append_left _ (List.mem_append_right _ h)))))))
theorem inlX4 : ∀ w ∈ wsX40, w ∈ wsL_law := fun _ h => List.mem_append_left _ (List.mem_append_left _ (List.mem_append_left _ (List.mem_append_left _ (List.mem_append_left _ (List.mem_append_right _ h)))))
theorem inlX5 : ∀ w ∈ wsX50, w ∈ wsL_law := fun _ h => List.mem_append_left _ (List.mem_append_left _ (List.mem_append_left _ (List.mem_append_right _ h)))
theorem inlX6 : ∀ w ∈ wsX60, w ∈ wsL_law := fun _ h => List.mem_append_left _ (List.mem_append_right _ h)
theorem inlX7 : ∀ w ∈ wsX70, w ∈ wsL_law := fun _ h => List.mem_append_left _ (List.mem_append_left _ (List.mem_append_left _ (List.mem_append_left _ (List.mem_append_left _ (List.mem_append_left _ (List.mem_append_left _ (List.mem_append_left _ (List.mem_append_left _ (List.mem_append_right _ h)))))))))
theorem inlX8 : ∀ w ∈ wsX80, w ∈ wsL_law := fun _ h => List.mem_append_left _ (List.mem_append_left _ (List.mem_append_left _ (List.mem_append_left _ (List.mem_append_right _ h))))
theorem inlX9 : ∀ w ∈ wsX90, w ∈ wsL_law := fun _ h => List.mem_append_left _ (List.mem_append_left _ (List.mem_append_left _ (List.mem_append_left _ (List.mem_append_left _ (List.mem_append_left _ (List.mem_append_left _ (List.mem_append_left _ (List.mem_append_left _ (List.mem_append_left _ (List.mem_append_left _ (List.mem_append_left _ (List.mem_append_right _ h))))))))))))
theorem inlX10 : ∀ w ∈ wsX100, w ∈ wsL_law := fun _ h => List.mem_append_left _ (List.mem_append_left _ (List.mem_append_left _ (List.mem_append_left _ (List.mem_append_left _ (List.mem_append_left _ (List.mem_append_left _ (List.mem_append_left _ (List.mem_append_left _ (List.mem_append_left _ (List.mem_append_left _ (List.mem_append_right _ h)))))))))))
theorem inlJx4a65c : ∀ w ∈ wsJx4a65c0, w ∈ wsL_law := fun _ h => List.mem_append_left _ (List.mem_append_left _ (List.mem_append_left _ (List.mem_append_left _ (List.mem_append_left _ (List.mem_append_left _ (List.mem_append_left _ (List.mem_append_left _ (List.mem_append_left _ (List.mem_append_left _ (List.mem_append_right _ h))))))))))
abbrev vwCl : List vw_C := [(RJx4a65c, TJx4a65c, 3), (RX0, TX0, 5), (RX1, TX1, 8), (RX2, TX2, 8), (RX3, TX3, 3), (RX4, TX4, 3), (RX5, TX5, 10), (RX6, TX6, 7), (RX7, TX7, 2), (RX8, TX8, 7), (RX9, TX9, 11), (RX10, TX10, 50)]
end
section
theorem dX10_init_0 : decode cX10_init 0 = .ok (.aload_n 0, 1) := by decide +kernel
theorem dX10_init_1 : decode cX10_init 1 = .ok (.invokespecial 1, 3) := by decide +kernel
theorem dX10_init_4 : decode cX10_init 4 = .ok (.aload_n 0, 1) := by decide +kernel
theorem dX10_init_5 : decode cX10_init 5 = .ok (.bipush 12, 2) := by decide +kernel
theorem dX10_init_7 : decode cX10_init 7 = .ok (.newarray .int, 2) := by decide +kernel
theorem dX10_init_9 : decode cX10_init 9 = .ok (.putfield 7, 3) := by decide +kernel
theorem dX10_init_12 : decode cX10_init 12 = .ok (.aload_n 0, 1) := by decide +kernel
theorem dX10_init_13 : decode cX10_init 13 = .ok (.bipush 12, 2) := by decide +kernel
theorem dX10_init_15 : decode cX10_init 15 = .ok (.newarray .int, 2) := by decide +kernel
theorem dX10_init_17 : decode cX10_init 17 = .ok (.putfield 13, 3) := by decide +kernel
theorem dX10_init_20 : decode cX10_init 20 = .ok (.aload_n 0, 1) := by decide +kernel
theorem dX10_init_21 : decode cX10_init 21 = .ok (.bipush 12, 2) := by decide +kernel
theorem dX10_init_23 : decode cX10_init 23 = .ok (.newarray .int, 2) := by decide +kernel
theorem dX10_init_25 : decode cX10_init 25 = .ok (.putfield 16, 3) := by decide +kernel
theorem dX10_init_28 : decode cX10_init 28 = .ok (.aload_n 0, 1) := by decide +kernel
theorem dX10_init_29 : decode cX10_init 29 = .ok (.bipush 12, 2) := by decide +kernel
theorem dX10_init_31 : decode cX10_init 31 = .ok (.newarray .int, 2) := by decide +kernel
theorem dX10_init_33 : decode cX10_init 33 = .ok (.putfield 19, 3) := by decide +kernel
theorem dX10_init_36 : decode cX10_init 36 = .ok (.aload_n 0, 1) := by decide +kernel
theorem dX10_init_37 : decode cX10_init 37 = .ok (.bipush 12, 2) := by decide +kernel
theorem dX10_init_39 : decode cX10_init 39 = .ok (.newarray .int, 2) := by decide +kernel
theorem dX10_init_41 : decode cX10_init 41 = .ok (.putfield 22, 3) := by decide +kernel
theorem dX10_init_44 : decode cX10_init 44 = .ok (.aload_n 0, 1) := by decide +kernel
theorem dX10_init_45 : decode cX10_init 45 = .ok (.bipush 12, 2) := by decide +kernel
theorem dX10_init_47 : decode cX10_init 47 = .ok (.newarray .int, 2) := by decide +kernel
theorem dX10_init_49 : decode cX10_init 49 = .ok (.putfield 25, 3) := by decide +kernel
theorem dX10_init_52 : decode cX10_init 52 = .ok (.aload_n 0, 1) := by decide +kernel
theorem dX10_init_53 : decode cX10_init 53 = .ok (.bipush 12, 2) := by decide +kernel
theorem dX10_init_55 : decode cX10_init 55 = .ok (.newarray .int, 2) := by decide +kernel
theorem dX10_init_57 : decode cX10_init 57 = .ok (.putfield 28, 3) := by decide +kernel
theorem dX10_init_60 : decode cX10_init 60 = .ok (.aload_n 0, 1) := by decide +kernel
theorem dX10_init_61 : decode cX10_init 61 = .ok (.bipush 12, 2) := by decide +kernel
theorem dX10_init_63 : decode cX10_init 63 = .ok (.putfield 31, 3) := by decide +kernel
theorem dX10_init_66 : decode cX10_init 66 = .ok (.aload_n 0, 1) := by decide +kernel
theorem dX10_init_67 : decode cX10_init 67 = .ok (.iconst 1, 1) := by decide +kernel
theorem dX10_init_68 : decode cX10_init 68 = .ok (.putfield 35, 3) := by decide +kernel
theorem dX10_init_71 : decode cX10_init 71 = .ok (.aload_n 0, 1) := by decide +kernel
theorem dX10_init_72 : decode cX10_init 72 = .ok (.bipush 6, 2) := by decide +kernel
theorem dX10_init_74 : decode cX10_init 74 = .ok (.newarray .int, 2) := by decide +kernel
theorem dX10_init_76 : decode cX10_init 76 = .ok (.putfield 38, 3) := by decide +kernel
theorem dX10_init_79 : decode cX10_init 79 = .ok (.aload_n 0, 1) := by decide +kernel
theorem dX10_init_80 : decode cX10_init 80 = .ok (.bipush 6, 2) := by decide +kernel
theorem dX10_init_82 : decode cX10_init 82 = .ok (.newarray .boolean, 2) := by decide +kernel
theorem dX10_init_84 : decode cX10_init 84 = .ok (.putfield 41, 3) := by decide +kernel
theorem dX10_init_87 : decode cX10_init 87 = .ok (.aload_n 0, 1) := by decide +kernel
theorem dX10_init_88 : decode cX10_init 88 = .ok (.sipush 400, 3) := by decide +kernel
theorem dX10_init_91 : decode cX10_init 91 = .ok (.newarray .int, 2) := by decide +kernel
theorem dX10_init_93 : decode cX10_init 93 = .ok (.putfield 45, 3) := by decide +kernel
theorem dX10_init_96 : decode cX10_init 96 = .ok (.aload_n 0, 1) := by decide +kernel
theorem dX10_init_97 : decode cX10_init 97 = .ok (.bipush 60, 2) := by decide +kernel
theorem dX10_init_99 : decode cX10_init 99 = .ok (.newarray .int, 2) := by decide +kernel
theorem dX10_init_101 : decode cX10_init 101 = .ok (.putfield 48, 3) := by decide +kernel
theorem dX10_init_104 : decode cX10_init 104 = .ok (.aload_n 0, 1) := by decide +kernel
theorem dX10_init_105 : decode cX10_init 105 = .ok (.iconst (-1), 1) := by decide +kernel
theorem dX10_init_106 : decode cX10_init 106 = .ok (.putfield 51, 3) := by decide +kernel
theorem dX10_init_109 : decode cX10_init 109 = .ok (.aload_n 0, 1) := by decide +kernel
theorem dX10_init_110 : decode cX10_init 110 = .ok (.sipush 800, 3) := by decide +kernel
theorem dX10_init_113 : decode cX10_init 113 = .ok (.newarray .int, 2) := by decide +kernel
theorem dX10_init_115 : decode cX10_init 115 = .ok (.putfield 54, 3) := by decide +kernel
theorem dX10_init_118 : decode cX10_init 118 = .ok (.aload_n 0, 1) := by decide +kernel
theorem dX10_init_119 : decode cX10_init 119 = .ok (.bipush 10, 2) := by decide +kernel
theorem dX10_init_121 : decode cX10_init 121 = .ok (.newarray .int, 2) := by decide +kernel
theorem dX10_init_123 : decode cX10_init 123 = .ok (.putfield 57, 3) := by decide +kernel
theorem dX10_init_126 : decode cX10_init 126 = .ok (.aload_n 0, 1) := by decide +kernel
theorem dX10_init_127 : decode cX10_init 127 = .ok (.bipush 60, 2) := by decide +kernel
theorem dX10_init_129 : decode cX10_init 129 = .ok (.newarray .int, 2) := by decide +kernel
theorem dX10_init_131 : decode cX10_init 131 = .ok (.putfield 60, 3) := by decide +kernel
theorem dX10_init_134 : decode cX10_init 134 = .ok (.aload_n 0, 1) := by decide +kernel
theorem dX10_init_135 : decode cX10_init 135 = .ok (.bipush 60, 2) := by decide +kernel
theorem dX10_init_137 : decode cX10_init 137 = .ok (.newarray .int, 2) := by decide +kernel
theorem dX10_init_139 : decode cX10_init 139 = .ok (.putfield 63, 3) := by decide +kernel
theorem dX10_init_142 : decode cX10_init 142 = .ok (.aload_n 0, 1) := by decide +kernel
theorem dX10_init_143 : decode cX10_init 143 = .ok (.bipush 60, 2) := by decide +kernel
theorem dX10_init_145 : decode cX10_init 145 = .ok (.newarray .int, 2) := by decide +kernel
theorem dX10_init_147 : decode cX10_init 147 = .ok (.putfield 66, 3) := by decide +kernel
theorem dX10_init_150 : decode cX10_init 150 = .ok (.aload_n 0, 1) := by decide +kernel
theorem dX10_init_151 : decode cX10_init 151 = .ok (.bipush 60, 2) := by decide +kernel
theorem dX10_init_153 : decode cX10_init 153 = .ok (.newarray .int, 2) := by decide +kernel
theorem dX10_init_155 : decode cX10_init 155 = .ok (.putfield 69, 3) := by decide +kernel
theorem dX10_init_158 : decode cX10_init 158 = .ok (.aload_n 0, 1) := by decide +kernel
theorem dX10_init_159 : decode cX10_init 159 = .ok (.bipush 60, 2) := by decide +kernel
theorem dX10_init_161 : decode cX10_init 161 = .ok (.newarray .int, 2) := by decide +kernel
theorem dX10_init_163 : decode cX10_init 163 = .ok (.putfield 72, 3) := by decide +kernel
theorem dX10_init_166 : decode cX10_init 166 = .ok (.aload_n 0, 1) := by decide +kernel
theorem dX10_init_167 : decode cX10_init 167 = .ok (.bipush 20, 2) := by decide +kernel
theorem dX10_init_169 : decode cX10_init 169 = .ok (.newarray .int, 2) := by decide +kernel
theorem dX10_init_171 : decode cX10_init 171 = .ok (.putfield 75, 3) := by decide +kernel
theorem dX10_init_174 : decode cX10_init 174 = .ok (.aload_n 0, 1) := by decide +kernel
theorem dX10_init_175 : decode cX10_init 175 = .ok (.bipush 20, 2) := by decide +kernel
theorem dX10_init_177 : decode cX10_init 177 = .ok (.newarray .int, 2) := by decide +kernel
theorem dX10_init_179 : decode cX10_init 179 = .ok (.putfield 78, 3) := by decide +kernel
theorem dX10_init_182 : decode cX10_init 182 = .ok (.aload_n 0, 1) := by decide +kernel
theorem dX10_init_183 : decode cX10_init 183 = .ok (.iconst 2, 1) := by decide +kernel
theorem dX10_init_184 : decode cX10_init 184 = .ok (.newarray .int, 2) := by decide +kernel
theorem dX10_init_186 : decode cX10_init 186 = .ok (.putfield 81, 3) := by decide +kernel
theorem dX10_init_189 : decode cX10_init 189 = .ok (.aload_n 0, 1) := by decide +kernel
theorem dX10_init_190 : decode cX10_init 190 = .ok (.iconst 2, 1) := by decide +kernel
theorem dX10_init_191 : decode cX10_init 191 = .ok (.newarray .int, 2) := by decide +kernel
theorem dX10_init_193 : decode cX10_init 193 = .ok (.putfield 84, 3) := by decide +kernel
theorem dX10_init_196 : decode cX10_init 196 = .ok (.aload_n 0, 1) := by decide +kernel
theorem dX10_init_197 : decode cX10_init 197 = .ok (.sipush 2000, 3) := by decide +kernel
theorem dX10_init_200 : decode cX10_init 200 = .ok (.newarray .int, 2) := by decide +kernel
theorem dX10_init_202 : decode cX10_init 202 = .ok (.putfield 87, 3) := by decide +kernel
theorem dX10_init_205 : decode cX10_init 205 = .ok (.iconst 0, 1) := by decide +kernel
theorem dX10_init_206 : decode cX10_init 206 = .ok (.istore_n 1, 1) := by decide +kernel
theorem dX10_init_207 : decode cX10_init 207 = .ok (.iload_n 1, 1) := by decide +kernel
theorem dX10_init_208 : decode cX10_init 208 = .ok (.bipush 6, 2) := by decide +kernel
theorem dX10_init_210 : decode cX10_init 210 = .ok (.if_icmp .ge 16, 3) := by decide +kernel
theorem dX10_init_213 : decode cX10_init 213 = .ok (.aload_n 0, 1) := by decide +kernel
theorem dX10_init_214 : decode cX10_init 214 = .ok (.getfield 38, 3) := by decide +kernel
theorem dX10_init_217 : decode cX10_init 217 = .ok (.iload_n 1, 1) := by decide +kernel
theorem dX10_init_218 : decode cX10_init 218 = .ok (.iconst 1, 1) := by decide +kernel
theorem dX10_init_219 : decode cX10_init 219 = .ok (.iastore, 1) := by decide +kernel
theorem dX10_init_220 : decode cX10_init 220 = .ok (.iinc 1 1, 3) := by decide +kernel
theorem dX10_init_223 : decode cX10_init 223 = .ok (.goto (-16), 3) := by decide +kernel
theorem dX10_init_226 : decode cX10_init 226 = .ok (.return_, 1) := by decide +kernel
theorem dX10_isIn_0 : decode cX10_isIn 0 = .ok (.iload_n 0, 1) := by decide +kernel
theorem dX10_isIn_1 : decode cX10_isIn 1 = .ok (.iload_n 1, 1) := by decide +kernel
theorem dX10_isIn_2 : decode cX10_isIn 2 = .ok (.if_icmp .lt 12, 3) := by decide +kernel
theorem dX10_isIn_5 : decode cX10_isIn 5 = .ok (.iload_n 0, 1) := by decide +kernel
theorem dX10_isIn_6 : decode cX10_isIn 6 = .ok (.iload_n 2, 1) := by decide +kernel
theorem dX10_isIn_7 : decode cX10_isIn 7 = .ok (.if_icmp .gt 7, 3) := by decide +kernel
theorem dX10_isIn_10 : decode cX10_isIn 10 = .ok (.iconst 1, 1) := by decide +kernel
theorem dX10_isIn_11 : decode cX10_isIn 11 = .ok (.goto 4, 3) := by decide +kernel
theorem dX10_isIn_14 : decode cX10_isIn 14 = .ok (.iconst 0, 1) := by decide +kernel
theorem dX10_isIn_15 : decode cX10_isIn 15 = .ok (.ireturn, 1) := by decide +kernel
theorem dX10_isStation_0 : decode cX10_isStation 0 = .ok (.iload_n 0, 1) := by decide +kernel
theorem dX10_isStation_1 : decode cX10_isStation 1 = .ok (.iconst 0, 1) := by decide +kernel
theorem dX10_isStation_2 : decode cX10_isStation 2 = .ok (.bipush 9, 2) := by decide +kernel
theorem dX10_isStation_4 : decode cX10_isStation 4 = .ok (.invokestatic 90, 3) := by decide +kernel
theorem dX10_isStation_7 : decode cX10_isStation 7 = .ok (.ireturn, 1) := by decide +kernel
theorem dX10_isFoot_0 : decode cX10_isFoot 0 = .ok (.iload_n 0, 1) := by decide +kernel
theorem dX10_isFoot_1 : decode cX10_isFoot 1 = .ok (.iconst 0, 1) := by decide +kernel
theorem dX10_isFoot_2 : decode cX10_isFoot 2 = .ok (.bipush 79, 2) := by decide +kernel
theorem dX10_isFoot_4 : decode cX10_isFoot 4 = .ok (.invokestatic 90, 3) := by decide +kernel
theorem dX10_isFoot_7 : decode cX10_isFoot 7 = .ok (.ireturn, 1) := by decide +kernel
theorem dX10_isYear_0 : decode cX10_isYear 0 = .ok (.iload_n 0, 1) := by decide +kernel
theorem dX10_isYear_1 : decode cX10_isYear 1 = .ok (.iconst 0, 1) := by decide +kernel
theorem dX10_isYear_2 : decode cX10_isYear 2 = .ok (.sipush 999, 3) := by decide +kernel
theorem dX10_isYear_5 : decode cX10_isYear 5 = .ok (.invokestatic 90, 3) := by decide +kernel
theorem dX10_isYear_8 : decode cX10_isYear 8 = .ok (.ireturn, 1) := by decide +kernel
theorem dX10_isSpan_0 : decode cX10_isSpan 0 = .ok (.iload_n 0, 1) := by decide +kernel
theorem dX10_isSpan_1 : decode cX10_isSpan 1 = .ok (.invokestatic 94, 3) := by decide +kernel
theorem dX10_isSpan_4 : decode cX10_isSpan 4 = .ok (.ifCond .eq 19, 3) := by decide +kernel
theorem dX10_isSpan_7 : decode cX10_isSpan 7 = .ok (.iload_n 1, 1) := by decide +kernel
theorem dX10_isSpan_8 : decode cX10_isSpan 8 = .ok (.invokestatic 94, 3) := by decide +kernel
theorem dX10_isSpan_11 : decode cX10_isSpan 11 = .ok (.ifCond .eq 12, 3) := by decide +kernel
theorem dX10_isSpan_14 : decode cX10_isSpan 14 = .ok (.iload_n 0, 1) := by decide +kernel
theorem dX10_isSpan_15 : decode cX10_isSpan 15 = .ok (.iload_n 1, 1) := by decide +kernel
theorem dX10_isSpan_16 : decode cX10_isSpan 16 = .ok (.if_icmp .gt 7, 3) := by decide +kernel
theorem dX10_isSpan_19 : decode cX10_isSpan 19 = .ok (.iconst 1, 1) := by decide +kernel
theorem dX10_isSpan_20 : decode cX10_isSpan 20 = .ok (.goto 4, 3) := by decide +kernel
theorem dX10_isSpan_23 : decode cX10_isSpan 23 = .ok (.iconst 0, 1) := by decide +kernel
theorem dX10_isSpan_24 : decode cX10_isSpan 24 = .ok (.ireturn, 1) := by decide +kernel
theorem dX10_say_0 : decode cX10_say 0 = .ok (.iload_n 1, 1) := by decide +kernel
theorem dX10_say_1 : decode cX10_say 1 = .ok (.iconst 0, 1) := by decide +kernel
theorem dX10_say_2 : decode cX10_say 2 = .ok (.iconst 5, 1) := by decide +kernel
theorem dX10_say_3 : decode cX10_say 3 = .ok (.invokestatic 90, 3) := by decide +kernel
theorem dX10_say_6 : decode cX10_say 6 = .ok (.ifCond .eq 61, 3) := by decide +kernel
theorem dX10_say_9 : decode cX10_say 9 = .ok (.iload_n 2, 1) := by decide +kernel
theorem dX10_say_10 : decode cX10_say 10 = .ok (.iload_n 3, 1) := by decide +kernel
theorem dX10_say_11 : decode cX10_say 11 = .ok (.invokestatic 98, 3) := by decide +kernel
theorem dX10_say_14 : decode cX10_say 14 = .ok (.ifCond .eq 53, 3) := by decide +kernel
theorem dX10_say_17 : decode cX10_say 17 = .ok (.iload 4, 2) := by decide +kernel
theorem dX10_say_19 : decode cX10_say 19 = .ok (.invokestatic 102, 3) := by decide +kernel
theorem dX10_say_22 : decode cX10_say 22 = .ok (.ifCond .eq 45, 3) := by decide +kernel
theorem dX10_say_25 : decode cX10_say 25 = .ok (.iload 5, 2) := by decide +kernel
theorem dX10_say_27 : decode cX10_say 27 = .ok (.invokestatic 102, 3) := by decide +kernel
theorem dX10_say_30 : decode cX10_say 30 = .ok (.ifCond .eq 37, 3) := by decide +kernel
theorem dX10_say_33 : decode cX10_say 33 = .ok (.iload 4, 2) := by decide +kernel
theorem dX10_say_35 : decode cX10_say 35 = .ok (.iload 5, 2) := by decide +kernel
theorem dX10_say_37 : decode cX10_say 37 = .ok (.if_icmp .gt 30, 3) := by decide +kernel
theorem dX10_say_40 : decode cX10_say 40 = .ok (.iload 6, 2) := by decide +kernel
theorem dX10_say_42 : decode cX10_say 42 = .ok (.invokestatic 105, 3) := by decide +kernel
theorem dX10_say_45 : decode cX10_say 45 = .ok (.ifCond .eq 22, 3) := by decide +kernel
theorem dX10_say_48 : decode cX10_say 48 = .ok (.iload 7, 2) := by decide +kernel
theorem dX10_say_50 : decode cX10_say 50 = .ok (.iconst 0, 1) := by decide +kernel
theorem dX10_say_51 : decode cX10_say 51 = .ok (.iconst 1, 1) := by decide +kernel
theorem dX10_say_52 : decode cX10_say 52 = .ok (.invokestatic 90, 3) := by decide +kernel
theorem dX10_say_55 : decode cX10_say 55 = .ok (.ifCond .eq 12, 3) := by decide +kernel
theorem dX10_say_58 : decode cX10_say 58 = .ok (.aload_n 0, 1) := by decide +kernel
theorem dX10_say_59 : decode cX10_say 59 = .ok (.getfield 108, 3) := by decide +kernel
theorem dX10_say_62 : decode cX10_say 62 = .ok (.bipush 12, 2) := by decide +kernel
theorem dX10_say_64 : decode cX10_say 64 = .ok (.if_icmp .ne 5, 3) := by decide +kernel
theorem dX10_say_67 : decode cX10_say 67 = .ok (.iconst (-1), 1) := by decide +kernel
theorem dX10_say_68 : decode cX10_say 68 = .ok (.ireturn, 1) := by decide +kernel
theorem dX10_say_69 : decode cX10_say 69 = .ok (.aload_n 0, 1) := by decide +kernel
theorem dX10_say_70 : decode cX10_say 70 = .ok (.getfield 7, 3) := by decide +kernel
theorem dX10_say_73 : decode cX10_say 73 = .ok (.aload_n 0, 1) := by decide +kernel
theorem dX10_say_74 : decode cX10_say 74 = .ok (.getfield 108, 3) := by decide +kernel
theorem dX10_say_77 : decode cX10_say 77 = .ok (.iload_n 1, 1) := by decide +kernel
theorem dX10_say_78 : decode cX10_say 78 = .ok (.iastore, 1) := by decide +kernel
theorem dX10_say_79 : decode cX10_say 79 = .ok (.aload_n 0, 1) := by decide +kernel
theorem dX10_say_80 : decode cX10_say 80 = .ok (.getfield 13, 3) := by decide +kernel
theorem dX10_say_83 : decode cX10_say 83 = .ok (.aload_n 0, 1) := by decide +kernel
theorem dX10_say_84 : decode cX10_say 84 = .ok (.getfield 108, 3) := by decide +kernel
theorem dX10_say_87 : decode cX10_say 87 = .ok (.iload_n 2, 1) := by decide +kernel
theorem dX10_say_88 : decode cX10_say 88 = .ok (.iastore, 1) := by decide +kernel
theorem dX10_say_89 : decode cX10_say 89 = .ok (.aload_n 0, 1) := by decide +kernel
theorem dX10_say_90 : decode cX10_say 90 = .ok (.getfield 16, 3) := by decide +kernel
theorem dX10_say_93 : decode cX10_say 93 = .ok (.aload_n 0, 1) := by decide +kernel
theorem dX10_say_94 : decode cX10_say 94 = .ok (.getfield 108, 3) := by decide +kernel
theorem dX10_say_97 : decode cX10_say 97 = .ok (.iload_n 3, 1) := by decide +kernel
theorem dX10_say_98 : decode cX10_say 98 = .ok (.iastore, 1) := by decide +kernel
theorem dX10_say_99 : decode cX10_say 99 = .ok (.aload_n 0, 1) := by decide +kernel
theorem dX10_say_100 : decode cX10_say 100 = .ok (.getfield 19, 3) := by decide +kernel
theorem dX10_say_103 : decode cX10_say 103 = .ok (.aload_n 0, 1) := by decide +kernel
theorem dX10_say_104 : decode cX10_say 104 = .ok (.getfield 108, 3) := by decide +kernel
theorem dX10_say_107 : decode cX10_say 107 = .ok (.iload 4, 2) := by decide +kernel
theorem dX10_say_109 : decode cX10_say 109 = .ok (.iastore, 1) := by decide +kernel
theorem dX10_say_110 : decode cX10_say 110 = .ok (.aload_n 0, 1) := by decide +kernel
theorem dX10_say_111 : decode cX10_say 111 = .ok (.getfield 22, 3) := by decide +kernel
theorem dX10_say_114 : decode cX10_say 114 = .ok (.aload_n 0, 1) := by decide +kernel
theorem dX10_say_115 : decode cX10_say 115 = .ok (.getfield 108, 3) := by decide +kernel
theorem dX10_say_118 : decode cX10_say 118 = .ok (.iload 5, 2) := by decide +kernel
theorem dX10_say_120 : decode cX10_say 120 = .ok (.iastore, 1) := by decide +kernel
theorem dX10_say_121 : decode cX10_say 121 = .ok (.aload_n 0, 1) := by decide +kernel
theorem dX10_say_122 : decode cX10_say 122 = .ok (.getfield 25, 3) := by decide +kernel
theorem dX10_say_125 : decode cX10_say 125 = .ok (.aload_n 0, 1) := by decide +kernel
theorem dX10_say_126 : decode cX10_say 126 = .ok (.getfield 108, 3) := by decide +kernel
theorem dX10_say_129 : decode cX10_say 129 = .ok (.iload 6, 2) := by decide +kernel
theorem dX10_say_131 : decode cX10_say 131 = .ok (.iastore, 1) := by decide +kernel
theorem dX10_say_132 : decode cX10_say 132 = .ok (.aload_n 0, 1) := by decide +kernel
theorem dX10_say_133 : decode cX10_say 133 = .ok (.getfield 28, 3) := by decide +kernel
theorem dX10_say_136 : decode cX10_say 136 = .ok (.aload_n 0, 1) := by decide +kernel
theorem dX10_say_137 : decode cX10_say 137 = .ok (.getfield 108, 3) := by decide +kernel
theorem dX10_say_140 : decode cX10_say 140 = .ok (.iload 7, 2) := by decide +kernel
theorem dX10_say_142 : decode cX10_say 142 = .ok (.iastore, 1) := by decide +kernel
theorem dX10_say_143 : decode cX10_say 143 = .ok (.aload_n 0, 1) := by decide +kernel
theorem dX10_say_144 : decode cX10_say 144 = .ok (.dup, 1) := by decide +kernel
theorem dX10_say_145 : decode cX10_say 145 = .ok (.getfield 108, 3) := by decide +kernel
theorem dX10_say_148 : decode cX10_say 148 = .ok (.iconst 1, 1) := by decide +kernel
theorem dX10_say_149 : decode cX10_say 149 = .ok (.iadd, 1) := by decide +kernel
theorem dX10_say_150 : decode cX10_say 150 = .ok (.putfield 108, 3) := by decide +kernel
theorem dX10_say_153 : decode cX10_say 153 = .ok (.aload_n 0, 1) := by decide +kernel
theorem dX10_say_154 : decode cX10_say 154 = .ok (.getfield 108, 3) := by decide +kernel
theorem dX10_say_157 : decode cX10_say 157 = .ok (.iconst 1, 1) := by decide +kernel
theorem dX10_say_158 : decode cX10_say 158 = .ok (.isub, 1) := by decide +kernel
theorem dX10_say_159 : decode cX10_say 159 = .ok (.ireturn, 1) := by decide +kernel
theorem dX10_feed_0 : decode cX10_feed 0 = .ok (.aload_n 0, 1) := by decide +kernel
theorem dX10_feed_1 : decode cX10_feed 1 = .ok (.getfield 111, 3) := by decide +kernel
theorem dX10_feed_4 : decode cX10_feed 4 = .ok (.bipush 20, 2) := by decide +kernel
theorem dX10_feed_6 : decode cX10_feed 6 = .ok (.iadd, 1) := by decide +kernel
theorem dX10_feed_7 : decode cX10_feed 7 = .ok (.sipush 400, 3) := by decide +kernel
theorem dX10_feed_10 : decode cX10_feed 10 = .ok (.if_icmp .le 5, 3) := by decide +kernel
theorem dX10_feed_13 : decode cX10_feed 13 = .ok (.iconst (-1), 1) := by decide +kernel
theorem dX10_feed_14 : decode cX10_feed 14 = .ok (.ireturn, 1) := by decide +kernel
theorem dX10_feed_15 : decode cX10_feed 15 = .ok (.iconst 0, 1) := by decide +kernel
theorem dX10_feed_16 : decode cX10_feed 16 = .ok (.istore 6, 2) := by decide +kernel
theorem dX10_feed_18 : decode cX10_feed 18 = .ok (.iload 6, 2) := by decide +kernel
theorem dX10_feed_20 : decode cX10_feed 20 = .ok (.bipush 20, 2) := by decide +kernel
theorem dX10_feed_22 : decode cX10_feed 22 = .ok (.if_icmp .ge 93, 3) := by decide +kernel
theorem dX10_feed_25 : decode cX10_feed 25 = .ok (.iload 6, 2) := by decide +kernel
theorem dX10_feed_27 : decode cX10_feed 27 = .ok (.iconst 4, 1) := by decide +kernel
theorem dX10_feed_28 : decode cX10_feed 28 = .ok (.if_icmp .ge 7, 3) := by decide +kernel
theorem dX10_feed_31 : decode cX10_feed 31 = .ok (.iload_n 1, 1) := by decide +kernel
theorem dX10_feed_32 : decode cX10_feed 32 = .ok (.goto 39, 3) := by decide +kernel
theorem dX10_feed_35 : decode cX10_feed 35 = .ok (.iload 6, 2) := by decide +kernel
theorem dX10_feed_37 : decode cX10_feed 37 = .ok (.bipush 8, 2) := by decide +kernel
theorem dX10_feed_39 : decode cX10_feed 39 = .ok (.if_icmp .ge 7, 3) := by decide +kernel
theorem dX10_feed_42 : decode cX10_feed 42 = .ok (.iload_n 2, 1) := by decide +kernel
theorem dX10_feed_43 : decode cX10_feed 43 = .ok (.goto 28, 3) := by decide +kernel
theorem dX10_feed_46 : decode cX10_feed 46 = .ok (.iload 6, 2) := by decide +kernel
theorem dX10_feed_48 : decode cX10_feed 48 = .ok (.bipush 12, 2) := by decide +kernel
theorem dX10_feed_50 : decode cX10_feed 50 = .ok (.if_icmp .ge 7, 3) := by decide +kernel
theorem dX10_feed_53 : decode cX10_feed 53 = .ok (.iload_n 3, 1) := by decide +kernel
theorem dX10_feed_54 : decode cX10_feed 54 = .ok (.goto 17, 3) := by decide +kernel
theorem dX10_feed_57 : decode cX10_feed 57 = .ok (.iload 6, 2) := by decide +kernel
theorem dX10_feed_59 : decode cX10_feed 59 = .ok (.bipush 16, 2) := by decide +kernel
theorem dX10_feed_61 : decode cX10_feed 61 = .ok (.if_icmp .ge 8, 3) := by decide +kernel
theorem dX10_feed_64 : decode cX10_feed 64 = .ok (.iload 4, 2) := by decide +kernel
theorem dX10_feed_66 : decode cX10_feed 66 = .ok (.goto 5, 3) := by decide +kernel
theorem dX10_feed_69 : decode cX10_feed 69 = .ok (.iload 5, 2) := by decide +kernel
theorem dX10_feed_71 : decode cX10_feed 71 = .ok (.istore 7, 2) := by decide +kernel
theorem dX10_feed_73 : decode cX10_feed 73 = .ok (.aload_n 0, 1) := by decide +kernel
theorem dX10_feed_74 : decode cX10_feed 74 = .ok (.getfield 45, 3) := by decide +kernel
theorem dX10_feed_77 : decode cX10_feed 77 = .ok (.aload_n 0, 1) := by decide +kernel
theorem dX10_feed_78 : decode cX10_feed 78 = .ok (.getfield 111, 3) := by decide +kernel
theorem dX10_feed_81 : decode cX10_feed 81 = .ok (.iload 7, 2) := by decide +kernel
theorem dX10_feed_83 : decode cX10_feed 83 = .ok (.bipush 24, 2) := by decide +kernel
theorem dX10_feed_85 : decode cX10_feed 85 = .ok (.bipush 8, 2) := by decide +kernel
theorem dX10_feed_87 : decode cX10_feed 87 = .ok (.iload 6, 2) := by decide +kernel
theorem dX10_feed_89 : decode cX10_feed 89 = .ok (.iconst 4, 1) := by decide +kernel
theorem dX10_feed_90 : decode cX10_feed 90 = .ok (.irem, 1) := by decide +kernel
theorem dX10_feed_91 : decode cX10_feed 91 = .ok (.imul, 1) := by decide +kernel
theorem dX10_feed_92 : decode cX10_feed 92 = .ok (.isub, 1) := by decide +kernel
theorem dX10_feed_93 : decode cX10_feed 93 = .ok (.ishr, 1) := by decide +kernel
theorem dX10_feed_94 : decode cX10_feed 94 = .ok (.sipush 255, 3) := by decide +kernel
theorem dX10_feed_97 : decode cX10_feed 97 = .ok (.iand, 1) := by decide +kernel
theorem dX10_feed_98 : decode cX10_feed 98 = .ok (.iastore, 1) := by decide +kernel
theorem dX10_feed_99 : decode cX10_feed 99 = .ok (.aload_n 0, 1) := by decide +kernel
theorem dX10_feed_100 : decode cX10_feed 100 = .ok (.dup, 1) := by decide +kernel
theorem dX10_feed_101 : decode cX10_feed 101 = .ok (.getfield 111, 3) := by decide +kernel
theorem dX10_feed_104 : decode cX10_feed 104 = .ok (.iconst 1, 1) := by decide +kernel
theorem dX10_feed_105 : decode cX10_feed 105 = .ok (.iadd, 1) := by decide +kernel
theorem dX10_feed_106 : decode cX10_feed 106 = .ok (.putfield 111, 3) := by decide +kernel
theorem dX10_feed_109 : decode cX10_feed 109 = .ok (.iinc 6 1, 3) := by decide +kernel
theorem dX10_feed_112 : decode cX10_feed 112 = .ok (.goto (-94), 3) := by decide +kernel
theorem dX10_feed_115 : decode cX10_feed 115 = .ok (.aload_n 0, 1) := by decide +kernel
theorem dX10_feed_116 : decode cX10_feed 116 = .ok (.getfield 111, 3) := by decide +kernel
theorem dX10_feed_119 : decode cX10_feed 119 = .ok (.ireturn, 1) := by decide +kernel
theorem dX10_end_0 : decode cX10_end 0 = .ok (.iload_n 1, 1) := by decide +kernel
theorem dX10_end_1 : decode cX10_end 1 = .ok (.iconst 0, 1) := by decide +kernel
theorem dX10_end_2 : decode cX10_end 2 = .ok (.aload_n 0, 1) := by decide +kernel
theorem dX10_end_3 : decode cX10_end 3 = .ok (.getfield 111, 3) := by decide +kernel
theorem dX10_end_6 : decode cX10_end 6 = .ok (.invokestatic 90, 3) := by decide +kernel
theorem dX10_end_9 : decode cX10_end 9 = .ok (.ifCond .ne 5, 3) := by decide +kernel
theorem dX10_end_12 : decode cX10_end 12 = .ok (.iconst 0, 1) := by decide +kernel
theorem dX10_end_13 : decode cX10_end 13 = .ok (.ireturn, 1) := by decide +kernel
theorem dX10_end_14 : decode cX10_end 14 = .ok (.aload_n 0, 1) := by decide +kernel
theorem dX10_end_15 : decode cX10_end 15 = .ok (.iload_n 1, 1) := by decide +kernel
theorem dX10_end_16 : decode cX10_end 16 = .ok (.putfield 111, 3) := by decide +kernel
theorem dX10_end_19 : decode cX10_end 19 = .ok (.iconst 1, 1) := by decide +kernel
theorem dX10_end_20 : decode cX10_end 20 = .ok (.ireturn, 1) := by decide +kernel
theorem dX10_see_0 : decode cX10_see 0 = .ok (.iload_n 1, 1) := by decide +kernel
theorem dX10_see_1 : decode cX10_see 1 = .ok (.aload_n 0, 1) := by decide +kernel
theorem dX10_see_2 : decode cX10_see 2 = .ok (.getfield 111, 3) := by decide +kernel
theorem dX10_see_5 : decode cX10_see 5 = .ok (.if_icmp .ge 12, 3) := by decide +kernel
theorem dX10_see_8 : decode cX10_see 8 = .ok (.aload_n 0, 1) := by decide +kernel
theorem dX10_see_9 : decode cX10_see 9 = .ok (.getfield 45, 3) := by decide +kernel
theorem dX10_see_12 : decode cX10_see 12 = .ok (.iload_n 1, 1) := by decide +kernel
theorem dX10_see_13 : decode cX10_see 13 = .ok (.iaload, 1) := by decide +kernel
theorem dX10_see_14 : decode cX10_see 14 = .ok (.goto 4, 3) := by decide +kernel
theorem dX10_see_17 : decode cX10_see 17 = .ok (.iconst (-1), 1) := by decide +kernel
theorem dX10_see_18 : decode cX10_see 18 = .ok (.ireturn, 1) := by decide +kernel
theorem dX10_isLetter_0 : decode cX10_isLetter 0 = .ok (.iload_n 0, 1) := by decide +kernel
theorem dX10_isLetter_1 : decode cX10_isLetter 1 = .ok (.bipush 97, 2) := by decide +kernel
theorem dX10_isLetter_3 : decode cX10_isLetter 3 = .ok (.bipush 122, 2) := by decide +kernel
theorem dX10_isLetter_5 : decode cX10_isLetter 5 = .ok (.invokestatic 90, 3) := by decide +kernel
theorem dX10_isLetter_8 : decode cX10_isLetter 8 = .ok (.ifCond .ne 14, 3) := by decide +kernel
theorem dX10_isLetter_11 : decode cX10_isLetter 11 = .ok (.iload_n 0, 1) := by decide +kernel
theorem dX10_isLetter_12 : decode cX10_isLetter 12 = .ok (.bipush 65, 2) := by decide +kernel
theorem dX10_isLetter_14 : decode cX10_isLetter 14 = .ok (.bipush 90, 2) := by decide +kernel
theorem dX10_isLetter_16 : decode cX10_isLetter 16 = .ok (.invokestatic 90, 3) := by decide +kernel
theorem dX10_isLetter_19 : decode cX10_isLetter 19 = .ok (.ifCond .eq 7, 3) := by decide +kernel
theorem dX10_isLetter_22 : decode cX10_isLetter 22 = .ok (.iconst 1, 1) := by decide +kernel
theorem dX10_isLetter_23 : decode cX10_isLetter 23 = .ok (.goto 4, 3) := by decide +kernel
theorem dX10_isLetter_26 : decode cX10_isLetter 26 = .ok (.iconst 0, 1) := by decide +kernel
theorem dX10_isLetter_27 : decode cX10_isLetter 27 = .ok (.ireturn, 1) := by decide +kernel
theorem dX10_isDigit_0 : decode cX10_isDigit 0 = .ok (.iload_n 0, 1) := by decide +kernel
theorem dX10_isDigit_1 : decode cX10_isDigit 1 = .ok (.bipush 48, 2) := by decide +kernel
theorem dX10_isDigit_3 : decode cX10_isDigit 3 = .ok (.bipush 57, 2) := by decide +kernel
theorem dX10_isDigit_5 : decode cX10_isDigit 5 = .ok (.invokestatic 90, 3) := by decide +kernel
theorem dX10_isDigit_8 : decode cX10_isDigit 8 = .ok (.ireturn, 1) := by decide +kernel
theorem dX10_word_0 : decode cX10_word 0 = .ok (.lload_n 0, 1) := by decide +kernel
theorem dX10_word_1 : decode cX10_word 1 = .ok (.ldc2_w 114, 3) := by decide +kernel
theorem dX10_word_4 : decode cX10_word 4 = .ok (.lcmp, 1) := by decide +kernel
theorem dX10_word_5 : decode cX10_word 5 = .ok (.ifCond .ne 5, 3) := by decide +kernel
theorem dX10_word_8 : decode cX10_word 8 = .ok (.iconst 3, 1) := by decide +kernel
theorem dX10_word_9 : decode cX10_word 9 = .ok (.ireturn, 1) := by decide +kernel
theorem dX10_word_10 : decode cX10_word 10 = .ok (.lload_n 0, 1) := by decide +kernel
theorem dX10_word_11 : decode cX10_word 11 = .ok (.ldc2_w 116, 3) := by decide +kernel
theorem dX10_word_14 : decode cX10_word 14 = .ok (.lcmp, 1) := by decide +kernel
theorem dX10_word_15 : decode cX10_word 15 = .ok (.ifCond .ne 5, 3) := by decide +kernel
theorem dX10_word_18 : decode cX10_word 18 = .ok (.iconst 4, 1) := by decide +kernel
theorem dX10_word_19 : decode cX10_word 19 = .ok (.ireturn, 1) := by decide +kernel
theorem dX10_word_20 : decode cX10_word 20 = .ok (.lload_n 0, 1) := by decide +kernel
theorem dX10_word_21 : decode cX10_word 21 = .ok (.ldc2_w 118, 3) := by decide +kernel
theorem dX10_word_24 : decode cX10_word 24 = .ok (.lcmp, 1) := by decide +kernel
theorem dX10_word_25 : decode cX10_word 25 = .ok (.ifCond .ne 5, 3) := by decide +kernel
theorem dX10_word_28 : decode cX10_word 28 = .ok (.iconst 5, 1) := by decide +kernel
theorem dX10_word_29 : decode cX10_word 29 = .ok (.ireturn, 1) := by decide +kernel
theorem dX10_word_30 : decode cX10_word 30 = .ok (.lload_n 0, 1) := by decide +kernel
theorem dX10_word_31 : decode cX10_word 31 = .ok (.ldc2_w 120, 3) := by decide +kernel
theorem dX10_word_34 : decode cX10_word 34 = .ok (.lcmp, 1) := by decide +kernel
theorem dX10_word_35 : decode cX10_word 35 = .ok (.ifCond .ne 6, 3) := by decide +kernel
theorem dX10_word_38 : decode cX10_word 38 = .ok (.bipush 6, 2) := by decide +kernel
theorem dX10_word_40 : decode cX10_word 40 = .ok (.ireturn, 1) := by decide +kernel
theorem dX10_word_41 : decode cX10_word 41 = .ok (.lload_n 0, 1) := by decide +kernel
theorem dX10_word_42 : decode cX10_word 42 = .ok (.ldc2_w 122, 3) := by decide +kernel
theorem dX10_word_45 : decode cX10_word 45 = .ok (.lcmp, 1) := by decide +kernel
theorem dX10_word_46 : decode cX10_word 46 = .ok (.ifCond .ne 6, 3) := by decide +kernel
theorem dX10_word_49 : decode cX10_word 49 = .ok (.bipush 7, 2) := by decide +kernel
theorem dX10_word_51 : decode cX10_word 51 = .ok (.ireturn, 1) := by decide +kernel
theorem dX10_word_52 : decode cX10_word 52 = .ok (.lload_n 0, 1) := by decide +kernel
theorem dX10_word_53 : decode cX10_word 53 = .ok (.ldc2_w 124, 3) := by decide +kernel
theorem dX10_word_56 : decode cX10_word 56 = .ok (.lcmp, 1) := by decide +kernel
theorem dX10_word_57 : decode cX10_word 57 = .ok (.ifCond .ne 7, 3) := by decide +kernel
theorem dX10_word_60 : decode cX10_word 60 = .ok (.sipush 300, 3) := by decide +kernel
theorem dX10_word_63 : decode cX10_word 63 = .ok (.ireturn, 1) := by decide +kernel
theorem dX10_word_64 : decode cX10_word 64 = .ok (.lload_n 0, 1) := by decide +kernel
theorem dX10_word_65 : decode cX10_word 65 = .ok (.ldc2_w 126, 3) := by decide +kernel
theorem dX10_word_68 : decode cX10_word 68 = .ok (.lcmp, 1) := by decide +kernel
theorem dX10_word_69 : decode cX10_word 69 = .ok (.ifCond .ne 7, 3) := by decide +kernel
theorem dX10_word_72 : decode cX10_word 72 = .ok (.sipush 301, 3) := by decide +kernel
theorem dX10_word_75 : decode cX10_word 75 = .ok (.ireturn, 1) := by decide +kernel
theorem dX10_word_76 : decode cX10_word 76 = .ok (.lload_n 0, 1) := by decide +kernel
theorem dX10_word_77 : decode cX10_word 77 = .ok (.ldc2_w 128, 3) := by decide +kernel
theorem dX10_word_80 : decode cX10_word 80 = .ok (.lcmp, 1) := by decide +kernel
theorem dX10_word_81 : decode cX10_word 81 = .ok (.ifCond .ne 7, 3) := by decide +kernel
theorem dX10_word_84 : decode cX10_word 84 = .ok (.sipush 302, 3) := by decide +kernel
theorem dX10_word_87 : decode cX10_word 87 = .ok (.ireturn, 1) := by decide +kernel
theorem dX10_word_88 : decode cX10_word 88 = .ok (.lload_n 0, 1) := by decide +kernel
theorem dX10_word_89 : decode cX10_word 89 = .ok (.ldc2_w 130, 3) := by decide +kernel
theorem dX10_word_92 : decode cX10_word 92 = .ok (.lcmp, 1) := by decide +kernel
theorem dX10_word_93 : decode cX10_word 93 = .ok (.ifCond .ne 7, 3) := by decide +kernel
theorem dX10_word_96 : decode cX10_word 96 = .ok (.sipush 303, 3) := by decide +kernel
theorem dX10_word_99 : decode cX10_word 99 = .ok (.ireturn, 1) := by decide +kernel
theorem dX10_word_100 : decode cX10_word 100 = .ok (.lload_n 0, 1) := by decide +kernel
theorem dX10_word_101 : decode cX10_word 101 = .ok (.ldc2_w 132, 3) := by decide +kernel
theorem dX10_word_104 : decode cX10_word 104 = .ok (.lcmp, 1) := by decide +kernel
theorem dX10_word_105 : decode cX10_word 105 = .ok (.ifCond .ne 7, 3) := by decide +kernel
theorem dX10_word_108 : decode cX10_word 108 = .ok (.sipush 304, 3) := by decide +kernel
theorem dX10_word_111 : decode cX10_word 111 = .ok (.ireturn, 1) := by decide +kernel
theorem dX10_word_112 : decode cX10_word 112 = .ok (.lload_n 0, 1) := by decide +kernel
theorem dX10_word_113 : decode cX10_word 113 = .ok (.ldc2_w 134, 3) := by decide +kernel
theorem dX10_word_116 : decode cX10_word 116 = .ok (.lcmp, 1) := by decide +kernel
theorem dX10_word_117 : decode cX10_word 117 = .ok (.ifCond .ne 9, 3) := by decide +kernel
theorem dX10_word_120 : decode cX10_word 120 = .ok (.sipush 305, 3) := by decide +kernel
theorem dX10_word_123 : decode cX10_word 123 = .ok (.goto 4, 3) := by decide +kernel
theorem dX10_word_126 : decode cX10_word 126 = .ok (.iconst 1, 1) := by decide +kernel
theorem dX10_word_127 : decode cX10_word 127 = .ok (.ireturn, 1) := by decide +kernel
theorem dX10_next0_0 : decode cX10_next0 0 = .ok (.aload_n 0, 1) := by decide +kernel
theorem dX10_next0_1 : decode cX10_next0 1 = .ok (.aload_n 0, 1) := by decide +kernel
theorem dX10_next0_2 : decode cX10_next0 2 = .ok (.getfield 136, 3) := by decide +kernel
theorem dX10_next0_5 : decode cX10_next0 5 = .ok (.invokevirtual 139, 3) := by decide +kernel
theorem dX10_next0_8 : decode cX10_next0 8 = .ok (.bipush 32, 2) := by decide +kernel
theorem dX10_next0_10 : decode cX10_next0 10 = .ok (.if_icmp .eq 16, 3) := by decide +kernel
theorem dX10_next0_13 : decode cX10_next0 13 = .ok (.aload_n 0, 1) := by decide +kernel
theorem dX10_next0_14 : decode cX10_next0 14 = .ok (.aload_n 0, 1) := by decide +kernel
theorem dX10_next0_15 : decode cX10_next0 15 = .ok (.getfield 136, 3) := by decide +kernel
theorem dX10_next0_18 : decode cX10_next0 18 = .ok (.invokevirtual 139, 3) := by decide +kernel
theorem dX10_next0_21 : decode cX10_next0 21 = .ok (.bipush 10, 2) := by decide +kernel
theorem dX10_next0_23 : decode cX10_next0 23 = .ok (.if_icmp .ne 16, 3) := by decide +kernel
theorem dX10_next0_26 : decode cX10_next0 26 = .ok (.aload_n 0, 1) := by decide +kernel
theorem dX10_next0_27 : decode cX10_next0 27 = .ok (.dup, 1) := by decide +kernel
theorem dX10_next0_28 : decode cX10_next0 28 = .ok (.getfield 136, 3) := by decide +kernel
theorem dX10_next0_31 : decode cX10_next0 31 = .ok (.iconst 1, 1) := by decide +kernel
theorem dX10_next0_32 : decode cX10_next0 32 = .ok (.iadd, 1) := by decide +kernel
theorem dX10_next0_33 : decode cX10_next0 33 = .ok (.putfield 136, 3) := by decide +kernel
theorem dX10_next0_36 : decode cX10_next0 36 = .ok (.goto (-36), 3) := by decide +kernel
theorem dX10_next0_39 : decode cX10_next0 39 = .ok (.aload_n 0, 1) := by decide +kernel
theorem dX10_next0_40 : decode cX10_next0 40 = .ok (.aload_n 0, 1) := by decide +kernel
theorem dX10_next0_41 : decode cX10_next0 41 = .ok (.getfield 136, 3) := by decide +kernel
theorem dX10_next0_44 : decode cX10_next0 44 = .ok (.putfield 143, 3) := by decide +kernel
theorem dX10_next0_47 : decode cX10_next0 47 = .ok (.aload_n 0, 1) := by decide +kernel
theorem dX10_next0_48 : decode cX10_next0 48 = .ok (.aload_n 0, 1) := by decide +kernel
theorem dX10_next0_49 : decode cX10_next0 49 = .ok (.getfield 136, 3) := by decide +kernel
theorem dX10_next0_52 : decode cX10_next0 52 = .ok (.invokevirtual 139, 3) := by decide +kernel
theorem dX10_next0_55 : decode cX10_next0 55 = .ok (.istore_n 1, 1) := by decide +kernel
theorem dX10_next0_56 : decode cX10_next0 56 = .ok (.iconst 0, 1) := by decide +kernel
theorem dX10_next0_57 : decode cX10_next0 57 = .ok (.istore_n 2, 1) := by decide +kernel
theorem dX10_next0_58 : decode cX10_next0 58 = .ok (.iload_n 1, 1) := by decide +kernel
theorem dX10_next0_59 : decode cX10_next0 59 = .ok (.iconst (-1), 1) := by decide +kernel
theorem dX10_next0_60 : decode cX10_next0 60 = .ok (.if_icmp .ne 11, 3) := by decide +kernel
theorem dX10_next0_63 : decode cX10_next0 63 = .ok (.aload_n 0, 1) := by decide +kernel
theorem dX10_next0_64 : decode cX10_next0 64 = .ok (.iconst 0, 1) := by decide +kernel
theorem dX10_next0_65 : decode cX10_next0 65 = .ok (.putfield 146, 3) := by decide +kernel
theorem dX10_next0_68 : decode cX10_next0 68 = .ok (.goto 196, 3) := by decide +kernel
theorem dX10_next0_71 : decode cX10_next0 71 = .ok (.iload_n 1, 1) := by decide +kernel
theorem dX10_next0_72 : decode cX10_next0 72 = .ok (.invokestatic 149, 3) := by decide +kernel
theorem dX10_next0_75 : decode cX10_next0 75 = .ok (.ifCond .eq 77, 3) := by decide +kernel
theorem dX10_next0_78 : decode cX10_next0 78 = .ok (.lconst 0, 1) := by decide +kernel
theorem dX10_next0_79 : decode cX10_next0 79 = .ok (.lstore_n 3, 1) := by decide +kernel
theorem dX10_next0_80 : decode cX10_next0 80 = .ok (.aload_n 0, 1) := by decide +kernel
theorem dX10_next0_81 : decode cX10_next0 81 = .ok (.aload_n 0, 1) := by decide +kernel
theorem dX10_next0_82 : decode cX10_next0 82 = .ok (.getfield 136, 3) := by decide +kernel
theorem dX10_next0_85 : decode cX10_next0 85 = .ok (.invokevirtual 139, 3) := by decide +kernel
theorem dX10_next0_88 : decode cX10_next0 88 = .ok (.invokestatic 149, 3) := by decide +kernel
theorem dX10_next0_91 : decode cX10_next0 91 = .ok (.ifCond .eq 40, 3) := by decide +kernel
theorem dX10_next0_94 : decode cX10_next0 94 = .ok (.iload_n 2, 1) := by decide +kernel
theorem dX10_next0_95 : decode cX10_next0 95 = .ok (.bipush 7, 2) := by decide +kernel
theorem dX10_next0_97 : decode cX10_next0 97 = .ok (.if_icmp .ge 18, 3) := by decide +kernel
theorem dX10_next0_100 : decode cX10_next0 100 = .ok (.lload_n 3, 1) := by decide +kernel
theorem dX10_next0_101 : decode cX10_next0 101 = .ok (.bipush 8, 2) := by decide +kernel
theorem dX10_next0_103 : decode cX10_next0 103 = .ok (.lshl, 1) := by decide +kernel
theorem dX10_next0_104 : decode cX10_next0 104 = .ok (.aload_n 0, 1) := by decide +kernel
theorem dX10_next0_105 : decode cX10_next0 105 = .ok (.aload_n 0, 1) := by decide +kernel
theorem dX10_next0_106 : decode cX10_next0 106 = .ok (.getfield 136, 3) := by decide +kernel
theorem dX10_next0_109 : decode cX10_next0 109 = .ok (.invokevirtual 139, 3) := by decide +kernel
theorem dX10_next0_112 : decode cX10_next0 112 = .ok (.i2l, 1) := by decide +kernel
theorem dX10_next0_113 : decode cX10_next0 113 = .ok (.lor, 1) := by decide +kernel
theorem dX10_next0_114 : decode cX10_next0 114 = .ok (.lstore_n 3, 1) := by decide +kernel
theorem dX10_next0_115 : decode cX10_next0 115 = .ok (.iinc 2 1, 3) := by decide +kernel
theorem dX10_next0_118 : decode cX10_next0 118 = .ok (.aload_n 0, 1) := by decide +kernel
theorem dX10_next0_119 : decode cX10_next0 119 = .ok (.dup, 1) := by decide +kernel
theorem dX10_next0_120 : decode cX10_next0 120 = .ok (.getfield 136, 3) := by decide +kernel
theorem dX10_next0_123 : decode cX10_next0 123 = .ok (.iconst 1, 1) := by decide +kernel
theorem dX10_next0_124 : decode cX10_next0 124 = .ok (.iadd, 1) := by decide +kernel
theorem dX10_next0_125 : decode cX10_next0 125 = .ok (.putfield 136, 3) := by decide +kernel
theorem dX10_next0_128 : decode cX10_next0 128 = .ok (.goto (-48), 3) := by decide +kernel
theorem dX10_next0_131 : decode cX10_next0 131 = .ok (.aload_n 0, 1) := by decide +kernel
theorem dX10_next0_132 : decode cX10_next0 132 = .ok (.iload_n 2, 1) := by decide +kernel
theorem dX10_next0_133 : decode cX10_next0 133 = .ok (.bipush 7, 2) := by decide +kernel
theorem dX10_next0_135 : decode cX10_next0 135 = .ok (.if_icmp .ge 10, 3) := by decide +kernel
theorem dX10_next0_138 : decode cX10_next0 138 = .ok (.lload_n 3, 1) := by decide +kernel
theorem dX10_next0_139 : decode cX10_next0 139 = .ok (.invokestatic 152, 3) := by decide +kernel
theorem dX10_next0_142 : decode cX10_next0 142 = .ok (.goto 4, 3) := by decide +kernel
theorem dX10_next0_145 : decode cX10_next0 145 = .ok (.iconst 1, 1) := by decide +kernel
theorem dX10_next0_146 : decode cX10_next0 146 = .ok (.putfield 146, 3) := by decide +kernel
theorem dX10_next0_149 : decode cX10_next0 149 = .ok (.goto 115, 3) := by decide +kernel
theorem dX10_next0_152 : decode cX10_next0 152 = .ok (.iload_n 1, 1) := by decide +kernel
theorem dX10_next0_153 : decode cX10_next0 153 = .ok (.invokestatic 156, 3) := by decide +kernel
theorem dX10_next0_156 : decode cX10_next0 156 = .ok (.ifCond .eq 83, 3) := by decide +kernel
theorem dX10_next0_159 : decode cX10_next0 159 = .ok (.aload_n 0, 1) := by decide +kernel
theorem dX10_next0_160 : decode cX10_next0 160 = .ok (.iconst 0, 1) := by decide +kernel
theorem dX10_next0_161 : decode cX10_next0 161 = .ok (.putfield 159, 3) := by decide +kernel
theorem dX10_next0_164 : decode cX10_next0 164 = .ok (.aload_n 0, 1) := by decide +kernel
theorem dX10_next0_165 : decode cX10_next0 165 = .ok (.aload_n 0, 1) := by decide +kernel
theorem dX10_next0_166 : decode cX10_next0 166 = .ok (.getfield 136, 3) := by decide +kernel
theorem dX10_next0_169 : decode cX10_next0 169 = .ok (.invokevirtual 139, 3) := by decide +kernel
theorem dX10_next0_172 : decode cX10_next0 172 = .ok (.invokestatic 156, 3) := by decide +kernel
theorem dX10_next0_175 : decode cX10_next0 175 = .ok (.ifCond .eq 47, 3) := by decide +kernel
theorem dX10_next0_178 : decode cX10_next0 178 = .ok (.iload_n 2, 1) := by decide +kernel
theorem dX10_next0_179 : decode cX10_next0 179 = .ok (.iconst 2, 1) := by decide +kernel
theorem dX10_next0_180 : decode cX10_next0 180 = .ok (.if_icmp .ge 26, 3) := by decide +kernel
theorem dX10_next0_183 : decode cX10_next0 183 = .ok (.aload_n 0, 1) := by decide +kernel
theorem dX10_next0_184 : decode cX10_next0 184 = .ok (.bipush 10, 2) := by decide +kernel
theorem dX10_next0_186 : decode cX10_next0 186 = .ok (.aload_n 0, 1) := by decide +kernel
theorem dX10_next0_187 : decode cX10_next0 187 = .ok (.getfield 159, 3) := by decide +kernel
theorem dX10_next0_190 : decode cX10_next0 190 = .ok (.imul, 1) := by decide +kernel
theorem dX10_next0_191 : decode cX10_next0 191 = .ok (.aload_n 0, 1) := by decide +kernel
theorem dX10_next0_192 : decode cX10_next0 192 = .ok (.aload_n 0, 1) := by decide +kernel
theorem dX10_next0_193 : decode cX10_next0 193 = .ok (.getfield 136, 3) := by decide +kernel
theorem dX10_next0_196 : decode cX10_next0 196 = .ok (.invokevirtual 139, 3) := by decide +kernel
theorem dX10_next0_199 : decode cX10_next0 199 = .ok (.iadd, 1) := by decide +kernel
theorem dX10_next0_200 : decode cX10_next0 200 = .ok (.bipush 48, 2) := by decide +kernel
theorem dX10_next0_202 : decode cX10_next0 202 = .ok (.isub, 1) := by decide +kernel
theorem dX10_next0_203 : decode cX10_next0 203 = .ok (.putfield 159, 3) := by decide +kernel
theorem dX10_next0_206 : decode cX10_next0 206 = .ok (.iinc 2 1, 3) := by decide +kernel
theorem dX10_next0_209 : decode cX10_next0 209 = .ok (.aload_n 0, 1) := by decide +kernel
theorem dX10_next0_210 : decode cX10_next0 210 = .ok (.dup, 1) := by decide +kernel
theorem dX10_next0_211 : decode cX10_next0 211 = .ok (.getfield 136, 3) := by decide +kernel
theorem dX10_next0_214 : decode cX10_next0 214 = .ok (.iconst 1, 1) := by decide +kernel
theorem dX10_next0_215 : decode cX10_next0 215 = .ok (.iadd, 1) := by decide +kernel
theorem dX10_next0_216 : decode cX10_next0 216 = .ok (.putfield 136, 3) := by decide +kernel
theorem dX10_next0_219 : decode cX10_next0 219 = .ok (.goto (-55), 3) := by decide +kernel
theorem dX10_next0_222 : decode cX10_next0 222 = .ok (.aload_n 0, 1) := by decide +kernel
theorem dX10_next0_223 : decode cX10_next0 223 = .ok (.iload_n 2, 1) := by decide +kernel
theorem dX10_next0_224 : decode cX10_next0 224 = .ok (.iconst 3, 1) := by decide +kernel
theorem dX10_next0_225 : decode cX10_next0 225 = .ok (.if_icmp .ge 7, 3) := by decide +kernel
theorem dX10_next0_228 : decode cX10_next0 228 = .ok (.iconst 2, 1) := by decide +kernel
theorem dX10_next0_229 : decode cX10_next0 229 = .ok (.goto 4, 3) := by decide +kernel
theorem dX10_next0_232 : decode cX10_next0 232 = .ok (.iconst 1, 1) := by decide +kernel
theorem dX10_next0_233 : decode cX10_next0 233 = .ok (.putfield 146, 3) := by decide +kernel
theorem dX10_next0_236 : decode cX10_next0 236 = .ok (.goto 28, 3) := by decide +kernel
theorem dX10_next0_239 : decode cX10_next0 239 = .ok (.aload_n 0, 1) := by decide +kernel
theorem dX10_next0_240 : decode cX10_next0 240 = .ok (.dup, 1) := by decide +kernel
theorem dX10_next0_241 : decode cX10_next0 241 = .ok (.getfield 136, 3) := by decide +kernel
theorem dX10_next0_244 : decode cX10_next0 244 = .ok (.iconst 1, 1) := by decide +kernel
theorem dX10_next0_245 : decode cX10_next0 245 = .ok (.iadd, 1) := by decide +kernel
theorem dX10_next0_246 : decode cX10_next0 246 = .ok (.putfield 136, 3) := by decide +kernel
theorem dX10_next0_249 : decode cX10_next0 249 = .ok (.aload_n 0, 1) := by decide +kernel
theorem dX10_next0_250 : decode cX10_next0 250 = .ok (.iload_n 1, 1) := by decide +kernel
theorem dX10_next0_251 : decode cX10_next0 251 = .ok (.bipush 59, 2) := by decide +kernel
theorem dX10_next0_253 : decode cX10_next0 253 = .ok (.if_icmp .ne 7, 3) := by decide +kernel
theorem dX10_next0_256 : decode cX10_next0 256 = .ok (.iload_n 1, 1) := by decide +kernel
theorem dX10_next0_257 : decode cX10_next0 257 = .ok (.goto 4, 3) := by decide +kernel
theorem dX10_next0_260 : decode cX10_next0 260 = .ok (.iconst 1, 1) := by decide +kernel
theorem dX10_next0_261 : decode cX10_next0 261 = .ok (.putfield 146, 3) := by decide +kernel
theorem dX10_next0_264 : decode cX10_next0 264 = .ok (.return_, 1) := by decide +kernel
theorem dX10_bad_0 : decode cX10_bad 0 = .ok (.aload_n 0, 1) := by decide +kernel
theorem dX10_bad_1 : decode cX10_bad 1 = .ok (.iload_n 1, 1) := by decide +kernel
theorem dX10_bad_2 : decode cX10_bad 2 = .ok (.putfield 162, 3) := by decide +kernel
theorem dX10_bad_5 : decode cX10_bad 5 = .ok (.aload_n 0, 1) := by decide +kernel
theorem dX10_bad_6 : decode cX10_bad 6 = .ok (.aload_n 0, 1) := by decide +kernel
theorem dX10_bad_7 : decode cX10_bad 7 = .ok (.getfield 143, 3) := by decide +kernel
theorem dX10_bad_10 : decode cX10_bad 10 = .ok (.putfield 165, 3) := by decide +kernel
theorem dX10_bad_13 : decode cX10_bad 13 = .ok (.iconst 0, 1) := by decide +kernel
theorem dX10_bad_14 : decode cX10_bad 14 = .ok (.ireturn, 1) := by decide +kernel
theorem dX10_aKind_0 : decode cX10_aKind 0 = .ok (.aload_n 0, 1) := by decide +kernel
theorem dX10_aKind_1 : decode cX10_aKind 1 = .ok (.getfield 146, 3) := by decide +kernel
theorem dX10_aKind_4 : decode cX10_aKind 4 = .ok (.sipush 300, 3) := by decide +kernel
theorem dX10_aKind_7 : decode cX10_aKind 7 = .ok (.sipush 305, 3) := by decide +kernel
theorem dX10_aKind_10 : decode cX10_aKind 10 = .ok (.invokestatic 90, 3) := by decide +kernel
theorem dX10_aKind_13 : decode cX10_aKind 13 = .ok (.ifCond .ne 9, 3) := by decide +kernel
theorem dX10_aKind_16 : decode cX10_aKind 16 = .ok (.aload_n 0, 1) := by decide +kernel
theorem dX10_aKind_17 : decode cX10_aKind 17 = .ok (.iconst 1, 1) := by decide +kernel
theorem dX10_aKind_18 : decode cX10_aKind 18 = .ok (.invokevirtual 168, 3) := by decide +kernel
theorem dX10_aKind_21 : decode cX10_aKind 21 = .ok (.ireturn, 1) := by decide +kernel
theorem dX10_aKind_22 : decode cX10_aKind 22 = .ok (.aload_n 0, 1) := by decide +kernel
theorem dX10_aKind_23 : decode cX10_aKind 23 = .ok (.getfield 48, 3) := by decide +kernel
theorem dX10_aKind_26 : decode cX10_aKind 26 = .ok (.iconst 3, 1) := by decide +kernel
theorem dX10_aKind_27 : decode cX10_aKind 27 = .ok (.aload_n 0, 1) := by decide +kernel
theorem dX10_aKind_28 : decode cX10_aKind 28 = .ok (.getfield 171, 3) := by decide +kernel
theorem dX10_aKind_31 : decode cX10_aKind 31 = .ok (.imul, 1) := by decide +kernel
theorem dX10_aKind_32 : decode cX10_aKind 32 = .ok (.iconst 1, 1) := by decide +kernel
theorem dX10_aKind_33 : decode cX10_aKind 33 = .ok (.iadd, 1) := by decide +kernel
theorem dX10_aKind_34 : decode cX10_aKind 34 = .ok (.aload_n 0, 1) := by decide +kernel
theorem dX10_aKind_35 : decode cX10_aKind 35 = .ok (.getfield 146, 3) := by decide +kernel
theorem dX10_aKind_38 : decode cX10_aKind 38 = .ok (.sipush 300, 3) := by decide +kernel
theorem dX10_aKind_41 : decode cX10_aKind 41 = .ok (.isub, 1) := by decide +kernel
theorem dX10_aKind_42 : decode cX10_aKind 42 = .ok (.iastore, 1) := by decide +kernel
theorem dX10_aKind_43 : decode cX10_aKind 43 = .ok (.aload_n 0, 1) := by decide +kernel
theorem dX10_aKind_44 : decode cX10_aKind 44 = .ok (.invokevirtual 174, 3) := by decide +kernel
theorem dX10_aKind_47 : decode cX10_aKind 47 = .ok (.iconst 1, 1) := by decide +kernel
theorem dX10_aKind_48 : decode cX10_aKind 48 = .ok (.ireturn, 1) := by decide +kernel
theorem dX10_aNumber_0 : decode cX10_aNumber 0 = .ok (.aload_n 0, 1) := by decide +kernel
theorem dX10_aNumber_1 : decode cX10_aNumber 1 = .ok (.getfield 146, 3) := by decide +kernel
theorem dX10_aNumber_4 : decode cX10_aNumber 4 = .ok (.iconst 2, 1) := by decide +kernel
theorem dX10_aNumber_5 : decode cX10_aNumber 5 = .ok (.if_icmp .eq 9, 3) := by decide +kernel
theorem dX10_aNumber_8 : decode cX10_aNumber 8 = .ok (.aload_n 0, 1) := by decide +kernel
theorem dX10_aNumber_9 : decode cX10_aNumber 9 = .ok (.iconst 1, 1) := by decide +kernel
theorem dX10_aNumber_10 : decode cX10_aNumber 10 = .ok (.invokevirtual 168, 3) := by decide +kernel
theorem dX10_aNumber_13 : decode cX10_aNumber 13 = .ok (.ireturn, 1) := by decide +kernel
theorem dX10_aNumber_14 : decode cX10_aNumber 14 = .ok (.aload_n 0, 1) := by decide +kernel
theorem dX10_aNumber_15 : decode cX10_aNumber 15 = .ok (.getfield 159, 3) := by decide +kernel
theorem dX10_aNumber_18 : decode cX10_aNumber 18 = .ok (.iload_n 1, 1) := by decide +kernel
theorem dX10_aNumber_19 : decode cX10_aNumber 19 = .ok (.iload_n 2, 1) := by decide +kernel
theorem dX10_aNumber_20 : decode cX10_aNumber 20 = .ok (.invokestatic 90, 3) := by decide +kernel
theorem dX10_aNumber_23 : decode cX10_aNumber 23 = .ok (.ifCond .ne 9, 3) := by decide +kernel
theorem dX10_aNumber_26 : decode cX10_aNumber 26 = .ok (.aload_n 0, 1) := by decide +kernel
theorem dX10_aNumber_27 : decode cX10_aNumber 27 = .ok (.iconst 2, 1) := by decide +kernel
theorem dX10_aNumber_28 : decode cX10_aNumber 28 = .ok (.invokevirtual 168, 3) := by decide +kernel
theorem dX10_aNumber_31 : decode cX10_aNumber 31 = .ok (.ireturn, 1) := by decide +kernel
theorem dX10_aNumber_32 : decode cX10_aNumber 32 = .ok (.aload_n 0, 1) := by decide +kernel
theorem dX10_aNumber_33 : decode cX10_aNumber 33 = .ok (.getfield 48, 3) := by decide +kernel
theorem dX10_aNumber_36 : decode cX10_aNumber 36 = .ok (.iconst 3, 1) := by decide +kernel
theorem dX10_aNumber_37 : decode cX10_aNumber 37 = .ok (.aload_n 0, 1) := by decide +kernel
theorem dX10_aNumber_38 : decode cX10_aNumber 38 = .ok (.getfield 171, 3) := by decide +kernel
theorem dX10_aNumber_41 : decode cX10_aNumber 41 = .ok (.imul, 1) := by decide +kernel
theorem dX10_aNumber_42 : decode cX10_aNumber 42 = .ok (.iconst 2, 1) := by decide +kernel
theorem dX10_aNumber_43 : decode cX10_aNumber 43 = .ok (.iadd, 1) := by decide +kernel
theorem dX10_aNumber_44 : decode cX10_aNumber 44 = .ok (.aload_n 0, 1) := by decide +kernel
theorem dX10_aNumber_45 : decode cX10_aNumber 45 = .ok (.getfield 159, 3) := by decide +kernel
theorem dX10_aNumber_48 : decode cX10_aNumber 48 = .ok (.iastore, 1) := by decide +kernel
theorem dX10_aNumber_49 : decode cX10_aNumber 49 = .ok (.aload_n 0, 1) := by decide +kernel
theorem dX10_aNumber_50 : decode cX10_aNumber 50 = .ok (.invokevirtual 174, 3) := by decide +kernel
theorem dX10_aNumber_53 : decode cX10_aNumber 53 = .ok (.iconst 1, 1) := by decide +kernel
theorem dX10_aNumber_54 : decode cX10_aNumber 54 = .ok (.ireturn, 1) := by decide +kernel
theorem dX10_aLine_0 : decode cX10_aLine 0 = .ok (.aload_n 0, 1) := by decide +kernel
theorem dX10_aLine_1 : decode cX10_aLine 1 = .ok (.getfield 146, 3) := by decide +kernel
theorem dX10_aLine_4 : decode cX10_aLine 4 = .ok (.istore_n 1, 1) := by decide +kernel
theorem dX10_aLine_5 : decode cX10_aLine 5 = .ok (.iload_n 1, 1) := by decide +kernel
theorem dX10_aLine_6 : decode cX10_aLine 6 = .ok (.iconst 3, 1) := by decide +kernel
theorem dX10_aLine_7 : decode cX10_aLine 7 = .ok (.bipush 7, 2) := by decide +kernel
theorem dX10_aLine_9 : decode cX10_aLine 9 = .ok (.invokestatic 90, 3) := by decide +kernel
theorem dX10_aLine_12 : decode cX10_aLine 12 = .ok (.ifCond .ne 9, 3) := by decide +kernel
theorem dX10_aLine_15 : decode cX10_aLine 15 = .ok (.aload_n 0, 1) := by decide +kernel
theorem dX10_aLine_16 : decode cX10_aLine 16 = .ok (.iconst 1, 1) := by decide +kernel
theorem dX10_aLine_17 : decode cX10_aLine 17 = .ok (.invokevirtual 168, 3) := by decide +kernel
theorem dX10_aLine_20 : decode cX10_aLine 20 = .ok (.ireturn, 1) := by decide +kernel
theorem dX10_aLine_21 : decode cX10_aLine 21 = .ok (.aload_n 0, 1) := by decide +kernel
theorem dX10_aLine_22 : decode cX10_aLine 22 = .ok (.getfield 171, 3) := by decide +kernel
theorem dX10_aLine_25 : decode cX10_aLine 25 = .ok (.bipush 20, 2) := by decide +kernel
theorem dX10_aLine_27 : decode cX10_aLine 27 = .ok (.if_icmp .ne 9, 3) := by decide +kernel
theorem dX10_aLine_30 : decode cX10_aLine 30 = .ok (.aload_n 0, 1) := by decide +kernel
theorem dX10_aLine_31 : decode cX10_aLine 31 = .ok (.iconst 3, 1) := by decide +kernel
theorem dX10_aLine_32 : decode cX10_aLine 32 = .ok (.invokevirtual 168, 3) := by decide +kernel
theorem dX10_aLine_35 : decode cX10_aLine 35 = .ok (.ireturn, 1) := by decide +kernel
theorem dX10_aLine_36 : decode cX10_aLine 36 = .ok (.aload_n 0, 1) := by decide +kernel
theorem dX10_aLine_37 : decode cX10_aLine 37 = .ok (.getfield 48, 3) := by decide +kernel
theorem dX10_aLine_40 : decode cX10_aLine 40 = .ok (.iconst 3, 1) := by decide +kernel
theorem dX10_aLine_41 : decode cX10_aLine 41 = .ok (.aload_n 0, 1) := by decide +kernel
theorem dX10_aLine_42 : decode cX10_aLine 42 = .ok (.getfield 171, 3) := by decide +kernel
theorem dX10_aLine_45 : decode cX10_aLine 45 = .ok (.imul, 1) := by decide +kernel
theorem dX10_aLine_46 : decode cX10_aLine 46 = .ok (.iload_n 1, 1) := by decide +kernel
theorem dX10_aLine_47 : decode cX10_aLine 47 = .ok (.iastore, 1) := by decide +kernel
theorem dX10_aLine_48 : decode cX10_aLine 48 = .ok (.aload_n 0, 1) := by decide +kernel
theorem dX10_aLine_49 : decode cX10_aLine 49 = .ok (.invokevirtual 174, 3) := by decide +kernel
theorem dX10_aLine_52 : decode cX10_aLine 52 = .ok (.iload_n 1, 1) := by decide +kernel
theorem dX10_aLine_53 : decode cX10_aLine 53 = .ok (.iconst 3, 1) := by decide +kernel
theorem dX10_aLine_54 : decode cX10_aLine 54 = .ok (.if_icmp .eq 9, 3) := by decide +kernel
theorem dX10_aLine_57 : decode cX10_aLine 57 = .ok (.iload_n 1, 1) := by decide +kernel
theorem dX10_aLine_58 : decode cX10_aLine 58 = .ok (.bipush 7, 2) := by decide +kernel
theorem dX10_aLine_60 : decode cX10_aLine 60 = .ok (.if_icmp .ne 12, 3) := by decide +kernel
theorem dX10_aLine_63 : decode cX10_aLine 63 = .ok (.aload_n 0, 1) := by decide +kernel
theorem dX10_aLine_64 : decode cX10_aLine 64 = .ok (.invokevirtual 177, 3) := by decide +kernel
theorem dX10_aLine_67 : decode cX10_aLine 67 = .ok (.ifCond .ne 5, 3) := by decide +kernel
theorem dX10_aLine_70 : decode cX10_aLine 70 = .ok (.iconst 0, 1) := by decide +kernel
theorem dX10_aLine_71 : decode cX10_aLine 71 = .ok (.ireturn, 1) := by decide +kernel
theorem dX10_aLine_72 : decode cX10_aLine 72 = .ok (.iload_n 1, 1) := by decide +kernel
theorem dX10_aLine_73 : decode cX10_aLine 73 = .ok (.bipush 7, 2) := by decide +kernel
theorem dX10_aLine_75 : decode cX10_aLine 75 = .ok (.if_icmp .eq 44, 3) := by decide +kernel
theorem dX10_aLine_78 : decode cX10_aLine 78 = .ok (.aload_n 0, 1) := by decide +kernel
theorem dX10_aLine_79 : decode cX10_aLine 79 = .ok (.iload_n 1, 1) := by decide +kernel
theorem dX10_aLine_80 : decode cX10_aLine 80 = .ok (.iconst 5, 1) := by decide +kernel
theorem dX10_aLine_81 : decode cX10_aLine 81 = .ok (.if_icmp .ne 7, 3) := by decide +kernel
theorem dX10_aLine_84 : decode cX10_aLine 84 = .ok (.iconst 1, 1) := by decide +kernel
theorem dX10_aLine_85 : decode cX10_aLine 85 = .ok (.goto 4, 3) := by decide +kernel
theorem dX10_aLine_88 : decode cX10_aLine 88 = .ok (.iconst 0, 1) := by decide +kernel
theorem dX10_aLine_89 : decode cX10_aLine 89 = .ok (.iload_n 1, 1) := by decide +kernel
theorem dX10_aLine_90 : decode cX10_aLine 90 = .ok (.iconst 3, 1) := by decide +kernel
theorem dX10_aLine_91 : decode cX10_aLine 91 = .ok (.if_icmp .ne 8, 3) := by decide +kernel
theorem dX10_aLine_94 : decode cX10_aLine 94 = .ok (.bipush 20, 2) := by decide +kernel
theorem dX10_aLine_96 : decode cX10_aLine 96 = .ok (.goto 15, 3) := by decide +kernel
theorem dX10_aLine_99 : decode cX10_aLine 99 = .ok (.iload_n 1, 1) := by decide +kernel
theorem dX10_aLine_100 : decode cX10_aLine 100 = .ok (.iconst 5, 1) := by decide +kernel
theorem dX10_aLine_101 : decode cX10_aLine 101 = .ok (.if_icmp .ne 8, 3) := by decide +kernel
theorem dX10_aLine_104 : decode cX10_aLine 104 = .ok (.bipush 99, 2) := by decide +kernel
theorem dX10_aLine_106 : decode cX10_aLine 106 = .ok (.goto 5, 3) := by decide +kernel
theorem dX10_aLine_109 : decode cX10_aLine 109 = .ok (.bipush 9, 2) := by decide +kernel
theorem dX10_aLine_111 : decode cX10_aLine 111 = .ok (.invokevirtual 181, 3) := by decide +kernel
theorem dX10_aLine_114 : decode cX10_aLine 114 = .ok (.ifCond .ne 5, 3) := by decide +kernel
theorem dX10_aLine_117 : decode cX10_aLine 117 = .ok (.iconst 0, 1) := by decide +kernel
theorem dX10_aLine_118 : decode cX10_aLine 118 = .ok (.ireturn, 1) := by decide +kernel
theorem dX10_aLine_119 : decode cX10_aLine 119 = .ok (.aload_n 0, 1) := by decide +kernel
theorem dX10_aLine_120 : decode cX10_aLine 120 = .ok (.dup, 1) := by decide +kernel
theorem dX10_aLine_121 : decode cX10_aLine 121 = .ok (.getfield 171, 3) := by decide +kernel
theorem dX10_aLine_124 : decode cX10_aLine 124 = .ok (.iconst 1, 1) := by decide +kernel
theorem dX10_aLine_125 : decode cX10_aLine 125 = .ok (.iadd, 1) := by decide +kernel
theorem dX10_aLine_126 : decode cX10_aLine 126 = .ok (.putfield 171, 3) := by decide +kernel
theorem dX10_aLine_129 : decode cX10_aLine 129 = .ok (.aload_n 0, 1) := by decide +kernel
theorem dX10_aLine_130 : decode cX10_aLine 130 = .ok (.getfield 146, 3) := by decide +kernel
theorem dX10_aLine_133 : decode cX10_aLine 133 = .ok (.bipush 59, 2) := by decide +kernel
theorem dX10_aLine_135 : decode cX10_aLine 135 = .ok (.if_icmp .eq 9, 3) := by decide +kernel
theorem dX10_aLine_138 : decode cX10_aLine 138 = .ok (.aload_n 0, 1) := by decide +kernel
theorem dX10_aLine_139 : decode cX10_aLine 139 = .ok (.iconst 1, 1) := by decide +kernel
theorem dX10_aLine_140 : decode cX10_aLine 140 = .ok (.invokevirtual 168, 3) := by decide +kernel
theorem dX10_aLine_143 : decode cX10_aLine 143 = .ok (.ireturn, 1) := by decide +kernel
theorem dX10_aLine_144 : decode cX10_aLine 144 = .ok (.aload_n 0, 1) := by decide +kernel
theorem dX10_aLine_145 : decode cX10_aLine 145 = .ok (.invokevirtual 174, 3) := by decide +kernel
theorem dX10_aLine_148 : decode cX10_aLine 148 = .ok (.iconst 1, 1) := by decide +kernel
theorem dX10_aLine_149 : decode cX10_aLine 149 = .ok (.ireturn, 1) := by decide +kernel
theorem dX10_rules_0 : decode cX10_rules 0 = .ok (.aload_n 0, 1) := by decide +kernel
theorem dX10_rules_1 : decode cX10_rules 1 = .ok (.iconst 0, 1) := by decide +kernel
theorem dX10_rules_2 : decode cX10_rules 2 = .ok (.putfield 162, 3) := by decide +kernel
theorem dX10_rules_5 : decode cX10_rules 5 = .ok (.aload_n 0, 1) := by decide +kernel
theorem dX10_rules_6 : decode cX10_rules 6 = .ok (.iconst 0, 1) := by decide +kernel
theorem dX10_rules_7 : decode cX10_rules 7 = .ok (.putfield 136, 3) := by decide +kernel
theorem dX10_rules_10 : decode cX10_rules 10 = .ok (.aload_n 0, 1) := by decide +kernel
theorem dX10_rules_11 : decode cX10_rules 11 = .ok (.iconst 0, 1) := by decide +kernel
theorem dX10_rules_12 : decode cX10_rules 12 = .ok (.putfield 171, 3) := by decide +kernel
theorem dX10_rules_15 : decode cX10_rules 15 = .ok (.aload_n 0, 1) := by decide +kernel
theorem dX10_rules_16 : decode cX10_rules 16 = .ok (.invokevirtual 174, 3) := by decide +kernel
theorem dX10_rules_19 : decode cX10_rules 19 = .ok (.iconst 1, 1) := by decide +kernel
theorem dX10_rules_20 : decode cX10_rules 20 = .ok (.istore_n 1, 1) := by decide +kernel
theorem dX10_rules_21 : decode cX10_rules 21 = .ok (.iload_n 1, 1) := by decide +kernel
theorem dX10_rules_22 : decode cX10_rules 22 = .ok (.ifCond .eq 18, 3) := by decide +kernel
theorem dX10_rules_25 : decode cX10_rules 25 = .ok (.aload_n 0, 1) := by decide +kernel
theorem dX10_rules_26 : decode cX10_rules 26 = .ok (.getfield 146, 3) := by decide +kernel
theorem dX10_rules_29 : decode cX10_rules 29 = .ok (.ifCond .eq 11, 3) := by decide +kernel
theorem dX10_rules_32 : decode cX10_rules 32 = .ok (.aload_n 0, 1) := by decide +kernel
theorem dX10_rules_33 : decode cX10_rules 33 = .ok (.invokevirtual 184, 3) := by decide +kernel
theorem dX10_rules_36 : decode cX10_rules 36 = .ok (.istore_n 1, 1) := by decide +kernel
theorem dX10_rules_37 : decode cX10_rules 37 = .ok (.goto (-16), 3) := by decide +kernel
theorem dX10_rules_40 : decode cX10_rules 40 = .ok (.aload_n 0, 1) := by decide +kernel
theorem dX10_rules_41 : decode cX10_rules 41 = .ok (.iconst 0, 1) := by decide +kernel
theorem dX10_rules_42 : decode cX10_rules 42 = .ok (.putfield 111, 3) := by decide +kernel
theorem dX10_rules_45 : decode cX10_rules 45 = .ok (.aload_n 0, 1) := by decide +kernel
theorem dX10_rules_46 : decode cX10_rules 46 = .ok (.aload_n 0, 1) := by decide +kernel
theorem dX10_rules_47 : decode cX10_rules 47 = .ok (.getfield 162, 3) := by decide +kernel
theorem dX10_rules_50 : decode cX10_rules 50 = .ok (.putfield 187, 3) := by decide +kernel
theorem dX10_rules_53 : decode cX10_rules 53 = .ok (.aload_n 0, 1) := by decide +kernel
theorem dX10_rules_54 : decode cX10_rules 54 = .ok (.iload_n 1, 1) := by decide +kernel
theorem dX10_rules_55 : decode cX10_rules 55 = .ok (.ifCond .eq 7, 3) := by decide +kernel
theorem dX10_rules_58 : decode cX10_rules 58 = .ok (.iconst (-1), 1) := by decide +kernel
theorem dX10_rules_59 : decode cX10_rules 59 = .ok (.goto 7, 3) := by decide +kernel
theorem dX10_rules_62 : decode cX10_rules 62 = .ok (.aload_n 0, 1) := by decide +kernel
theorem dX10_rules_63 : decode cX10_rules 63 = .ok (.getfield 165, 3) := by decide +kernel
theorem dX10_rules_66 : decode cX10_rules 66 = .ok (.putfield 51, 3) := by decide +kernel
theorem dX10_rules_69 : decode cX10_rules 69 = .ok (.iload_n 1, 1) := by decide +kernel
theorem dX10_rules_70 : decode cX10_rules 70 = .ok (.ifCond .ne 5, 3) := by decide +kernel
theorem dX10_rules_73 : decode cX10_rules 73 = .ok (.iconst (-1), 1) := by decide +kernel
theorem dX10_rules_74 : decode cX10_rules 74 = .ok (.ireturn, 1) := by decide +kernel
theorem dX10_rules_75 : decode cX10_rules 75 = .ok (.aload_n 0, 1) := by decide +kernel
theorem dX10_rules_76 : decode cX10_rules 76 = .ok (.iconst 0, 1) := by decide +kernel
theorem dX10_rules_77 : decode cX10_rules 77 = .ok (.putfield 190, 3) := by decide +kernel
theorem dX10_rules_80 : decode cX10_rules 80 = .ok (.aload_n 0, 1) := by decide +kernel
theorem dX10_rules_81 : decode cX10_rules 81 = .ok (.bipush 12, 2) := by decide +kernel
theorem dX10_rules_83 : decode cX10_rules 83 = .ok (.putfield 31, 3) := by decide +kernel
theorem dX10_rules_86 : decode cX10_rules 86 = .ok (.aload_n 0, 1) := by decide +kernel
theorem dX10_rules_87 : decode cX10_rules 87 = .ok (.iconst 1, 1) := by decide +kernel
theorem dX10_rules_88 : decode cX10_rules 88 = .ok (.putfield 35, 3) := by decide +kernel
theorem dX10_rules_91 : decode cX10_rules 91 = .ok (.iconst 0, 1) := by decide +kernel
theorem dX10_rules_92 : decode cX10_rules 92 = .ok (.istore_n 2, 1) := by decide +kernel
theorem dX10_rules_93 : decode cX10_rules 93 = .ok (.iload_n 2, 1) := by decide +kernel
theorem dX10_rules_94 : decode cX10_rules 94 = .ok (.bipush 6, 2) := by decide +kernel
theorem dX10_rules_96 : decode cX10_rules 96 = .ok (.if_icmp .ge 23, 3) := by decide +kernel
theorem dX10_rules_99 : decode cX10_rules 99 = .ok (.aload_n 0, 1) := by decide +kernel
theorem dX10_rules_100 : decode cX10_rules 100 = .ok (.getfield 38, 3) := by decide +kernel
theorem dX10_rules_103 : decode cX10_rules 103 = .ok (.iload_n 2, 1) := by decide +kernel
theorem dX10_rules_104 : decode cX10_rules 104 = .ok (.iconst 1, 1) := by decide +kernel
theorem dX10_rules_105 : decode cX10_rules 105 = .ok (.iastore, 1) := by decide +kernel
theorem dX10_rules_106 : decode cX10_rules 106 = .ok (.aload_n 0, 1) := by decide +kernel
theorem dX10_rules_107 : decode cX10_rules 107 = .ok (.getfield 41, 3) := by decide +kernel
theorem dX10_rules_110 : decode cX10_rules 110 = .ok (.iload_n 2, 1) := by decide +kernel
theorem dX10_rules_111 : decode cX10_rules 111 = .ok (.iconst 0, 1) := by decide +kernel
theorem dX10_rules_112 : decode cX10_rules 112 = .ok (.bastore, 1) := by decide +kernel
theorem dX10_rules_113 : decode cX10_rules 113 = .ok (.iinc 2 1, 3) := by decide +kernel
theorem dX10_rules_116 : decode cX10_rules 116 = .ok (.goto (-23), 3) := by decide +kernel
theorem dX10_rules_119 : decode cX10_rules 119 = .ok (.iconst 0, 1) := by decide +kernel
theorem dX10_rules_120 : decode cX10_rules 120 = .ok (.istore_n 2, 1) := by decide +kernel
theorem dX10_rules_121 : decode cX10_rules 121 = .ok (.iload_n 2, 1) := by decide +kernel
theorem dX10_rules_122 : decode cX10_rules 122 = .ok (.aload_n 0, 1) := by decide +kernel
theorem dX10_rules_123 : decode cX10_rules 123 = .ok (.getfield 171, 3) := by decide +kernel
theorem dX10_rules_126 : decode cX10_rules 126 = .ok (.if_icmp .ge 41, 3) := by decide +kernel
theorem dX10_rules_129 : decode cX10_rules 129 = .ok (.aload_n 0, 1) := by decide +kernel
theorem dX10_rules_130 : decode cX10_rules 130 = .ok (.aload_n 0, 1) := by decide +kernel
theorem dX10_rules_131 : decode cX10_rules 131 = .ok (.getfield 48, 3) := by decide +kernel
theorem dX10_rules_134 : decode cX10_rules 134 = .ok (.iconst 3, 1) := by decide +kernel
theorem dX10_rules_135 : decode cX10_rules 135 = .ok (.iload_n 2, 1) := by decide +kernel
theorem dX10_rules_136 : decode cX10_rules 136 = .ok (.imul, 1) := by decide +kernel
theorem dX10_rules_137 : decode cX10_rules 137 = .ok (.iaload, 1) := by decide +kernel
theorem dX10_rules_138 : decode cX10_rules 138 = .ok (.aload_n 0, 1) := by decide +kernel
theorem dX10_rules_139 : decode cX10_rules 139 = .ok (.getfield 48, 3) := by decide +kernel
theorem dX10_rules_142 : decode cX10_rules 142 = .ok (.iconst 3, 1) := by decide +kernel
theorem dX10_rules_143 : decode cX10_rules 143 = .ok (.iload_n 2, 1) := by decide +kernel
theorem dX10_rules_144 : decode cX10_rules 144 = .ok (.imul, 1) := by decide +kernel
theorem dX10_rules_145 : decode cX10_rules 145 = .ok (.iconst 1, 1) := by decide +kernel
theorem dX10_rules_146 : decode cX10_rules 146 = .ok (.iadd, 1) := by decide +kernel
theorem dX10_rules_147 : decode cX10_rules 147 = .ok (.iaload, 1) := by decide +kernel
theorem dX10_rules_148 : decode cX10_rules 148 = .ok (.aload_n 0, 1) := by decide +kernel
theorem dX10_rules_149 : decode cX10_rules 149 = .ok (.getfield 48, 3) := by decide +kernel
theorem dX10_rules_152 : decode cX10_rules 152 = .ok (.iconst 3, 1) := by decide +kernel
theorem dX10_rules_153 : decode cX10_rules 153 = .ok (.iload_n 2, 1) := by decide +kernel
theorem dX10_rules_154 : decode cX10_rules 154 = .ok (.imul, 1) := by decide +kernel
theorem dX10_rules_155 : decode cX10_rules 155 = .ok (.iconst 2, 1) := by decide +kernel
theorem dX10_rules_156 : decode cX10_rules 156 = .ok (.iadd, 1) := by decide +kernel
theorem dX10_rules_157 : decode cX10_rules 157 = .ok (.iaload, 1) := by decide +kernel
theorem dX10_rules_158 : decode cX10_rules 158 = .ok (.invokevirtual 193, 3) := by decide +kernel
theorem dX10_rules_161 : decode cX10_rules 161 = .ok (.iinc 2 1, 3) := by decide +kernel
theorem dX10_rules_164 : decode cX10_rules 164 = .ok (.goto (-43), 3) := by decide +kernel
theorem dX10_rules_167 : decode cX10_rules 167 = .ok (.aload_n 0, 1) := by decide +kernel
theorem dX10_rules_168 : decode cX10_rules 168 = .ok (.getfield 171, 3) := by decide +kernel
theorem dX10_rules_171 : decode cX10_rules 171 = .ok (.ireturn, 1) := by decide +kernel
theorem dX10_tells_0 : decode cX10_tells 0 = .ok (.iload_n 1, 1) := by decide +kernel
theorem dX10_tells_1 : decode cX10_tells 1 = .ok (.iconst 3, 1) := by decide +kernel
theorem dX10_tells_2 : decode cX10_tells 2 = .ok (.if_icmp .ne 13, 3) := by decide +kernel
theorem dX10_tells_5 : decode cX10_tells 5 = .ok (.aload_n 0, 1) := by decide +kernel
theorem dX10_tells_6 : decode cX10_tells 6 = .ok (.getfield 38, 3) := by decide +kernel
theorem dX10_tells_9 : decode cX10_tells 9 = .ok (.iload_n 2, 1) := by decide +kernel
theorem dX10_tells_10 : decode cX10_tells 10 = .ok (.iload_n 3, 1) := by decide +kernel
theorem dX10_tells_11 : decode cX10_tells 11 = .ok (.iastore, 1) := by decide +kernel
theorem dX10_tells_12 : decode cX10_tells 12 = .ok (.goto 50, 3) := by decide +kernel
theorem dX10_tells_15 : decode cX10_tells 15 = .ok (.iload_n 1, 1) := by decide +kernel
theorem dX10_tells_16 : decode cX10_tells 16 = .ok (.iconst 4, 1) := by decide +kernel
theorem dX10_tells_17 : decode cX10_tells 17 = .ok (.if_icmp .ne 11, 3) := by decide +kernel
theorem dX10_tells_20 : decode cX10_tells 20 = .ok (.aload_n 0, 1) := by decide +kernel
theorem dX10_tells_21 : decode cX10_tells 21 = .ok (.iload_n 3, 1) := by decide +kernel
theorem dX10_tells_22 : decode cX10_tells 22 = .ok (.putfield 190, 3) := by decide +kernel
theorem dX10_tells_25 : decode cX10_tells 25 = .ok (.goto 37, 3) := by decide +kernel
theorem dX10_tells_28 : decode cX10_tells 28 = .ok (.iload_n 1, 1) := by decide +kernel
theorem dX10_tells_29 : decode cX10_tells 29 = .ok (.iconst 5, 1) := by decide +kernel
theorem dX10_tells_30 : decode cX10_tells 30 = .ok (.if_icmp .ne 11, 3) := by decide +kernel
theorem dX10_tells_33 : decode cX10_tells 33 = .ok (.aload_n 0, 1) := by decide +kernel
theorem dX10_tells_34 : decode cX10_tells 34 = .ok (.iload_n 3, 1) := by decide +kernel
theorem dX10_tells_35 : decode cX10_tells 35 = .ok (.putfield 31, 3) := by decide +kernel
theorem dX10_tells_38 : decode cX10_tells 38 = .ok (.goto 24, 3) := by decide +kernel
theorem dX10_tells_41 : decode cX10_tells 41 = .ok (.iload_n 1, 1) := by decide +kernel
theorem dX10_tells_42 : decode cX10_tells 42 = .ok (.bipush 6, 2) := by decide +kernel
theorem dX10_tells_44 : decode cX10_tells 44 = .ok (.if_icmp .ne 11, 3) := by decide +kernel
theorem dX10_tells_47 : decode cX10_tells 47 = .ok (.aload_n 0, 1) := by decide +kernel
theorem dX10_tells_48 : decode cX10_tells 48 = .ok (.iload_n 3, 1) := by decide +kernel
theorem dX10_tells_49 : decode cX10_tells 49 = .ok (.putfield 35, 3) := by decide +kernel
theorem dX10_tells_52 : decode cX10_tells 52 = .ok (.goto 10, 3) := by decide +kernel
theorem dX10_tells_55 : decode cX10_tells 55 = .ok (.aload_n 0, 1) := by decide +kernel
theorem dX10_tells_56 : decode cX10_tells 56 = .ok (.getfield 41, 3) := by decide +kernel
theorem dX10_tells_59 : decode cX10_tells 59 = .ok (.iload_n 2, 1) := by decide +kernel
theorem dX10_tells_60 : decode cX10_tells 60 = .ok (.iconst 1, 1) := by decide +kernel
theorem dX10_tells_61 : decode cX10_tells 61 = .ok (.bastore, 1) := by decide +kernel
theorem dX10_tells_62 : decode cX10_tells 62 = .ok (.return_, 1) := by decide +kernel
theorem dX10_fault_0 : decode cX10_fault 0 = .ok (.iload_n 1, 1) := by decide +kernel
theorem dX10_fault_1 : decode cX10_fault 1 = .ok (.ifCond .ne 10, 3) := by decide +kernel
theorem dX10_fault_4 : decode cX10_fault 4 = .ok (.aload_n 0, 1) := by decide +kernel
theorem dX10_fault_5 : decode cX10_fault 5 = .ok (.getfield 187, 3) := by decide +kernel
theorem dX10_fault_8 : decode cX10_fault 8 = .ok (.goto 16, 3) := by decide +kernel
theorem dX10_fault_11 : decode cX10_fault 11 = .ok (.iload_n 1, 1) := by decide +kernel
theorem dX10_fault_12 : decode cX10_fault 12 = .ok (.iconst 1, 1) := by decide +kernel
theorem dX10_fault_13 : decode cX10_fault 13 = .ok (.if_icmp .ne 10, 3) := by decide +kernel
theorem dX10_fault_16 : decode cX10_fault 16 = .ok (.aload_n 0, 1) := by decide +kernel
theorem dX10_fault_17 : decode cX10_fault 17 = .ok (.getfield 51, 3) := by decide +kernel
theorem dX10_fault_20 : decode cX10_fault 20 = .ok (.goto 4, 3) := by decide +kernel
theorem dX10_fault_23 : decode cX10_fault 23 = .ok (.iconst (-1), 1) := by decide +kernel
theorem dX10_fault_24 : decode cX10_fault 24 = .ok (.ireturn, 1) := by decide +kernel
theorem dX10_look_0 : decode cX10_look 0 = .ok (.iload_n 1, 1) := by decide +kernel
theorem dX10_look_1 : decode cX10_look 1 = .ok (.tableswitch 60 0 4 #[35, 40, 45, 50, 55], 35) := by decide +kernel
theorem dX10_look_36 : decode cX10_look 36 = .ok (.aload_n 0, 1) := by decide +kernel
theorem dX10_look_37 : decode cX10_look 37 = .ok (.getfield 108, 3) := by decide +kernel
theorem dX10_look_40 : decode cX10_look 40 = .ok (.ireturn, 1) := by decide +kernel
theorem dX10_look_41 : decode cX10_look 41 = .ok (.aload_n 0, 1) := by decide +kernel
theorem dX10_look_42 : decode cX10_look 42 = .ok (.getfield 190, 3) := by decide +kernel
theorem dX10_look_45 : decode cX10_look 45 = .ok (.ireturn, 1) := by decide +kernel
theorem dX10_look_46 : decode cX10_look 46 = .ok (.aload_n 0, 1) := by decide +kernel
theorem dX10_look_47 : decode cX10_look 47 = .ok (.getfield 31, 3) := by decide +kernel
theorem dX10_look_50 : decode cX10_look 50 = .ok (.ireturn, 1) := by decide +kernel
theorem dX10_look_51 : decode cX10_look 51 = .ok (.aload_n 0, 1) := by decide +kernel
theorem dX10_look_52 : decode cX10_look 52 = .ok (.getfield 35, 3) := by decide +kernel
theorem dX10_look_55 : decode cX10_look 55 = .ok (.ireturn, 1) := by decide +kernel
theorem dX10_look_56 : decode cX10_look 56 = .ok (.aload_n 0, 1) := by decide +kernel
theorem dX10_look_57 : decode cX10_look 57 = .ok (.getfield 197, 3) := by decide +kernel
theorem dX10_look_60 : decode cX10_look 60 = .ok (.ireturn, 1) := by decide +kernel
theorem dX10_look_61 : decode cX10_look 61 = .ok (.iload_n 1, 1) := by decide +kernel
theorem dX10_look_62 : decode cX10_look 62 = .ok (.bipush 10, 2) := by decide +kernel
theorem dX10_look_64 : decode cX10_look 64 = .ok (.bipush 15, 2) := by decide +kernel
theorem dX10_look_66 : decode cX10_look 66 = .ok (.invokestatic 90, 3) := by decide +kernel
theorem dX10_look_69 : decode cX10_look 69 = .ok (.ifCond .eq 15, 3) := by decide +kernel
theorem dX10_look_72 : decode cX10_look 72 = .ok (.aload_n 0, 1) := by decide +kernel
theorem dX10_look_73 : decode cX10_look 73 = .ok (.getfield 38, 3) := by decide +kernel
theorem dX10_look_76 : decode cX10_look 76 = .ok (.iload_n 1, 1) := by decide +kernel
theorem dX10_look_77 : decode cX10_look 77 = .ok (.bipush 10, 2) := by decide +kernel
theorem dX10_look_79 : decode cX10_look 79 = .ok (.isub, 1) := by decide +kernel
theorem dX10_look_80 : decode cX10_look 80 = .ok (.iaload, 1) := by decide +kernel
theorem dX10_look_81 : decode cX10_look 81 = .ok (.goto 35, 3) := by decide +kernel
theorem dX10_look_84 : decode cX10_look 84 = .ok (.iload_n 1, 1) := by decide +kernel
theorem dX10_look_85 : decode cX10_look 85 = .ok (.bipush 20, 2) := by decide +kernel
theorem dX10_look_87 : decode cX10_look 87 = .ok (.bipush 25, 2) := by decide +kernel
theorem dX10_look_89 : decode cX10_look 89 = .ok (.invokestatic 90, 3) := by decide +kernel
theorem dX10_look_92 : decode cX10_look 92 = .ok (.ifCond .eq 23, 3) := by decide +kernel
theorem dX10_look_95 : decode cX10_look 95 = .ok (.aload_n 0, 1) := by decide +kernel
theorem dX10_look_96 : decode cX10_look 96 = .ok (.getfield 41, 3) := by decide +kernel
theorem dX10_look_99 : decode cX10_look 99 = .ok (.iload_n 1, 1) := by decide +kernel
theorem dX10_look_100 : decode cX10_look 100 = .ok (.bipush 20, 2) := by decide +kernel
theorem dX10_look_102 : decode cX10_look 102 = .ok (.isub, 1) := by decide +kernel
theorem dX10_look_103 : decode cX10_look 103 = .ok (.baload, 1) := by decide +kernel
theorem dX10_look_104 : decode cX10_look 104 = .ok (.ifCond .eq 7, 3) := by decide +kernel
theorem dX10_look_107 : decode cX10_look 107 = .ok (.iconst 1, 1) := by decide +kernel
theorem dX10_look_108 : decode cX10_look 108 = .ok (.goto 8, 3) := by decide +kernel
theorem dX10_look_111 : decode cX10_look 111 = .ok (.iconst 0, 1) := by decide +kernel
theorem dX10_look_112 : decode cX10_look 112 = .ok (.goto 4, 3) := by decide +kernel
theorem dX10_look_115 : decode cX10_look 115 = .ok (.iconst (-1), 1) := by decide +kernel
theorem dX10_look_116 : decode cX10_look 116 = .ok (.ireturn, 1) := by decide +kernel
theorem dX10_moved_0 : decode cX10_moved 0 = .ok (.aload_n 0, 1) := by decide +kernel
theorem dX10_moved_1 : decode cX10_moved 1 = .ok (.getfield 7, 3) := by decide +kernel
theorem dX10_moved_4 : decode cX10_moved 4 = .ok (.iload_n 1, 1) := by decide +kernel
theorem dX10_moved_5 : decode cX10_moved 5 = .ok (.iaload, 1) := by decide +kernel
theorem dX10_moved_6 : decode cX10_moved 6 = .ok (.iconst 2, 1) := by decide +kernel
theorem dX10_moved_7 : decode cX10_moved 7 = .ok (.if_icmp .eq 7, 3) := by decide +kernel
theorem dX10_moved_10 : decode cX10_moved 10 = .ok (.iload_n 2, 1) := by decide +kernel
theorem dX10_moved_11 : decode cX10_moved 11 = .ok (.goto 27, 3) := by decide +kernel
theorem dX10_moved_14 : decode cX10_moved 14 = .ok (.aload_n 0, 1) := by decide +kernel
theorem dX10_moved_15 : decode cX10_moved 15 = .ok (.getfield 28, 3) := by decide +kernel
theorem dX10_moved_18 : decode cX10_moved 18 = .ok (.iload_n 1, 1) := by decide +kernel
theorem dX10_moved_19 : decode cX10_moved 19 = .ok (.iaload, 1) := by decide +kernel
theorem dX10_moved_20 : decode cX10_moved 20 = .ok (.ifCond .ne 12, 3) := by decide +kernel
theorem dX10_moved_23 : decode cX10_moved 23 = .ok (.iload_n 2, 1) := by decide +kernel
theorem dX10_moved_24 : decode cX10_moved 24 = .ok (.aload_n 0, 1) := by decide +kernel
theorem dX10_moved_25 : decode cX10_moved 25 = .ok (.getfield 190, 3) := by decide +kernel
theorem dX10_moved_28 : decode cX10_moved 28 = .ok (.iadd, 1) := by decide +kernel
theorem dX10_moved_29 : decode cX10_moved 29 = .ok (.goto 9, 3) := by decide +kernel
theorem dX10_moved_32 : decode cX10_moved 32 = .ok (.iload_n 2, 1) := by decide +kernel
theorem dX10_moved_33 : decode cX10_moved 33 = .ok (.aload_n 0, 1) := by decide +kernel
theorem dX10_moved_34 : decode cX10_moved 34 = .ok (.getfield 190, 3) := by decide +kernel
theorem dX10_moved_37 : decode cX10_moved 37 = .ok (.isub, 1) := by decide +kernel
theorem dX10_moved_38 : decode cX10_moved 38 = .ok (.istore_n 3, 1) := by decide +kernel
theorem dX10_moved_39 : decode cX10_moved 39 = .ok (.iload_n 3, 1) := by decide +kernel
theorem dX10_moved_40 : decode cX10_moved 40 = .ok (.ifCond .ge 7, 3) := by decide +kernel
theorem dX10_moved_43 : decode cX10_moved 43 = .ok (.iconst 0, 1) := by decide +kernel
theorem dX10_moved_44 : decode cX10_moved 44 = .ok (.goto 15, 3) := by decide +kernel
theorem dX10_moved_47 : decode cX10_moved 47 = .ok (.iload_n 3, 1) := by decide +kernel
theorem dX10_moved_48 : decode cX10_moved 48 = .ok (.bipush 79, 2) := by decide +kernel
theorem dX10_moved_50 : decode cX10_moved 50 = .ok (.if_icmp .le 8, 3) := by decide +kernel
theorem dX10_moved_53 : decode cX10_moved 53 = .ok (.bipush 79, 2) := by decide +kernel
theorem dX10_moved_55 : decode cX10_moved 55 = .ok (.goto 4, 3) := by decide +kernel
theorem dX10_moved_58 : decode cX10_moved 58 = .ok (.iload_n 3, 1) := by decide +kernel
theorem dX10_moved_59 : decode cX10_moved 59 = .ok (.ireturn, 1) := by decide +kernel
theorem dX10_counts_0 : decode cX10_counts 0 = .ok (.iload_n 2, 1) := by decide +kernel
theorem dX10_counts_1 : decode cX10_counts 1 = .ok (.aload_n 0, 1) := by decide +kernel
theorem dX10_counts_2 : decode cX10_counts 2 = .ok (.getfield 13, 3) := by decide +kernel
theorem dX10_counts_5 : decode cX10_counts 5 = .ok (.iload_n 1, 1) := by decide +kernel
theorem dX10_counts_6 : decode cX10_counts 6 = .ok (.iaload, 1) := by decide +kernel
theorem dX10_counts_7 : decode cX10_counts 7 = .ok (.aload_n 0, 1) := by decide +kernel
theorem dX10_counts_8 : decode cX10_counts 8 = .ok (.getfield 16, 3) := by decide +kernel
theorem dX10_counts_11 : decode cX10_counts 11 = .ok (.iload_n 1, 1) := by decide +kernel
theorem dX10_counts_12 : decode cX10_counts 12 = .ok (.iaload, 1) := by decide +kernel
theorem dX10_counts_13 : decode cX10_counts 13 = .ok (.invokestatic 90, 3) := by decide +kernel
theorem dX10_counts_16 : decode cX10_counts 16 = .ok (.ifCond .ne 5, 3) := by decide +kernel
theorem dX10_counts_19 : decode cX10_counts 19 = .ok (.iconst 0, 1) := by decide +kernel
theorem dX10_counts_20 : decode cX10_counts 20 = .ok (.ireturn, 1) := by decide +kernel
theorem dX10_counts_21 : decode cX10_counts 21 = .ok (.iconst 1, 1) := by decide +kernel
theorem dX10_counts_22 : decode cX10_counts 22 = .ok (.istore_n 3, 1) := by decide +kernel
theorem dX10_counts_23 : decode cX10_counts 23 = .ok (.iconst 0, 1) := by decide +kernel
theorem dX10_counts_24 : decode cX10_counts 24 = .ok (.istore 4, 2) := by decide +kernel
theorem dX10_counts_26 : decode cX10_counts 26 = .ok (.iload 4, 2) := by decide +kernel
theorem dX10_counts_28 : decode cX10_counts 28 = .ok (.aload_n 0, 1) := by decide +kernel
theorem dX10_counts_29 : decode cX10_counts 29 = .ok (.getfield 108, 3) := by decide +kernel
theorem dX10_counts_32 : decode cX10_counts 32 = .ok (.if_icmp .ge 86, 3) := by decide +kernel
theorem dX10_counts_35 : decode cX10_counts 35 = .ok (.aload_n 0, 1) := by decide +kernel
theorem dX10_counts_36 : decode cX10_counts 36 = .ok (.getfield 41, 3) := by decide +kernel
theorem dX10_counts_39 : decode cX10_counts 39 = .ok (.aload_n 0, 1) := by decide +kernel
theorem dX10_counts_40 : decode cX10_counts 40 = .ok (.getfield 7, 3) := by decide +kernel
theorem dX10_counts_43 : decode cX10_counts 43 = .ok (.iload_n 1, 1) := by decide +kernel
theorem dX10_counts_44 : decode cX10_counts 44 = .ok (.iaload, 1) := by decide +kernel
theorem dX10_counts_45 : decode cX10_counts 45 = .ok (.baload, 1) := by decide +kernel
theorem dX10_counts_46 : decode cX10_counts 46 = .ok (.ifCond .eq 72, 3) := by decide +kernel
theorem dX10_counts_49 : decode cX10_counts 49 = .ok (.iload_n 3, 1) := by decide +kernel
theorem dX10_counts_50 : decode cX10_counts 50 = .ok (.ifCond .eq 60, 3) := by decide +kernel
theorem dX10_counts_53 : decode cX10_counts 53 = .ok (.aload_n 0, 1) := by decide +kernel
theorem dX10_counts_54 : decode cX10_counts 54 = .ok (.getfield 7, 3) := by decide +kernel
theorem dX10_counts_57 : decode cX10_counts 57 = .ok (.iload 4, 2) := by decide +kernel
theorem dX10_counts_59 : decode cX10_counts 59 = .ok (.iaload, 1) := by decide +kernel
theorem dX10_counts_60 : decode cX10_counts 60 = .ok (.aload_n 0, 1) := by decide +kernel
theorem dX10_counts_61 : decode cX10_counts 61 = .ok (.getfield 7, 3) := by decide +kernel
theorem dX10_counts_64 : decode cX10_counts 64 = .ok (.iload_n 1, 1) := by decide +kernel
theorem dX10_counts_65 : decode cX10_counts 65 = .ok (.iaload, 1) := by decide +kernel
theorem dX10_counts_66 : decode cX10_counts 66 = .ok (.if_icmp .ne 40, 3) := by decide +kernel
theorem dX10_counts_69 : decode cX10_counts 69 = .ok (.iload_n 2, 1) := by decide +kernel
theorem dX10_counts_70 : decode cX10_counts 70 = .ok (.aload_n 0, 1) := by decide +kernel
theorem dX10_counts_71 : decode cX10_counts 71 = .ok (.getfield 13, 3) := by decide +kernel
theorem dX10_counts_74 : decode cX10_counts 74 = .ok (.iload 4, 2) := by decide +kernel
theorem dX10_counts_76 : decode cX10_counts 76 = .ok (.iaload, 1) := by decide +kernel
theorem dX10_counts_77 : decode cX10_counts 77 = .ok (.aload_n 0, 1) := by decide +kernel
theorem dX10_counts_78 : decode cX10_counts 78 = .ok (.getfield 16, 3) := by decide +kernel
theorem dX10_counts_81 : decode cX10_counts 81 = .ok (.iload 4, 2) := by decide +kernel
theorem dX10_counts_83 : decode cX10_counts 83 = .ok (.iaload, 1) := by decide +kernel
theorem dX10_counts_84 : decode cX10_counts 84 = .ok (.invokestatic 90, 3) := by decide +kernel
theorem dX10_counts_87 : decode cX10_counts 87 = .ok (.ifCond .eq 19, 3) := by decide +kernel
theorem dX10_counts_90 : decode cX10_counts 90 = .ok (.aload_n 0, 1) := by decide +kernel
theorem dX10_counts_91 : decode cX10_counts 91 = .ok (.getfield 25, 3) := by decide +kernel
theorem dX10_counts_94 : decode cX10_counts 94 = .ok (.iload 4, 2) := by decide +kernel
theorem dX10_counts_96 : decode cX10_counts 96 = .ok (.iaload, 1) := by decide +kernel
theorem dX10_counts_97 : decode cX10_counts 97 = .ok (.aload_n 0, 1) := by decide +kernel
theorem dX10_counts_98 : decode cX10_counts 98 = .ok (.getfield 25, 3) := by decide +kernel
theorem dX10_counts_101 : decode cX10_counts 101 = .ok (.iload_n 1, 1) := by decide +kernel
theorem dX10_counts_102 : decode cX10_counts 102 = .ok (.iaload, 1) := by decide +kernel
theorem dX10_counts_103 : decode cX10_counts 103 = .ok (.if_icmp .gt 7, 3) := by decide +kernel
theorem dX10_counts_106 : decode cX10_counts 106 = .ok (.iconst 1, 1) := by decide +kernel
theorem dX10_counts_107 : decode cX10_counts 107 = .ok (.goto 4, 3) := by decide +kernel
theorem dX10_counts_110 : decode cX10_counts 110 = .ok (.iconst 0, 1) := by decide +kernel
theorem dX10_counts_111 : decode cX10_counts 111 = .ok (.istore_n 3, 1) := by decide +kernel
theorem dX10_counts_112 : decode cX10_counts 112 = .ok (.iinc 4 1, 3) := by decide +kernel
theorem dX10_counts_115 : decode cX10_counts 115 = .ok (.goto (-89), 3) := by decide +kernel
theorem dX10_counts_118 : decode cX10_counts 118 = .ok (.iload_n 3, 1) := by decide +kernel
theorem dX10_counts_119 : decode cX10_counts 119 = .ok (.ireturn, 1) := by decide +kernel
theorem dX10_said_0 : decode cX10_said 0 = .ok (.iload_n 1, 1) := by decide +kernel
theorem dX10_said_1 : decode cX10_said 1 = .ok (.iconst 0, 1) := by decide +kernel
theorem dX10_said_2 : decode cX10_said 2 = .ok (.aload_n 0, 1) := by decide +kernel
theorem dX10_said_3 : decode cX10_said 3 = .ok (.getfield 108, 3) := by decide +kernel
theorem dX10_said_6 : decode cX10_said 6 = .ok (.iconst 1, 1) := by decide +kernel
theorem dX10_said_7 : decode cX10_said 7 = .ok (.isub, 1) := by decide +kernel
theorem dX10_said_8 : decode cX10_said 8 = .ok (.invokestatic 90, 3) := by decide +kernel
theorem dX10_said_11 : decode cX10_said 11 = .ok (.ifCond .ne 5, 3) := by decide +kernel
theorem dX10_said_14 : decode cX10_said 14 = .ok (.iconst (-1), 1) := by decide +kernel
theorem dX10_said_15 : decode cX10_said 15 = .ok (.ireturn, 1) := by decide +kernel
theorem dX10_said_16 : decode cX10_said 16 = .ok (.iconst 0, 1) := by decide +kernel
theorem dX10_said_17 : decode cX10_said 17 = .ok (.istore_n 3, 1) := by decide +kernel
theorem dX10_said_18 : decode cX10_said 18 = .ok (.iload_n 2, 1) := by decide +kernel
theorem dX10_said_19 : decode cX10_said 19 = .ok (.tableswitch 110 0 4 #[33, 40, 52, 64, 71], 33) := by decide +kernel
theorem dX10_said_52 : decode cX10_said 52 = .ok (.aload_n 0, 1) := by decide +kernel
theorem dX10_said_53 : decode cX10_said 53 = .ok (.getfield 7, 3) := by decide +kernel
theorem dX10_said_56 : decode cX10_said 56 = .ok (.iload_n 1, 1) := by decide +kernel
theorem dX10_said_57 : decode cX10_said 57 = .ok (.iaload, 1) := by decide +kernel
theorem dX10_said_58 : decode cX10_said 58 = .ok (.ireturn, 1) := by decide +kernel
theorem dX10_said_59 : decode cX10_said 59 = .ok (.aload_n 0, 1) := by decide +kernel
theorem dX10_said_60 : decode cX10_said 60 = .ok (.iload_n 1, 1) := by decide +kernel
theorem dX10_said_61 : decode cX10_said 61 = .ok (.aload_n 0, 1) := by decide +kernel
theorem dX10_said_62 : decode cX10_said 62 = .ok (.getfield 19, 3) := by decide +kernel
theorem dX10_said_65 : decode cX10_said 65 = .ok (.iload_n 1, 1) := by decide +kernel
theorem dX10_said_66 : decode cX10_said 66 = .ok (.iaload, 1) := by decide +kernel
theorem dX10_said_67 : decode cX10_said 67 = .ok (.invokevirtual 200, 3) := by decide +kernel
theorem dX10_said_70 : decode cX10_said 70 = .ok (.ireturn, 1) := by decide +kernel
theorem dX10_said_71 : decode cX10_said 71 = .ok (.aload_n 0, 1) := by decide +kernel
theorem dX10_said_72 : decode cX10_said 72 = .ok (.iload_n 1, 1) := by decide +kernel
theorem dX10_said_73 : decode cX10_said 73 = .ok (.aload_n 0, 1) := by decide +kernel
theorem dX10_said_74 : decode cX10_said 74 = .ok (.getfield 22, 3) := by decide +kernel
theorem dX10_said_77 : decode cX10_said 77 = .ok (.iload_n 1, 1) := by decide +kernel
theorem dX10_said_78 : decode cX10_said 78 = .ok (.iaload, 1) := by decide +kernel
theorem dX10_said_79 : decode cX10_said 79 = .ok (.invokevirtual 200, 3) := by decide +kernel
theorem dX10_said_82 : decode cX10_said 82 = .ok (.ireturn, 1) := by decide +kernel
theorem dX10_said_83 : decode cX10_said 83 = .ok (.aload_n 0, 1) := by decide +kernel
theorem dX10_said_84 : decode cX10_said 84 = .ok (.getfield 25, 3) := by decide +kernel
theorem dX10_said_87 : decode cX10_said 87 = .ok (.iload_n 1, 1) := by decide +kernel
theorem dX10_said_88 : decode cX10_said 88 = .ok (.iaload, 1) := by decide +kernel
theorem dX10_said_89 : decode cX10_said 89 = .ok (.ireturn, 1) := by decide +kernel
theorem dX10_said_90 : decode cX10_said 90 = .ok (.iconst 0, 1) := by decide +kernel
theorem dX10_said_91 : decode cX10_said 91 = .ok (.istore 4, 2) := by decide +kernel
theorem dX10_said_93 : decode cX10_said 93 = .ok (.iload 4, 2) := by decide +kernel
theorem dX10_said_95 : decode cX10_said 95 = .ok (.bipush 10, 2) := by decide +kernel
theorem dX10_said_97 : decode cX10_said 97 = .ok (.if_icmp .ge 30, 3) := by decide +kernel
theorem dX10_said_100 : decode cX10_said 100 = .ok (.iload_n 3, 1) := by decide +kernel
theorem dX10_said_101 : decode cX10_said 101 = .ok (.aload_n 0, 1) := by decide +kernel
theorem dX10_said_102 : decode cX10_said 102 = .ok (.iload_n 1, 1) := by decide +kernel
theorem dX10_said_103 : decode cX10_said 103 = .ok (.iload 4, 2) := by decide +kernel
theorem dX10_said_105 : decode cX10_said 105 = .ok (.invokevirtual 204, 3) := by decide +kernel
theorem dX10_said_108 : decode cX10_said 108 = .ok (.ifCond .eq 10, 3) := by decide +kernel
theorem dX10_said_111 : decode cX10_said 111 = .ok (.iconst 1, 1) := by decide +kernel
theorem dX10_said_112 : decode cX10_said 112 = .ok (.iload 4, 2) := by decide +kernel
theorem dX10_said_114 : decode cX10_said 114 = .ok (.ishl, 1) := by decide +kernel
theorem dX10_said_115 : decode cX10_said 115 = .ok (.goto 4, 3) := by decide +kernel
theorem dX10_said_118 : decode cX10_said 118 = .ok (.iconst 0, 1) := by decide +kernel
theorem dX10_said_119 : decode cX10_said 119 = .ok (.ior, 1) := by decide +kernel
theorem dX10_said_120 : decode cX10_said 120 = .ok (.istore_n 3, 1) := by decide +kernel
theorem dX10_said_121 : decode cX10_said 121 = .ok (.iinc 4 1, 3) := by decide +kernel
theorem dX10_said_124 : decode cX10_said 124 = .ok (.goto (-31), 3) := by decide +kernel
theorem dX10_said_127 : decode cX10_said 127 = .ok (.iload_n 3, 1) := by decide +kernel
theorem dX10_said_128 : decode cX10_said 128 = .ok (.ireturn, 1) := by decide +kernel
theorem dX10_said_129 : decode cX10_said 129 = .ok (.iconst (-1), 1) := by decide +kernel
theorem dX10_said_130 : decode cX10_said 130 = .ok (.ireturn, 1) := by decide +kernel
theorem dX10_costAt_0 : decode cX10_costAt 0 = .ok (.iconst 0, 1) := by decide +kernel
theorem dX10_costAt_1 : decode cX10_costAt 1 = .ok (.istore_n 3, 1) := by decide +kernel
theorem dX10_costAt_2 : decode cX10_costAt 2 = .ok (.iconst 0, 1) := by decide +kernel
theorem dX10_costAt_3 : decode cX10_costAt 3 = .ok (.istore 4, 2) := by decide +kernel
theorem dX10_costAt_5 : decode cX10_costAt 5 = .ok (.iload 4, 2) := by decide +kernel
theorem dX10_costAt_7 : decode cX10_costAt 7 = .ok (.aload_n 0, 1) := by decide +kernel
theorem dX10_costAt_8 : decode cX10_costAt 8 = .ok (.getfield 108, 3) := by decide +kernel
theorem dX10_costAt_11 : decode cX10_costAt 11 = .ok (.if_icmp .ge 95, 3) := by decide +kernel
theorem dX10_costAt_14 : decode cX10_costAt 14 = .ok (.aload_n 0, 1) := by decide +kernel
theorem dX10_costAt_15 : decode cX10_costAt 15 = .ok (.iload 4, 2) := by decide +kernel
theorem dX10_costAt_17 : decode cX10_costAt 17 = .ok (.iload_n 1, 1) := by decide +kernel
theorem dX10_costAt_18 : decode cX10_costAt 18 = .ok (.invokevirtual 204, 3) := by decide +kernel
theorem dX10_costAt_21 : decode cX10_costAt 21 = .ok (.ifCond .ne 6, 3) := by decide +kernel
theorem dX10_costAt_24 : decode cX10_costAt 24 = .ok (.goto 76, 3) := by decide +kernel
theorem dX10_costAt_27 : decode cX10_costAt 27 = .ok (.aload_n 0, 1) := by decide +kernel
theorem dX10_costAt_28 : decode cX10_costAt 28 = .ok (.iload 4, 2) := by decide +kernel
theorem dX10_costAt_30 : decode cX10_costAt 30 = .ok (.aload_n 0, 1) := by decide +kernel
theorem dX10_costAt_31 : decode cX10_costAt 31 = .ok (.getfield 19, 3) := by decide +kernel
theorem dX10_costAt_34 : decode cX10_costAt 34 = .ok (.iload 4, 2) := by decide +kernel
theorem dX10_costAt_36 : decode cX10_costAt 36 = .ok (.iaload, 1) := by decide +kernel
theorem dX10_costAt_37 : decode cX10_costAt 37 = .ok (.invokevirtual 200, 3) := by decide +kernel
theorem dX10_costAt_40 : decode cX10_costAt 40 = .ok (.istore 5, 2) := by decide +kernel
theorem dX10_costAt_42 : decode cX10_costAt 42 = .ok (.aload_n 0, 1) := by decide +kernel
theorem dX10_costAt_43 : decode cX10_costAt 43 = .ok (.iload 4, 2) := by decide +kernel
theorem dX10_costAt_45 : decode cX10_costAt 45 = .ok (.aload_n 0, 1) := by decide +kernel
theorem dX10_costAt_46 : decode cX10_costAt 46 = .ok (.getfield 22, 3) := by decide +kernel
theorem dX10_costAt_49 : decode cX10_costAt 49 = .ok (.iload 4, 2) := by decide +kernel
theorem dX10_costAt_51 : decode cX10_costAt 51 = .ok (.iaload, 1) := by decide +kernel
theorem dX10_costAt_52 : decode cX10_costAt 52 = .ok (.invokevirtual 200, 3) := by decide +kernel
theorem dX10_costAt_55 : decode cX10_costAt 55 = .ok (.istore 6, 2) := by decide +kernel
theorem dX10_costAt_57 : decode cX10_costAt 57 = .ok (.iload_n 3, 1) := by decide +kernel
theorem dX10_costAt_58 : decode cX10_costAt 58 = .ok (.aload_n 0, 1) := by decide +kernel
theorem dX10_costAt_59 : decode cX10_costAt 59 = .ok (.getfield 38, 3) := by decide +kernel
theorem dX10_costAt_62 : decode cX10_costAt 62 = .ok (.aload_n 0, 1) := by decide +kernel
theorem dX10_costAt_63 : decode cX10_costAt 63 = .ok (.getfield 7, 3) := by decide +kernel
theorem dX10_costAt_66 : decode cX10_costAt 66 = .ok (.iload 4, 2) := by decide +kernel
theorem dX10_costAt_68 : decode cX10_costAt 68 = .ok (.iaload, 1) := by decide +kernel
theorem dX10_costAt_69 : decode cX10_costAt 69 = .ok (.iaload, 1) := by decide +kernel
theorem dX10_costAt_70 : decode cX10_costAt 70 = .ok (.iload_n 2, 1) := by decide +kernel
theorem dX10_costAt_71 : decode cX10_costAt 71 = .ok (.iload 5, 2) := by decide +kernel
theorem dX10_costAt_73 : decode cX10_costAt 73 = .ok (.if_icmp .ge 10, 3) := by decide +kernel
theorem dX10_costAt_76 : decode cX10_costAt 76 = .ok (.iload 5, 2) := by decide +kernel
theorem dX10_costAt_78 : decode cX10_costAt 78 = .ok (.iload_n 2, 1) := by decide +kernel
theorem dX10_costAt_79 : decode cX10_costAt 79 = .ok (.isub, 1) := by decide +kernel
theorem dX10_costAt_80 : decode cX10_costAt 80 = .ok (.goto 17, 3) := by decide +kernel
theorem dX10_costAt_83 : decode cX10_costAt 83 = .ok (.iload_n 2, 1) := by decide +kernel
theorem dX10_costAt_84 : decode cX10_costAt 84 = .ok (.iload 6, 2) := by decide +kernel
theorem dX10_costAt_86 : decode cX10_costAt 86 = .ok (.if_icmp .le 10, 3) := by decide +kernel
theorem dX10_costAt_89 : decode cX10_costAt 89 = .ok (.iload_n 2, 1) := by decide +kernel
theorem dX10_costAt_90 : decode cX10_costAt 90 = .ok (.iload 6, 2) := by decide +kernel
theorem dX10_costAt_92 : decode cX10_costAt 92 = .ok (.isub, 1) := by decide +kernel
theorem dX10_costAt_93 : decode cX10_costAt 93 = .ok (.goto 4, 3) := by decide +kernel
theorem dX10_costAt_96 : decode cX10_costAt 96 = .ok (.iconst 0, 1) := by decide +kernel
theorem dX10_costAt_97 : decode cX10_costAt 97 = .ok (.imul, 1) := by decide +kernel
theorem dX10_costAt_98 : decode cX10_costAt 98 = .ok (.iadd, 1) := by decide +kernel
theorem dX10_costAt_99 : decode cX10_costAt 99 = .ok (.istore_n 3, 1) := by decide +kernel
theorem dX10_costAt_100 : decode cX10_costAt 100 = .ok (.iinc 4 1, 3) := by decide +kernel
theorem dX10_costAt_103 : decode cX10_costAt 103 = .ok (.goto (-98), 3) := by decide +kernel
theorem dX10_costAt_106 : decode cX10_costAt 106 = .ok (.iload_n 3, 1) := by decide +kernel
theorem dX10_costAt_107 : decode cX10_costAt 107 = .ok (.ireturn, 1) := by decide +kernel
theorem dX10_abs_0 : decode cX10_abs 0 = .ok (.iload_n 0, 1) := by decide +kernel
theorem dX10_abs_1 : decode cX10_abs 1 = .ok (.ifCond .ge 8, 3) := by decide +kernel
theorem dX10_abs_4 : decode cX10_abs 4 = .ok (.iload_n 0, 1) := by decide +kernel
theorem dX10_abs_5 : decode cX10_abs 5 = .ok (.ineg, 1) := by decide +kernel
theorem dX10_abs_6 : decode cX10_abs 6 = .ok (.goto 4, 3) := by decide +kernel
theorem dX10_abs_9 : decode cX10_abs 9 = .ok (.iload_n 0, 1) := by decide +kernel
theorem dX10_abs_10 : decode cX10_abs 10 = .ok (.ireturn, 1) := by decide +kernel
theorem dX10_lines_0 : decode cX10_lines 0 = .ok (.bipush 9, 2) := by decide +kernel
theorem dX10_lines_2 : decode cX10_lines 2 = .ok (.istore_n 1, 1) := by decide +kernel
theorem dX10_lines_3 : decode cX10_lines 3 = .ok (.iload_n 1, 1) := by decide +kernel
theorem dX10_lines_4 : decode cX10_lines 4 = .ok (.ifCond .lt 115, 3) := by decide +kernel
theorem dX10_lines_7 : decode cX10_lines 7 = .ok (.iconst 0, 1) := by decide +kernel
theorem dX10_lines_8 : decode cX10_lines 8 = .ok (.istore_n 2, 1) := by decide +kernel
theorem dX10_lines_9 : decode cX10_lines 9 = .ok (.iload_n 2, 1) := by decide +kernel
theorem dX10_lines_10 : decode cX10_lines 10 = .ok (.bipush 80, 2) := by decide +kernel
theorem dX10_lines_12 : decode cX10_lines 12 = .ok (.if_icmp .ge 101, 3) := by decide +kernel
theorem dX10_lines_15 : decode cX10_lines 15 = .ok (.iconst 0, 1) := by decide +kernel
theorem dX10_lines_16 : decode cX10_lines 16 = .ok (.istore_n 3, 1) := by decide +kernel
theorem dX10_lines_17 : decode cX10_lines 17 = .ok (.iconst 0, 1) := by decide +kernel
theorem dX10_lines_18 : decode cX10_lines 18 = .ok (.istore 4, 2) := by decide +kernel
theorem dX10_lines_20 : decode cX10_lines 20 = .ok (.iload 4, 2) := by decide +kernel
theorem dX10_lines_22 : decode cX10_lines 22 = .ok (.bipush 80, 2) := by decide +kernel
theorem dX10_lines_24 : decode cX10_lines 24 = .ok (.if_icmp .ge 64, 3) := by decide +kernel
theorem dX10_lines_27 : decode cX10_lines 27 = .ok (.iload_n 1, 1) := by decide +kernel
theorem dX10_lines_28 : decode cX10_lines 28 = .ok (.iconst 1, 1) := by decide +kernel
theorem dX10_lines_29 : decode cX10_lines 29 = .ok (.iadd, 1) := by decide +kernel
theorem dX10_lines_30 : decode cX10_lines 30 = .ok (.bipush 10, 2) := by decide +kernel
theorem dX10_lines_32 : decode cX10_lines 32 = .ok (.if_icmp .ge 56, 3) := by decide +kernel
theorem dX10_lines_35 : decode cX10_lines 35 = .ok (.aload_n 0, 1) := by decide +kernel
theorem dX10_lines_36 : decode cX10_lines 36 = .ok (.getfield 54, 3) := by decide +kernel
theorem dX10_lines_39 : decode cX10_lines 39 = .ok (.bipush 80, 2) := by decide +kernel
theorem dX10_lines_41 : decode cX10_lines 41 = .ok (.iload_n 1, 1) := by decide +kernel
theorem dX10_lines_42 : decode cX10_lines 42 = .ok (.iconst 1, 1) := by decide +kernel
theorem dX10_lines_43 : decode cX10_lines 43 = .ok (.iadd, 1) := by decide +kernel
theorem dX10_lines_44 : decode cX10_lines 44 = .ok (.imul, 1) := by decide +kernel
theorem dX10_lines_45 : decode cX10_lines 45 = .ok (.iload 4, 2) := by decide +kernel
theorem dX10_lines_47 : decode cX10_lines 47 = .ok (.iadd, 1) := by decide +kernel
theorem dX10_lines_48 : decode cX10_lines 48 = .ok (.iaload, 1) := by decide +kernel
theorem dX10_lines_49 : decode cX10_lines 49 = .ok (.aload_n 0, 1) := by decide +kernel
theorem dX10_lines_50 : decode cX10_lines 50 = .ok (.getfield 35, 3) := by decide +kernel
theorem dX10_lines_53 : decode cX10_lines 53 = .ok (.iload_n 2, 1) := by decide +kernel
theorem dX10_lines_54 : decode cX10_lines 54 = .ok (.iload 4, 2) := by decide +kernel
theorem dX10_lines_56 : decode cX10_lines 56 = .ok (.isub, 1) := by decide +kernel
theorem dX10_lines_57 : decode cX10_lines 57 = .ok (.invokestatic 207, 3) := by decide +kernel
theorem dX10_lines_60 : decode cX10_lines 60 = .ok (.imul, 1) := by decide +kernel
theorem dX10_lines_61 : decode cX10_lines 61 = .ok (.iadd, 1) := by decide +kernel
theorem dX10_lines_62 : decode cX10_lines 62 = .ok (.istore 5, 2) := by decide +kernel
theorem dX10_lines_64 : decode cX10_lines 64 = .ok (.iload 4, 2) := by decide +kernel
theorem dX10_lines_66 : decode cX10_lines 66 = .ok (.ifCond .eq 9, 3) := by decide +kernel
theorem dX10_lines_69 : decode cX10_lines 69 = .ok (.iload 5, 2) := by decide +kernel
theorem dX10_lines_71 : decode cX10_lines 71 = .ok (.iload_n 3, 1) := by decide +kernel
theorem dX10_lines_72 : decode cX10_lines 72 = .ok (.if_icmp .ge 8, 3) := by decide +kernel
theorem dX10_lines_75 : decode cX10_lines 75 = .ok (.iload 5, 2) := by decide +kernel
theorem dX10_lines_77 : decode cX10_lines 77 = .ok (.goto 4, 3) := by decide +kernel
theorem dX10_lines_80 : decode cX10_lines 80 = .ok (.iload_n 3, 1) := by decide +kernel
theorem dX10_lines_81 : decode cX10_lines 81 = .ok (.istore_n 3, 1) := by decide +kernel
theorem dX10_lines_82 : decode cX10_lines 82 = .ok (.iinc 4 1, 3) := by decide +kernel
theorem dX10_lines_85 : decode cX10_lines 85 = .ok (.goto (-65), 3) := by decide +kernel
theorem dX10_lines_88 : decode cX10_lines 88 = .ok (.aload_n 0, 1) := by decide +kernel
theorem dX10_lines_89 : decode cX10_lines 89 = .ok (.getfield 54, 3) := by decide +kernel
theorem dX10_lines_92 : decode cX10_lines 92 = .ok (.bipush 80, 2) := by decide +kernel
theorem dX10_lines_94 : decode cX10_lines 94 = .ok (.iload_n 1, 1) := by decide +kernel
theorem dX10_lines_95 : decode cX10_lines 95 = .ok (.imul, 1) := by decide +kernel
theorem dX10_lines_96 : decode cX10_lines 96 = .ok (.iload_n 2, 1) := by decide +kernel
theorem dX10_lines_97 : decode cX10_lines 97 = .ok (.iadd, 1) := by decide +kernel
theorem dX10_lines_98 : decode cX10_lines 98 = .ok (.aload_n 0, 1) := by decide +kernel
theorem dX10_lines_99 : decode cX10_lines 99 = .ok (.iload_n 1, 1) := by decide +kernel
theorem dX10_lines_100 : decode cX10_lines 100 = .ok (.iload_n 2, 1) := by decide +kernel
theorem dX10_lines_101 : decode cX10_lines 101 = .ok (.invokevirtual 210, 3) := by decide +kernel
theorem dX10_lines_104 : decode cX10_lines 104 = .ok (.iload_n 3, 1) := by decide +kernel
theorem dX10_lines_105 : decode cX10_lines 105 = .ok (.iadd, 1) := by decide +kernel
theorem dX10_lines_106 : decode cX10_lines 106 = .ok (.iastore, 1) := by decide +kernel
theorem dX10_lines_107 : decode cX10_lines 107 = .ok (.iinc 2 1, 3) := by decide +kernel
theorem dX10_lines_110 : decode cX10_lines 110 = .ok (.goto (-101), 3) := by decide +kernel
theorem dX10_lines_113 : decode cX10_lines 113 = .ok (.iinc 1 (-1), 3) := by decide +kernel
theorem dX10_lines_116 : decode cX10_lines 116 = .ok (.goto (-113), 3) := by decide +kernel
theorem dX10_lines_119 : decode cX10_lines 119 = .ok (.iconst 0, 1) := by decide +kernel
theorem dX10_lines_120 : decode cX10_lines 120 = .ok (.istore_n 1, 1) := by decide +kernel
theorem dX10_lines_121 : decode cX10_lines 121 = .ok (.iload_n 1, 1) := by decide +kernel
theorem dX10_lines_122 : decode cX10_lines 122 = .ok (.bipush 10, 2) := by decide +kernel
theorem dX10_lines_124 : decode cX10_lines 124 = .ok (.if_icmp .ge 49, 3) := by decide +kernel
theorem dX10_lines_127 : decode cX10_lines 127 = .ok (.iconst 0, 1) := by decide +kernel
theorem dX10_lines_128 : decode cX10_lines 128 = .ok (.istore_n 2, 1) := by decide +kernel
theorem dX10_lines_129 : decode cX10_lines 129 = .ok (.iconst 1, 1) := by decide +kernel
theorem dX10_lines_130 : decode cX10_lines 130 = .ok (.istore_n 3, 1) := by decide +kernel
theorem dX10_lines_131 : decode cX10_lines 131 = .ok (.iload_n 3, 1) := by decide +kernel
theorem dX10_lines_132 : decode cX10_lines 132 = .ok (.bipush 80, 2) := by decide +kernel
theorem dX10_lines_134 : decode cX10_lines 134 = .ok (.if_icmp .ge 26, 3) := by decide +kernel
theorem dX10_lines_137 : decode cX10_lines 137 = .ok (.aload_n 0, 1) := by decide +kernel
theorem dX10_lines_138 : decode cX10_lines 138 = .ok (.iload_n 1, 1) := by decide +kernel
theorem dX10_lines_139 : decode cX10_lines 139 = .ok (.iload_n 3, 1) := by decide +kernel
theorem dX10_lines_140 : decode cX10_lines 140 = .ok (.invokevirtual 213, 3) := by decide +kernel
theorem dX10_lines_143 : decode cX10_lines 143 = .ok (.aload_n 0, 1) := by decide +kernel
theorem dX10_lines_144 : decode cX10_lines 144 = .ok (.iload_n 1, 1) := by decide +kernel
theorem dX10_lines_145 : decode cX10_lines 145 = .ok (.iload_n 2, 1) := by decide +kernel
theorem dX10_lines_146 : decode cX10_lines 146 = .ok (.invokevirtual 213, 3) := by decide +kernel
theorem dX10_lines_149 : decode cX10_lines 149 = .ok (.if_icmp .ge 5, 3) := by decide +kernel
theorem dX10_lines_152 : decode cX10_lines 152 = .ok (.iload_n 3, 1) := by decide +kernel
theorem dX10_lines_153 : decode cX10_lines 153 = .ok (.istore_n 2, 1) := by decide +kernel
theorem dX10_lines_154 : decode cX10_lines 154 = .ok (.iinc 3 1, 3) := by decide +kernel
theorem dX10_lines_157 : decode cX10_lines 157 = .ok (.goto (-26), 3) := by decide +kernel
theorem dX10_lines_160 : decode cX10_lines 160 = .ok (.aload_n 0, 1) := by decide +kernel
theorem dX10_lines_161 : decode cX10_lines 161 = .ok (.getfield 57, 3) := by decide +kernel
theorem dX10_lines_164 : decode cX10_lines 164 = .ok (.iload_n 1, 1) := by decide +kernel
theorem dX10_lines_165 : decode cX10_lines 165 = .ok (.iload_n 2, 1) := by decide +kernel
theorem dX10_lines_166 : decode cX10_lines 166 = .ok (.iastore, 1) := by decide +kernel
theorem dX10_lines_167 : decode cX10_lines 167 = .ok (.iinc 1 1, 3) := by decide +kernel
theorem dX10_lines_170 : decode cX10_lines 170 = .ok (.goto (-49), 3) := by decide +kernel
theorem dX10_lines_173 : decode cX10_lines 173 = .ok (.return_, 1) := by decide +kernel
theorem dX10_onFrom_0 : decode cX10_onFrom 0 = .ok (.aload_n 0, 1) := by decide +kernel
theorem dX10_onFrom_1 : decode cX10_onFrom 1 = .ok (.getfield 54, 3) := by decide +kernel
theorem dX10_onFrom_4 : decode cX10_onFrom 4 = .ok (.bipush 80, 2) := by decide +kernel
theorem dX10_onFrom_6 : decode cX10_onFrom 6 = .ok (.iload_n 1, 1) := by decide +kernel
theorem dX10_onFrom_7 : decode cX10_onFrom 7 = .ok (.imul, 1) := by decide +kernel
theorem dX10_onFrom_8 : decode cX10_onFrom 8 = .ok (.iload_n 2, 1) := by decide +kernel
theorem dX10_onFrom_9 : decode cX10_onFrom 9 = .ok (.iadd, 1) := by decide +kernel
theorem dX10_onFrom_10 : decode cX10_onFrom 10 = .ok (.iaload, 1) := by decide +kernel
theorem dX10_onFrom_11 : decode cX10_onFrom 11 = .ok (.iload_n 1, 1) := by decide +kernel
theorem dX10_onFrom_12 : decode cX10_onFrom 12 = .ok (.ifCond .ne 7, 3) := by decide +kernel
theorem dX10_onFrom_15 : decode cX10_onFrom 15 = .ok (.iconst 0, 1) := by decide +kernel
theorem dX10_onFrom_16 : decode cX10_onFrom 16 = .ok (.goto 21, 3) := by decide +kernel
theorem dX10_onFrom_19 : decode cX10_onFrom 19 = .ok (.aload_n 0, 1) := by decide +kernel
theorem dX10_onFrom_20 : decode cX10_onFrom 20 = .ok (.getfield 35, 3) := by decide +kernel
theorem dX10_onFrom_23 : decode cX10_onFrom 23 = .ok (.iload_n 2, 1) := by decide +kernel
theorem dX10_onFrom_24 : decode cX10_onFrom 24 = .ok (.aload_n 0, 1) := by decide +kernel
theorem dX10_onFrom_25 : decode cX10_onFrom 25 = .ok (.getfield 57, 3) := by decide +kernel
theorem dX10_onFrom_28 : decode cX10_onFrom 28 = .ok (.iload_n 1, 1) := by decide +kernel
theorem dX10_onFrom_29 : decode cX10_onFrom 29 = .ok (.iconst 1, 1) := by decide +kernel
theorem dX10_onFrom_30 : decode cX10_onFrom 30 = .ok (.isub, 1) := by decide +kernel
theorem dX10_onFrom_31 : decode cX10_onFrom 31 = .ok (.iaload, 1) := by decide +kernel
theorem dX10_onFrom_32 : decode cX10_onFrom 32 = .ok (.isub, 1) := by decide +kernel
theorem dX10_onFrom_33 : decode cX10_onFrom 33 = .ok (.invokestatic 207, 3) := by decide +kernel
theorem dX10_onFrom_36 : decode cX10_onFrom 36 = .ok (.imul, 1) := by decide +kernel
theorem dX10_onFrom_37 : decode cX10_onFrom 37 = .ok (.iadd, 1) := by decide +kernel
theorem dX10_onFrom_38 : decode cX10_onFrom 38 = .ok (.ireturn, 1) := by decide +kernel
theorem dX10_paper_0 : decode cX10_paper 0 = .ok (.iload_n 1, 1) := by decide +kernel
theorem dX10_paper_1 : decode cX10_paper 1 = .ok (.iconst (-1), 1) := by decide +kernel
theorem dX10_paper_2 : decode cX10_paper 2 = .ok (.bipush 9, 2) := by decide +kernel
theorem dX10_paper_4 : decode cX10_paper 4 = .ok (.invokestatic 90, 3) := by decide +kernel
theorem dX10_paper_7 : decode cX10_paper 7 = .ok (.ifCond .ne 6, 3) := by decide +kernel
theorem dX10_paper_10 : decode cX10_paper 10 = .ok (.bipush (-2), 2) := by decide +kernel
theorem dX10_paper_12 : decode cX10_paper 12 = .ok (.ireturn, 1) := by decide +kernel
theorem dX10_paper_13 : decode cX10_paper 13 = .ok (.aload_n 0, 1) := by decide +kernel
theorem dX10_paper_14 : decode cX10_paper 14 = .ok (.invokevirtual 216, 3) := by decide +kernel
theorem dX10_paper_17 : decode cX10_paper 17 = .ok (.iload_n 1, 1) := by decide +kernel
theorem dX10_paper_18 : decode cX10_paper 18 = .ok (.iconst (-1), 1) := by decide +kernel
theorem dX10_paper_19 : decode cX10_paper 19 = .ok (.if_icmp .ne 17, 3) := by decide +kernel
theorem dX10_paper_22 : decode cX10_paper 22 = .ok (.aload_n 0, 1) := by decide +kernel
theorem dX10_paper_23 : decode cX10_paper 23 = .ok (.getfield 54, 3) := by decide +kernel
theorem dX10_paper_26 : decode cX10_paper 26 = .ok (.aload_n 0, 1) := by decide +kernel
theorem dX10_paper_27 : decode cX10_paper 27 = .ok (.getfield 57, 3) := by decide +kernel
theorem dX10_paper_30 : decode cX10_paper 30 = .ok (.iconst 0, 1) := by decide +kernel
theorem dX10_paper_31 : decode cX10_paper 31 = .ok (.iaload, 1) := by decide +kernel
theorem dX10_paper_32 : decode cX10_paper 32 = .ok (.iaload, 1) := by decide +kernel
theorem dX10_paper_33 : decode cX10_paper 33 = .ok (.goto 9, 3) := by decide +kernel
theorem dX10_paper_36 : decode cX10_paper 36 = .ok (.aload_n 0, 1) := by decide +kernel
theorem dX10_paper_37 : decode cX10_paper 37 = .ok (.getfield 57, 3) := by decide +kernel
theorem dX10_paper_40 : decode cX10_paper 40 = .ok (.iload_n 1, 1) := by decide +kernel
theorem dX10_paper_41 : decode cX10_paper 41 = .ok (.iaload, 1) := by decide +kernel
theorem dX10_paper_42 : decode cX10_paper 42 = .ok (.ireturn, 1) := by decide +kernel
theorem dX10_straight_0 : decode cX10_straight 0 = .ok (.iload_n 1, 1) := by decide +kernel
theorem dX10_straight_1 : decode cX10_straight 1 = .ok (.invokestatic 102, 3) := by decide +kernel
theorem dX10_straight_4 : decode cX10_straight 4 = .ok (.ifCond .ne 5, 3) := by decide +kernel
theorem dX10_straight_7 : decode cX10_straight 7 = .ok (.iconst (-1), 1) := by decide +kernel
theorem dX10_straight_8 : decode cX10_straight 8 = .ok (.ireturn, 1) := by decide +kernel
theorem dX10_straight_9 : decode cX10_straight 9 = .ok (.iconst 0, 1) := by decide +kernel
theorem dX10_straight_10 : decode cX10_straight 10 = .ok (.istore_n 2, 1) := by decide +kernel
theorem dX10_straight_11 : decode cX10_straight 11 = .ok (.iconst 0, 1) := by decide +kernel
theorem dX10_straight_12 : decode cX10_straight 12 = .ok (.istore_n 3, 1) := by decide +kernel
theorem dX10_straight_13 : decode cX10_straight 13 = .ok (.iload_n 3, 1) := by decide +kernel
theorem dX10_straight_14 : decode cX10_straight 14 = .ok (.bipush 10, 2) := by decide +kernel
theorem dX10_straight_16 : decode cX10_straight 16 = .ok (.if_icmp .ge 18, 3) := by decide +kernel
theorem dX10_straight_19 : decode cX10_straight 19 = .ok (.iload_n 2, 1) := by decide +kernel
theorem dX10_straight_20 : decode cX10_straight 20 = .ok (.aload_n 0, 1) := by decide +kernel
theorem dX10_straight_21 : decode cX10_straight 21 = .ok (.iload_n 3, 1) := by decide +kernel
theorem dX10_straight_22 : decode cX10_straight 22 = .ok (.iload_n 1, 1) := by decide +kernel
theorem dX10_straight_23 : decode cX10_straight 23 = .ok (.invokevirtual 210, 3) := by decide +kernel
theorem dX10_straight_26 : decode cX10_straight 26 = .ok (.iadd, 1) := by decide +kernel
theorem dX10_straight_27 : decode cX10_straight 27 = .ok (.istore_n 2, 1) := by decide +kernel
theorem dX10_straight_28 : decode cX10_straight 28 = .ok (.iinc 3 1, 3) := by decide +kernel
theorem dX10_straight_31 : decode cX10_straight 31 = .ok (.goto (-18), 3) := by decide +kernel
theorem dX10_straight_34 : decode cX10_straight 34 = .ok (.iload_n 2, 1) := by decide +kernel
theorem dX10_straight_35 : decode cX10_straight 35 = .ok (.ireturn, 1) := by decide +kernel
theorem dX10_mow_0 : decode cX10_mow 0 = .ok (.iload_n 1, 1) := by decide +kernel
theorem dX10_mow_1 : decode cX10_mow 1 = .ok (.iconst 0, 1) := by decide +kernel
theorem dX10_mow_2 : decode cX10_mow 2 = .ok (.iconst 1, 1) := by decide +kernel
theorem dX10_mow_3 : decode cX10_mow 3 = .ok (.invokestatic 90, 3) := by decide +kernel
theorem dX10_mow_6 : decode cX10_mow 6 = .ok (.ifCond .eq 36, 3) := by decide +kernel
theorem dX10_mow_9 : decode cX10_mow 9 = .ok (.iload_n 2, 1) := by decide +kernel
theorem dX10_mow_10 : decode cX10_mow 10 = .ok (.iload_n 3, 1) := by decide +kernel
theorem dX10_mow_11 : decode cX10_mow 11 = .ok (.invokestatic 98, 3) := by decide +kernel
theorem dX10_mow_14 : decode cX10_mow 14 = .ok (.ifCond .eq 28, 3) := by decide +kernel
theorem dX10_mow_17 : decode cX10_mow 17 = .ok (.iload 4, 2) := by decide +kernel
theorem dX10_mow_19 : decode cX10_mow 19 = .ok (.invokestatic 102, 3) := by decide +kernel
theorem dX10_mow_22 : decode cX10_mow 22 = .ok (.ifCond .eq 20, 3) := by decide +kernel
theorem dX10_mow_25 : decode cX10_mow 25 = .ok (.iload 5, 2) := by decide +kernel
theorem dX10_mow_27 : decode cX10_mow 27 = .ok (.invokestatic 105, 3) := by decide +kernel
theorem dX10_mow_30 : decode cX10_mow 30 = .ok (.ifCond .eq 12, 3) := by decide +kernel
theorem dX10_mow_33 : decode cX10_mow 33 = .ok (.aload_n 0, 1) := by decide +kernel
theorem dX10_mow_34 : decode cX10_mow 34 = .ok (.getfield 197, 3) := by decide +kernel
theorem dX10_mow_37 : decode cX10_mow 37 = .ok (.bipush 60, 2) := by decide +kernel
theorem dX10_mow_39 : decode cX10_mow 39 = .ok (.if_icmp .ne 5, 3) := by decide +kernel
theorem dX10_mow_42 : decode cX10_mow 42 = .ok (.iconst 0, 1) := by decide +kernel
theorem dX10_mow_43 : decode cX10_mow 43 = .ok (.ireturn, 1) := by decide +kernel
theorem dX10_mow_44 : decode cX10_mow 44 = .ok (.aload_n 0, 1) := by decide +kernel
theorem dX10_mow_45 : decode cX10_mow 45 = .ok (.getfield 60, 3) := by decide +kernel
theorem dX10_mow_48 : decode cX10_mow 48 = .ok (.aload_n 0, 1) := by decide +kernel
theorem dX10_mow_49 : decode cX10_mow 49 = .ok (.getfield 197, 3) := by decide +kernel
theorem dX10_mow_52 : decode cX10_mow 52 = .ok (.iload_n 1, 1) := by decide +kernel
theorem dX10_mow_53 : decode cX10_mow 53 = .ok (.iastore, 1) := by decide +kernel
theorem dX10_mow_54 : decode cX10_mow 54 = .ok (.aload_n 0, 1) := by decide +kernel
theorem dX10_mow_55 : decode cX10_mow 55 = .ok (.getfield 63, 3) := by decide +kernel
theorem dX10_mow_58 : decode cX10_mow 58 = .ok (.aload_n 0, 1) := by decide +kernel
theorem dX10_mow_59 : decode cX10_mow 59 = .ok (.getfield 197, 3) := by decide +kernel
theorem dX10_mow_62 : decode cX10_mow 62 = .ok (.iload_n 2, 1) := by decide +kernel
theorem dX10_mow_63 : decode cX10_mow 63 = .ok (.iastore, 1) := by decide +kernel
theorem dX10_mow_64 : decode cX10_mow 64 = .ok (.aload_n 0, 1) := by decide +kernel
theorem dX10_mow_65 : decode cX10_mow 65 = .ok (.getfield 66, 3) := by decide +kernel
theorem dX10_mow_68 : decode cX10_mow 68 = .ok (.aload_n 0, 1) := by decide +kernel
theorem dX10_mow_69 : decode cX10_mow 69 = .ok (.getfield 197, 3) := by decide +kernel
theorem dX10_mow_72 : decode cX10_mow 72 = .ok (.iload_n 3, 1) := by decide +kernel
theorem dX10_mow_73 : decode cX10_mow 73 = .ok (.iastore, 1) := by decide +kernel
theorem dX10_mow_74 : decode cX10_mow 74 = .ok (.aload_n 0, 1) := by decide +kernel
theorem dX10_mow_75 : decode cX10_mow 75 = .ok (.getfield 69, 3) := by decide +kernel
theorem dX10_mow_78 : decode cX10_mow 78 = .ok (.aload_n 0, 1) := by decide +kernel
theorem dX10_mow_79 : decode cX10_mow 79 = .ok (.getfield 197, 3) := by decide +kernel
theorem dX10_mow_82 : decode cX10_mow 82 = .ok (.iload 4, 2) := by decide +kernel
theorem dX10_mow_84 : decode cX10_mow 84 = .ok (.iastore, 1) := by decide +kernel
theorem dX10_mow_85 : decode cX10_mow 85 = .ok (.aload_n 0, 1) := by decide +kernel
theorem dX10_mow_86 : decode cX10_mow 86 = .ok (.getfield 72, 3) := by decide +kernel
theorem dX10_mow_89 : decode cX10_mow 89 = .ok (.aload_n 0, 1) := by decide +kernel
theorem dX10_mow_90 : decode cX10_mow 90 = .ok (.getfield 197, 3) := by decide +kernel
theorem dX10_mow_93 : decode cX10_mow 93 = .ok (.iload 5, 2) := by decide +kernel
theorem dX10_mow_95 : decode cX10_mow 95 = .ok (.iastore, 1) := by decide +kernel
theorem dX10_mow_96 : decode cX10_mow 96 = .ok (.aload_n 0, 1) := by decide +kernel
theorem dX10_mow_97 : decode cX10_mow 97 = .ok (.dup, 1) := by decide +kernel
theorem dX10_mow_98 : decode cX10_mow 98 = .ok (.getfield 197, 3) := by decide +kernel
theorem dX10_mow_101 : decode cX10_mow 101 = .ok (.iconst 1, 1) := by decide +kernel
theorem dX10_mow_102 : decode cX10_mow 102 = .ok (.iadd, 1) := by decide +kernel
theorem dX10_mow_103 : decode cX10_mow 103 = .ok (.putfield 197, 3) := by decide +kernel
theorem dX10_mow_106 : decode cX10_mow 106 = .ok (.iconst 1, 1) := by decide +kernel
theorem dX10_mow_107 : decode cX10_mow 107 = .ok (.ireturn, 1) := by decide +kernel
theorem dX10_isProtested_0 : decode cX10_isProtested 0 = .ok (.iconst 0, 1) := by decide +kernel
theorem dX10_isProtested_1 : decode cX10_isProtested 1 = .ok (.istore_n 3, 1) := by decide +kernel
theorem dX10_isProtested_2 : decode cX10_isProtested 2 = .ok (.iconst 0, 1) := by decide +kernel
theorem dX10_isProtested_3 : decode cX10_isProtested 3 = .ok (.istore 4, 2) := by decide +kernel
theorem dX10_isProtested_5 : decode cX10_isProtested 5 = .ok (.iload 4, 2) := by decide +kernel
theorem dX10_isProtested_7 : decode cX10_isProtested 7 = .ok (.aload_n 0, 1) := by decide +kernel
theorem dX10_isProtested_8 : decode cX10_isProtested 8 = .ok (.getfield 218, 3) := by decide +kernel
theorem dX10_isProtested_11 : decode cX10_isProtested 11 = .ok (.if_icmp .ge 41, 3) := by decide +kernel
theorem dX10_isProtested_14 : decode cX10_isProtested 14 = .ok (.iload_n 3, 1) := by decide +kernel
theorem dX10_isProtested_15 : decode cX10_isProtested 15 = .ok (.ifCond .ne 25, 3) := by decide +kernel
theorem dX10_isProtested_18 : decode cX10_isProtested 18 = .ok (.aload_n 0, 1) := by decide +kernel
theorem dX10_isProtested_19 : decode cX10_isProtested 19 = .ok (.getfield 75, 3) := by decide +kernel
theorem dX10_isProtested_22 : decode cX10_isProtested 22 = .ok (.iload 4, 2) := by decide +kernel
theorem dX10_isProtested_24 : decode cX10_isProtested 24 = .ok (.iaload, 1) := by decide +kernel
theorem dX10_isProtested_25 : decode cX10_isProtested 25 = .ok (.iload_n 1, 1) := by decide +kernel
theorem dX10_isProtested_26 : decode cX10_isProtested 26 = .ok (.if_icmp .ne 18, 3) := by decide +kernel
theorem dX10_isProtested_29 : decode cX10_isProtested 29 = .ok (.aload_n 0, 1) := by decide +kernel
theorem dX10_isProtested_30 : decode cX10_isProtested 30 = .ok (.getfield 78, 3) := by decide +kernel
theorem dX10_isProtested_33 : decode cX10_isProtested 33 = .ok (.iload 4, 2) := by decide +kernel
theorem dX10_isProtested_35 : decode cX10_isProtested 35 = .ok (.iaload, 1) := by decide +kernel
theorem dX10_isProtested_36 : decode cX10_isProtested 36 = .ok (.iload_n 2, 1) := by decide +kernel
theorem dX10_isProtested_37 : decode cX10_isProtested 37 = .ok (.if_icmp .ne 7, 3) := by decide +kernel
theorem dX10_isProtested_40 : decode cX10_isProtested 40 = .ok (.iconst 1, 1) := by decide +kernel
theorem dX10_isProtested_41 : decode cX10_isProtested 41 = .ok (.goto 4, 3) := by decide +kernel
theorem dX10_isProtested_44 : decode cX10_isProtested 44 = .ok (.iconst 0, 1) := by decide +kernel
theorem dX10_isProtested_45 : decode cX10_isProtested 45 = .ok (.istore_n 3, 1) := by decide +kernel
theorem dX10_isProtested_46 : decode cX10_isProtested 46 = .ok (.iinc 4 1, 3) := by decide +kernel
theorem dX10_isProtested_49 : decode cX10_isProtested 49 = .ok (.goto (-44), 3) := by decide +kernel
theorem dX10_isProtested_52 : decode cX10_isProtested 52 = .ok (.iload_n 3, 1) := by decide +kernel
theorem dX10_isProtested_53 : decode cX10_isProtested 53 = .ok (.ireturn, 1) := by decide +kernel
theorem dX10_protest_0 : decode cX10_protest 0 = .ok (.iload_n 1, 1) := by decide +kernel
theorem dX10_protest_1 : decode cX10_protest 1 = .ok (.invokestatic 94, 3) := by decide +kernel
theorem dX10_protest_4 : decode cX10_protest 4 = .ok (.ifCond .eq 28, 3) := by decide +kernel
theorem dX10_protest_7 : decode cX10_protest 7 = .ok (.iload_n 2, 1) := by decide +kernel
theorem dX10_protest_8 : decode cX10_protest 8 = .ok (.invokestatic 105, 3) := by decide +kernel
theorem dX10_protest_11 : decode cX10_protest 11 = .ok (.ifCond .eq 21, 3) := by decide +kernel
theorem dX10_protest_14 : decode cX10_protest 14 = .ok (.aload_n 0, 1) := by decide +kernel
theorem dX10_protest_15 : decode cX10_protest 15 = .ok (.iload_n 1, 1) := by decide +kernel
theorem dX10_protest_16 : decode cX10_protest 16 = .ok (.iload_n 2, 1) := by decide +kernel
theorem dX10_protest_17 : decode cX10_protest 17 = .ok (.invokevirtual 221, 3) := by decide +kernel
theorem dX10_protest_20 : decode cX10_protest 20 = .ok (.ifCond .ne 12, 3) := by decide +kernel
theorem dX10_protest_23 : decode cX10_protest 23 = .ok (.aload_n 0, 1) := by decide +kernel
theorem dX10_protest_24 : decode cX10_protest 24 = .ok (.getfield 218, 3) := by decide +kernel
theorem dX10_protest_27 : decode cX10_protest 27 = .ok (.bipush 20, 2) := by decide +kernel
theorem dX10_protest_29 : decode cX10_protest 29 = .ok (.if_icmp .ne 5, 3) := by decide +kernel
theorem dX10_protest_32 : decode cX10_protest 32 = .ok (.iconst 0, 1) := by decide +kernel
theorem dX10_protest_33 : decode cX10_protest 33 = .ok (.ireturn, 1) := by decide +kernel
theorem dX10_protest_34 : decode cX10_protest 34 = .ok (.aload_n 0, 1) := by decide +kernel
theorem dX10_protest_35 : decode cX10_protest 35 = .ok (.getfield 75, 3) := by decide +kernel
theorem dX10_protest_38 : decode cX10_protest 38 = .ok (.aload_n 0, 1) := by decide +kernel
theorem dX10_protest_39 : decode cX10_protest 39 = .ok (.getfield 218, 3) := by decide +kernel
theorem dX10_protest_42 : decode cX10_protest 42 = .ok (.iload_n 1, 1) := by decide +kernel
theorem dX10_protest_43 : decode cX10_protest 43 = .ok (.iastore, 1) := by decide +kernel
theorem dX10_protest_44 : decode cX10_protest 44 = .ok (.aload_n 0, 1) := by decide +kernel
theorem dX10_protest_45 : decode cX10_protest 45 = .ok (.getfield 78, 3) := by decide +kernel
theorem dX10_protest_48 : decode cX10_protest 48 = .ok (.aload_n 0, 1) := by decide +kernel
theorem dX10_protest_49 : decode cX10_protest 49 = .ok (.getfield 218, 3) := by decide +kernel
theorem dX10_protest_52 : decode cX10_protest 52 = .ok (.iload_n 2, 1) := by decide +kernel
theorem dX10_protest_53 : decode cX10_protest 53 = .ok (.iastore, 1) := by decide +kernel
theorem dX10_protest_54 : decode cX10_protest 54 = .ok (.aload_n 0, 1) := by decide +kernel
theorem dX10_protest_55 : decode cX10_protest 55 = .ok (.dup, 1) := by decide +kernel
theorem dX10_protest_56 : decode cX10_protest 56 = .ok (.getfield 218, 3) := by decide +kernel
theorem dX10_protest_59 : decode cX10_protest 59 = .ok (.iconst 1, 1) := by decide +kernel
theorem dX10_protest_60 : decode cX10_protest 60 = .ok (.iadd, 1) := by decide +kernel
theorem dX10_protest_61 : decode cX10_protest 61 = .ok (.putfield 218, 3) := by decide +kernel
theorem dX10_protest_64 : decode cX10_protest 64 = .ok (.iconst 1, 1) := by decide +kernel
theorem dX10_protest_65 : decode cX10_protest 65 = .ok (.ireturn, 1) := by decide +kernel
theorem dX10_mowedIn_0 : decode cX10_mowedIn 0 = .ok (.iconst (-1), 1) := by decide +kernel
theorem dX10_mowedIn_1 : decode cX10_mowedIn 1 = .ok (.istore 4, 2) := by decide +kernel
theorem dX10_mowedIn_3 : decode cX10_mowedIn 3 = .ok (.iconst 0, 1) := by decide +kernel
theorem dX10_mowedIn_4 : decode cX10_mowedIn 4 = .ok (.istore 5, 2) := by decide +kernel
theorem dX10_mowedIn_6 : decode cX10_mowedIn 6 = .ok (.iload 5, 2) := by decide +kernel
theorem dX10_mowedIn_8 : decode cX10_mowedIn 8 = .ok (.aload_n 0, 1) := by decide +kernel
theorem dX10_mowedIn_9 : decode cX10_mowedIn 9 = .ok (.getfield 197, 3) := by decide +kernel
theorem dX10_mowedIn_12 : decode cX10_mowedIn 12 = .ok (.if_icmp .ge 61, 3) := by decide +kernel
theorem dX10_mowedIn_15 : decode cX10_mowedIn 15 = .ok (.aload_n 0, 1) := by decide +kernel
theorem dX10_mowedIn_16 : decode cX10_mowedIn 16 = .ok (.getfield 60, 3) := by decide +kernel
theorem dX10_mowedIn_19 : decode cX10_mowedIn 19 = .ok (.iload 5, 2) := by decide +kernel
theorem dX10_mowedIn_21 : decode cX10_mowedIn 21 = .ok (.iaload, 1) := by decide +kernel
theorem dX10_mowedIn_22 : decode cX10_mowedIn 22 = .ok (.iload_n 1, 1) := by decide +kernel
theorem dX10_mowedIn_23 : decode cX10_mowedIn 23 = .ok (.if_icmp .ne 44, 3) := by decide +kernel
theorem dX10_mowedIn_26 : decode cX10_mowedIn 26 = .ok (.iload_n 2, 1) := by decide +kernel
theorem dX10_mowedIn_27 : decode cX10_mowedIn 27 = .ok (.aload_n 0, 1) := by decide +kernel
theorem dX10_mowedIn_28 : decode cX10_mowedIn 28 = .ok (.getfield 63, 3) := by decide +kernel
theorem dX10_mowedIn_31 : decode cX10_mowedIn 31 = .ok (.iload 5, 2) := by decide +kernel
theorem dX10_mowedIn_33 : decode cX10_mowedIn 33 = .ok (.iaload, 1) := by decide +kernel
theorem dX10_mowedIn_34 : decode cX10_mowedIn 34 = .ok (.aload_n 0, 1) := by decide +kernel
theorem dX10_mowedIn_35 : decode cX10_mowedIn 35 = .ok (.getfield 66, 3) := by decide +kernel
theorem dX10_mowedIn_38 : decode cX10_mowedIn 38 = .ok (.iload 5, 2) := by decide +kernel
theorem dX10_mowedIn_40 : decode cX10_mowedIn 40 = .ok (.iaload, 1) := by decide +kernel
theorem dX10_mowedIn_41 : decode cX10_mowedIn 41 = .ok (.invokestatic 90, 3) := by decide +kernel
theorem dX10_mowedIn_44 : decode cX10_mowedIn 44 = .ok (.ifCond .eq 23, 3) := by decide +kernel
theorem dX10_mowedIn_47 : decode cX10_mowedIn 47 = .ok (.aload_n 0, 1) := by decide +kernel
theorem dX10_mowedIn_48 : decode cX10_mowedIn 48 = .ok (.getfield 72, 3) := by decide +kernel
theorem dX10_mowedIn_51 : decode cX10_mowedIn 51 = .ok (.iload 5, 2) := by decide +kernel
theorem dX10_mowedIn_53 : decode cX10_mowedIn 53 = .ok (.iaload, 1) := by decide +kernel
theorem dX10_mowedIn_54 : decode cX10_mowedIn 54 = .ok (.iload_n 3, 1) := by decide +kernel
theorem dX10_mowedIn_55 : decode cX10_mowedIn 55 = .ok (.if_icmp .ne 12, 3) := by decide +kernel
theorem dX10_mowedIn_58 : decode cX10_mowedIn 58 = .ok (.aload_n 0, 1) := by decide +kernel
theorem dX10_mowedIn_59 : decode cX10_mowedIn 59 = .ok (.getfield 69, 3) := by decide +kernel
theorem dX10_mowedIn_62 : decode cX10_mowedIn 62 = .ok (.iload 5, 2) := by decide +kernel
theorem dX10_mowedIn_64 : decode cX10_mowedIn 64 = .ok (.iaload, 1) := by decide +kernel
theorem dX10_mowedIn_65 : decode cX10_mowedIn 65 = .ok (.istore 4, 2) := by decide +kernel
theorem dX10_mowedIn_67 : decode cX10_mowedIn 67 = .ok (.iinc 5 1, 3) := by decide +kernel
theorem dX10_mowedIn_70 : decode cX10_mowedIn 70 = .ok (.goto (-64), 3) := by decide +kernel
theorem dX10_mowedIn_73 : decode cX10_mowedIn 73 = .ok (.iload 4, 2) := by decide +kernel
theorem dX10_mowedIn_75 : decode cX10_mowedIn 75 = .ok (.ireturn, 1) := by decide +kernel
theorem dX10_mowed_0 : decode cX10_mowed 0 = .ok (.iload_n 1, 1) := by decide +kernel
theorem dX10_mowed_1 : decode cX10_mowed 1 = .ok (.iconst 0, 1) := by decide +kernel
theorem dX10_mowed_2 : decode cX10_mowed 2 = .ok (.iconst 1, 1) := by decide +kernel
theorem dX10_mowed_3 : decode cX10_mowed 3 = .ok (.invokestatic 90, 3) := by decide +kernel
theorem dX10_mowed_6 : decode cX10_mowed 6 = .ok (.ifCond .eq 27, 3) := by decide +kernel
theorem dX10_mowed_9 : decode cX10_mowed 9 = .ok (.iload_n 2, 1) := by decide +kernel
theorem dX10_mowed_10 : decode cX10_mowed 10 = .ok (.invokestatic 94, 3) := by decide +kernel
theorem dX10_mowed_13 : decode cX10_mowed 13 = .ok (.ifCond .eq 20, 3) := by decide +kernel
theorem dX10_mowed_16 : decode cX10_mowed 16 = .ok (.iload_n 3, 1) := by decide +kernel
theorem dX10_mowed_17 : decode cX10_mowed 17 = .ok (.invokestatic 105, 3) := by decide +kernel
theorem dX10_mowed_20 : decode cX10_mowed 20 = .ok (.ifCond .eq 13, 3) := by decide +kernel
theorem dX10_mowed_23 : decode cX10_mowed 23 = .ok (.aload_n 0, 1) := by decide +kernel
theorem dX10_mowed_24 : decode cX10_mowed 24 = .ok (.iload_n 1, 1) := by decide +kernel
theorem dX10_mowed_25 : decode cX10_mowed 25 = .ok (.iload_n 2, 1) := by decide +kernel
theorem dX10_mowed_26 : decode cX10_mowed 26 = .ok (.iload_n 3, 1) := by decide +kernel
theorem dX10_mowed_27 : decode cX10_mowed 27 = .ok (.invokevirtual 224, 3) := by decide +kernel
theorem dX10_mowed_30 : decode cX10_mowed 30 = .ok (.goto 4, 3) := by decide +kernel
theorem dX10_mowed_33 : decode cX10_mowed 33 = .ok (.iconst (-1), 1) := by decide +kernel
theorem dX10_mowed_34 : decode cX10_mowed 34 = .ok (.ireturn, 1) := by decide +kernel
theorem dX10_spells_0 : decode cX10_spells 0 = .ok (.aload_n 0, 1) := by decide +kernel
theorem dX10_spells_1 : decode cX10_spells 1 = .ok (.invokevirtual 216, 3) := by decide +kernel
theorem dX10_spells_4 : decode cX10_spells 4 = .ok (.aload_n 0, 1) := by decide +kernel
theorem dX10_spells_5 : decode cX10_spells 5 = .ok (.aload_n 0, 1) := by decide +kernel
theorem dX10_spells_6 : decode cX10_spells 6 = .ok (.getfield 57, 3) := by decide +kernel
theorem dX10_spells_9 : decode cX10_spells 9 = .ok (.iload_n 1, 1) := by decide +kernel
theorem dX10_spells_10 : decode cX10_spells 10 = .ok (.iaload, 1) := by decide +kernel
theorem dX10_spells_11 : decode cX10_spells 11 = .ok (.putfield 228, 3) := by decide +kernel
theorem dX10_spells_14 : decode cX10_spells 14 = .ok (.aload_n 0, 1) := by decide +kernel
theorem dX10_spells_15 : decode cX10_spells 15 = .ok (.iconst (-1), 1) := by decide +kernel
theorem dX10_spells_16 : decode cX10_spells 16 = .ok (.putfield 231, 3) := by decide +kernel
theorem dX10_spells_19 : decode cX10_spells 19 = .ok (.aload_n 0, 1) := by decide +kernel
theorem dX10_spells_20 : decode cX10_spells 20 = .ok (.getfield 81, 3) := by decide +kernel
theorem dX10_spells_23 : decode cX10_spells 23 = .ok (.iconst 0, 1) := by decide +kernel
theorem dX10_spells_24 : decode cX10_spells 24 = .ok (.iconst 0, 1) := by decide +kernel
theorem dX10_spells_25 : decode cX10_spells 25 = .ok (.iastore, 1) := by decide +kernel
theorem dX10_spells_26 : decode cX10_spells 26 = .ok (.aload_n 0, 1) := by decide +kernel
theorem dX10_spells_27 : decode cX10_spells 27 = .ok (.getfield 81, 3) := by decide +kernel
theorem dX10_spells_30 : decode cX10_spells 30 = .ok (.iconst 1, 1) := by decide +kernel
theorem dX10_spells_31 : decode cX10_spells 31 = .ok (.iconst 0, 1) := by decide +kernel
theorem dX10_spells_32 : decode cX10_spells 32 = .ok (.iastore, 1) := by decide +kernel
theorem dX10_spells_33 : decode cX10_spells 33 = .ok (.aload_n 0, 1) := by decide +kernel
theorem dX10_spells_34 : decode cX10_spells 34 = .ok (.getfield 84, 3) := by decide +kernel
theorem dX10_spells_37 : decode cX10_spells 37 = .ok (.iconst 0, 1) := by decide +kernel
theorem dX10_spells_38 : decode cX10_spells 38 = .ok (.iconst 0, 1) := by decide +kernel
theorem dX10_spells_39 : decode cX10_spells 39 = .ok (.iastore, 1) := by decide +kernel
theorem dX10_spells_40 : decode cX10_spells 40 = .ok (.aload_n 0, 1) := by decide +kernel
theorem dX10_spells_41 : decode cX10_spells 41 = .ok (.getfield 84, 3) := by decide +kernel
theorem dX10_spells_44 : decode cX10_spells 44 = .ok (.iconst 1, 1) := by decide +kernel
theorem dX10_spells_45 : decode cX10_spells 45 = .ok (.iconst 0, 1) := by decide +kernel
theorem dX10_spells_46 : decode cX10_spells 46 = .ok (.iastore, 1) := by decide +kernel
theorem dX10_spells_47 : decode cX10_spells 47 = .ok (.iconst 0, 1) := by decide +kernel
theorem dX10_spells_48 : decode cX10_spells 48 = .ok (.istore_n 2, 1) := by decide +kernel
theorem dX10_spells_49 : decode cX10_spells 49 = .ok (.iload_n 2, 1) := by decide +kernel
theorem dX10_spells_50 : decode cX10_spells 50 = .ok (.sipush 1000, 3) := by decide +kernel
theorem dX10_spells_53 : decode cX10_spells 53 = .ok (.if_icmp .ge 29, 3) := by decide +kernel
theorem dX10_spells_56 : decode cX10_spells 56 = .ok (.iconst 0, 1) := by decide +kernel
theorem dX10_spells_57 : decode cX10_spells 57 = .ok (.istore_n 3, 1) := by decide +kernel
theorem dX10_spells_58 : decode cX10_spells 58 = .ok (.iload_n 3, 1) := by decide +kernel
theorem dX10_spells_59 : decode cX10_spells 59 = .ok (.iconst 2, 1) := by decide +kernel
theorem dX10_spells_60 : decode cX10_spells 60 = .ok (.if_icmp .ge 16, 3) := by decide +kernel
theorem dX10_spells_63 : decode cX10_spells 63 = .ok (.aload_n 0, 1) := by decide +kernel
theorem dX10_spells_64 : decode cX10_spells 64 = .ok (.iload_n 3, 1) := by decide +kernel
theorem dX10_spells_65 : decode cX10_spells 65 = .ok (.iload_n 1, 1) := by decide +kernel
theorem dX10_spells_66 : decode cX10_spells 66 = .ok (.iload_n 2, 1) := by decide +kernel
theorem dX10_spells_67 : decode cX10_spells 67 = .ok (.invokevirtual 234, 3) := by decide +kernel
theorem dX10_spells_70 : decode cX10_spells 70 = .ok (.iinc 3 1, 3) := by decide +kernel
theorem dX10_spells_73 : decode cX10_spells 73 = .ok (.goto (-15), 3) := by decide +kernel
theorem dX10_spells_76 : decode cX10_spells 76 = .ok (.iinc 2 1, 3) := by decide +kernel
theorem dX10_spells_79 : decode cX10_spells 79 = .ok (.goto (-30), 3) := by decide +kernel
theorem dX10_spells_82 : decode cX10_spells 82 = .ok (.return_, 1) := by decide +kernel
theorem dX10_goes_0 : decode cX10_goes 0 = .ok (.aload_n 0, 1) := by decide +kernel
theorem dX10_goes_1 : decode cX10_goes 1 = .ok (.iload_n 1, 1) := by decide +kernel
theorem dX10_goes_2 : decode cX10_goes 2 = .ok (.iload_n 2, 1) := by decide +kernel
theorem dX10_goes_3 : decode cX10_goes 3 = .ok (.iload_n 3, 1) := by decide +kernel
theorem dX10_goes_4 : decode cX10_goes 4 = .ok (.invokevirtual 224, 3) := by decide +kernel
theorem dX10_goes_7 : decode cX10_goes 7 = .ok (.istore 4, 2) := by decide +kernel
theorem dX10_goes_9 : decode cX10_goes 9 = .ok (.iload 4, 2) := by decide +kernel
theorem dX10_goes_11 : decode cX10_goes 11 = .ok (.iconst (-1), 1) := by decide +kernel
theorem dX10_goes_12 : decode cX10_goes 12 = .ok (.if_icmp .eq 36, 3) := by decide +kernel
theorem dX10_goes_15 : decode cX10_goes 15 = .ok (.iload_n 1, 1) := by decide +kernel
theorem dX10_goes_16 : decode cX10_goes 16 = .ok (.ifCond .ne 17, 3) := by decide +kernel
theorem dX10_goes_19 : decode cX10_goes 19 = .ok (.iload 4, 2) := by decide +kernel
theorem dX10_goes_21 : decode cX10_goes 21 = .ok (.aload_n 0, 1) := by decide +kernel
theorem dX10_goes_22 : decode cX10_goes 22 = .ok (.getfield 57, 3) := by decide +kernel
theorem dX10_goes_25 : decode cX10_goes 25 = .ok (.iload_n 2, 1) := by decide +kernel
theorem dX10_goes_26 : decode cX10_goes 26 = .ok (.iaload, 1) := by decide +kernel
theorem dX10_goes_27 : decode cX10_goes 27 = .ok (.if_icmp .le 21, 3) := by decide +kernel
theorem dX10_goes_30 : decode cX10_goes 30 = .ok (.goto 14, 3) := by decide +kernel
theorem dX10_goes_33 : decode cX10_goes 33 = .ok (.iload 4, 2) := by decide +kernel
theorem dX10_goes_35 : decode cX10_goes 35 = .ok (.aload_n 0, 1) := by decide +kernel
theorem dX10_goes_36 : decode cX10_goes 36 = .ok (.getfield 57, 3) := by decide +kernel
theorem dX10_goes_39 : decode cX10_goes 39 = .ok (.iload_n 2, 1) := by decide +kernel
theorem dX10_goes_40 : decode cX10_goes 40 = .ok (.iaload, 1) := by decide +kernel
theorem dX10_goes_41 : decode cX10_goes 41 = .ok (.if_icmp .ge 7, 3) := by decide +kernel
theorem dX10_goes_44 : decode cX10_goes 44 = .ok (.iconst 1, 1) := by decide +kernel
theorem dX10_goes_45 : decode cX10_goes 45 = .ok (.goto 4, 3) := by decide +kernel
theorem dX10_goes_48 : decode cX10_goes 48 = .ok (.iconst 0, 1) := by decide +kernel
theorem dX10_goes_49 : decode cX10_goes 49 = .ok (.istore 5, 2) := by decide +kernel
theorem dX10_goes_51 : decode cX10_goes 51 = .ok (.iload 5, 2) := by decide +kernel
theorem dX10_goes_53 : decode cX10_goes 53 = .ok (.ifCond .eq 12, 3) := by decide +kernel
theorem dX10_goes_56 : decode cX10_goes 56 = .ok (.aload_n 0, 1) := by decide +kernel
theorem dX10_goes_57 : decode cX10_goes 57 = .ok (.iload_n 2, 1) := by decide +kernel
theorem dX10_goes_58 : decode cX10_goes 58 = .ok (.iload_n 3, 1) := by decide +kernel
theorem dX10_goes_59 : decode cX10_goes 59 = .ok (.invokevirtual 221, 3) := by decide +kernel
theorem dX10_goes_62 : decode cX10_goes 62 = .ok (.ifCond .eq 11, 3) := by decide +kernel
theorem dX10_goes_65 : decode cX10_goes 65 = .ok (.aload_n 0, 1) := by decide +kernel
theorem dX10_goes_66 : decode cX10_goes 66 = .ok (.getfield 84, 3) := by decide +kernel
theorem dX10_goes_69 : decode cX10_goes 69 = .ok (.iload_n 1, 1) := by decide +kernel
theorem dX10_goes_70 : decode cX10_goes 70 = .ok (.iconst 0, 1) := by decide +kernel
theorem dX10_goes_71 : decode cX10_goes 71 = .ok (.iastore, 1) := by decide +kernel
theorem dX10_goes_72 : decode cX10_goes 72 = .ok (.return_, 1) := by decide +kernel
theorem dX10_goes_73 : decode cX10_goes 73 = .ok (.aload_n 0, 1) := by decide +kernel
theorem dX10_goes_74 : decode cX10_goes 74 = .ok (.getfield 87, 3) := by decide +kernel
theorem dX10_goes_77 : decode cX10_goes 77 = .ok (.sipush 1000, 3) := by decide +kernel
theorem dX10_goes_80 : decode cX10_goes 80 = .ok (.iload_n 1, 1) := by decide +kernel
theorem dX10_goes_81 : decode cX10_goes 81 = .ok (.imul, 1) := by decide +kernel
theorem dX10_goes_82 : decode cX10_goes 82 = .ok (.iload_n 3, 1) := by decide +kernel
theorem dX10_goes_83 : decode cX10_goes 83 = .ok (.iadd, 1) := by decide +kernel
theorem dX10_goes_84 : decode cX10_goes 84 = .ok (.iload 4, 2) := by decide +kernel
theorem dX10_goes_86 : decode cX10_goes 86 = .ok (.iastore, 1) := by decide +kernel
theorem dX10_goes_87 : decode cX10_goes 87 = .ok (.aload_n 0, 1) := by decide +kernel
theorem dX10_goes_88 : decode cX10_goes 88 = .ok (.getfield 84, 3) := by decide +kernel
theorem dX10_goes_91 : decode cX10_goes 91 = .ok (.iload_n 1, 1) := by decide +kernel
theorem dX10_goes_92 : decode cX10_goes 92 = .ok (.dup2, 1) := by decide +kernel
theorem dX10_goes_93 : decode cX10_goes 93 = .ok (.iaload, 1) := by decide +kernel
theorem dX10_goes_94 : decode cX10_goes 94 = .ok (.iconst 1, 1) := by decide +kernel
theorem dX10_goes_95 : decode cX10_goes 95 = .ok (.iadd, 1) := by decide +kernel
theorem dX10_goes_96 : decode cX10_goes 96 = .ok (.iastore, 1) := by decide +kernel
theorem dX10_goes_97 : decode cX10_goes 97 = .ok (.aload_n 0, 1) := by decide +kernel
theorem dX10_goes_98 : decode cX10_goes 98 = .ok (.getfield 84, 3) := by decide +kernel
theorem dX10_goes_101 : decode cX10_goes 101 = .ok (.iload_n 1, 1) := by decide +kernel
theorem dX10_goes_102 : decode cX10_goes 102 = .ok (.iaload, 1) := by decide +kernel
theorem dX10_goes_103 : decode cX10_goes 103 = .ok (.aload_n 0, 1) := by decide +kernel
theorem dX10_goes_104 : decode cX10_goes 104 = .ok (.getfield 31, 3) := by decide +kernel
theorem dX10_goes_107 : decode cX10_goes 107 = .ok (.if_icmp .ge 4, 3) := by decide +kernel
theorem dX10_goes_110 : decode cX10_goes 110 = .ok (.return_, 1) := by decide +kernel
theorem dX10_goes_111 : decode cX10_goes 111 = .ok (.aload_n 0, 1) := by decide +kernel
theorem dX10_goes_112 : decode cX10_goes 112 = .ok (.getfield 81, 3) := by decide +kernel
theorem dX10_goes_115 : decode cX10_goes 115 = .ok (.iload_n 1, 1) := by decide +kernel
theorem dX10_goes_116 : decode cX10_goes 116 = .ok (.dup2, 1) := by decide +kernel
theorem dX10_goes_117 : decode cX10_goes 117 = .ok (.iaload, 1) := by decide +kernel
theorem dX10_goes_118 : decode cX10_goes 118 = .ok (.iconst 1, 1) := by decide +kernel
theorem dX10_goes_119 : decode cX10_goes 119 = .ok (.iadd, 1) := by decide +kernel
theorem dX10_goes_120 : decode cX10_goes 120 = .ok (.iastore, 1) := by decide +kernel
theorem dX10_goes_121 : decode cX10_goes 121 = .ok (.iload 4, 2) := by decide +kernel
theorem dX10_goes_123 : decode cX10_goes 123 = .ok (.istore 6, 2) := by decide +kernel
theorem dX10_goes_125 : decode cX10_goes 125 = .ok (.iload_n 3, 1) := by decide +kernel
theorem dX10_goes_126 : decode cX10_goes 126 = .ok (.aload_n 0, 1) := by decide +kernel
theorem dX10_goes_127 : decode cX10_goes 127 = .ok (.getfield 31, 3) := by decide +kernel
theorem dX10_goes_130 : decode cX10_goes 130 = .ok (.isub, 1) := by decide +kernel
theorem dX10_goes_131 : decode cX10_goes 131 = .ok (.iconst 1, 1) := by decide +kernel
theorem dX10_goes_132 : decode cX10_goes 132 = .ok (.iadd, 1) := by decide +kernel
theorem dX10_goes_133 : decode cX10_goes 133 = .ok (.istore 7, 2) := by decide +kernel
theorem dX10_goes_135 : decode cX10_goes 135 = .ok (.iload 7, 2) := by decide +kernel
theorem dX10_goes_137 : decode cX10_goes 137 = .ok (.iload_n 3, 1) := by decide +kernel
theorem dX10_goes_138 : decode cX10_goes 138 = .ok (.if_icmp .ge 61, 3) := by decide +kernel
theorem dX10_goes_141 : decode cX10_goes 141 = .ok (.aload_n 0, 1) := by decide +kernel
theorem dX10_goes_142 : decode cX10_goes 142 = .ok (.getfield 87, 3) := by decide +kernel
theorem dX10_goes_145 : decode cX10_goes 145 = .ok (.sipush 1000, 3) := by decide +kernel
theorem dX10_goes_148 : decode cX10_goes 148 = .ok (.iload_n 1, 1) := by decide +kernel
theorem dX10_goes_149 : decode cX10_goes 149 = .ok (.imul, 1) := by decide +kernel
theorem dX10_goes_150 : decode cX10_goes 150 = .ok (.iload 7, 2) := by decide +kernel
theorem dX10_goes_152 : decode cX10_goes 152 = .ok (.iadd, 1) := by decide +kernel
theorem dX10_goes_153 : decode cX10_goes 153 = .ok (.iaload, 1) := by decide +kernel
theorem dX10_goes_154 : decode cX10_goes 154 = .ok (.istore 8, 2) := by decide +kernel
theorem dX10_goes_156 : decode cX10_goes 156 = .ok (.iload_n 1, 1) := by decide +kernel
theorem dX10_goes_157 : decode cX10_goes 157 = .ok (.ifCond .ne 20, 3) := by decide +kernel
theorem dX10_goes_160 : decode cX10_goes 160 = .ok (.iload 8, 2) := by decide +kernel
theorem dX10_goes_162 : decode cX10_goes 162 = .ok (.iload 6, 2) := by decide +kernel
theorem dX10_goes_164 : decode cX10_goes 164 = .ok (.if_icmp .ge 8, 3) := by decide +kernel
theorem dX10_goes_167 : decode cX10_goes 167 = .ok (.iload 8, 2) := by decide +kernel
theorem dX10_goes_169 : decode cX10_goes 169 = .ok (.goto 22, 3) := by decide +kernel
theorem dX10_goes_172 : decode cX10_goes 172 = .ok (.iload 6, 2) := by decide +kernel
theorem dX10_goes_174 : decode cX10_goes 174 = .ok (.goto 17, 3) := by decide +kernel
theorem dX10_goes_177 : decode cX10_goes 177 = .ok (.iload 8, 2) := by decide +kernel
theorem dX10_goes_179 : decode cX10_goes 179 = .ok (.iload 6, 2) := by decide +kernel
theorem dX10_goes_181 : decode cX10_goes 181 = .ok (.if_icmp .le 8, 3) := by decide +kernel
theorem dX10_goes_184 : decode cX10_goes 184 = .ok (.iload 8, 2) := by decide +kernel
theorem dX10_goes_186 : decode cX10_goes 186 = .ok (.goto 5, 3) := by decide +kernel
theorem dX10_goes_189 : decode cX10_goes 189 = .ok (.iload 6, 2) := by decide +kernel
theorem dX10_goes_191 : decode cX10_goes 191 = .ok (.istore 6, 2) := by decide +kernel
theorem dX10_goes_193 : decode cX10_goes 193 = .ok (.iinc 7 1, 3) := by decide +kernel
theorem dX10_goes_196 : decode cX10_goes 196 = .ok (.goto (-61), 3) := by decide +kernel
theorem dX10_goes_199 : decode cX10_goes 199 = .ok (.iload_n 1, 1) := by decide +kernel
theorem dX10_goes_200 : decode cX10_goes 200 = .ok (.ifCond .ne 15, 3) := by decide +kernel
theorem dX10_goes_203 : decode cX10_goes 203 = .ok (.iload 6, 2) := by decide +kernel
theorem dX10_goes_205 : decode cX10_goes 205 = .ok (.aload_n 0, 1) := by decide +kernel
theorem dX10_goes_206 : decode cX10_goes 206 = .ok (.getfield 228, 3) := by decide +kernel
theorem dX10_goes_209 : decode cX10_goes 209 = .ok (.if_icmp .gt 16, 3) := by decide +kernel
theorem dX10_goes_212 : decode cX10_goes 212 = .ok (.goto 12, 3) := by decide +kernel
theorem dX10_goes_215 : decode cX10_goes 215 = .ok (.iload 6, 2) := by decide +kernel
theorem dX10_goes_217 : decode cX10_goes 217 = .ok (.aload_n 0, 1) := by decide +kernel
theorem dX10_goes_218 : decode cX10_goes 218 = .ok (.getfield 228, 3) := by decide +kernel
theorem dX10_goes_221 : decode cX10_goes 221 = .ok (.if_icmp .lt 4, 3) := by decide +kernel
theorem dX10_goes_224 : decode cX10_goes 224 = .ok (.return_, 1) := by decide +kernel
theorem dX10_goes_225 : decode cX10_goes 225 = .ok (.aload_n 0, 1) := by decide +kernel
theorem dX10_goes_226 : decode cX10_goes 226 = .ok (.iload 6, 2) := by decide +kernel
theorem dX10_goes_228 : decode cX10_goes 228 = .ok (.putfield 228, 3) := by decide +kernel
theorem dX10_goes_231 : decode cX10_goes 231 = .ok (.aload_n 0, 1) := by decide +kernel
theorem dX10_goes_232 : decode cX10_goes 232 = .ok (.iload_n 3, 1) := by decide +kernel
theorem dX10_goes_233 : decode cX10_goes 233 = .ok (.putfield 231, 3) := by decide +kernel
theorem dX10_goes_236 : decode cX10_goes 236 = .ok (.return_, 1) := by decide +kernel
theorem dX10_spells__0 : decode cX10_spells_ 0 = .ok (.iload_n 1, 1) := by decide +kernel
theorem dX10_spells__1 : decode cX10_spells_ 1 = .ok (.invokestatic 94, 3) := by decide +kernel
theorem dX10_spells__4 : decode cX10_spells_ 4 = .ok (.ifCond .eq 12, 3) := by decide +kernel
theorem dX10_spells__7 : decode cX10_spells_ 7 = .ok (.iload_n 2, 1) := by decide +kernel
theorem dX10_spells__8 : decode cX10_spells_ 8 = .ok (.iconst 0, 1) := by decide +kernel
theorem dX10_spells__9 : decode cX10_spells_ 9 = .ok (.iconst 2, 1) := by decide +kernel
theorem dX10_spells__10 : decode cX10_spells_ 10 = .ok (.invokestatic 90, 3) := by decide +kernel
theorem dX10_spells__13 : decode cX10_spells_ 13 = .ok (.ifCond .ne 5, 3) := by decide +kernel
theorem dX10_spells__16 : decode cX10_spells_ 16 = .ok (.iconst (-1), 1) := by decide +kernel
theorem dX10_spells__17 : decode cX10_spells_ 17 = .ok (.ireturn, 1) := by decide +kernel
theorem dX10_spells__18 : decode cX10_spells_ 18 = .ok (.aload_n 0, 1) := by decide +kernel
theorem dX10_spells__19 : decode cX10_spells_ 19 = .ok (.iload_n 1, 1) := by decide +kernel
theorem dX10_spells__20 : decode cX10_spells_ 20 = .ok (.invokevirtual 237, 3) := by decide +kernel
theorem dX10_spells__23 : decode cX10_spells_ 23 = .ok (.iload_n 2, 1) := by decide +kernel
theorem dX10_spells__24 : decode cX10_spells_ 24 = .ok (.iconst 2, 1) := by decide +kernel
theorem dX10_spells__25 : decode cX10_spells_ 25 = .ok (.if_icmp .ne 10, 3) := by decide +kernel
theorem dX10_spells__28 : decode cX10_spells_ 28 = .ok (.aload_n 0, 1) := by decide +kernel
theorem dX10_spells__29 : decode cX10_spells_ 29 = .ok (.getfield 231, 3) := by decide +kernel
theorem dX10_spells__32 : decode cX10_spells_ 32 = .ok (.goto 9, 3) := by decide +kernel
theorem dX10_spells__35 : decode cX10_spells_ 35 = .ok (.aload_n 0, 1) := by decide +kernel
theorem dX10_spells__36 : decode cX10_spells_ 36 = .ok (.getfield 81, 3) := by decide +kernel
theorem dX10_spells__39 : decode cX10_spells_ 39 = .ok (.iload_n 2, 1) := by decide +kernel
theorem dX10_spells__40 : decode cX10_spells_ 40 = .ok (.iaload, 1) := by decide +kernel
theorem dX10_spells__41 : decode cX10_spells_ 41 = .ok (.ireturn, 1) := by decide +kernel
theorem dX10_line_0 : decode cX10_line 0 = .ok (.iload_n 1, 1) := by decide +kernel
theorem dX10_line_1 : decode cX10_line 1 = .ok (.invokestatic 94, 3) := by decide +kernel
theorem dX10_line_4 : decode cX10_line 4 = .ok (.ifCond .ne 5, 3) := by decide +kernel
theorem dX10_line_7 : decode cX10_line 7 = .ok (.iconst (-1), 1) := by decide +kernel
theorem dX10_line_8 : decode cX10_line 8 = .ok (.ireturn, 1) := by decide +kernel
theorem dX10_line_9 : decode cX10_line 9 = .ok (.aload_n 0, 1) := by decide +kernel
theorem dX10_line_10 : decode cX10_line 10 = .ok (.iload_n 1, 1) := by decide +kernel
theorem dX10_line_11 : decode cX10_line 11 = .ok (.invokevirtual 237, 3) := by decide +kernel
theorem dX10_line_14 : decode cX10_line 14 = .ok (.aload_n 0, 1) := by decide +kernel
theorem dX10_line_15 : decode cX10_line 15 = .ok (.getfield 228, 3) := by decide +kernel
theorem dX10_line_18 : decode cX10_line 18 = .ok (.ireturn, 1) := by decide +kernel
theorem dX10_quarrel_0 : decode cX10_quarrel 0 = .ok (.iload_n 1, 1) := by decide +kernel
theorem dX10_quarrel_1 : decode cX10_quarrel 1 = .ok (.invokestatic 102, 3) := by decide +kernel
theorem dX10_quarrel_4 : decode cX10_quarrel 4 = .ok (.ifCond .eq 82, 3) := by decide +kernel
theorem dX10_quarrel_7 : decode cX10_quarrel 7 = .ok (.iload_n 2, 1) := by decide +kernel
theorem dX10_quarrel_8 : decode cX10_quarrel 8 = .ok (.invokestatic 102, 3) := by decide +kernel
theorem dX10_quarrel_11 : decode cX10_quarrel 11 = .ok (.ifCond .eq 75, 3) := by decide +kernel
theorem dX10_quarrel_14 : decode cX10_quarrel 14 = .ok (.iload_n 1, 1) := by decide +kernel
theorem dX10_quarrel_15 : decode cX10_quarrel 15 = .ok (.iload_n 2, 1) := by decide +kernel
theorem dX10_quarrel_16 : decode cX10_quarrel 16 = .ok (.if_icmp .le 70, 3) := by decide +kernel
theorem dX10_quarrel_19 : decode cX10_quarrel 19 = .ok (.iload_n 3, 1) := by decide +kernel
theorem dX10_quarrel_20 : decode cX10_quarrel 20 = .ok (.iconst 0, 1) := by decide +kernel
theorem dX10_quarrel_21 : decode cX10_quarrel 21 = .ok (.bipush 99, 2) := by decide +kernel
theorem dX10_quarrel_23 : decode cX10_quarrel 23 = .ok (.invokestatic 90, 3) := by decide +kernel
theorem dX10_quarrel_26 : decode cX10_quarrel 26 = .ok (.ifCond .eq 60, 3) := by decide +kernel
theorem dX10_quarrel_29 : decode cX10_quarrel 29 = .ok (.iload 4, 2) := by decide +kernel
theorem dX10_quarrel_31 : decode cX10_quarrel 31 = .ok (.iconst 0, 1) := by decide +kernel
theorem dX10_quarrel_32 : decode cX10_quarrel 32 = .ok (.bipush 99, 2) := by decide +kernel
theorem dX10_quarrel_34 : decode cX10_quarrel 34 = .ok (.invokestatic 90, 3) := by decide +kernel
theorem dX10_quarrel_37 : decode cX10_quarrel 37 = .ok (.ifCond .eq 49, 3) := by decide +kernel
theorem dX10_quarrel_40 : decode cX10_quarrel 40 = .ok (.iload 5, 2) := by decide +kernel
theorem dX10_quarrel_42 : decode cX10_quarrel 42 = .ok (.iconst 0, 1) := by decide +kernel
theorem dX10_quarrel_43 : decode cX10_quarrel 43 = .ok (.sipush 999, 3) := by decide +kernel
theorem dX10_quarrel_46 : decode cX10_quarrel 46 = .ok (.invokestatic 90, 3) := by decide +kernel
theorem dX10_quarrel_49 : decode cX10_quarrel 49 = .ok (.ifCond .eq 37, 3) := by decide +kernel
theorem dX10_quarrel_52 : decode cX10_quarrel 52 = .ok (.iload 6, 2) := by decide +kernel
theorem dX10_quarrel_54 : decode cX10_quarrel 54 = .ok (.iconst 0, 1) := by decide +kernel
theorem dX10_quarrel_55 : decode cX10_quarrel 55 = .ok (.sipush 999, 3) := by decide +kernel
theorem dX10_quarrel_58 : decode cX10_quarrel 58 = .ok (.invokestatic 90, 3) := by decide +kernel
theorem dX10_quarrel_61 : decode cX10_quarrel 61 = .ok (.ifCond .eq 25, 3) := by decide +kernel
theorem dX10_quarrel_64 : decode cX10_quarrel 64 = .ok (.iload 7, 2) := by decide +kernel
theorem dX10_quarrel_66 : decode cX10_quarrel 66 = .ok (.iconst 1, 1) := by decide +kernel
theorem dX10_quarrel_67 : decode cX10_quarrel 67 = .ok (.bipush 99, 2) := by decide +kernel
theorem dX10_quarrel_69 : decode cX10_quarrel 69 = .ok (.invokestatic 90, 3) := by decide +kernel
theorem dX10_quarrel_72 : decode cX10_quarrel 72 = .ok (.ifCond .eq 14, 3) := by decide +kernel
theorem dX10_quarrel_75 : decode cX10_quarrel 75 = .ok (.iload 8, 2) := by decide +kernel
theorem dX10_quarrel_77 : decode cX10_quarrel 77 = .ok (.iconst 1, 1) := by decide +kernel
theorem dX10_quarrel_78 : decode cX10_quarrel 78 = .ok (.bipush 99, 2) := by decide +kernel
theorem dX10_quarrel_80 : decode cX10_quarrel 80 = .ok (.invokestatic 90, 3) := by decide +kernel
theorem dX10_quarrel_83 : decode cX10_quarrel 83 = .ok (.ifCond .ne 5, 3) := by decide +kernel
theorem dX10_quarrel_86 : decode cX10_quarrel 86 = .ok (.iconst 0, 1) := by decide +kernel
theorem dX10_quarrel_87 : decode cX10_quarrel 87 = .ok (.ireturn, 1) := by decide +kernel
theorem dX10_quarrel_88 : decode cX10_quarrel 88 = .ok (.aload_n 0, 1) := by decide +kernel
theorem dX10_quarrel_89 : decode cX10_quarrel 89 = .ok (.iconst 1, 1) := by decide +kernel
theorem dX10_quarrel_90 : decode cX10_quarrel 90 = .ok (.putfield 241, 3) := by decide +kernel
theorem dX10_quarrel_93 : decode cX10_quarrel 93 = .ok (.aload_n 0, 1) := by decide +kernel
theorem dX10_quarrel_94 : decode cX10_quarrel 94 = .ok (.iload_n 1, 1) := by decide +kernel
theorem dX10_quarrel_95 : decode cX10_quarrel 95 = .ok (.putfield 245, 3) := by decide +kernel
theorem dX10_quarrel_98 : decode cX10_quarrel 98 = .ok (.aload_n 0, 1) := by decide +kernel
theorem dX10_quarrel_99 : decode cX10_quarrel 99 = .ok (.iload_n 2, 1) := by decide +kernel
theorem dX10_quarrel_100 : decode cX10_quarrel 100 = .ok (.putfield 248, 3) := by decide +kernel
theorem dX10_quarrel_103 : decode cX10_quarrel 103 = .ok (.aload_n 0, 1) := by decide +kernel
theorem dX10_quarrel_104 : decode cX10_quarrel 104 = .ok (.iload_n 3, 1) := by decide +kernel
theorem dX10_quarrel_105 : decode cX10_quarrel 105 = .ok (.putfield 251, 3) := by decide +kernel
theorem dX10_quarrel_108 : decode cX10_quarrel 108 = .ok (.aload_n 0, 1) := by decide +kernel
theorem dX10_quarrel_109 : decode cX10_quarrel 109 = .ok (.iload 4, 2) := by decide +kernel
theorem dX10_quarrel_111 : decode cX10_quarrel 111 = .ok (.putfield 254, 3) := by decide +kernel
theorem dX10_quarrel_114 : decode cX10_quarrel 114 = .ok (.aload_n 0, 1) := by decide +kernel
theorem dX10_quarrel_115 : decode cX10_quarrel 115 = .ok (.iload 5, 2) := by decide +kernel
theorem dX10_quarrel_117 : decode cX10_quarrel 117 = .ok (.putfield 257, 3) := by decide +kernel
theorem dX10_quarrel_120 : decode cX10_quarrel 120 = .ok (.aload_n 0, 1) := by decide +kernel
theorem dX10_quarrel_121 : decode cX10_quarrel 121 = .ok (.iload 6, 2) := by decide +kernel
theorem dX10_quarrel_123 : decode cX10_quarrel 123 = .ok (.putfield 260, 3) := by decide +kernel
theorem dX10_quarrel_126 : decode cX10_quarrel 126 = .ok (.aload_n 0, 1) := by decide +kernel
theorem dX10_quarrel_127 : decode cX10_quarrel 127 = .ok (.iload 7, 2) := by decide +kernel
theorem dX10_quarrel_129 : decode cX10_quarrel 129 = .ok (.putfield 263, 3) := by decide +kernel
theorem dX10_quarrel_132 : decode cX10_quarrel 132 = .ok (.aload_n 0, 1) := by decide +kernel
theorem dX10_quarrel_133 : decode cX10_quarrel 133 = .ok (.iload 8, 2) := by decide +kernel
theorem dX10_quarrel_135 : decode cX10_quarrel 135 = .ok (.putfield 266, 3) := by decide +kernel
theorem dX10_quarrel_138 : decode cX10_quarrel 138 = .ok (.iconst 1, 1) := by decide +kernel
theorem dX10_quarrel_139 : decode cX10_quarrel 139 = .ok (.ireturn, 1) := by decide +kernel
theorem dX10_gain_0 : decode cX10_gain 0 = .ok (.aload_n 0, 1) := by decide +kernel
theorem dX10_gain_1 : decode cX10_gain 1 = .ok (.getfield 251, 3) := by decide +kernel
theorem dX10_gain_4 : decode cX10_gain 4 = .ok (.iload_n 1, 1) := by decide +kernel
theorem dX10_gain_5 : decode cX10_gain 5 = .ok (.aload_n 0, 1) := by decide +kernel
theorem dX10_gain_6 : decode cX10_gain 6 = .ok (.getfield 248, 3) := by decide +kernel
theorem dX10_gain_9 : decode cX10_gain 9 = .ok (.isub, 1) := by decide +kernel
theorem dX10_gain_10 : decode cX10_gain 10 = .ok (.imul, 1) := by decide +kernel
theorem dX10_gain_11 : decode cX10_gain 11 = .ok (.aload_n 0, 1) := by decide +kernel
theorem dX10_gain_12 : decode cX10_gain 12 = .ok (.getfield 263, 3) := by decide +kernel
theorem dX10_gain_15 : decode cX10_gain 15 = .ok (.aload_n 0, 1) := by decide +kernel
theorem dX10_gain_16 : decode cX10_gain 16 = .ok (.getfield 266, 3) := by decide +kernel
theorem dX10_gain_19 : decode cX10_gain 19 = .ok (.iadd, 1) := by decide +kernel
theorem dX10_gain_20 : decode cX10_gain 20 = .ok (.imul, 1) := by decide +kernel
theorem dX10_gain_21 : decode cX10_gain 21 = .ok (.aload_n 0, 1) := by decide +kernel
theorem dX10_gain_22 : decode cX10_gain 22 = .ok (.getfield 251, 3) := by decide +kernel
theorem dX10_gain_25 : decode cX10_gain 25 = .ok (.aload_n 0, 1) := by decide +kernel
theorem dX10_gain_26 : decode cX10_gain 26 = .ok (.getfield 245, 3) := by decide +kernel
theorem dX10_gain_29 : decode cX10_gain 29 = .ok (.aload_n 0, 1) := by decide +kernel
theorem dX10_gain_30 : decode cX10_gain 30 = .ok (.getfield 248, 3) := by decide +kernel
theorem dX10_gain_33 : decode cX10_gain 33 = .ok (.isub, 1) := by decide +kernel
theorem dX10_gain_34 : decode cX10_gain 34 = .ok (.imul, 1) := by decide +kernel
theorem dX10_gain_35 : decode cX10_gain 35 = .ok (.aload_n 0, 1) := by decide +kernel
theorem dX10_gain_36 : decode cX10_gain 36 = .ok (.getfield 263, 3) := by decide +kernel
theorem dX10_gain_39 : decode cX10_gain 39 = .ok (.imul, 1) := by decide +kernel
theorem dX10_gain_40 : decode cX10_gain 40 = .ok (.isub, 1) := by decide +kernel
theorem dX10_gain_41 : decode cX10_gain 41 = .ok (.aload_n 0, 1) := by decide +kernel
theorem dX10_gain_42 : decode cX10_gain 42 = .ok (.getfield 257, 3) := by decide +kernel
theorem dX10_gain_45 : decode cX10_gain 45 = .ok (.aload_n 0, 1) := by decide +kernel
theorem dX10_gain_46 : decode cX10_gain 46 = .ok (.getfield 263, 3) := by decide +kernel
theorem dX10_gain_49 : decode cX10_gain 49 = .ok (.aload_n 0, 1) := by decide +kernel
theorem dX10_gain_50 : decode cX10_gain 50 = .ok (.getfield 266, 3) := by decide +kernel
theorem dX10_gain_53 : decode cX10_gain 53 = .ok (.iadd, 1) := by decide +kernel
theorem dX10_gain_54 : decode cX10_gain 54 = .ok (.imul, 1) := by decide +kernel
theorem dX10_gain_55 : decode cX10_gain 55 = .ok (.iadd, 1) := by decide +kernel
theorem dX10_gain_56 : decode cX10_gain 56 = .ok (.istore_n 2, 1) := by decide +kernel
theorem dX10_gain_57 : decode cX10_gain 57 = .ok (.aload_n 0, 1) := by decide +kernel
theorem dX10_gain_58 : decode cX10_gain 58 = .ok (.getfield 254, 3) := by decide +kernel
theorem dX10_gain_61 : decode cX10_gain 61 = .ok (.aload_n 0, 1) := by decide +kernel
theorem dX10_gain_62 : decode cX10_gain 62 = .ok (.getfield 245, 3) := by decide +kernel
theorem dX10_gain_65 : decode cX10_gain 65 = .ok (.iload_n 1, 1) := by decide +kernel
theorem dX10_gain_66 : decode cX10_gain 66 = .ok (.isub, 1) := by decide +kernel
theorem dX10_gain_67 : decode cX10_gain 67 = .ok (.imul, 1) := by decide +kernel
theorem dX10_gain_68 : decode cX10_gain 68 = .ok (.aload_n 0, 1) := by decide +kernel
theorem dX10_gain_69 : decode cX10_gain 69 = .ok (.getfield 263, 3) := by decide +kernel
theorem dX10_gain_72 : decode cX10_gain 72 = .ok (.aload_n 0, 1) := by decide +kernel
theorem dX10_gain_73 : decode cX10_gain 73 = .ok (.getfield 266, 3) := by decide +kernel
theorem dX10_gain_76 : decode cX10_gain 76 = .ok (.iadd, 1) := by decide +kernel
theorem dX10_gain_77 : decode cX10_gain 77 = .ok (.imul, 1) := by decide +kernel
theorem dX10_gain_78 : decode cX10_gain 78 = .ok (.aload_n 0, 1) := by decide +kernel
theorem dX10_gain_79 : decode cX10_gain 79 = .ok (.getfield 254, 3) := by decide +kernel
theorem dX10_gain_82 : decode cX10_gain 82 = .ok (.aload_n 0, 1) := by decide +kernel
theorem dX10_gain_83 : decode cX10_gain 83 = .ok (.getfield 245, 3) := by decide +kernel
theorem dX10_gain_86 : decode cX10_gain 86 = .ok (.aload_n 0, 1) := by decide +kernel
theorem dX10_gain_87 : decode cX10_gain 87 = .ok (.getfield 248, 3) := by decide +kernel
theorem dX10_gain_90 : decode cX10_gain 90 = .ok (.isub, 1) := by decide +kernel
theorem dX10_gain_91 : decode cX10_gain 91 = .ok (.imul, 1) := by decide +kernel
theorem dX10_gain_92 : decode cX10_gain 92 = .ok (.aload_n 0, 1) := by decide +kernel
theorem dX10_gain_93 : decode cX10_gain 93 = .ok (.getfield 266, 3) := by decide +kernel
theorem dX10_gain_96 : decode cX10_gain 96 = .ok (.imul, 1) := by decide +kernel
theorem dX10_gain_97 : decode cX10_gain 97 = .ok (.isub, 1) := by decide +kernel
theorem dX10_gain_98 : decode cX10_gain 98 = .ok (.aload_n 0, 1) := by decide +kernel
theorem dX10_gain_99 : decode cX10_gain 99 = .ok (.getfield 260, 3) := by decide +kernel
theorem dX10_gain_102 : decode cX10_gain 102 = .ok (.aload_n 0, 1) := by decide +kernel
theorem dX10_gain_103 : decode cX10_gain 103 = .ok (.getfield 263, 3) := by decide +kernel
theorem dX10_gain_106 : decode cX10_gain 106 = .ok (.aload_n 0, 1) := by decide +kernel
theorem dX10_gain_107 : decode cX10_gain 107 = .ok (.getfield 266, 3) := by decide +kernel
theorem dX10_gain_110 : decode cX10_gain 110 = .ok (.iadd, 1) := by decide +kernel
theorem dX10_gain_111 : decode cX10_gain 111 = .ok (.imul, 1) := by decide +kernel
theorem dX10_gain_112 : decode cX10_gain 112 = .ok (.iadd, 1) := by decide +kernel
theorem dX10_gain_113 : decode cX10_gain 113 = .ok (.istore_n 3, 1) := by decide +kernel
theorem dX10_gain_114 : decode cX10_gain 114 = .ok (.iload_n 2, 1) := by decide +kernel
theorem dX10_gain_115 : decode cX10_gain 115 = .ok (.iload_n 3, 1) := by decide +kernel
theorem dX10_gain_116 : decode cX10_gain 116 = .ok (.if_icmp .ge 7, 3) := by decide +kernel
theorem dX10_gain_119 : decode cX10_gain 119 = .ok (.iload_n 2, 1) := by decide +kernel
theorem dX10_gain_120 : decode cX10_gain 120 = .ok (.goto 4, 3) := by decide +kernel
theorem dX10_gain_123 : decode cX10_gain 123 = .ok (.iload_n 3, 1) := by decide +kernel
theorem dX10_gain_124 : decode cX10_gain 124 = .ok (.ireturn, 1) := by decide +kernel
theorem dX10_split_0 : decode cX10_split 0 = .ok (.aload_n 0, 1) := by decide +kernel
theorem dX10_split_1 : decode cX10_split 1 = .ok (.getfield 241, 3) := by decide +kernel
theorem dX10_split_4 : decode cX10_split 4 = .ok (.ifCond .eq 12, 3) := by decide +kernel
theorem dX10_split_7 : decode cX10_split 7 = .ok (.iload_n 1, 1) := by decide +kernel
theorem dX10_split_8 : decode cX10_split 8 = .ok (.iconst 0, 1) := by decide +kernel
theorem dX10_split_9 : decode cX10_split 9 = .ok (.iconst 3, 1) := by decide +kernel
theorem dX10_split_10 : decode cX10_split 10 = .ok (.invokestatic 90, 3) := by decide +kernel
theorem dX10_split_13 : decode cX10_split 13 = .ok (.ifCond .ne 5, 3) := by decide +kernel
theorem dX10_split_16 : decode cX10_split 16 = .ok (.iconst (-1), 1) := by decide +kernel
theorem dX10_split_17 : decode cX10_split 17 = .ok (.ireturn, 1) := by decide +kernel
theorem dX10_split_18 : decode cX10_split 18 = .ok (.iconst 0, 1) := by decide +kernel
theorem dX10_split_19 : decode cX10_split 19 = .ok (.istore_n 2, 1) := by decide +kernel
theorem dX10_split_20 : decode cX10_split 20 = .ok (.iconst (-1), 1) := by decide +kernel
theorem dX10_split_21 : decode cX10_split 21 = .ok (.istore_n 3, 1) := by decide +kernel
theorem dX10_split_22 : decode cX10_split 22 = .ok (.iconst (-1), 1) := by decide +kernel
theorem dX10_split_23 : decode cX10_split 23 = .ok (.istore 4, 2) := by decide +kernel
theorem dX10_split_25 : decode cX10_split 25 = .ok (.iconst (-1), 1) := by decide +kernel
theorem dX10_split_26 : decode cX10_split 26 = .ok (.istore 5, 2) := by decide +kernel
theorem dX10_split_28 : decode cX10_split 28 = .ok (.aload_n 0, 1) := by decide +kernel
theorem dX10_split_29 : decode cX10_split 29 = .ok (.getfield 248, 3) := by decide +kernel
theorem dX10_split_32 : decode cX10_split 32 = .ok (.istore 6, 2) := by decide +kernel
theorem dX10_split_34 : decode cX10_split 34 = .ok (.iload 6, 2) := by decide +kernel
theorem dX10_split_36 : decode cX10_split 36 = .ok (.aload_n 0, 1) := by decide +kernel
theorem dX10_split_37 : decode cX10_split 37 = .ok (.getfield 245, 3) := by decide +kernel
theorem dX10_split_40 : decode cX10_split 40 = .ok (.if_icmp .gt 70, 3) := by decide +kernel
theorem dX10_split_43 : decode cX10_split 43 = .ok (.aload_n 0, 1) := by decide +kernel
theorem dX10_split_44 : decode cX10_split 44 = .ok (.iload 6, 2) := by decide +kernel
theorem dX10_split_46 : decode cX10_split 46 = .ok (.invokevirtual 269, 3) := by decide +kernel
theorem dX10_split_49 : decode cX10_split 49 = .ok (.ifCond .ge 6, 3) := by decide +kernel
theorem dX10_split_52 : decode cX10_split 52 = .ok (.goto 52, 3) := by decide +kernel
theorem dX10_split_55 : decode cX10_split 55 = .ok (.iinc 2 1, 3) := by decide +kernel
theorem dX10_split_58 : decode cX10_split 58 = .ok (.iload_n 3, 1) := by decide +kernel
theorem dX10_split_59 : decode cX10_split 59 = .ok (.iconst (-1), 1) := by decide +kernel
theorem dX10_split_60 : decode cX10_split 60 = .ok (.if_icmp .ne 8, 3) := by decide +kernel
theorem dX10_split_63 : decode cX10_split 63 = .ok (.iload 6, 2) := by decide +kernel
theorem dX10_split_65 : decode cX10_split 65 = .ok (.goto 4, 3) := by decide +kernel
theorem dX10_split_68 : decode cX10_split 68 = .ok (.iload_n 3, 1) := by decide +kernel
theorem dX10_split_69 : decode cX10_split 69 = .ok (.istore_n 3, 1) := by decide +kernel
theorem dX10_split_70 : decode cX10_split 70 = .ok (.iload 6, 2) := by decide +kernel
theorem dX10_split_72 : decode cX10_split 72 = .ok (.istore 4, 2) := by decide +kernel
theorem dX10_split_74 : decode cX10_split 74 = .ok (.iload 5, 2) := by decide +kernel
theorem dX10_split_76 : decode cX10_split 76 = .ok (.iconst (-1), 1) := by decide +kernel
theorem dX10_split_77 : decode cX10_split 77 = .ok (.if_icmp .eq 18, 3) := by decide +kernel
theorem dX10_split_80 : decode cX10_split 80 = .ok (.aload_n 0, 1) := by decide +kernel
theorem dX10_split_81 : decode cX10_split 81 = .ok (.iload 6, 2) := by decide +kernel
theorem dX10_split_83 : decode cX10_split 83 = .ok (.invokevirtual 269, 3) := by decide +kernel
theorem dX10_split_86 : decode cX10_split 86 = .ok (.aload_n 0, 1) := by decide +kernel
theorem dX10_split_87 : decode cX10_split 87 = .ok (.iload 5, 2) := by decide +kernel
theorem dX10_split_89 : decode cX10_split 89 = .ok (.invokevirtual 269, 3) := by decide +kernel
theorem dX10_split_92 : decode cX10_split 92 = .ok (.if_icmp .le 8, 3) := by decide +kernel
theorem dX10_split_95 : decode cX10_split 95 = .ok (.iload 6, 2) := by decide +kernel
theorem dX10_split_97 : decode cX10_split 97 = .ok (.goto 5, 3) := by decide +kernel
theorem dX10_split_100 : decode cX10_split 100 = .ok (.iload 5, 2) := by decide +kernel
theorem dX10_split_102 : decode cX10_split 102 = .ok (.istore 5, 2) := by decide +kernel
theorem dX10_split_104 : decode cX10_split 104 = .ok (.iinc 6 1, 3) := by decide +kernel
theorem dX10_split_107 : decode cX10_split 107 = .ok (.goto (-73), 3) := by decide +kernel
theorem dX10_split_110 : decode cX10_split 110 = .ok (.iload_n 1, 1) := by decide +kernel
theorem dX10_split_111 : decode cX10_split 111 = .ok (.ifCond .ne 7, 3) := by decide +kernel
theorem dX10_split_114 : decode cX10_split 114 = .ok (.iload_n 2, 1) := by decide +kernel
theorem dX10_split_115 : decode cX10_split 115 = .ok (.goto 24, 3) := by decide +kernel
theorem dX10_split_118 : decode cX10_split 118 = .ok (.iload_n 1, 1) := by decide +kernel
theorem dX10_split_119 : decode cX10_split 119 = .ok (.iconst 1, 1) := by decide +kernel
theorem dX10_split_120 : decode cX10_split 120 = .ok (.if_icmp .ne 7, 3) := by decide +kernel
theorem dX10_split_123 : decode cX10_split 123 = .ok (.iload_n 3, 1) := by decide +kernel
theorem dX10_split_124 : decode cX10_split 124 = .ok (.goto 15, 3) := by decide +kernel
theorem dX10_split_127 : decode cX10_split 127 = .ok (.iload_n 1, 1) := by decide +kernel
theorem dX10_split_128 : decode cX10_split 128 = .ok (.iconst 2, 1) := by decide +kernel
theorem dX10_split_129 : decode cX10_split 129 = .ok (.if_icmp .ne 8, 3) := by decide +kernel
theorem dX10_split_132 : decode cX10_split 132 = .ok (.iload 4, 2) := by decide +kernel
theorem dX10_split_134 : decode cX10_split 134 = .ok (.goto 5, 3) := by decide +kernel
theorem dX10_split_137 : decode cX10_split 137 = .ok (.iload 5, 2) := by decide +kernel
theorem dX10_split_139 : decode cX10_split 139 = .ok (.ireturn, 1) := by decide +kernel
end
section
theorem dX0_init_0 : decode cX0_init 0 = .ok (.aload_n 0, 1) := by decide +kernel
theorem dX0_init_1 : decode cX0_init 1 = .ok (.invokespecial 3, 3) := by decide +kernel
theorem dX0_init_4 : decode cX0_init 4 = .ok (.aload_n 0, 1) := by decide +kernel
theorem dX0_init_5 : decode cX0_init 5 = .ok (.bipush 6, 2) := by decide +kernel
theorem dX0_init_7 : decode cX0_init 7 = .ok (.newarray .int, 2) := by decide +kernel
theorem dX0_init_9 : decode cX0_init 9 = .ok (.putfield 9, 3) := by decide +kernel
theorem dX0_init_12 : decode cX0_init 12 = .ok (.aload_n 0, 1) := by decide +kernel
theorem dX0_init_13 : decode cX0_init 13 = .ok (.bipush 6, 2) := by decide +kernel
theorem dX0_init_15 : decode cX0_init 15 = .ok (.newarray .boolean, 2) := by decide +kernel
theorem dX0_init_17 : decode cX0_init 17 = .ok (.putfield 15, 3) := by decide +kernel
theorem dX0_init_20 : decode cX0_init 20 = .ok (.aload_n 0, 1) := by decide +kernel
theorem dX0_init_21 : decode cX0_init 21 = .ok (.invokevirtual 19, 3) := by decide +kernel
theorem dX0_init_24 : decode cX0_init 24 = .ok (.return_, 1) := by decide +kernel
theorem dX0_reset_0 : decode cX0_reset 0 = .ok (.aload_n 0, 1) := by decide +kernel
theorem dX0_reset_1 : decode cX0_reset 1 = .ok (.getfield 9, 3) := by decide +kernel
theorem dX0_reset_4 : decode cX0_reset 4 = .ok (.iconst 1, 1) := by decide +kernel
theorem dX0_reset_5 : decode cX0_reset 5 = .ok (.invokestatic 22, 3) := by decide +kernel
theorem dX0_reset_8 : decode cX0_reset 8 = .ok (.iconst 0, 1) := by decide +kernel
theorem dX0_reset_9 : decode cX0_reset 9 = .ok (.istore_n 1, 1) := by decide +kernel
theorem dX0_reset_10 : decode cX0_reset 10 = .ok (.iload_n 1, 1) := by decide +kernel
theorem dX0_reset_11 : decode cX0_reset 11 = .ok (.bipush 6, 2) := by decide +kernel
theorem dX0_reset_13 : decode cX0_reset 13 = .ok (.if_icmp .ge 16, 3) := by decide +kernel
theorem dX0_reset_16 : decode cX0_reset 16 = .ok (.aload_n 0, 1) := by decide +kernel
theorem dX0_reset_17 : decode cX0_reset 17 = .ok (.getfield 15, 3) := by decide +kernel
theorem dX0_reset_20 : decode cX0_reset 20 = .ok (.iload_n 1, 1) := by decide +kernel
theorem dX0_reset_21 : decode cX0_reset 21 = .ok (.iconst 0, 1) := by decide +kernel
theorem dX0_reset_22 : decode cX0_reset 22 = .ok (.bastore, 1) := by decide +kernel
theorem dX0_reset_23 : decode cX0_reset 23 = .ok (.iinc 1 1, 3) := by decide +kernel
theorem dX0_reset_26 : decode cX0_reset 26 = .ok (.goto (-16), 3) := by decide +kernel
theorem dX0_reset_29 : decode cX0_reset 29 = .ok (.aload_n 0, 1) := by decide +kernel
theorem dX0_reset_30 : decode cX0_reset 30 = .ok (.iconst 0, 1) := by decide +kernel
theorem dX0_reset_31 : decode cX0_reset 31 = .ok (.putfield 28, 3) := by decide +kernel
theorem dX0_reset_34 : decode cX0_reset 34 = .ok (.aload_n 0, 1) := by decide +kernel
theorem dX0_reset_35 : decode cX0_reset 35 = .ok (.bipush 12, 2) := by decide +kernel
theorem dX0_reset_37 : decode cX0_reset 37 = .ok (.putfield 32, 3) := by decide +kernel
theorem dX0_reset_40 : decode cX0_reset 40 = .ok (.aload_n 0, 1) := by decide +kernel
theorem dX0_reset_41 : decode cX0_reset 41 = .ok (.iconst 1, 1) := by decide +kernel
theorem dX0_reset_42 : decode cX0_reset 42 = .ok (.putfield 35, 3) := by decide +kernel
theorem dX0_reset_45 : decode cX0_reset 45 = .ok (.return_, 1) := by decide +kernel
theorem dX1_init_0 : decode cX1_init 0 = .ok (.aload_n 0, 1) := by decide +kernel
theorem dX1_init_1 : decode cX1_init 1 = .ok (.invokespecial 3, 3) := by decide +kernel
theorem dX1_init_4 : decode cX1_init 4 = .ok (.aload_n 0, 1) := by decide +kernel
theorem dX1_init_5 : decode cX1_init 5 = .ok (.iconst 0, 1) := by decide +kernel
theorem dX1_init_6 : decode cX1_init 6 = .ok (.putfield 9, 3) := by decide +kernel
theorem dX1_init_9 : decode cX1_init 9 = .ok (.aload_n 0, 1) := by decide +kernel
theorem dX1_init_10 : decode cX1_init 10 = .ok (.iconst (-1), 1) := by decide +kernel
theorem dX1_init_11 : decode cX1_init 11 = .ok (.putfield 15, 3) := by decide +kernel
theorem dX1_init_14 : decode cX1_init 14 = .ok (.aload_n 0, 1) := by decide +kernel
theorem dX1_init_15 : decode cX1_init 15 = .ok (.iconst 0, 1) := by decide +kernel
theorem dX1_init_16 : decode cX1_init 16 = .ok (.putfield 18, 3) := by decide +kernel
theorem dX1_init_19 : decode cX1_init 19 = .ok (.aload_n 0, 1) := by decide +kernel
theorem dX1_init_20 : decode cX1_init 20 = .ok (.iconst 0, 1) := by decide +kernel
theorem dX1_init_21 : decode cX1_init 21 = .ok (.putfield 21, 3) := by decide +kernel
theorem dX1_init_24 : decode cX1_init 24 = .ok (.aload_n 0, 1) := by decide +kernel
theorem dX1_init_25 : decode cX1_init 25 = .ok (.iconst 0, 1) := by decide +kernel
theorem dX1_init_26 : decode cX1_init 26 = .ok (.putfield 24, 3) := by decide +kernel
theorem dX1_init_29 : decode cX1_init 29 = .ok (.aload_n 0, 1) := by decide +kernel
theorem dX1_init_30 : decode cX1_init 30 = .ok (.iconst 0, 1) := by decide +kernel
theorem dX1_init_31 : decode cX1_init 31 = .ok (.putfield 27, 3) := by decide +kernel
theorem dX1_init_34 : decode cX1_init 34 = .ok (.aload_n 0, 1) := by decide +kernel
theorem dX1_init_35 : decode cX1_init 35 = .ok (.iconst (-1), 1) := by decide +kernel
theorem dX1_init_36 : decode cX1_init 36 = .ok (.putfield 30, 3) := by decide +kernel
theorem dX1_init_39 : decode cX1_init 39 = .ok (.aload_n 0, 1) := by decide +kernel
theorem dX1_init_40 : decode cX1_init 40 = .ok (.aload_n 1, 1) := by decide +kernel
theorem dX1_init_41 : decode cX1_init 41 = .ok (.putfield 33, 3) := by decide +kernel
theorem dX1_init_44 : decode cX1_init 44 = .ok (.return_, 1) := by decide +kernel
theorem dX1_read_0 : decode cX1_read 0 = .ok (.aload_n 0, 1) := by decide +kernel
theorem dX1_read_1 : decode cX1_read 1 = .ok (.iconst 0, 1) := by decide +kernel
theorem dX1_read_2 : decode cX1_read 2 = .ok (.putfield 9, 3) := by decide +kernel
theorem dX1_read_5 : decode cX1_read 5 = .ok (.aload_n 0, 1) := by decide +kernel
theorem dX1_read_6 : decode cX1_read 6 = .ok (.iconst (-1), 1) := by decide +kernel
theorem dX1_read_7 : decode cX1_read 7 = .ok (.putfield 15, 3) := by decide +kernel
theorem dX1_read_10 : decode cX1_read 10 = .ok (.aload_n 0, 1) := by decide +kernel
theorem dX1_read_11 : decode cX1_read 11 = .ok (.iconst 0, 1) := by decide +kernel
theorem dX1_read_12 : decode cX1_read 12 = .ok (.putfield 18, 3) := by decide +kernel
theorem dX1_read_15 : decode cX1_read 15 = .ok (.aload_n 0, 1) := by decide +kernel
theorem dX1_read_16 : decode cX1_read 16 = .ok (.iconst 0, 1) := by decide +kernel
theorem dX1_read_17 : decode cX1_read 17 = .ok (.putfield 21, 3) := by decide +kernel
theorem dX1_read_20 : decode cX1_read 20 = .ok (.aload_n 1, 1) := by decide +kernel
theorem dX1_read_21 : decode cX1_read 21 = .ok (.invokevirtual 37, 3) := by decide +kernel
theorem dX1_read_24 : decode cX1_read 24 = .ok (.aload_n 0, 1) := by decide +kernel
theorem dX1_read_25 : decode cX1_read 25 = .ok (.invokevirtual 42, 3) := by decide +kernel
theorem dX1_read_28 : decode cX1_read 28 = .ok (.iconst 0, 1) := by decide +kernel
theorem dX1_read_29 : decode cX1_read 29 = .ok (.istore_n 2, 1) := by decide +kernel
theorem dX1_read_30 : decode cX1_read 30 = .ok (.iload_n 2, 1) := by decide +kernel
theorem dX1_read_31 : decode cX1_read 31 = .ok (.bipush 20, 2) := by decide +kernel
theorem dX1_read_33 : decode cX1_read 33 = .ok (.if_icmp .gt 28, 3) := by decide +kernel
theorem dX1_read_36 : decode cX1_read 36 = .ok (.aload_n 0, 1) := by decide +kernel
theorem dX1_read_37 : decode cX1_read 37 = .ok (.getfield 9, 3) := by decide +kernel
theorem dX1_read_40 : decode cX1_read 40 = .ok (.ifCond .ne 21, 3) := by decide +kernel
theorem dX1_read_43 : decode cX1_read 43 = .ok (.aload_n 0, 1) := by decide +kernel
theorem dX1_read_44 : decode cX1_read 44 = .ok (.getfield 24, 3) := by decide +kernel
theorem dX1_read_47 : decode cX1_read 47 = .ok (.ifCond .eq 14, 3) := by decide +kernel
theorem dX1_read_50 : decode cX1_read 50 = .ok (.aload_n 0, 1) := by decide +kernel
theorem dX1_read_51 : decode cX1_read 51 = .ok (.aload_n 1, 1) := by decide +kernel
theorem dX1_read_52 : decode cX1_read 52 = .ok (.invokevirtual 45, 3) := by decide +kernel
theorem dX1_read_55 : decode cX1_read 55 = .ok (.iinc 2 1, 3) := by decide +kernel
theorem dX1_read_58 : decode cX1_read 58 = .ok (.goto (-28), 3) := by decide +kernel
theorem dX1_read_61 : decode cX1_read 61 = .ok (.return_, 1) := by decide +kernel
theorem dX1_readLine_0 : decode cX1_readLine 0 = .ok (.aload_n 0, 1) := by decide +kernel
theorem dX1_readLine_1 : decode cX1_readLine 1 = .ok (.getfield 24, 3) := by decide +kernel
theorem dX1_readLine_4 : decode cX1_readLine 4 = .ok (.iconst 1, 1) := by decide +kernel
theorem dX1_readLine_5 : decode cX1_readLine 5 = .ok (.if_icmp .ne 10, 3) := by decide +kernel
theorem dX1_readLine_8 : decode cX1_readLine 8 = .ok (.aload_n 0, 1) := by decide +kernel
theorem dX1_readLine_9 : decode cX1_readLine 9 = .ok (.getfield 30, 3) := by decide +kernel
theorem dX1_readLine_12 : decode cX1_readLine 12 = .ok (.goto 4, 3) := by decide +kernel
theorem dX1_readLine_15 : decode cX1_readLine 15 = .ok (.iconst (-1), 1) := by decide +kernel
theorem dX1_readLine_16 : decode cX1_readLine 16 = .ok (.istore_n 2, 1) := by decide +kernel
theorem dX1_readLine_17 : decode cX1_readLine 17 = .ok (.aload_n 0, 1) := by decide +kernel
theorem dX1_readLine_18 : decode cX1_readLine 18 = .ok (.iload_n 2, 1) := by decide +kernel
theorem dX1_readLine_19 : decode cX1_readLine 19 = .ok (.bipush 6, 2) := by decide +kernel
theorem dX1_readLine_21 : decode cX1_readLine 21 = .ok (.if_icmp .lt 7, 3) := by decide +kernel
theorem dX1_readLine_24 : decode cX1_readLine 24 = .ok (.iconst 1, 1) := by decide +kernel
theorem dX1_readLine_25 : decode cX1_readLine 25 = .ok (.goto 4, 3) := by decide +kernel
theorem dX1_readLine_28 : decode cX1_readLine 28 = .ok (.iconst 0, 1) := by decide +kernel
theorem dX1_readLine_29 : decode cX1_readLine 29 = .ok (.iconst 1, 1) := by decide +kernel
theorem dX1_readLine_30 : decode cX1_readLine 30 = .ok (.invokevirtual 49, 3) := by decide +kernel
theorem dX1_readLine_33 : decode cX1_readLine 33 = .ok (.aload_n 0, 1) := by decide +kernel
theorem dX1_readLine_34 : decode cX1_readLine 34 = .ok (.aload_n 0, 1) := by decide +kernel
theorem dX1_readLine_35 : decode cX1_readLine 35 = .ok (.getfield 18, 3) := by decide +kernel
theorem dX1_readLine_38 : decode cX1_readLine 38 = .ok (.bipush 20, 2) := by decide +kernel
theorem dX1_readLine_40 : decode cX1_readLine 40 = .ok (.if_icmp .ge 7, 3) := by decide +kernel
theorem dX1_readLine_43 : decode cX1_readLine 43 = .ok (.iconst 1, 1) := by decide +kernel
theorem dX1_readLine_44 : decode cX1_readLine 44 = .ok (.goto 4, 3) := by decide +kernel
theorem dX1_readLine_47 : decode cX1_readLine 47 = .ok (.iconst 0, 1) := by decide +kernel
theorem dX1_readLine_48 : decode cX1_readLine 48 = .ok (.iconst 3, 1) := by decide +kernel
theorem dX1_readLine_49 : decode cX1_readLine 49 = .ok (.invokevirtual 49, 3) := by decide +kernel
theorem dX1_readLine_52 : decode cX1_readLine 52 = .ok (.aload_n 0, 1) := by decide +kernel
theorem dX1_readLine_53 : decode cX1_readLine 53 = .ok (.invokevirtual 42, 3) := by decide +kernel
theorem dX1_readLine_56 : decode cX1_readLine 56 = .ok (.iconst (-1), 1) := by decide +kernel
theorem dX1_readLine_57 : decode cX1_readLine 57 = .ok (.istore_n 3, 1) := by decide +kernel
theorem dX1_readLine_58 : decode cX1_readLine 58 = .ok (.iconst (-1), 1) := by decide +kernel
theorem dX1_readLine_59 : decode cX1_readLine 59 = .ok (.istore 4, 2) := by decide +kernel
theorem dX1_readLine_61 : decode cX1_readLine 61 = .ok (.iload_n 2, 1) := by decide +kernel
theorem dX1_readLine_62 : decode cX1_readLine 62 = .ok (.bipush 6, 2) := by decide +kernel
theorem dX1_readLine_64 : decode cX1_readLine 64 = .ok (.if_icmp .eq 9, 3) := by decide +kernel
theorem dX1_readLine_67 : decode cX1_readLine 67 = .ok (.iload_n 2, 1) := by decide +kernel
theorem dX1_readLine_68 : decode cX1_readLine 68 = .ok (.bipush 10, 2) := by decide +kernel
theorem dX1_readLine_70 : decode cX1_readLine 70 = .ok (.if_icmp .ne 12, 3) := by decide +kernel
theorem dX1_readLine_73 : decode cX1_readLine 73 = .ok (.aload_n 0, 1) := by decide +kernel
theorem dX1_readLine_74 : decode cX1_readLine 74 = .ok (.invokevirtual 53, 3) := by decide +kernel
theorem dX1_readLine_77 : decode cX1_readLine 77 = .ok (.istore_n 3, 1) := by decide +kernel
theorem dX1_readLine_78 : decode cX1_readLine 78 = .ok (.aload_n 0, 1) := by decide +kernel
theorem dX1_readLine_79 : decode cX1_readLine 79 = .ok (.invokevirtual 42, 3) := by decide +kernel
theorem dX1_readLine_82 : decode cX1_readLine 82 = .ok (.iload_n 2, 1) := by decide +kernel
theorem dX1_readLine_83 : decode cX1_readLine 83 = .ok (.bipush 10, 2) := by decide +kernel
theorem dX1_readLine_85 : decode cX1_readLine 85 = .ok (.if_icmp .eq 14, 3) := by decide +kernel
theorem dX1_readLine_88 : decode cX1_readLine 88 = .ok (.aload_n 0, 1) := by decide +kernel
theorem dX1_readLine_89 : decode cX1_readLine 89 = .ok (.iload_n 2, 1) := by decide +kernel
theorem dX1_readLine_90 : decode cX1_readLine 90 = .ok (.invokevirtual 57, 3) := by decide +kernel
theorem dX1_readLine_93 : decode cX1_readLine 93 = .ok (.istore 4, 2) := by decide +kernel
theorem dX1_readLine_95 : decode cX1_readLine 95 = .ok (.aload_n 0, 1) := by decide +kernel
theorem dX1_readLine_96 : decode cX1_readLine 96 = .ok (.invokevirtual 42, 3) := by decide +kernel
theorem dX1_readLine_99 : decode cX1_readLine 99 = .ok (.aload_n 0, 1) := by decide +kernel
theorem dX1_readLine_100 : decode cX1_readLine 100 = .ok (.aload_n 0, 1) := by decide +kernel
theorem dX1_readLine_101 : decode cX1_readLine 101 = .ok (.getfield 24, 3) := by decide +kernel
theorem dX1_readLine_104 : decode cX1_readLine 104 = .ok (.iconst 3, 1) := by decide +kernel
theorem dX1_readLine_105 : decode cX1_readLine 105 = .ok (.if_icmp .ne 7, 3) := by decide +kernel
theorem dX1_readLine_108 : decode cX1_readLine 108 = .ok (.iconst 1, 1) := by decide +kernel
theorem dX1_readLine_109 : decode cX1_readLine 109 = .ok (.goto 4, 3) := by decide +kernel
theorem dX1_readLine_112 : decode cX1_readLine 112 = .ok (.iconst 0, 1) := by decide +kernel
theorem dX1_readLine_113 : decode cX1_readLine 113 = .ok (.iconst 1, 1) := by decide +kernel
theorem dX1_readLine_114 : decode cX1_readLine 114 = .ok (.invokevirtual 49, 3) := by decide +kernel
theorem dX1_readLine_117 : decode cX1_readLine 117 = .ok (.aload_n 0, 1) := by decide +kernel
theorem dX1_readLine_118 : decode cX1_readLine 118 = .ok (.invokevirtual 42, 3) := by decide +kernel
theorem dX1_readLine_121 : decode cX1_readLine 121 = .ok (.aload_n 0, 1) := by decide +kernel
theorem dX1_readLine_122 : decode cX1_readLine 122 = .ok (.getfield 9, 3) := by decide +kernel
theorem dX1_readLine_125 : decode cX1_readLine 125 = .ok (.ifCond .ne 21, 3) := by decide +kernel
theorem dX1_readLine_128 : decode cX1_readLine 128 = .ok (.aload_n 0, 1) := by decide +kernel
theorem dX1_readLine_129 : decode cX1_readLine 129 = .ok (.dup, 1) := by decide +kernel
theorem dX1_readLine_130 : decode cX1_readLine 130 = .ok (.getfield 18, 3) := by decide +kernel
theorem dX1_readLine_133 : decode cX1_readLine 133 = .ok (.iconst 1, 1) := by decide +kernel
theorem dX1_readLine_134 : decode cX1_readLine 134 = .ok (.iadd, 1) := by decide +kernel
theorem dX1_readLine_135 : decode cX1_readLine 135 = .ok (.putfield 18, 3) := by decide +kernel
theorem dX1_readLine_138 : decode cX1_readLine 138 = .ok (.aload_n 1, 1) := by decide +kernel
theorem dX1_readLine_139 : decode cX1_readLine 139 = .ok (.iload_n 2, 1) := by decide +kernel
theorem dX1_readLine_140 : decode cX1_readLine 140 = .ok (.iload_n 3, 1) := by decide +kernel
theorem dX1_readLine_141 : decode cX1_readLine 141 = .ok (.iload 4, 2) := by decide +kernel
theorem dX1_readLine_143 : decode cX1_readLine 143 = .ok (.invokestatic 61, 3) := by decide +kernel
theorem dX1_readLine_146 : decode cX1_readLine 146 = .ok (.return_, 1) := by decide +kernel
theorem dX1_kindHere_0 : decode cX1_kindHere 0 = .ok (.aload_n 0, 1) := by decide +kernel
theorem dX1_kindHere_1 : decode cX1_kindHere 1 = .ok (.aload_n 0, 1) := by decide +kernel
theorem dX1_kindHere_2 : decode cX1_kindHere 2 = .ok (.getfield 24, 3) := by decide +kernel
theorem dX1_kindHere_5 : decode cX1_kindHere 5 = .ok (.iconst 1, 1) := by decide +kernel
theorem dX1_kindHere_6 : decode cX1_kindHere 6 = .ok (.if_icmp .ne 16, 3) := by decide +kernel
theorem dX1_kindHere_9 : decode cX1_kindHere 9 = .ok (.aload_n 0, 1) := by decide +kernel
theorem dX1_kindHere_10 : decode cX1_kindHere 10 = .ok (.getfield 30, 3) := by decide +kernel
theorem dX1_kindHere_13 : decode cX1_kindHere 13 = .ok (.bipush 6, 2) := by decide +kernel
theorem dX1_kindHere_15 : decode cX1_kindHere 15 = .ok (.if_icmp .ge 7, 3) := by decide +kernel
theorem dX1_kindHere_18 : decode cX1_kindHere 18 = .ok (.iconst 1, 1) := by decide +kernel
theorem dX1_kindHere_19 : decode cX1_kindHere 19 = .ok (.goto 4, 3) := by decide +kernel
theorem dX1_kindHere_22 : decode cX1_kindHere 22 = .ok (.iconst 0, 1) := by decide +kernel
theorem dX1_kindHere_23 : decode cX1_kindHere 23 = .ok (.iconst 1, 1) := by decide +kernel
theorem dX1_kindHere_24 : decode cX1_kindHere 24 = .ok (.invokevirtual 49, 3) := by decide +kernel
theorem dX1_kindHere_27 : decode cX1_kindHere 27 = .ok (.aload_n 0, 1) := by decide +kernel
theorem dX1_kindHere_28 : decode cX1_kindHere 28 = .ok (.getfield 30, 3) := by decide +kernel
theorem dX1_kindHere_31 : decode cX1_kindHere 31 = .ok (.ireturn, 1) := by decide +kernel
theorem dX1_numberHere_0 : decode cX1_numberHere 0 = .ok (.aload_n 0, 1) := by decide +kernel
theorem dX1_numberHere_1 : decode cX1_numberHere 1 = .ok (.aload_n 0, 1) := by decide +kernel
theorem dX1_numberHere_2 : decode cX1_numberHere 2 = .ok (.getfield 24, 3) := by decide +kernel
theorem dX1_numberHere_5 : decode cX1_numberHere 5 = .ok (.iconst 2, 1) := by decide +kernel
theorem dX1_numberHere_6 : decode cX1_numberHere 6 = .ok (.if_icmp .ne 7, 3) := by decide +kernel
theorem dX1_numberHere_9 : decode cX1_numberHere 9 = .ok (.iconst 1, 1) := by decide +kernel
theorem dX1_numberHere_10 : decode cX1_numberHere 10 = .ok (.goto 4, 3) := by decide +kernel
theorem dX1_numberHere_13 : decode cX1_numberHere 13 = .ok (.iconst 0, 1) := by decide +kernel
theorem dX1_numberHere_14 : decode cX1_numberHere 14 = .ok (.iconst 1, 1) := by decide +kernel
theorem dX1_numberHere_15 : decode cX1_numberHere 15 = .ok (.invokevirtual 49, 3) := by decide +kernel
theorem dX1_numberHere_18 : decode cX1_numberHere 18 = .ok (.aload_n 0, 1) := by decide +kernel
theorem dX1_numberHere_19 : decode cX1_numberHere 19 = .ok (.iload_n 1, 1) := by decide +kernel
theorem dX1_numberHere_20 : decode cX1_numberHere 20 = .ok (.aload_n 0, 1) := by decide +kernel
theorem dX1_numberHere_21 : decode cX1_numberHere 21 = .ok (.getfield 30, 3) := by decide +kernel
theorem dX1_numberHere_24 : decode cX1_numberHere 24 = .ok (.invokestatic 65, 3) := by decide +kernel
theorem dX1_numberHere_27 : decode cX1_numberHere 27 = .ok (.iconst 2, 1) := by decide +kernel
theorem dX1_numberHere_28 : decode cX1_numberHere 28 = .ok (.invokevirtual 49, 3) := by decide +kernel
theorem dX1_numberHere_31 : decode cX1_numberHere 31 = .ok (.aload_n 0, 1) := by decide +kernel
theorem dX1_numberHere_32 : decode cX1_numberHere 32 = .ok (.getfield 30, 3) := by decide +kernel
theorem dX1_numberHere_35 : decode cX1_numberHere 35 = .ok (.ireturn, 1) := by decide +kernel
theorem dX1_demand_0 : decode cX1_demand 0 = .ok (.iload_n 1, 1) := by decide +kernel
theorem dX1_demand_1 : decode cX1_demand 1 = .ok (.ifCond .ne 23, 3) := by decide +kernel
theorem dX1_demand_4 : decode cX1_demand 4 = .ok (.aload_n 0, 1) := by decide +kernel
theorem dX1_demand_5 : decode cX1_demand 5 = .ok (.getfield 9, 3) := by decide +kernel
theorem dX1_demand_8 : decode cX1_demand 8 = .ok (.ifCond .ne 16, 3) := by decide +kernel
theorem dX1_demand_11 : decode cX1_demand 11 = .ok (.aload_n 0, 1) := by decide +kernel
theorem dX1_demand_12 : decode cX1_demand 12 = .ok (.iload_n 2, 1) := by decide +kernel
theorem dX1_demand_13 : decode cX1_demand 13 = .ok (.putfield 9, 3) := by decide +kernel
theorem dX1_demand_16 : decode cX1_demand 16 = .ok (.aload_n 0, 1) := by decide +kernel
theorem dX1_demand_17 : decode cX1_demand 17 = .ok (.aload_n 0, 1) := by decide +kernel
theorem dX1_demand_18 : decode cX1_demand 18 = .ok (.getfield 27, 3) := by decide +kernel
theorem dX1_demand_21 : decode cX1_demand 21 = .ok (.putfield 15, 3) := by decide +kernel
theorem dX1_demand_24 : decode cX1_demand 24 = .ok (.return_, 1) := by decide +kernel
theorem dX1_fits_0 : decode cX1_fits 0 = .ok (.iload_n 0, 1) := by decide +kernel
theorem dX1_fits_1 : decode cX1_fits 1 = .ok (.lookupswitch 49 #[(6, 27), (8, 39)], 27) := by decide +kernel
theorem dX1_fits_28 : decode cX1_fits 28 = .ok (.iload_n 1, 1) := by decide +kernel
theorem dX1_fits_29 : decode cX1_fits 29 = .ok (.bipush 20, 2) := by decide +kernel
theorem dX1_fits_31 : decode cX1_fits 31 = .ok (.if_icmp .gt 7, 3) := by decide +kernel
theorem dX1_fits_34 : decode cX1_fits 34 = .ok (.iconst 1, 1) := by decide +kernel
theorem dX1_fits_35 : decode cX1_fits 35 = .ok (.goto 4, 3) := by decide +kernel
theorem dX1_fits_38 : decode cX1_fits 38 = .ok (.iconst 0, 1) := by decide +kernel
theorem dX1_fits_39 : decode cX1_fits 39 = .ok (.ireturn, 1) := by decide +kernel
theorem dX1_fits_40 : decode cX1_fits 40 = .ok (.iload_n 1, 1) := by decide +kernel
theorem dX1_fits_41 : decode cX1_fits 41 = .ok (.ifCond .le 7, 3) := by decide +kernel
theorem dX1_fits_44 : decode cX1_fits 44 = .ok (.iconst 1, 1) := by decide +kernel
theorem dX1_fits_45 : decode cX1_fits 45 = .ok (.goto 4, 3) := by decide +kernel
theorem dX1_fits_48 : decode cX1_fits 48 = .ok (.iconst 0, 1) := by decide +kernel
theorem dX1_fits_49 : decode cX1_fits 49 = .ok (.ireturn, 1) := by decide +kernel
theorem dX1_fits_50 : decode cX1_fits 50 = .ok (.iload_n 1, 1) := by decide +kernel
theorem dX1_fits_51 : decode cX1_fits 51 = .ok (.bipush 9, 2) := by decide +kernel
theorem dX1_fits_53 : decode cX1_fits 53 = .ok (.if_icmp .gt 7, 3) := by decide +kernel
theorem dX1_fits_56 : decode cX1_fits 56 = .ok (.iconst 1, 1) := by decide +kernel
theorem dX1_fits_57 : decode cX1_fits 57 = .ok (.goto 4, 3) := by decide +kernel
theorem dX1_fits_60 : decode cX1_fits 60 = .ok (.iconst 0, 1) := by decide +kernel
theorem dX1_fits_61 : decode cX1_fits 61 = .ok (.ireturn, 1) := by decide +kernel
theorem dX1_enact_0 : decode cX1_enact 0 = .ok (.iload_n 2, 1) := by decide +kernel
theorem dX1_enact_1 : decode cX1_enact 1 = .ok (.ifCond .lt 13, 3) := by decide +kernel
theorem dX1_enact_4 : decode cX1_enact 4 = .ok (.iload_n 2, 1) := by decide +kernel
theorem dX1_enact_5 : decode cX1_enact 5 = .ok (.bipush 6, 2) := by decide +kernel
theorem dX1_enact_7 : decode cX1_enact 7 = .ok (.if_icmp .ge 7, 3) := by decide +kernel
theorem dX1_enact_10 : decode cX1_enact 10 = .ok (.iconst 1, 1) := by decide +kernel
theorem dX1_enact_11 : decode cX1_enact 11 = .ok (.goto 4, 3) := by decide +kernel
theorem dX1_enact_14 : decode cX1_enact 14 = .ok (.iconst 0, 1) := by decide +kernel
theorem dX1_enact_15 : decode cX1_enact 15 = .ok (.istore 4, 2) := by decide +kernel
theorem dX1_enact_17 : decode cX1_enact 17 = .ok (.iload_n 1, 1) := by decide +kernel
theorem dX1_enact_18 : decode cX1_enact 18 = .ok (.bipush 6, 2) := by decide +kernel
theorem dX1_enact_20 : decode cX1_enact 20 = .ok (.if_icmp .ne 18, 3) := by decide +kernel
theorem dX1_enact_23 : decode cX1_enact 23 = .ok (.iload 4, 2) := by decide +kernel
theorem dX1_enact_25 : decode cX1_enact 25 = .ok (.ifCond .eq 13, 3) := by decide +kernel
theorem dX1_enact_28 : decode cX1_enact 28 = .ok (.aload_n 0, 1) := by decide +kernel
theorem dX1_enact_29 : decode cX1_enact 29 = .ok (.getfield 69, 3) := by decide +kernel
theorem dX1_enact_32 : decode cX1_enact 32 = .ok (.iload_n 2, 1) := by decide +kernel
theorem dX1_enact_33 : decode cX1_enact 33 = .ok (.iload_n 3, 1) := by decide +kernel
theorem dX1_enact_34 : decode cX1_enact 34 = .ok (.iastore, 1) := by decide +kernel
theorem dX1_enact_35 : decode cX1_enact 35 = .ok (.goto 63, 3) := by decide +kernel
theorem dX1_enact_38 : decode cX1_enact 38 = .ok (.iload_n 1, 1) := by decide +kernel
theorem dX1_enact_39 : decode cX1_enact 39 = .ok (.bipush 10, 2) := by decide +kernel
theorem dX1_enact_41 : decode cX1_enact 41 = .ok (.if_icmp .ne 18, 3) := by decide +kernel
theorem dX1_enact_44 : decode cX1_enact 44 = .ok (.iload 4, 2) := by decide +kernel
theorem dX1_enact_46 : decode cX1_enact 46 = .ok (.ifCond .eq 13, 3) := by decide +kernel
theorem dX1_enact_49 : decode cX1_enact 49 = .ok (.aload_n 0, 1) := by decide +kernel
theorem dX1_enact_50 : decode cX1_enact 50 = .ok (.getfield 73, 3) := by decide +kernel
theorem dX1_enact_53 : decode cX1_enact 53 = .ok (.iload_n 2, 1) := by decide +kernel
theorem dX1_enact_54 : decode cX1_enact 54 = .ok (.iconst 1, 1) := by decide +kernel
theorem dX1_enact_55 : decode cX1_enact 55 = .ok (.bastore, 1) := by decide +kernel
theorem dX1_enact_56 : decode cX1_enact 56 = .ok (.goto 42, 3) := by decide +kernel
theorem dX1_enact_59 : decode cX1_enact 59 = .ok (.iload_n 1, 1) := by decide +kernel
theorem dX1_enact_60 : decode cX1_enact 60 = .ok (.bipush 7, 2) := by decide +kernel
theorem dX1_enact_62 : decode cX1_enact 62 = .ok (.if_icmp .ne 11, 3) := by decide +kernel
theorem dX1_enact_65 : decode cX1_enact 65 = .ok (.aload_n 0, 1) := by decide +kernel
theorem dX1_enact_66 : decode cX1_enact 66 = .ok (.iload_n 3, 1) := by decide +kernel
theorem dX1_enact_67 : decode cX1_enact 67 = .ok (.putfield 77, 3) := by decide +kernel
theorem dX1_enact_70 : decode cX1_enact 70 = .ok (.goto 28, 3) := by decide +kernel
theorem dX1_enact_73 : decode cX1_enact 73 = .ok (.iload_n 1, 1) := by decide +kernel
theorem dX1_enact_74 : decode cX1_enact 74 = .ok (.bipush 8, 2) := by decide +kernel
theorem dX1_enact_76 : decode cX1_enact 76 = .ok (.if_icmp .ne 11, 3) := by decide +kernel
theorem dX1_enact_79 : decode cX1_enact 79 = .ok (.aload_n 0, 1) := by decide +kernel
theorem dX1_enact_80 : decode cX1_enact 80 = .ok (.iload_n 3, 1) := by decide +kernel
theorem dX1_enact_81 : decode cX1_enact 81 = .ok (.putfield 80, 3) := by decide +kernel
theorem dX1_enact_84 : decode cX1_enact 84 = .ok (.goto 14, 3) := by decide +kernel
theorem dX1_enact_87 : decode cX1_enact 87 = .ok (.iload_n 1, 1) := by decide +kernel
theorem dX1_enact_88 : decode cX1_enact 88 = .ok (.bipush 9, 2) := by decide +kernel
theorem dX1_enact_90 : decode cX1_enact 90 = .ok (.if_icmp .ne 8, 3) := by decide +kernel
theorem dX1_enact_93 : decode cX1_enact 93 = .ok (.aload_n 0, 1) := by decide +kernel
theorem dX1_enact_94 : decode cX1_enact 94 = .ok (.iload_n 3, 1) := by decide +kernel
theorem dX1_enact_95 : decode cX1_enact 95 = .ok (.putfield 83, 3) := by decide +kernel
theorem dX1_enact_98 : decode cX1_enact 98 = .ok (.return_, 1) := by decide +kernel
theorem dX1_advance_0 : decode cX1_advance 0 = .ok (.aload_n 0, 1) := by decide +kernel
theorem dX1_advance_1 : decode cX1_advance 1 = .ok (.getfield 21, 3) := by decide +kernel
theorem dX1_advance_4 : decode cX1_advance 4 = .ok (.aload_n 0, 1) := by decide +kernel
theorem dX1_advance_5 : decode cX1_advance 5 = .ok (.getfield 33, 3) := by decide +kernel
theorem dX1_advance_8 : decode cX1_advance 8 = .ok (.getfield 86, 3) := by decide +kernel
theorem dX1_advance_11 : decode cX1_advance 11 = .ok (.if_icmp .ge 34, 3) := by decide +kernel
theorem dX1_advance_14 : decode cX1_advance 14 = .ok (.aload_n 0, 1) := by decide +kernel
theorem dX1_advance_15 : decode cX1_advance 15 = .ok (.getfield 33, 3) := by decide +kernel
theorem dX1_advance_18 : decode cX1_advance 18 = .ok (.getfield 91, 3) := by decide +kernel
theorem dX1_advance_21 : decode cX1_advance 21 = .ok (.aload_n 0, 1) := by decide +kernel
theorem dX1_advance_22 : decode cX1_advance 22 = .ok (.getfield 21, 3) := by decide +kernel
theorem dX1_advance_25 : decode cX1_advance 25 = .ok (.baload, 1) := by decide +kernel
theorem dX1_advance_26 : decode cX1_advance 26 = .ok (.invokestatic 95, 3) := by decide +kernel
theorem dX1_advance_29 : decode cX1_advance 29 = .ok (.ifCond .eq 16, 3) := by decide +kernel
theorem dX1_advance_32 : decode cX1_advance 32 = .ok (.aload_n 0, 1) := by decide +kernel
theorem dX1_advance_33 : decode cX1_advance 33 = .ok (.dup, 1) := by decide +kernel
theorem dX1_advance_34 : decode cX1_advance 34 = .ok (.getfield 21, 3) := by decide +kernel
theorem dX1_advance_37 : decode cX1_advance 37 = .ok (.iconst 1, 1) := by decide +kernel
theorem dX1_advance_38 : decode cX1_advance 38 = .ok (.iadd, 1) := by decide +kernel
theorem dX1_advance_39 : decode cX1_advance 39 = .ok (.putfield 21, 3) := by decide +kernel
theorem dX1_advance_42 : decode cX1_advance 42 = .ok (.goto (-42), 3) := by decide +kernel
theorem dX1_advance_45 : decode cX1_advance 45 = .ok (.aload_n 0, 1) := by decide +kernel
theorem dX1_advance_46 : decode cX1_advance 46 = .ok (.aload_n 0, 1) := by decide +kernel
theorem dX1_advance_47 : decode cX1_advance 47 = .ok (.getfield 21, 3) := by decide +kernel
theorem dX1_advance_50 : decode cX1_advance 50 = .ok (.putfield 27, 3) := by decide +kernel
theorem dX1_advance_53 : decode cX1_advance 53 = .ok (.aload_n 0, 1) := by decide +kernel
theorem dX1_advance_54 : decode cX1_advance 54 = .ok (.iconst (-1), 1) := by decide +kernel
theorem dX1_advance_55 : decode cX1_advance 55 = .ok (.putfield 30, 3) := by decide +kernel
theorem dX1_advance_58 : decode cX1_advance 58 = .ok (.aload_n 0, 1) := by decide +kernel
theorem dX1_advance_59 : decode cX1_advance 59 = .ok (.getfield 21, 3) := by decide +kernel
theorem dX1_advance_62 : decode cX1_advance 62 = .ok (.aload_n 0, 1) := by decide +kernel
theorem dX1_advance_63 : decode cX1_advance 63 = .ok (.getfield 33, 3) := by decide +kernel
theorem dX1_advance_66 : decode cX1_advance 66 = .ok (.getfield 86, 3) := by decide +kernel
theorem dX1_advance_69 : decode cX1_advance 69 = .ok (.if_icmp .lt 11, 3) := by decide +kernel
theorem dX1_advance_72 : decode cX1_advance 72 = .ok (.aload_n 0, 1) := by decide +kernel
theorem dX1_advance_73 : decode cX1_advance 73 = .ok (.iconst 0, 1) := by decide +kernel
theorem dX1_advance_74 : decode cX1_advance 74 = .ok (.putfield 24, 3) := by decide +kernel
theorem dX1_advance_77 : decode cX1_advance 77 = .ok (.goto 89, 3) := by decide +kernel
theorem dX1_advance_80 : decode cX1_advance 80 = .ok (.aload_n 0, 1) := by decide +kernel
theorem dX1_advance_81 : decode cX1_advance 81 = .ok (.getfield 33, 3) := by decide +kernel
theorem dX1_advance_84 : decode cX1_advance 84 = .ok (.getfield 91, 3) := by decide +kernel
theorem dX1_advance_87 : decode cX1_advance 87 = .ok (.aload_n 0, 1) := by decide +kernel
theorem dX1_advance_88 : decode cX1_advance 88 = .ok (.getfield 21, 3) := by decide +kernel
theorem dX1_advance_91 : decode cX1_advance 91 = .ok (.baload, 1) := by decide +kernel
theorem dX1_advance_92 : decode cX1_advance 92 = .ok (.invokestatic 99, 3) := by decide +kernel
theorem dX1_advance_95 : decode cX1_advance 95 = .ok (.ifCond .eq 10, 3) := by decide +kernel
theorem dX1_advance_98 : decode cX1_advance 98 = .ok (.aload_n 0, 1) := by decide +kernel
theorem dX1_advance_99 : decode cX1_advance 99 = .ok (.invokevirtual 102, 3) := by decide +kernel
theorem dX1_advance_102 : decode cX1_advance 102 = .ok (.goto 64, 3) := by decide +kernel
theorem dX1_advance_105 : decode cX1_advance 105 = .ok (.aload_n 0, 1) := by decide +kernel
theorem dX1_advance_106 : decode cX1_advance 106 = .ok (.getfield 33, 3) := by decide +kernel
theorem dX1_advance_109 : decode cX1_advance 109 = .ok (.getfield 91, 3) := by decide +kernel
theorem dX1_advance_112 : decode cX1_advance 112 = .ok (.aload_n 0, 1) := by decide +kernel
theorem dX1_advance_113 : decode cX1_advance 113 = .ok (.getfield 21, 3) := by decide +kernel
theorem dX1_advance_116 : decode cX1_advance 116 = .ok (.baload, 1) := by decide +kernel
theorem dX1_advance_117 : decode cX1_advance 117 = .ok (.invokestatic 105, 3) := by decide +kernel
theorem dX1_advance_120 : decode cX1_advance 120 = .ok (.ifCond .eq 10, 3) := by decide +kernel
theorem dX1_advance_123 : decode cX1_advance 123 = .ok (.aload_n 0, 1) := by decide +kernel
theorem dX1_advance_124 : decode cX1_advance 124 = .ok (.invokevirtual 108, 3) := by decide +kernel
theorem dX1_advance_127 : decode cX1_advance 127 = .ok (.goto 39, 3) := by decide +kernel
theorem dX1_advance_130 : decode cX1_advance 130 = .ok (.aload_n 0, 1) := by decide +kernel
theorem dX1_advance_131 : decode cX1_advance 131 = .ok (.aload_n 0, 1) := by decide +kernel
theorem dX1_advance_132 : decode cX1_advance 132 = .ok (.getfield 33, 3) := by decide +kernel
theorem dX1_advance_135 : decode cX1_advance 135 = .ok (.getfield 91, 3) := by decide +kernel
theorem dX1_advance_138 : decode cX1_advance 138 = .ok (.aload_n 0, 1) := by decide +kernel
theorem dX1_advance_139 : decode cX1_advance 139 = .ok (.getfield 21, 3) := by decide +kernel
theorem dX1_advance_142 : decode cX1_advance 142 = .ok (.baload, 1) := by decide +kernel
theorem dX1_advance_143 : decode cX1_advance 143 = .ok (.bipush 59, 2) := by decide +kernel
theorem dX1_advance_145 : decode cX1_advance 145 = .ok (.if_icmp .ne 7, 3) := by decide +kernel
theorem dX1_advance_148 : decode cX1_advance 148 = .ok (.iconst 3, 1) := by decide +kernel
theorem dX1_advance_149 : decode cX1_advance 149 = .ok (.goto 4, 3) := by decide +kernel
theorem dX1_advance_152 : decode cX1_advance 152 = .ok (.iconst 4, 1) := by decide +kernel
theorem dX1_advance_153 : decode cX1_advance 153 = .ok (.putfield 24, 3) := by decide +kernel
theorem dX1_advance_156 : decode cX1_advance 156 = .ok (.aload_n 0, 1) := by decide +kernel
theorem dX1_advance_157 : decode cX1_advance 157 = .ok (.dup, 1) := by decide +kernel
theorem dX1_advance_158 : decode cX1_advance 158 = .ok (.getfield 21, 3) := by decide +kernel
theorem dX1_advance_161 : decode cX1_advance 161 = .ok (.iconst 1, 1) := by decide +kernel
theorem dX1_advance_162 : decode cX1_advance 162 = .ok (.iadd, 1) := by decide +kernel
theorem dX1_advance_163 : decode cX1_advance 163 = .ok (.putfield 21, 3) := by decide +kernel
theorem dX1_advance_166 : decode cX1_advance 166 = .ok (.return_, 1) := by decide +kernel
theorem dX1_scanWord_0 : decode cX1_scanWord 0 = .ok (.aload_n 0, 1) := by decide +kernel
theorem dX1_scanWord_1 : decode cX1_scanWord 1 = .ok (.getfield 21, 3) := by decide +kernel
theorem dX1_scanWord_4 : decode cX1_scanWord 4 = .ok (.aload_n 0, 1) := by decide +kernel
theorem dX1_scanWord_5 : decode cX1_scanWord 5 = .ok (.getfield 33, 3) := by decide +kernel
theorem dX1_scanWord_8 : decode cX1_scanWord 8 = .ok (.getfield 86, 3) := by decide +kernel
theorem dX1_scanWord_11 : decode cX1_scanWord 11 = .ok (.if_icmp .ge 34, 3) := by decide +kernel
theorem dX1_scanWord_14 : decode cX1_scanWord 14 = .ok (.aload_n 0, 1) := by decide +kernel
theorem dX1_scanWord_15 : decode cX1_scanWord 15 = .ok (.getfield 33, 3) := by decide +kernel
theorem dX1_scanWord_18 : decode cX1_scanWord 18 = .ok (.getfield 91, 3) := by decide +kernel
theorem dX1_scanWord_21 : decode cX1_scanWord 21 = .ok (.aload_n 0, 1) := by decide +kernel
theorem dX1_scanWord_22 : decode cX1_scanWord 22 = .ok (.getfield 21, 3) := by decide +kernel
theorem dX1_scanWord_25 : decode cX1_scanWord 25 = .ok (.baload, 1) := by decide +kernel
theorem dX1_scanWord_26 : decode cX1_scanWord 26 = .ok (.invokestatic 99, 3) := by decide +kernel
theorem dX1_scanWord_29 : decode cX1_scanWord 29 = .ok (.ifCond .eq 16, 3) := by decide +kernel
theorem dX1_scanWord_32 : decode cX1_scanWord 32 = .ok (.aload_n 0, 1) := by decide +kernel
theorem dX1_scanWord_33 : decode cX1_scanWord 33 = .ok (.dup, 1) := by decide +kernel
theorem dX1_scanWord_34 : decode cX1_scanWord 34 = .ok (.getfield 21, 3) := by decide +kernel
theorem dX1_scanWord_37 : decode cX1_scanWord 37 = .ok (.iconst 1, 1) := by decide +kernel
theorem dX1_scanWord_38 : decode cX1_scanWord 38 = .ok (.iadd, 1) := by decide +kernel
theorem dX1_scanWord_39 : decode cX1_scanWord 39 = .ok (.putfield 21, 3) := by decide +kernel
theorem dX1_scanWord_42 : decode cX1_scanWord 42 = .ok (.goto (-42), 3) := by decide +kernel
theorem dX1_scanWord_45 : decode cX1_scanWord 45 = .ok (.aload_n 0, 1) := by decide +kernel
theorem dX1_scanWord_46 : decode cX1_scanWord 46 = .ok (.iconst 4, 1) := by decide +kernel
theorem dX1_scanWord_47 : decode cX1_scanWord 47 = .ok (.putfield 24, 3) := by decide +kernel
theorem dX1_scanWord_50 : decode cX1_scanWord 50 = .ok (.iconst 0, 1) := by decide +kernel
theorem dX1_scanWord_51 : decode cX1_scanWord 51 = .ok (.istore_n 1, 1) := by decide +kernel
theorem dX1_scanWord_52 : decode cX1_scanWord 52 = .ok (.iload_n 1, 1) := by decide +kernel
theorem dX1_scanWord_53 : decode cX1_scanWord 53 = .ok (.bipush 11, 2) := by decide +kernel
theorem dX1_scanWord_55 : decode cX1_scanWord 55 = .ok (.if_icmp .ge 30, 3) := by decide +kernel
theorem dX1_scanWord_58 : decode cX1_scanWord 58 = .ok (.aload_n 0, 1) := by decide +kernel
theorem dX1_scanWord_59 : decode cX1_scanWord 59 = .ok (.iload_n 1, 1) := by decide +kernel
theorem dX1_scanWord_60 : decode cX1_scanWord 60 = .ok (.invokestatic 111, 3) := by decide +kernel
theorem dX1_scanWord_63 : decode cX1_scanWord 63 = .ok (.invokevirtual 115, 3) := by decide +kernel
theorem dX1_scanWord_66 : decode cX1_scanWord 66 = .ok (.ifCond .eq 13, 3) := by decide +kernel
theorem dX1_scanWord_69 : decode cX1_scanWord 69 = .ok (.aload_n 0, 1) := by decide +kernel
theorem dX1_scanWord_70 : decode cX1_scanWord 70 = .ok (.iconst 1, 1) := by decide +kernel
theorem dX1_scanWord_71 : decode cX1_scanWord 71 = .ok (.putfield 24, 3) := by decide +kernel
theorem dX1_scanWord_74 : decode cX1_scanWord 74 = .ok (.aload_n 0, 1) := by decide +kernel
theorem dX1_scanWord_75 : decode cX1_scanWord 75 = .ok (.iload_n 1, 1) := by decide +kernel
theorem dX1_scanWord_76 : decode cX1_scanWord 76 = .ok (.putfield 30, 3) := by decide +kernel
theorem dX1_scanWord_79 : decode cX1_scanWord 79 = .ok (.iinc 1 1, 3) := by decide +kernel
theorem dX1_scanWord_82 : decode cX1_scanWord 82 = .ok (.goto (-30), 3) := by decide +kernel
theorem dX1_scanWord_85 : decode cX1_scanWord 85 = .ok (.return_, 1) := by decide +kernel
theorem dX1_isSpelled_0 : decode cX1_isSpelled 0 = .ok (.aload_n 1, 1) := by decide +kernel
theorem dX1_isSpelled_1 : decode cX1_isSpelled 1 = .ok (.invokevirtual 119, 3) := by decide +kernel
theorem dX1_isSpelled_4 : decode cX1_isSpelled 4 = .ok (.aload_n 0, 1) := by decide +kernel
theorem dX1_isSpelled_5 : decode cX1_isSpelled 5 = .ok (.getfield 21, 3) := by decide +kernel
theorem dX1_isSpelled_8 : decode cX1_isSpelled 8 = .ok (.aload_n 0, 1) := by decide +kernel
theorem dX1_isSpelled_9 : decode cX1_isSpelled 9 = .ok (.getfield 27, 3) := by decide +kernel
theorem dX1_isSpelled_12 : decode cX1_isSpelled 12 = .ok (.isub, 1) := by decide +kernel
theorem dX1_isSpelled_13 : decode cX1_isSpelled 13 = .ok (.if_icmp .eq 5, 3) := by decide +kernel
theorem dX1_isSpelled_16 : decode cX1_isSpelled 16 = .ok (.iconst 0, 1) := by decide +kernel
theorem dX1_isSpelled_17 : decode cX1_isSpelled 17 = .ok (.ireturn, 1) := by decide +kernel
theorem dX1_isSpelled_18 : decode cX1_isSpelled 18 = .ok (.iconst 0, 1) := by decide +kernel
theorem dX1_isSpelled_19 : decode cX1_isSpelled 19 = .ok (.istore_n 2, 1) := by decide +kernel
theorem dX1_isSpelled_20 : decode cX1_isSpelled 20 = .ok (.iload_n 2, 1) := by decide +kernel
theorem dX1_isSpelled_21 : decode cX1_isSpelled 21 = .ok (.aload_n 1, 1) := by decide +kernel
theorem dX1_isSpelled_22 : decode cX1_isSpelled 22 = .ok (.invokevirtual 119, 3) := by decide +kernel
theorem dX1_isSpelled_25 : decode cX1_isSpelled 25 = .ok (.if_icmp .ge 33, 3) := by decide +kernel
theorem dX1_isSpelled_28 : decode cX1_isSpelled 28 = .ok (.aload_n 0, 1) := by decide +kernel
theorem dX1_isSpelled_29 : decode cX1_isSpelled 29 = .ok (.getfield 33, 3) := by decide +kernel
theorem dX1_isSpelled_32 : decode cX1_isSpelled 32 = .ok (.getfield 91, 3) := by decide +kernel
theorem dX1_isSpelled_35 : decode cX1_isSpelled 35 = .ok (.aload_n 0, 1) := by decide +kernel
theorem dX1_isSpelled_36 : decode cX1_isSpelled 36 = .ok (.getfield 27, 3) := by decide +kernel
theorem dX1_isSpelled_39 : decode cX1_isSpelled 39 = .ok (.iload_n 2, 1) := by decide +kernel
theorem dX1_isSpelled_40 : decode cX1_isSpelled 40 = .ok (.iadd, 1) := by decide +kernel
theorem dX1_isSpelled_41 : decode cX1_isSpelled 41 = .ok (.baload, 1) := by decide +kernel
theorem dX1_isSpelled_42 : decode cX1_isSpelled 42 = .ok (.aload_n 1, 1) := by decide +kernel
theorem dX1_isSpelled_43 : decode cX1_isSpelled 43 = .ok (.iload_n 2, 1) := by decide +kernel
theorem dX1_isSpelled_44 : decode cX1_isSpelled 44 = .ok (.invokevirtual 123, 3) := by decide +kernel
theorem dX1_isSpelled_47 : decode cX1_isSpelled 47 = .ok (.if_icmp .eq 5, 3) := by decide +kernel
theorem dX1_isSpelled_50 : decode cX1_isSpelled 50 = .ok (.iconst 0, 1) := by decide +kernel
theorem dX1_isSpelled_51 : decode cX1_isSpelled 51 = .ok (.ireturn, 1) := by decide +kernel
theorem dX1_isSpelled_52 : decode cX1_isSpelled 52 = .ok (.iinc 2 1, 3) := by decide +kernel
theorem dX1_isSpelled_55 : decode cX1_isSpelled 55 = .ok (.goto (-35), 3) := by decide +kernel
theorem dX1_isSpelled_58 : decode cX1_isSpelled 58 = .ok (.iconst 1, 1) := by decide +kernel
theorem dX1_isSpelled_59 : decode cX1_isSpelled 59 = .ok (.ireturn, 1) := by decide +kernel
theorem dX1_scanNumber_0 : decode cX1_scanNumber 0 = .ok (.iconst 0, 1) := by decide +kernel
theorem dX1_scanNumber_1 : decode cX1_scanNumber 1 = .ok (.istore_n 1, 1) := by decide +kernel
theorem dX1_scanNumber_2 : decode cX1_scanNumber 2 = .ok (.aload_n 0, 1) := by decide +kernel
theorem dX1_scanNumber_3 : decode cX1_scanNumber 3 = .ok (.getfield 21, 3) := by decide +kernel
theorem dX1_scanNumber_6 : decode cX1_scanNumber 6 = .ok (.aload_n 0, 1) := by decide +kernel
theorem dX1_scanNumber_7 : decode cX1_scanNumber 7 = .ok (.getfield 33, 3) := by decide +kernel
theorem dX1_scanNumber_10 : decode cX1_scanNumber 10 = .ok (.getfield 86, 3) := by decide +kernel
theorem dX1_scanNumber_13 : decode cX1_scanNumber 13 = .ok (.if_icmp .ge 55, 3) := by decide +kernel
theorem dX1_scanNumber_16 : decode cX1_scanNumber 16 = .ok (.aload_n 0, 1) := by decide +kernel
theorem dX1_scanNumber_17 : decode cX1_scanNumber 17 = .ok (.getfield 33, 3) := by decide +kernel
theorem dX1_scanNumber_20 : decode cX1_scanNumber 20 = .ok (.getfield 91, 3) := by decide +kernel
theorem dX1_scanNumber_23 : decode cX1_scanNumber 23 = .ok (.aload_n 0, 1) := by decide +kernel
theorem dX1_scanNumber_24 : decode cX1_scanNumber 24 = .ok (.getfield 21, 3) := by decide +kernel
theorem dX1_scanNumber_27 : decode cX1_scanNumber 27 = .ok (.baload, 1) := by decide +kernel
theorem dX1_scanNumber_28 : decode cX1_scanNumber 28 = .ok (.invokestatic 105, 3) := by decide +kernel
theorem dX1_scanNumber_31 : decode cX1_scanNumber 31 = .ok (.ifCond .eq 37, 3) := by decide +kernel
theorem dX1_scanNumber_34 : decode cX1_scanNumber 34 = .ok (.bipush 10, 2) := by decide +kernel
theorem dX1_scanNumber_36 : decode cX1_scanNumber 36 = .ok (.iload_n 1, 1) := by decide +kernel
theorem dX1_scanNumber_37 : decode cX1_scanNumber 37 = .ok (.imul, 1) := by decide +kernel
theorem dX1_scanNumber_38 : decode cX1_scanNumber 38 = .ok (.aload_n 0, 1) := by decide +kernel
theorem dX1_scanNumber_39 : decode cX1_scanNumber 39 = .ok (.getfield 33, 3) := by decide +kernel
theorem dX1_scanNumber_42 : decode cX1_scanNumber 42 = .ok (.getfield 91, 3) := by decide +kernel
theorem dX1_scanNumber_45 : decode cX1_scanNumber 45 = .ok (.aload_n 0, 1) := by decide +kernel
theorem dX1_scanNumber_46 : decode cX1_scanNumber 46 = .ok (.getfield 21, 3) := by decide +kernel
theorem dX1_scanNumber_49 : decode cX1_scanNumber 49 = .ok (.baload, 1) := by decide +kernel
theorem dX1_scanNumber_50 : decode cX1_scanNumber 50 = .ok (.iadd, 1) := by decide +kernel
theorem dX1_scanNumber_51 : decode cX1_scanNumber 51 = .ok (.bipush 48, 2) := by decide +kernel
theorem dX1_scanNumber_53 : decode cX1_scanNumber 53 = .ok (.isub, 1) := by decide +kernel
theorem dX1_scanNumber_54 : decode cX1_scanNumber 54 = .ok (.istore_n 1, 1) := by decide +kernel
theorem dX1_scanNumber_55 : decode cX1_scanNumber 55 = .ok (.aload_n 0, 1) := by decide +kernel
theorem dX1_scanNumber_56 : decode cX1_scanNumber 56 = .ok (.dup, 1) := by decide +kernel
theorem dX1_scanNumber_57 : decode cX1_scanNumber 57 = .ok (.getfield 21, 3) := by decide +kernel
theorem dX1_scanNumber_60 : decode cX1_scanNumber 60 = .ok (.iconst 1, 1) := by decide +kernel
theorem dX1_scanNumber_61 : decode cX1_scanNumber 61 = .ok (.iadd, 1) := by decide +kernel
theorem dX1_scanNumber_62 : decode cX1_scanNumber 62 = .ok (.putfield 21, 3) := by decide +kernel
theorem dX1_scanNumber_65 : decode cX1_scanNumber 65 = .ok (.goto (-63), 3) := by decide +kernel
theorem dX1_scanNumber_68 : decode cX1_scanNumber 68 = .ok (.aload_n 0, 1) := by decide +kernel
theorem dX1_scanNumber_69 : decode cX1_scanNumber 69 = .ok (.iconst 4, 1) := by decide +kernel
theorem dX1_scanNumber_70 : decode cX1_scanNumber 70 = .ok (.putfield 24, 3) := by decide +kernel
theorem dX1_scanNumber_73 : decode cX1_scanNumber 73 = .ok (.aload_n 0, 1) := by decide +kernel
theorem dX1_scanNumber_74 : decode cX1_scanNumber 74 = .ok (.getfield 21, 3) := by decide +kernel
theorem dX1_scanNumber_77 : decode cX1_scanNumber 77 = .ok (.aload_n 0, 1) := by decide +kernel
theorem dX1_scanNumber_78 : decode cX1_scanNumber 78 = .ok (.getfield 27, 3) := by decide +kernel
theorem dX1_scanNumber_81 : decode cX1_scanNumber 81 = .ok (.isub, 1) := by decide +kernel
theorem dX1_scanNumber_82 : decode cX1_scanNumber 82 = .ok (.iconst 2, 1) := by decide +kernel
theorem dX1_scanNumber_83 : decode cX1_scanNumber 83 = .ok (.if_icmp .gt 13, 3) := by decide +kernel
theorem dX1_scanNumber_86 : decode cX1_scanNumber 86 = .ok (.aload_n 0, 1) := by decide +kernel
theorem dX1_scanNumber_87 : decode cX1_scanNumber 87 = .ok (.iconst 2, 1) := by decide +kernel
theorem dX1_scanNumber_88 : decode cX1_scanNumber 88 = .ok (.putfield 24, 3) := by decide +kernel
theorem dX1_scanNumber_91 : decode cX1_scanNumber 91 = .ok (.aload_n 0, 1) := by decide +kernel
theorem dX1_scanNumber_92 : decode cX1_scanNumber 92 = .ok (.iload_n 1, 1) := by decide +kernel
theorem dX1_scanNumber_93 : decode cX1_scanNumber 93 = .ok (.putfield 30, 3) := by decide +kernel
theorem dX1_scanNumber_96 : decode cX1_scanNumber 96 = .ok (.return_, 1) := by decide +kernel
theorem dX1_keyword_0 : decode cX1_keyword 0 = .ok (.iload_n 0, 1) := by decide +kernel
theorem dX1_keyword_1 : decode cX1_keyword 1 = .ok (.tableswitch 92 0 10 #[59, 62, 65, 68, 71, 74, 77, 80, 83, 86, 89], 59) := by decide +kernel
theorem dX1_keyword_60 : decode cX1_keyword 60 = .ok (.ldc 127, 2) := by decide +kernel
theorem dX1_keyword_62 : decode cX1_keyword 62 = .ok (.areturn, 1) := by decide +kernel
theorem dX1_keyword_63 : decode cX1_keyword 63 = .ok (.ldc 129, 2) := by decide +kernel
theorem dX1_keyword_65 : decode cX1_keyword 65 = .ok (.areturn, 1) := by decide +kernel
theorem dX1_keyword_66 : decode cX1_keyword 66 = .ok (.ldc 131, 2) := by decide +kernel
theorem dX1_keyword_68 : decode cX1_keyword 68 = .ok (.areturn, 1) := by decide +kernel
theorem dX1_keyword_69 : decode cX1_keyword 69 = .ok (.ldc 133, 2) := by decide +kernel
theorem dX1_keyword_71 : decode cX1_keyword 71 = .ok (.areturn, 1) := by decide +kernel
theorem dX1_keyword_72 : decode cX1_keyword 72 = .ok (.ldc 135, 2) := by decide +kernel
theorem dX1_keyword_74 : decode cX1_keyword 74 = .ok (.areturn, 1) := by decide +kernel
theorem dX1_keyword_75 : decode cX1_keyword 75 = .ok (.ldc 137, 2) := by decide +kernel
theorem dX1_keyword_77 : decode cX1_keyword 77 = .ok (.areturn, 1) := by decide +kernel
theorem dX1_keyword_78 : decode cX1_keyword 78 = .ok (.ldc 139, 2) := by decide +kernel
theorem dX1_keyword_80 : decode cX1_keyword 80 = .ok (.areturn, 1) := by decide +kernel
theorem dX1_keyword_81 : decode cX1_keyword 81 = .ok (.ldc 141, 2) := by decide +kernel
theorem dX1_keyword_83 : decode cX1_keyword 83 = .ok (.areturn, 1) := by decide +kernel
theorem dX1_keyword_84 : decode cX1_keyword 84 = .ok (.ldc 143, 2) := by decide +kernel
theorem dX1_keyword_86 : decode cX1_keyword 86 = .ok (.areturn, 1) := by decide +kernel
theorem dX1_keyword_87 : decode cX1_keyword 87 = .ok (.ldc 144, 2) := by decide +kernel
theorem dX1_keyword_89 : decode cX1_keyword 89 = .ok (.areturn, 1) := by decide +kernel
theorem dX1_keyword_90 : decode cX1_keyword 90 = .ok (.ldc 145, 2) := by decide +kernel
theorem dX1_keyword_92 : decode cX1_keyword 92 = .ok (.areturn, 1) := by decide +kernel
theorem dX1_keyword_93 : decode cX1_keyword 93 = .ok (.ldc 147, 2) := by decide +kernel
theorem dX1_keyword_95 : decode cX1_keyword 95 = .ok (.areturn, 1) := by decide +kernel
theorem dX1_isBlank_0 : decode cX1_isBlank 0 = .ok (.iload_n 0, 1) := by decide +kernel
theorem dX1_isBlank_1 : decode cX1_isBlank 1 = .ok (.bipush 32, 2) := by decide +kernel
theorem dX1_isBlank_3 : decode cX1_isBlank 3 = .ok (.if_icmp .eq 9, 3) := by decide +kernel
theorem dX1_isBlank_6 : decode cX1_isBlank 6 = .ok (.iload_n 0, 1) := by decide +kernel
theorem dX1_isBlank_7 : decode cX1_isBlank 7 = .ok (.bipush 10, 2) := by decide +kernel
theorem dX1_isBlank_9 : decode cX1_isBlank 9 = .ok (.if_icmp .ne 7, 3) := by decide +kernel
theorem dX1_isBlank_12 : decode cX1_isBlank 12 = .ok (.iconst 1, 1) := by decide +kernel
theorem dX1_isBlank_13 : decode cX1_isBlank 13 = .ok (.goto 4, 3) := by decide +kernel
theorem dX1_isBlank_16 : decode cX1_isBlank 16 = .ok (.iconst 0, 1) := by decide +kernel
theorem dX1_isBlank_17 : decode cX1_isBlank 17 = .ok (.ireturn, 1) := by decide +kernel
theorem dX1_isLetter_0 : decode cX1_isLetter 0 = .ok (.iload_n 0, 1) := by decide +kernel
theorem dX1_isLetter_1 : decode cX1_isLetter 1 = .ok (.bipush 97, 2) := by decide +kernel
theorem dX1_isLetter_3 : decode cX1_isLetter 3 = .ok (.if_icmp .lt 9, 3) := by decide +kernel
theorem dX1_isLetter_6 : decode cX1_isLetter 6 = .ok (.iload_n 0, 1) := by decide +kernel
theorem dX1_isLetter_7 : decode cX1_isLetter 7 = .ok (.bipush 122, 2) := by decide +kernel
theorem dX1_isLetter_9 : decode cX1_isLetter 9 = .ok (.if_icmp .le 15, 3) := by decide +kernel
theorem dX1_isLetter_12 : decode cX1_isLetter 12 = .ok (.iload_n 0, 1) := by decide +kernel
theorem dX1_isLetter_13 : decode cX1_isLetter 13 = .ok (.bipush 65, 2) := by decide +kernel
theorem dX1_isLetter_15 : decode cX1_isLetter 15 = .ok (.if_icmp .lt 13, 3) := by decide +kernel
theorem dX1_isLetter_18 : decode cX1_isLetter 18 = .ok (.iload_n 0, 1) := by decide +kernel
theorem dX1_isLetter_19 : decode cX1_isLetter 19 = .ok (.bipush 90, 2) := by decide +kernel
theorem dX1_isLetter_21 : decode cX1_isLetter 21 = .ok (.if_icmp .gt 7, 3) := by decide +kernel
theorem dX1_isLetter_24 : decode cX1_isLetter 24 = .ok (.iconst 1, 1) := by decide +kernel
theorem dX1_isLetter_25 : decode cX1_isLetter 25 = .ok (.goto 4, 3) := by decide +kernel
theorem dX1_isLetter_28 : decode cX1_isLetter 28 = .ok (.iconst 0, 1) := by decide +kernel
theorem dX1_isLetter_29 : decode cX1_isLetter 29 = .ok (.ireturn, 1) := by decide +kernel
theorem dX1_isDigit_0 : decode cX1_isDigit 0 = .ok (.iload_n 0, 1) := by decide +kernel
theorem dX1_isDigit_1 : decode cX1_isDigit 1 = .ok (.bipush 48, 2) := by decide +kernel
theorem dX1_isDigit_3 : decode cX1_isDigit 3 = .ok (.if_icmp .lt 13, 3) := by decide +kernel
theorem dX1_isDigit_6 : decode cX1_isDigit 6 = .ok (.iload_n 0, 1) := by decide +kernel
theorem dX1_isDigit_7 : decode cX1_isDigit 7 = .ok (.bipush 57, 2) := by decide +kernel
theorem dX1_isDigit_9 : decode cX1_isDigit 9 = .ok (.if_icmp .gt 7, 3) := by decide +kernel
theorem dX1_isDigit_12 : decode cX1_isDigit 12 = .ok (.iconst 1, 1) := by decide +kernel
theorem dX1_isDigit_13 : decode cX1_isDigit 13 = .ok (.goto 4, 3) := by decide +kernel
theorem dX1_isDigit_16 : decode cX1_isDigit 16 = .ok (.iconst 0, 1) := by decide +kernel
theorem dX1_isDigit_17 : decode cX1_isDigit 17 = .ok (.ireturn, 1) := by decide +kernel
theorem dX2_init_0 : decode cX2_init 0 = .ok (.aload_n 0, 1) := by decide +kernel
theorem dX2_init_1 : decode cX2_init 1 = .ok (.invokespecial 3, 3) := by decide +kernel
theorem dX2_init_4 : decode cX2_init 4 = .ok (.aload_n 0, 1) := by decide +kernel
theorem dX2_init_5 : decode cX2_init 5 = .ok (.iconst 0, 1) := by decide +kernel
theorem dX2_init_6 : decode cX2_init 6 = .ok (.putfield 9, 3) := by decide +kernel
theorem dX2_init_9 : decode cX2_init 9 = .ok (.aload_n 0, 1) := by decide +kernel
theorem dX2_init_10 : decode cX2_init 10 = .ok (.bipush 60, 2) := by decide +kernel
theorem dX2_init_12 : decode cX2_init 12 = .ok (.newarray .int, 2) := by decide +kernel
theorem dX2_init_14 : decode cX2_init 14 = .ok (.putfield 15, 3) := by decide +kernel
theorem dX2_init_17 : decode cX2_init 17 = .ok (.aload_n 0, 1) := by decide +kernel
theorem dX2_init_18 : decode cX2_init 18 = .ok (.iconst 0, 1) := by decide +kernel
theorem dX2_init_19 : decode cX2_init 19 = .ok (.putfield 19, 3) := by decide +kernel
theorem dX2_init_22 : decode cX2_init 22 = .ok (.aload_n 0, 1) := by decide +kernel
theorem dX2_init_23 : decode cX2_init 23 = .ok (.bipush 60, 2) := by decide +kernel
theorem dX2_init_25 : decode cX2_init 25 = .ok (.newarray .int, 2) := by decide +kernel
theorem dX2_init_27 : decode cX2_init 27 = .ok (.putfield 22, 3) := by decide +kernel
theorem dX2_init_30 : decode cX2_init 30 = .ok (.aload_n 0, 1) := by decide +kernel
theorem dX2_init_31 : decode cX2_init 31 = .ok (.bipush 60, 2) := by decide +kernel
theorem dX2_init_33 : decode cX2_init 33 = .ok (.newarray .int, 2) := by decide +kernel
theorem dX2_init_35 : decode cX2_init 35 = .ok (.putfield 25, 3) := by decide +kernel
theorem dX2_init_38 : decode cX2_init 38 = .ok (.aload_n 0, 1) := by decide +kernel
theorem dX2_init_39 : decode cX2_init 39 = .ok (.bipush 60, 2) := by decide +kernel
theorem dX2_init_41 : decode cX2_init 41 = .ok (.newarray .int, 2) := by decide +kernel
theorem dX2_init_43 : decode cX2_init 43 = .ok (.putfield 28, 3) := by decide +kernel
theorem dX2_init_46 : decode cX2_init 46 = .ok (.aload_n 0, 1) := by decide +kernel
theorem dX2_init_47 : decode cX2_init 47 = .ok (.bipush 60, 2) := by decide +kernel
theorem dX2_init_49 : decode cX2_init 49 = .ok (.newarray .int, 2) := by decide +kernel
theorem dX2_init_51 : decode cX2_init 51 = .ok (.putfield 31, 3) := by decide +kernel
theorem dX2_init_54 : decode cX2_init 54 = .ok (.aload_n 0, 1) := by decide +kernel
theorem dX2_init_55 : decode cX2_init 55 = .ok (.bipush 60, 2) := by decide +kernel
theorem dX2_init_57 : decode cX2_init 57 = .ok (.newarray .int, 2) := by decide +kernel
theorem dX2_init_59 : decode cX2_init 59 = .ok (.putfield 34, 3) := by decide +kernel
theorem dX2_init_62 : decode cX2_init 62 = .ok (.return_, 1) := by decide +kernel
theorem dX2_tell_0 : decode cX2_tell 0 = .ok (.aload_n 0, 1) := by decide +kernel
theorem dX2_tell_1 : decode cX2_tell 1 = .ok (.getfield 9, 3) := by decide +kernel
theorem dX2_tell_4 : decode cX2_tell 4 = .ok (.bipush 60, 2) := by decide +kernel
theorem dX2_tell_6 : decode cX2_tell 6 = .ok (.if_icmp .lt 5, 3) := by decide +kernel
theorem dX2_tell_9 : decode cX2_tell 9 = .ok (.iconst 0, 1) := by decide +kernel
theorem dX2_tell_10 : decode cX2_tell 10 = .ok (.ireturn, 1) := by decide +kernel
theorem dX2_tell_11 : decode cX2_tell 11 = .ok (.aload_n 0, 1) := by decide +kernel
theorem dX2_tell_12 : decode cX2_tell 12 = .ok (.getfield 22, 3) := by decide +kernel
theorem dX2_tell_15 : decode cX2_tell 15 = .ok (.aload_n 0, 1) := by decide +kernel
theorem dX2_tell_16 : decode cX2_tell 16 = .ok (.getfield 9, 3) := by decide +kernel
theorem dX2_tell_19 : decode cX2_tell 19 = .ok (.iload_n 1, 1) := by decide +kernel
theorem dX2_tell_20 : decode cX2_tell 20 = .ok (.iastore, 1) := by decide +kernel
theorem dX2_tell_21 : decode cX2_tell 21 = .ok (.aload_n 0, 1) := by decide +kernel
theorem dX2_tell_22 : decode cX2_tell 22 = .ok (.getfield 25, 3) := by decide +kernel
theorem dX2_tell_25 : decode cX2_tell 25 = .ok (.aload_n 0, 1) := by decide +kernel
theorem dX2_tell_26 : decode cX2_tell 26 = .ok (.getfield 9, 3) := by decide +kernel
theorem dX2_tell_29 : decode cX2_tell 29 = .ok (.iload_n 2, 1) := by decide +kernel
theorem dX2_tell_30 : decode cX2_tell 30 = .ok (.iastore, 1) := by decide +kernel
theorem dX2_tell_31 : decode cX2_tell 31 = .ok (.aload_n 0, 1) := by decide +kernel
theorem dX2_tell_32 : decode cX2_tell 32 = .ok (.getfield 28, 3) := by decide +kernel
theorem dX2_tell_35 : decode cX2_tell 35 = .ok (.aload_n 0, 1) := by decide +kernel
theorem dX2_tell_36 : decode cX2_tell 36 = .ok (.getfield 9, 3) := by decide +kernel
theorem dX2_tell_39 : decode cX2_tell 39 = .ok (.iload_n 3, 1) := by decide +kernel
theorem dX2_tell_40 : decode cX2_tell 40 = .ok (.iastore, 1) := by decide +kernel
theorem dX2_tell_41 : decode cX2_tell 41 = .ok (.aload_n 0, 1) := by decide +kernel
theorem dX2_tell_42 : decode cX2_tell 42 = .ok (.getfield 31, 3) := by decide +kernel
theorem dX2_tell_45 : decode cX2_tell 45 = .ok (.aload_n 0, 1) := by decide +kernel
theorem dX2_tell_46 : decode cX2_tell 46 = .ok (.getfield 9, 3) := by decide +kernel
theorem dX2_tell_49 : decode cX2_tell 49 = .ok (.iload 4, 2) := by decide +kernel
theorem dX2_tell_51 : decode cX2_tell 51 = .ok (.iastore, 1) := by decide +kernel
theorem dX2_tell_52 : decode cX2_tell 52 = .ok (.aload_n 0, 1) := by decide +kernel
theorem dX2_tell_53 : decode cX2_tell 53 = .ok (.getfield 34, 3) := by decide +kernel
theorem dX2_tell_56 : decode cX2_tell 56 = .ok (.aload_n 0, 1) := by decide +kernel
theorem dX2_tell_57 : decode cX2_tell 57 = .ok (.getfield 9, 3) := by decide +kernel
theorem dX2_tell_60 : decode cX2_tell 60 = .ok (.iload 5, 2) := by decide +kernel
theorem dX2_tell_62 : decode cX2_tell 62 = .ok (.iastore, 1) := by decide +kernel
theorem dX2_tell_63 : decode cX2_tell 63 = .ok (.aload_n 0, 1) := by decide +kernel
theorem dX2_tell_64 : decode cX2_tell 64 = .ok (.dup, 1) := by decide +kernel
theorem dX2_tell_65 : decode cX2_tell 65 = .ok (.getfield 9, 3) := by decide +kernel
theorem dX2_tell_68 : decode cX2_tell 68 = .ok (.iconst 1, 1) := by decide +kernel
theorem dX2_tell_69 : decode cX2_tell 69 = .ok (.iadd, 1) := by decide +kernel
theorem dX2_tell_70 : decode cX2_tell 70 = .ok (.putfield 9, 3) := by decide +kernel
theorem dX2_tell_73 : decode cX2_tell 73 = .ok (.aload_n 0, 1) := by decide +kernel
theorem dX2_tell_74 : decode cX2_tell 74 = .ok (.iload 5, 2) := by decide +kernel
theorem dX2_tell_76 : decode cX2_tell 76 = .ok (.invokevirtual 37, 3) := by decide +kernel
theorem dX2_tell_79 : decode cX2_tell 79 = .ok (.iconst 1, 1) := by decide +kernel
theorem dX2_tell_80 : decode cX2_tell 80 = .ok (.ireturn, 1) := by decide +kernel
theorem dX2_noteYear_0 : decode cX2_noteYear 0 = .ok (.iconst 0, 1) := by decide +kernel
theorem dX2_noteYear_1 : decode cX2_noteYear 1 = .ok (.istore_n 2, 1) := by decide +kernel
theorem dX2_noteYear_2 : decode cX2_noteYear 2 = .ok (.iload_n 2, 1) := by decide +kernel
theorem dX2_noteYear_3 : decode cX2_noteYear 3 = .ok (.aload_n 0, 1) := by decide +kernel
theorem dX2_noteYear_4 : decode cX2_noteYear 4 = .ok (.getfield 19, 3) := by decide +kernel
theorem dX2_noteYear_7 : decode cX2_noteYear 7 = .ok (.if_icmp .ge 19, 3) := by decide +kernel
theorem dX2_noteYear_10 : decode cX2_noteYear 10 = .ok (.aload_n 0, 1) := by decide +kernel
theorem dX2_noteYear_11 : decode cX2_noteYear 11 = .ok (.getfield 15, 3) := by decide +kernel
theorem dX2_noteYear_14 : decode cX2_noteYear 14 = .ok (.iload_n 2, 1) := by decide +kernel
theorem dX2_noteYear_15 : decode cX2_noteYear 15 = .ok (.iaload, 1) := by decide +kernel
theorem dX2_noteYear_16 : decode cX2_noteYear 16 = .ok (.iload_n 1, 1) := by decide +kernel
theorem dX2_noteYear_17 : decode cX2_noteYear 17 = .ok (.if_icmp .ge 9, 3) := by decide +kernel
theorem dX2_noteYear_20 : decode cX2_noteYear 20 = .ok (.iinc 2 1, 3) := by decide +kernel
theorem dX2_noteYear_23 : decode cX2_noteYear 23 = .ok (.goto (-21), 3) := by decide +kernel
theorem dX2_noteYear_26 : decode cX2_noteYear 26 = .ok (.iload_n 2, 1) := by decide +kernel
theorem dX2_noteYear_27 : decode cX2_noteYear 27 = .ok (.aload_n 0, 1) := by decide +kernel
theorem dX2_noteYear_28 : decode cX2_noteYear 28 = .ok (.getfield 19, 3) := by decide +kernel
theorem dX2_noteYear_31 : decode cX2_noteYear 31 = .ok (.if_icmp .ge 17, 3) := by decide +kernel
theorem dX2_noteYear_34 : decode cX2_noteYear 34 = .ok (.aload_n 0, 1) := by decide +kernel
theorem dX2_noteYear_35 : decode cX2_noteYear 35 = .ok (.getfield 15, 3) := by decide +kernel
theorem dX2_noteYear_38 : decode cX2_noteYear 38 = .ok (.iload_n 2, 1) := by decide +kernel
theorem dX2_noteYear_39 : decode cX2_noteYear 39 = .ok (.iaload, 1) := by decide +kernel
theorem dX2_noteYear_40 : decode cX2_noteYear 40 = .ok (.iload_n 1, 1) := by decide +kernel
theorem dX2_noteYear_41 : decode cX2_noteYear 41 = .ok (.if_icmp .ne 7, 3) := by decide +kernel
theorem dX2_noteYear_44 : decode cX2_noteYear 44 = .ok (.iconst 1, 1) := by decide +kernel
theorem dX2_noteYear_45 : decode cX2_noteYear 45 = .ok (.goto 4, 3) := by decide +kernel
theorem dX2_noteYear_48 : decode cX2_noteYear 48 = .ok (.iconst 0, 1) := by decide +kernel
theorem dX2_noteYear_49 : decode cX2_noteYear 49 = .ok (.istore_n 3, 1) := by decide +kernel
theorem dX2_noteYear_50 : decode cX2_noteYear 50 = .ok (.iload_n 3, 1) := by decide +kernel
theorem dX2_noteYear_51 : decode cX2_noteYear 51 = .ok (.ifCond .ne 12, 3) := by decide +kernel
theorem dX2_noteYear_54 : decode cX2_noteYear 54 = .ok (.aload_n 0, 1) := by decide +kernel
theorem dX2_noteYear_55 : decode cX2_noteYear 55 = .ok (.getfield 19, 3) := by decide +kernel
theorem dX2_noteYear_58 : decode cX2_noteYear 58 = .ok (.bipush 60, 2) := by decide +kernel
theorem dX2_noteYear_60 : decode cX2_noteYear 60 = .ok (.if_icmp .lt 4, 3) := by decide +kernel
theorem dX2_noteYear_63 : decode cX2_noteYear 63 = .ok (.return_, 1) := by decide +kernel
theorem dX2_noteYear_64 : decode cX2_noteYear 64 = .ok (.aload_n 0, 1) := by decide +kernel
theorem dX2_noteYear_65 : decode cX2_noteYear 65 = .ok (.getfield 19, 3) := by decide +kernel
theorem dX2_noteYear_68 : decode cX2_noteYear 68 = .ok (.istore 4, 2) := by decide +kernel
theorem dX2_noteYear_70 : decode cX2_noteYear 70 = .ok (.iload 4, 2) := by decide +kernel
theorem dX2_noteYear_72 : decode cX2_noteYear 72 = .ok (.iload_n 2, 1) := by decide +kernel
theorem dX2_noteYear_73 : decode cX2_noteYear 73 = .ok (.if_icmp .le 25, 3) := by decide +kernel
theorem dX2_noteYear_76 : decode cX2_noteYear 76 = .ok (.aload_n 0, 1) := by decide +kernel
theorem dX2_noteYear_77 : decode cX2_noteYear 77 = .ok (.getfield 15, 3) := by decide +kernel
theorem dX2_noteYear_80 : decode cX2_noteYear 80 = .ok (.iload 4, 2) := by decide +kernel
theorem dX2_noteYear_82 : decode cX2_noteYear 82 = .ok (.aload_n 0, 1) := by decide +kernel
theorem dX2_noteYear_83 : decode cX2_noteYear 83 = .ok (.getfield 15, 3) := by decide +kernel
theorem dX2_noteYear_86 : decode cX2_noteYear 86 = .ok (.iload 4, 2) := by decide +kernel
theorem dX2_noteYear_88 : decode cX2_noteYear 88 = .ok (.iconst 1, 1) := by decide +kernel
theorem dX2_noteYear_89 : decode cX2_noteYear 89 = .ok (.isub, 1) := by decide +kernel
theorem dX2_noteYear_90 : decode cX2_noteYear 90 = .ok (.iaload, 1) := by decide +kernel
theorem dX2_noteYear_91 : decode cX2_noteYear 91 = .ok (.iastore, 1) := by decide +kernel
theorem dX2_noteYear_92 : decode cX2_noteYear 92 = .ok (.iinc 4 (-1), 3) := by decide +kernel
theorem dX2_noteYear_95 : decode cX2_noteYear 95 = .ok (.goto (-25), 3) := by decide +kernel
theorem dX2_noteYear_98 : decode cX2_noteYear 98 = .ok (.aload_n 0, 1) := by decide +kernel
theorem dX2_noteYear_99 : decode cX2_noteYear 99 = .ok (.getfield 15, 3) := by decide +kernel
theorem dX2_noteYear_102 : decode cX2_noteYear 102 = .ok (.iload_n 2, 1) := by decide +kernel
theorem dX2_noteYear_103 : decode cX2_noteYear 103 = .ok (.iload_n 1, 1) := by decide +kernel
theorem dX2_noteYear_104 : decode cX2_noteYear 104 = .ok (.iastore, 1) := by decide +kernel
theorem dX2_noteYear_105 : decode cX2_noteYear 105 = .ok (.aload_n 0, 1) := by decide +kernel
theorem dX2_noteYear_106 : decode cX2_noteYear 106 = .ok (.dup, 1) := by decide +kernel
theorem dX2_noteYear_107 : decode cX2_noteYear 107 = .ok (.getfield 19, 3) := by decide +kernel
theorem dX2_noteYear_110 : decode cX2_noteYear 110 = .ok (.iconst 1, 1) := by decide +kernel
theorem dX2_noteYear_111 : decode cX2_noteYear 111 = .ok (.iadd, 1) := by decide +kernel
theorem dX2_noteYear_112 : decode cX2_noteYear 112 = .ok (.putfield 19, 3) := by decide +kernel
theorem dX2_noteYear_115 : decode cX2_noteYear 115 = .ok (.return_, 1) := by decide +kernel
theorem dX2_reachOf_0 : decode cX2_reachOf 0 = .ok (.aload_n 0, 1) := by decide +kernel
theorem dX2_reachOf_1 : decode cX2_reachOf 1 = .ok (.getfield 9, 3) := by decide +kernel
theorem dX2_reachOf_4 : decode cX2_reachOf 4 = .ok (.iconst 1, 1) := by decide +kernel
theorem dX2_reachOf_5 : decode cX2_reachOf 5 = .ok (.isub, 1) := by decide +kernel
theorem dX2_reachOf_6 : decode cX2_reachOf 6 = .ok (.istore 4, 2) := by decide +kernel
theorem dX2_reachOf_8 : decode cX2_reachOf 8 = .ok (.iload 4, 2) := by decide +kernel
theorem dX2_reachOf_10 : decode cX2_reachOf 10 = .ok (.ifCond .lt 61, 3) := by decide +kernel
theorem dX2_reachOf_13 : decode cX2_reachOf 13 = .ok (.aload_n 0, 1) := by decide +kernel
theorem dX2_reachOf_14 : decode cX2_reachOf 14 = .ok (.getfield 22, 3) := by decide +kernel
theorem dX2_reachOf_17 : decode cX2_reachOf 17 = .ok (.iload 4, 2) := by decide +kernel
theorem dX2_reachOf_19 : decode cX2_reachOf 19 = .ok (.iaload, 1) := by decide +kernel
theorem dX2_reachOf_20 : decode cX2_reachOf 20 = .ok (.iload_n 1, 1) := by decide +kernel
theorem dX2_reachOf_21 : decode cX2_reachOf 21 = .ok (.if_icmp .ne 44, 3) := by decide +kernel
theorem dX2_reachOf_24 : decode cX2_reachOf 24 = .ok (.aload_n 0, 1) := by decide +kernel
theorem dX2_reachOf_25 : decode cX2_reachOf 25 = .ok (.getfield 34, 3) := by decide +kernel
theorem dX2_reachOf_28 : decode cX2_reachOf 28 = .ok (.iload 4, 2) := by decide +kernel
theorem dX2_reachOf_30 : decode cX2_reachOf 30 = .ok (.iaload, 1) := by decide +kernel
theorem dX2_reachOf_31 : decode cX2_reachOf 31 = .ok (.iload_n 3, 1) := by decide +kernel
theorem dX2_reachOf_32 : decode cX2_reachOf 32 = .ok (.if_icmp .ne 33, 3) := by decide +kernel
theorem dX2_reachOf_35 : decode cX2_reachOf 35 = .ok (.aload_n 0, 1) := by decide +kernel
theorem dX2_reachOf_36 : decode cX2_reachOf 36 = .ok (.getfield 25, 3) := by decide +kernel
theorem dX2_reachOf_39 : decode cX2_reachOf 39 = .ok (.iload 4, 2) := by decide +kernel
theorem dX2_reachOf_41 : decode cX2_reachOf 41 = .ok (.iaload, 1) := by decide +kernel
theorem dX2_reachOf_42 : decode cX2_reachOf 42 = .ok (.iload_n 2, 1) := by decide +kernel
theorem dX2_reachOf_43 : decode cX2_reachOf 43 = .ok (.if_icmp .gt 22, 3) := by decide +kernel
theorem dX2_reachOf_46 : decode cX2_reachOf 46 = .ok (.iload_n 2, 1) := by decide +kernel
theorem dX2_reachOf_47 : decode cX2_reachOf 47 = .ok (.aload_n 0, 1) := by decide +kernel
theorem dX2_reachOf_48 : decode cX2_reachOf 48 = .ok (.getfield 28, 3) := by decide +kernel
theorem dX2_reachOf_51 : decode cX2_reachOf 51 = .ok (.iload 4, 2) := by decide +kernel
theorem dX2_reachOf_53 : decode cX2_reachOf 53 = .ok (.iaload, 1) := by decide +kernel
theorem dX2_reachOf_54 : decode cX2_reachOf 54 = .ok (.if_icmp .gt 11, 3) := by decide +kernel
theorem dX2_reachOf_57 : decode cX2_reachOf 57 = .ok (.aload_n 0, 1) := by decide +kernel
theorem dX2_reachOf_58 : decode cX2_reachOf 58 = .ok (.getfield 31, 3) := by decide +kernel
theorem dX2_reachOf_61 : decode cX2_reachOf 61 = .ok (.iload 4, 2) := by decide +kernel
theorem dX2_reachOf_63 : decode cX2_reachOf 63 = .ok (.iaload, 1) := by decide +kernel
theorem dX2_reachOf_64 : decode cX2_reachOf 64 = .ok (.ireturn, 1) := by decide +kernel
theorem dX2_reachOf_65 : decode cX2_reachOf 65 = .ok (.iinc 4 (-1), 3) := by decide +kernel
theorem dX2_reachOf_68 : decode cX2_reachOf 68 = .ok (.goto (-60), 3) := by decide +kernel
theorem dX2_reachOf_71 : decode cX2_reachOf 71 = .ok (.iconst (-1), 1) := by decide +kernel
theorem dX2_reachOf_72 : decode cX2_reachOf 72 = .ok (.ireturn, 1) := by decide +kernel
theorem dX3_init_0 : decode cX3_init 0 = .ok (.aload_n 0, 1) := by decide +kernel
theorem dX3_init_1 : decode cX3_init 1 = .ok (.invokespecial 3, 3) := by decide +kernel
theorem dX3_init_4 : decode cX3_init 4 = .ok (.aload_n 0, 1) := by decide +kernel
theorem dX3_init_5 : decode cX3_init 5 = .ok (.bipush 10, 2) := by decide +kernel
theorem dX3_init_7 : decode cX3_init 7 = .ok (.newarray .int, 2) := by decide +kernel
theorem dX3_init_9 : decode cX3_init 9 = .ok (.putfield 9, 3) := by decide +kernel
theorem dX3_init_12 : decode cX3_init 12 = .ok (.aload_n 0, 1) := by decide +kernel
theorem dX3_init_13 : decode cX3_init 13 = .ok (.iconst 0, 1) := by decide +kernel
theorem dX3_init_14 : decode cX3_init 14 = .ok (.putfield 15, 3) := by decide +kernel
theorem dX3_init_17 : decode cX3_init 17 = .ok (.aload_n 0, 1) := by decide +kernel
theorem dX3_init_18 : decode cX3_init 18 = .ok (.bipush 10, 2) := by decide +kernel
theorem dX3_init_20 : decode cX3_init 20 = .ok (.bipush 80, 2) := by decide +kernel
theorem dX3_init_22 : decode cX3_init 22 = .ok (.multianewarray 19 2, 4) := by decide +kernel
theorem dX3_init_26 : decode cX3_init 26 = .ok (.putfield 21, 3) := by decide +kernel
theorem dX3_init_29 : decode cX3_init 29 = .ok (.return_, 1) := by decide +kernel
theorem dX3_draw_0 : decode cX3_draw 0 = .ok (.bipush 9, 2) := by decide +kernel
theorem dX3_draw_2 : decode cX3_draw 2 = .ok (.istore_n 3, 1) := by decide +kernel
theorem dX3_draw_3 : decode cX3_draw 3 = .ok (.iload_n 3, 1) := by decide +kernel
theorem dX3_draw_4 : decode cX3_draw 4 = .ok (.ifCond .lt 57, 3) := by decide +kernel
theorem dX3_draw_7 : decode cX3_draw 7 = .ok (.aload_n 0, 1) := by decide +kernel
theorem dX3_draw_8 : decode cX3_draw 8 = .ok (.getfield 21, 3) := by decide +kernel
theorem dX3_draw_11 : decode cX3_draw 11 = .ok (.iload_n 3, 1) := by decide +kernel
theorem dX3_draw_12 : decode cX3_draw 12 = .ok (.aaload, 1) := by decide +kernel
theorem dX3_draw_13 : decode cX3_draw 13 = .ok (.astore 4, 2) := by decide +kernel
theorem dX3_draw_15 : decode cX3_draw 15 = .ok (.iload_n 3, 1) := by decide +kernel
theorem dX3_draw_16 : decode cX3_draw 16 = .ok (.bipush 9, 2) := by decide +kernel
theorem dX3_draw_18 : decode cX3_draw 18 = .ok (.if_icmp .ne 12, 3) := by decide +kernel
theorem dX3_draw_21 : decode cX3_draw 21 = .ok (.aload 4, 2) := by decide +kernel
theorem dX3_draw_23 : decode cX3_draw 23 = .ok (.iconst 0, 1) := by decide +kernel
theorem dX3_draw_24 : decode cX3_draw 24 = .ok (.invokestatic 24, 3) := by decide +kernel
theorem dX3_draw_27 : decode cX3_draw 27 = .ok (.goto 20, 3) := by decide +kernel
theorem dX3_draw_30 : decode cX3_draw 30 = .ok (.aload_n 0, 1) := by decide +kernel
theorem dX3_draw_31 : decode cX3_draw 31 = .ok (.getfield 21, 3) := by decide +kernel
theorem dX3_draw_34 : decode cX3_draw 34 = .ok (.iload_n 3, 1) := by decide +kernel
theorem dX3_draw_35 : decode cX3_draw 35 = .ok (.iconst 1, 1) := by decide +kernel
theorem dX3_draw_36 : decode cX3_draw 36 = .ok (.iadd, 1) := by decide +kernel
theorem dX3_draw_37 : decode cX3_draw 37 = .ok (.aaload, 1) := by decide +kernel
theorem dX3_draw_38 : decode cX3_draw 38 = .ok (.aload 4, 2) := by decide +kernel
theorem dX3_draw_40 : decode cX3_draw 40 = .ok (.aload_n 2, 1) := by decide +kernel
theorem dX3_draw_41 : decode cX3_draw 41 = .ok (.getfield 30, 3) := by decide +kernel
theorem dX3_draw_44 : decode cX3_draw 44 = .ok (.invokestatic 35, 3) := by decide +kernel
theorem dX3_draw_47 : decode cX3_draw 47 = .ok (.aload 4, 2) := by decide +kernel
theorem dX3_draw_49 : decode cX3_draw 49 = .ok (.iload_n 3, 1) := by decide +kernel
theorem dX3_draw_50 : decode cX3_draw 50 = .ok (.aload_n 1, 1) := by decide +kernel
theorem dX3_draw_51 : decode cX3_draw 51 = .ok (.aload_n 2, 1) := by decide +kernel
theorem dX3_draw_52 : decode cX3_draw 52 = .ok (.invokestatic 39, 3) := by decide +kernel
theorem dX3_draw_55 : decode cX3_draw 55 = .ok (.iinc 3 (-1), 3) := by decide +kernel
theorem dX3_draw_58 : decode cX3_draw 58 = .ok (.goto (-55), 3) := by decide +kernel
theorem dX3_draw_61 : decode cX3_draw 61 = .ok (.aload_n 0, 1) := by decide +kernel
theorem dX3_draw_62 : decode cX3_draw 62 = .ok (.aload_n 2, 1) := by decide +kernel
theorem dX3_draw_63 : decode cX3_draw 63 = .ok (.getfield 30, 3) := by decide +kernel
theorem dX3_draw_66 : decode cX3_draw 66 = .ok (.invokevirtual 43, 3) := by decide +kernel
theorem dX3_draw_69 : decode cX3_draw 69 = .ok (.return_, 1) := by decide +kernel
theorem dX3_bendTowards_0 : decode cX3_bendTowards 0 = .ok (.aload_n 0, 1) := by decide +kernel
theorem dX3_bendTowards_1 : decode cX3_bendTowards 1 = .ok (.iconst 0, 1) := by decide +kernel
theorem dX3_bendTowards_2 : decode cX3_bendTowards 2 = .ok (.aload_n 1, 1) := by decide +kernel
theorem dX3_bendTowards_3 : decode cX3_bendTowards 3 = .ok (.iconst 0, 1) := by decide +kernel
theorem dX3_bendTowards_4 : decode cX3_bendTowards 4 = .ok (.bipush 80, 2) := by decide +kernel
theorem dX3_bendTowards_6 : decode cX3_bendTowards 6 = .ok (.invokestatic 47, 3) := by decide +kernel
theorem dX3_bendTowards_9 : decode cX3_bendTowards 9 = .ok (.iconst 1, 1) := by decide +kernel
theorem dX3_bendTowards_10 : decode cX3_bendTowards 10 = .ok (.istore_n 3, 1) := by decide +kernel
theorem dX3_bendTowards_11 : decode cX3_bendTowards 11 = .ok (.iload_n 3, 1) := by decide +kernel
theorem dX3_bendTowards_12 : decode cX3_bendTowards 12 = .ok (.bipush 80, 2) := by decide +kernel
theorem dX3_bendTowards_14 : decode cX3_bendTowards 14 = .ok (.if_icmp .ge 25, 3) := by decide +kernel
theorem dX3_bendTowards_17 : decode cX3_bendTowards 17 = .ok (.aload_n 1, 1) := by decide +kernel
theorem dX3_bendTowards_18 : decode cX3_bendTowards 18 = .ok (.iload_n 3, 1) := by decide +kernel
theorem dX3_bendTowards_19 : decode cX3_bendTowards 19 = .ok (.aload_n 1, 1) := by decide +kernel
theorem dX3_bendTowards_20 : decode cX3_bendTowards 20 = .ok (.iload_n 3, 1) := by decide +kernel
theorem dX3_bendTowards_21 : decode cX3_bendTowards 21 = .ok (.iaload, 1) := by decide +kernel
theorem dX3_bendTowards_22 : decode cX3_bendTowards 22 = .ok (.aload_n 1, 1) := by decide +kernel
theorem dX3_bendTowards_23 : decode cX3_bendTowards 23 = .ok (.iload_n 3, 1) := by decide +kernel
theorem dX3_bendTowards_24 : decode cX3_bendTowards 24 = .ok (.iconst 1, 1) := by decide +kernel
theorem dX3_bendTowards_25 : decode cX3_bendTowards 25 = .ok (.isub, 1) := by decide +kernel
theorem dX3_bendTowards_26 : decode cX3_bendTowards 26 = .ok (.iaload, 1) := by decide +kernel
theorem dX3_bendTowards_27 : decode cX3_bendTowards 27 = .ok (.iload_n 2, 1) := by decide +kernel
theorem dX3_bendTowards_28 : decode cX3_bendTowards 28 = .ok (.iadd, 1) := by decide +kernel
theorem dX3_bendTowards_29 : decode cX3_bendTowards 29 = .ok (.invokestatic 53, 3) := by decide +kernel
theorem dX3_bendTowards_32 : decode cX3_bendTowards 32 = .ok (.iastore, 1) := by decide +kernel
theorem dX3_bendTowards_33 : decode cX3_bendTowards 33 = .ok (.iinc 3 1, 3) := by decide +kernel
theorem dX3_bendTowards_36 : decode cX3_bendTowards 36 = .ok (.goto (-25), 3) := by decide +kernel
theorem dX3_bendTowards_39 : decode cX3_bendTowards 39 = .ok (.bipush 78, 2) := by decide +kernel
theorem dX3_bendTowards_41 : decode cX3_bendTowards 41 = .ok (.istore_n 3, 1) := by decide +kernel
theorem dX3_bendTowards_42 : decode cX3_bendTowards 42 = .ok (.iload_n 3, 1) := by decide +kernel
theorem dX3_bendTowards_43 : decode cX3_bendTowards 43 = .ok (.ifCond .lt 25, 3) := by decide +kernel
theorem dX3_bendTowards_46 : decode cX3_bendTowards 46 = .ok (.aload_n 1, 1) := by decide +kernel
theorem dX3_bendTowards_47 : decode cX3_bendTowards 47 = .ok (.iload_n 3, 1) := by decide +kernel
theorem dX3_bendTowards_48 : decode cX3_bendTowards 48 = .ok (.aload_n 1, 1) := by decide +kernel
theorem dX3_bendTowards_49 : decode cX3_bendTowards 49 = .ok (.iload_n 3, 1) := by decide +kernel
theorem dX3_bendTowards_50 : decode cX3_bendTowards 50 = .ok (.iaload, 1) := by decide +kernel
theorem dX3_bendTowards_51 : decode cX3_bendTowards 51 = .ok (.aload_n 1, 1) := by decide +kernel
theorem dX3_bendTowards_52 : decode cX3_bendTowards 52 = .ok (.iload_n 3, 1) := by decide +kernel
theorem dX3_bendTowards_53 : decode cX3_bendTowards 53 = .ok (.iconst 1, 1) := by decide +kernel
theorem dX3_bendTowards_54 : decode cX3_bendTowards 54 = .ok (.iadd, 1) := by decide +kernel
theorem dX3_bendTowards_55 : decode cX3_bendTowards 55 = .ok (.iaload, 1) := by decide +kernel
theorem dX3_bendTowards_56 : decode cX3_bendTowards 56 = .ok (.iload_n 2, 1) := by decide +kernel
theorem dX3_bendTowards_57 : decode cX3_bendTowards 57 = .ok (.iadd, 1) := by decide +kernel
theorem dX3_bendTowards_58 : decode cX3_bendTowards 58 = .ok (.invokestatic 53, 3) := by decide +kernel
theorem dX3_bendTowards_61 : decode cX3_bendTowards 61 = .ok (.iastore, 1) := by decide +kernel
theorem dX3_bendTowards_62 : decode cX3_bendTowards 62 = .ok (.iinc 3 (-1), 3) := by decide +kernel
theorem dX3_bendTowards_65 : decode cX3_bendTowards 65 = .ok (.goto (-23), 3) := by decide +kernel
theorem dX3_bendTowards_68 : decode cX3_bendTowards 68 = .ok (.return_, 1) := by decide +kernel
theorem dX3_addMisses_0 : decode cX3_addMisses 0 = .ok (.iconst 0, 1) := by decide +kernel
theorem dX3_addMisses_1 : decode cX3_addMisses 1 = .ok (.istore 4, 2) := by decide +kernel
theorem dX3_addMisses_3 : decode cX3_addMisses 3 = .ok (.iload 4, 2) := by decide +kernel
theorem dX3_addMisses_5 : decode cX3_addMisses 5 = .ok (.aload_n 2, 1) := by decide +kernel
theorem dX3_addMisses_6 : decode cX3_addMisses 6 = .ok (.invokevirtual 59, 3) := by decide +kernel
theorem dX3_addMisses_9 : decode cX3_addMisses 9 = .ok (.if_icmp .ge 104, 3) := by decide +kernel
theorem dX3_addMisses_12 : decode cX3_addMisses 12 = .ok (.aload_n 2, 1) := by decide +kernel
theorem dX3_addMisses_13 : decode cX3_addMisses 13 = .ok (.iload 4, 2) := by decide +kernel
theorem dX3_addMisses_15 : decode cX3_addMisses 15 = .ok (.invokevirtual 65, 3) := by decide +kernel
theorem dX3_addMisses_18 : decode cX3_addMisses 18 = .ok (.checkcast 69, 3) := by decide +kernel
theorem dX3_addMisses_21 : decode cX3_addMisses 21 = .ok (.astore 5, 2) := by decide +kernel
theorem dX3_addMisses_23 : decode cX3_addMisses 23 = .ok (.aload 5, 2) := by decide +kernel
theorem dX3_addMisses_25 : decode cX3_addMisses 25 = .ok (.iload_n 1, 1) := by decide +kernel
theorem dX3_addMisses_26 : decode cX3_addMisses 26 = .ok (.aload_n 2, 1) := by decide +kernel
theorem dX3_addMisses_27 : decode cX3_addMisses 27 = .ok (.aload_n 3, 1) := by decide +kernel
theorem dX3_addMisses_28 : decode cX3_addMisses 28 = .ok (.invokevirtual 71, 3) := by decide +kernel
theorem dX3_addMisses_31 : decode cX3_addMisses 31 = .ok (.ifCond .eq 76, 3) := by decide +kernel
theorem dX3_addMisses_34 : decode cX3_addMisses 34 = .ok (.aload_n 3, 1) := by decide +kernel
theorem dX3_addMisses_35 : decode cX3_addMisses 35 = .ok (.getfield 75, 3) := by decide +kernel
theorem dX3_addMisses_38 : decode cX3_addMisses 38 = .ok (.aload 5, 2) := by decide +kernel
theorem dX3_addMisses_40 : decode cX3_addMisses 40 = .ok (.getfield 78, 3) := by decide +kernel
theorem dX3_addMisses_43 : decode cX3_addMisses 43 = .ok (.iaload, 1) := by decide +kernel
theorem dX3_addMisses_44 : decode cX3_addMisses 44 = .ok (.istore 6, 2) := by decide +kernel
theorem dX3_addMisses_46 : decode cX3_addMisses 46 = .ok (.aload 5, 2) := by decide +kernel
theorem dX3_addMisses_48 : decode cX3_addMisses 48 = .ok (.aload 5, 2) := by decide +kernel
theorem dX3_addMisses_50 : decode cX3_addMisses 50 = .ok (.getfield 81, 3) := by decide +kernel
theorem dX3_addMisses_53 : decode cX3_addMisses 53 = .ok (.aload_n 3, 1) := by decide +kernel
theorem dX3_addMisses_54 : decode cX3_addMisses 54 = .ok (.invokevirtual 84, 3) := by decide +kernel
theorem dX3_addMisses_57 : decode cX3_addMisses 57 = .ok (.istore 7, 2) := by decide +kernel
theorem dX3_addMisses_59 : decode cX3_addMisses 59 = .ok (.aload 5, 2) := by decide +kernel
theorem dX3_addMisses_61 : decode cX3_addMisses 61 = .ok (.aload 5, 2) := by decide +kernel
theorem dX3_addMisses_63 : decode cX3_addMisses 63 = .ok (.getfield 88, 3) := by decide +kernel
theorem dX3_addMisses_66 : decode cX3_addMisses 66 = .ok (.aload_n 3, 1) := by decide +kernel
theorem dX3_addMisses_67 : decode cX3_addMisses 67 = .ok (.invokevirtual 84, 3) := by decide +kernel
theorem dX3_addMisses_70 : decode cX3_addMisses 70 = .ok (.istore 8, 2) := by decide +kernel
theorem dX3_addMisses_72 : decode cX3_addMisses 72 = .ok (.iconst 0, 1) := by decide +kernel
theorem dX3_addMisses_73 : decode cX3_addMisses 73 = .ok (.istore 9, 2) := by decide +kernel
theorem dX3_addMisses_75 : decode cX3_addMisses 75 = .ok (.iload 9, 2) := by decide +kernel
theorem dX3_addMisses_77 : decode cX3_addMisses 77 = .ok (.bipush 80, 2) := by decide +kernel
theorem dX3_addMisses_79 : decode cX3_addMisses 79 = .ok (.if_icmp .ge 28, 3) := by decide +kernel
theorem dX3_addMisses_82 : decode cX3_addMisses 82 = .ok (.aload_n 0, 1) := by decide +kernel
theorem dX3_addMisses_83 : decode cX3_addMisses 83 = .ok (.iload 9, 2) := by decide +kernel
theorem dX3_addMisses_85 : decode cX3_addMisses 85 = .ok (.dup2, 1) := by decide +kernel
theorem dX3_addMisses_86 : decode cX3_addMisses 86 = .ok (.iaload, 1) := by decide +kernel
theorem dX3_addMisses_87 : decode cX3_addMisses 87 = .ok (.iload 6, 2) := by decide +kernel
theorem dX3_addMisses_89 : decode cX3_addMisses 89 = .ok (.iload 9, 2) := by decide +kernel
theorem dX3_addMisses_91 : decode cX3_addMisses 91 = .ok (.iload 7, 2) := by decide +kernel
theorem dX3_addMisses_93 : decode cX3_addMisses 93 = .ok (.iload 8, 2) := by decide +kernel
theorem dX3_addMisses_95 : decode cX3_addMisses 95 = .ok (.invokestatic 91, 3) := by decide +kernel
theorem dX3_addMisses_98 : decode cX3_addMisses 98 = .ok (.imul, 1) := by decide +kernel
theorem dX3_addMisses_99 : decode cX3_addMisses 99 = .ok (.iadd, 1) := by decide +kernel
theorem dX3_addMisses_100 : decode cX3_addMisses 100 = .ok (.iastore, 1) := by decide +kernel
theorem dX3_addMisses_101 : decode cX3_addMisses 101 = .ok (.iinc 9 1, 3) := by decide +kernel
theorem dX3_addMisses_104 : decode cX3_addMisses 104 = .ok (.goto (-29), 3) := by decide +kernel
theorem dX3_addMisses_107 : decode cX3_addMisses 107 = .ok (.iinc 4 1, 3) := by decide +kernel
theorem dX3_addMisses_110 : decode cX3_addMisses 110 = .ok (.goto (-107), 3) := by decide +kernel
theorem dX3_addMisses_113 : decode cX3_addMisses 113 = .ok (.return_, 1) := by decide +kernel
theorem dX3_chooseFeet_0 : decode cX3_chooseFeet 0 = .ok (.aload_n 0, 1) := by decide +kernel
theorem dX3_chooseFeet_1 : decode cX3_chooseFeet 1 = .ok (.getfield 9, 3) := by decide +kernel
theorem dX3_chooseFeet_4 : decode cX3_chooseFeet 4 = .ok (.iconst 0, 1) := by decide +kernel
theorem dX3_chooseFeet_5 : decode cX3_chooseFeet 5 = .ok (.aload_n 0, 1) := by decide +kernel
theorem dX3_chooseFeet_6 : decode cX3_chooseFeet 6 = .ok (.getfield 21, 3) := by decide +kernel
theorem dX3_chooseFeet_9 : decode cX3_chooseFeet 9 = .ok (.iconst 0, 1) := by decide +kernel
theorem dX3_chooseFeet_10 : decode cX3_chooseFeet 10 = .ok (.aaload, 1) := by decide +kernel
theorem dX3_chooseFeet_11 : decode cX3_chooseFeet 11 = .ok (.iconst 0, 1) := by decide +kernel
theorem dX3_chooseFeet_12 : decode cX3_chooseFeet 12 = .ok (.iconst 0, 1) := by decide +kernel
theorem dX3_chooseFeet_13 : decode cX3_chooseFeet 13 = .ok (.invokestatic 95, 3) := by decide +kernel
theorem dX3_chooseFeet_16 : decode cX3_chooseFeet 16 = .ok (.iastore, 1) := by decide +kernel
theorem dX3_chooseFeet_17 : decode cX3_chooseFeet 17 = .ok (.aload_n 0, 1) := by decide +kernel
theorem dX3_chooseFeet_18 : decode cX3_chooseFeet 18 = .ok (.aload_n 0, 1) := by decide +kernel
theorem dX3_chooseFeet_19 : decode cX3_chooseFeet 19 = .ok (.getfield 21, 3) := by decide +kernel
theorem dX3_chooseFeet_22 : decode cX3_chooseFeet 22 = .ok (.iconst 0, 1) := by decide +kernel
theorem dX3_chooseFeet_23 : decode cX3_chooseFeet 23 = .ok (.aaload, 1) := by decide +kernel
theorem dX3_chooseFeet_24 : decode cX3_chooseFeet 24 = .ok (.aload_n 0, 1) := by decide +kernel
theorem dX3_chooseFeet_25 : decode cX3_chooseFeet 25 = .ok (.getfield 9, 3) := by decide +kernel
theorem dX3_chooseFeet_28 : decode cX3_chooseFeet 28 = .ok (.iconst 0, 1) := by decide +kernel
theorem dX3_chooseFeet_29 : decode cX3_chooseFeet 29 = .ok (.iaload, 1) := by decide +kernel
theorem dX3_chooseFeet_30 : decode cX3_chooseFeet 30 = .ok (.iaload, 1) := by decide +kernel
theorem dX3_chooseFeet_31 : decode cX3_chooseFeet 31 = .ok (.putfield 15, 3) := by decide +kernel
theorem dX3_chooseFeet_34 : decode cX3_chooseFeet 34 = .ok (.iconst 1, 1) := by decide +kernel
theorem dX3_chooseFeet_35 : decode cX3_chooseFeet 35 = .ok (.istore_n 2, 1) := by decide +kernel
theorem dX3_chooseFeet_36 : decode cX3_chooseFeet 36 = .ok (.iload_n 2, 1) := by decide +kernel
theorem dX3_chooseFeet_37 : decode cX3_chooseFeet 37 = .ok (.bipush 10, 2) := by decide +kernel
theorem dX3_chooseFeet_39 : decode cX3_chooseFeet 39 = .ok (.if_icmp .ge 33, 3) := by decide +kernel
theorem dX3_chooseFeet_42 : decode cX3_chooseFeet 42 = .ok (.aload_n 0, 1) := by decide +kernel
theorem dX3_chooseFeet_43 : decode cX3_chooseFeet 43 = .ok (.getfield 9, 3) := by decide +kernel
theorem dX3_chooseFeet_46 : decode cX3_chooseFeet 46 = .ok (.iload_n 2, 1) := by decide +kernel
theorem dX3_chooseFeet_47 : decode cX3_chooseFeet 47 = .ok (.aload_n 0, 1) := by decide +kernel
theorem dX3_chooseFeet_48 : decode cX3_chooseFeet 48 = .ok (.getfield 21, 3) := by decide +kernel
theorem dX3_chooseFeet_51 : decode cX3_chooseFeet 51 = .ok (.iload_n 2, 1) := by decide +kernel
theorem dX3_chooseFeet_52 : decode cX3_chooseFeet 52 = .ok (.aaload, 1) := by decide +kernel
theorem dX3_chooseFeet_53 : decode cX3_chooseFeet 53 = .ok (.aload_n 0, 1) := by decide +kernel
theorem dX3_chooseFeet_54 : decode cX3_chooseFeet 54 = .ok (.getfield 9, 3) := by decide +kernel
theorem dX3_chooseFeet_57 : decode cX3_chooseFeet 57 = .ok (.iload_n 2, 1) := by decide +kernel
theorem dX3_chooseFeet_58 : decode cX3_chooseFeet 58 = .ok (.iconst 1, 1) := by decide +kernel
theorem dX3_chooseFeet_59 : decode cX3_chooseFeet 59 = .ok (.isub, 1) := by decide +kernel
theorem dX3_chooseFeet_60 : decode cX3_chooseFeet 60 = .ok (.iaload, 1) := by decide +kernel
theorem dX3_chooseFeet_61 : decode cX3_chooseFeet 61 = .ok (.iload_n 1, 1) := by decide +kernel
theorem dX3_chooseFeet_62 : decode cX3_chooseFeet 62 = .ok (.invokestatic 95, 3) := by decide +kernel
theorem dX3_chooseFeet_65 : decode cX3_chooseFeet 65 = .ok (.iastore, 1) := by decide +kernel
theorem dX3_chooseFeet_66 : decode cX3_chooseFeet 66 = .ok (.iinc 2 1, 3) := by decide +kernel
theorem dX3_chooseFeet_69 : decode cX3_chooseFeet 69 = .ok (.goto (-33), 3) := by decide +kernel
theorem dX3_chooseFeet_72 : decode cX3_chooseFeet 72 = .ok (.return_, 1) := by decide +kernel
theorem dX3_cheapest_0 : decode cX3_cheapest 0 = .ok (.iconst 0, 1) := by decide +kernel
theorem dX3_cheapest_1 : decode cX3_cheapest 1 = .ok (.istore_n 3, 1) := by decide +kernel
theorem dX3_cheapest_2 : decode cX3_cheapest 2 = .ok (.ldc 101, 2) := by decide +kernel
theorem dX3_cheapest_4 : decode cX3_cheapest 4 = .ok (.istore 4, 2) := by decide +kernel
theorem dX3_cheapest_6 : decode cX3_cheapest 6 = .ok (.iconst 0, 1) := by decide +kernel
theorem dX3_cheapest_7 : decode cX3_cheapest 7 = .ok (.istore 5, 2) := by decide +kernel
theorem dX3_cheapest_9 : decode cX3_cheapest 9 = .ok (.iload 5, 2) := by decide +kernel
theorem dX3_cheapest_11 : decode cX3_cheapest 11 = .ok (.bipush 80, 2) := by decide +kernel
theorem dX3_cheapest_13 : decode cX3_cheapest 13 = .ok (.if_icmp .ge 39, 3) := by decide +kernel
theorem dX3_cheapest_16 : decode cX3_cheapest 16 = .ok (.aload_n 0, 1) := by decide +kernel
theorem dX3_cheapest_17 : decode cX3_cheapest 17 = .ok (.iload 5, 2) := by decide +kernel
theorem dX3_cheapest_19 : decode cX3_cheapest 19 = .ok (.iaload, 1) := by decide +kernel
theorem dX3_cheapest_20 : decode cX3_cheapest 20 = .ok (.iload_n 2, 1) := by decide +kernel
theorem dX3_cheapest_21 : decode cX3_cheapest 21 = .ok (.iload 5, 2) := by decide +kernel
theorem dX3_cheapest_23 : decode cX3_cheapest 23 = .ok (.iload_n 1, 1) := by decide +kernel
theorem dX3_cheapest_24 : decode cX3_cheapest 24 = .ok (.isub, 1) := by decide +kernel
theorem dX3_cheapest_25 : decode cX3_cheapest 25 = .ok (.invokestatic 102, 3) := by decide +kernel
theorem dX3_cheapest_28 : decode cX3_cheapest 28 = .ok (.imul, 1) := by decide +kernel
theorem dX3_cheapest_29 : decode cX3_cheapest 29 = .ok (.iadd, 1) := by decide +kernel
theorem dX3_cheapest_30 : decode cX3_cheapest 30 = .ok (.istore 6, 2) := by decide +kernel
theorem dX3_cheapest_32 : decode cX3_cheapest 32 = .ok (.iload 6, 2) := by decide +kernel
theorem dX3_cheapest_34 : decode cX3_cheapest 34 = .ok (.iload 4, 2) := by decide +kernel
theorem dX3_cheapest_36 : decode cX3_cheapest 36 = .ok (.if_icmp .ge 10, 3) := by decide +kernel
theorem dX3_cheapest_39 : decode cX3_cheapest 39 = .ok (.iload 5, 2) := by decide +kernel
theorem dX3_cheapest_41 : decode cX3_cheapest 41 = .ok (.istore_n 3, 1) := by decide +kernel
theorem dX3_cheapest_42 : decode cX3_cheapest 42 = .ok (.iload 6, 2) := by decide +kernel
theorem dX3_cheapest_44 : decode cX3_cheapest 44 = .ok (.istore 4, 2) := by decide +kernel
theorem dX3_cheapest_46 : decode cX3_cheapest 46 = .ok (.iinc 5 1, 3) := by decide +kernel
theorem dX3_cheapest_49 : decode cX3_cheapest 49 = .ok (.goto (-40), 3) := by decide +kernel
theorem dX3_cheapest_52 : decode cX3_cheapest 52 = .ok (.iload_n 3, 1) := by decide +kernel
theorem dX3_cheapest_53 : decode cX3_cheapest 53 = .ok (.ireturn, 1) := by decide +kernel
theorem dX4_init_0 : decode cX4_init 0 = .ok (.aload_n 0, 1) := by decide +kernel
theorem dX4_init_1 : decode cX4_init 1 = .ok (.invokespecial 3, 3) := by decide +kernel
theorem dX4_init_4 : decode cX4_init 4 = .ok (.aload_n 0, 1) := by decide +kernel
theorem dX4_init_5 : decode cX4_init 5 = .ok (.bipush 20, 2) := by decide +kernel
theorem dX4_init_7 : decode cX4_init 7 = .ok (.newarray .int, 2) := by decide +kernel
theorem dX4_init_9 : decode cX4_init 9 = .ok (.putfield 9, 3) := by decide +kernel
theorem dX4_init_12 : decode cX4_init 12 = .ok (.aload_n 0, 1) := by decide +kernel
theorem dX4_init_13 : decode cX4_init 13 = .ok (.bipush 20, 2) := by decide +kernel
theorem dX4_init_15 : decode cX4_init 15 = .ok (.newarray .int, 2) := by decide +kernel
theorem dX4_init_17 : decode cX4_init 17 = .ok (.putfield 15, 3) := by decide +kernel
theorem dX4_init_20 : decode cX4_init 20 = .ok (.aload_n 0, 1) := by decide +kernel
theorem dX4_init_21 : decode cX4_init 21 = .ok (.iconst 0, 1) := by decide +kernel
theorem dX4_init_22 : decode cX4_init 22 = .ok (.putfield 18, 3) := by decide +kernel
theorem dX4_init_25 : decode cX4_init 25 = .ok (.return_, 1) := by decide +kernel
theorem dX4_tell_0 : decode cX4_tell 0 = .ok (.aload_n 0, 1) := by decide +kernel
theorem dX4_tell_1 : decode cX4_tell 1 = .ok (.getfield 18, 3) := by decide +kernel
theorem dX4_tell_4 : decode cX4_tell 4 = .ok (.bipush 20, 2) := by decide +kernel
theorem dX4_tell_6 : decode cX4_tell 6 = .ok (.if_icmp .ge 12, 3) := by decide +kernel
theorem dX4_tell_9 : decode cX4_tell 9 = .ok (.aload_n 0, 1) := by decide +kernel
theorem dX4_tell_10 : decode cX4_tell 10 = .ok (.iload_n 1, 1) := by decide +kernel
theorem dX4_tell_11 : decode cX4_tell 11 = .ok (.iload_n 2, 1) := by decide +kernel
theorem dX4_tell_12 : decode cX4_tell 12 = .ok (.invokevirtual 22, 3) := by decide +kernel
theorem dX4_tell_15 : decode cX4_tell 15 = .ok (.ifCond .eq 5, 3) := by decide +kernel
theorem dX4_tell_18 : decode cX4_tell 18 = .ok (.iconst 0, 1) := by decide +kernel
theorem dX4_tell_19 : decode cX4_tell 19 = .ok (.ireturn, 1) := by decide +kernel
theorem dX4_tell_20 : decode cX4_tell 20 = .ok (.aload_n 0, 1) := by decide +kernel
theorem dX4_tell_21 : decode cX4_tell 21 = .ok (.getfield 9, 3) := by decide +kernel
theorem dX4_tell_24 : decode cX4_tell 24 = .ok (.aload_n 0, 1) := by decide +kernel
theorem dX4_tell_25 : decode cX4_tell 25 = .ok (.getfield 18, 3) := by decide +kernel
theorem dX4_tell_28 : decode cX4_tell 28 = .ok (.iload_n 1, 1) := by decide +kernel
theorem dX4_tell_29 : decode cX4_tell 29 = .ok (.iastore, 1) := by decide +kernel
theorem dX4_tell_30 : decode cX4_tell 30 = .ok (.aload_n 0, 1) := by decide +kernel
theorem dX4_tell_31 : decode cX4_tell 31 = .ok (.getfield 15, 3) := by decide +kernel
theorem dX4_tell_34 : decode cX4_tell 34 = .ok (.aload_n 0, 1) := by decide +kernel
theorem dX4_tell_35 : decode cX4_tell 35 = .ok (.getfield 18, 3) := by decide +kernel
theorem dX4_tell_38 : decode cX4_tell 38 = .ok (.iload_n 2, 1) := by decide +kernel
theorem dX4_tell_39 : decode cX4_tell 39 = .ok (.iastore, 1) := by decide +kernel
theorem dX4_tell_40 : decode cX4_tell 40 = .ok (.aload_n 0, 1) := by decide +kernel
theorem dX4_tell_41 : decode cX4_tell 41 = .ok (.dup, 1) := by decide +kernel
theorem dX4_tell_42 : decode cX4_tell 42 = .ok (.getfield 18, 3) := by decide +kernel
theorem dX4_tell_45 : decode cX4_tell 45 = .ok (.iconst 1, 1) := by decide +kernel
theorem dX4_tell_46 : decode cX4_tell 46 = .ok (.iadd, 1) := by decide +kernel
theorem dX4_tell_47 : decode cX4_tell 47 = .ok (.putfield 18, 3) := by decide +kernel
theorem dX4_tell_50 : decode cX4_tell 50 = .ok (.iconst 1, 1) := by decide +kernel
theorem dX4_tell_51 : decode cX4_tell 51 = .ok (.ireturn, 1) := by decide +kernel
theorem dX4_isTold_0 : decode cX4_isTold 0 = .ok (.iconst 0, 1) := by decide +kernel
theorem dX4_isTold_1 : decode cX4_isTold 1 = .ok (.istore_n 3, 1) := by decide +kernel
theorem dX4_isTold_2 : decode cX4_isTold 2 = .ok (.iload_n 3, 1) := by decide +kernel
theorem dX4_isTold_3 : decode cX4_isTold 3 = .ok (.aload_n 0, 1) := by decide +kernel
theorem dX4_isTold_4 : decode cX4_isTold 4 = .ok (.getfield 18, 3) := by decide +kernel
theorem dX4_isTold_7 : decode cX4_isTold 7 = .ok (.if_icmp .ge 31, 3) := by decide +kernel
theorem dX4_isTold_10 : decode cX4_isTold 10 = .ok (.aload_n 0, 1) := by decide +kernel
theorem dX4_isTold_11 : decode cX4_isTold 11 = .ok (.getfield 9, 3) := by decide +kernel
theorem dX4_isTold_14 : decode cX4_isTold 14 = .ok (.iload_n 3, 1) := by decide +kernel
theorem dX4_isTold_15 : decode cX4_isTold 15 = .ok (.iaload, 1) := by decide +kernel
theorem dX4_isTold_16 : decode cX4_isTold 16 = .ok (.iload_n 1, 1) := by decide +kernel
theorem dX4_isTold_17 : decode cX4_isTold 17 = .ok (.if_icmp .ne 15, 3) := by decide +kernel
theorem dX4_isTold_20 : decode cX4_isTold 20 = .ok (.aload_n 0, 1) := by decide +kernel
theorem dX4_isTold_21 : decode cX4_isTold 21 = .ok (.getfield 15, 3) := by decide +kernel
theorem dX4_isTold_24 : decode cX4_isTold 24 = .ok (.iload_n 3, 1) := by decide +kernel
theorem dX4_isTold_25 : decode cX4_isTold 25 = .ok (.iaload, 1) := by decide +kernel
theorem dX4_isTold_26 : decode cX4_isTold 26 = .ok (.iload_n 2, 1) := by decide +kernel
theorem dX4_isTold_27 : decode cX4_isTold 27 = .ok (.if_icmp .ne 5, 3) := by decide +kernel
theorem dX4_isTold_30 : decode cX4_isTold 30 = .ok (.iconst 1, 1) := by decide +kernel
theorem dX4_isTold_31 : decode cX4_isTold 31 = .ok (.ireturn, 1) := by decide +kernel
theorem dX4_isTold_32 : decode cX4_isTold 32 = .ok (.iinc 3 1, 3) := by decide +kernel
theorem dX4_isTold_35 : decode cX4_isTold 35 = .ok (.goto (-33), 3) := by decide +kernel
theorem dX4_isTold_38 : decode cX4_isTold 38 = .ok (.iconst 0, 1) := by decide +kernel
theorem dX4_isTold_39 : decode cX4_isTold 39 = .ok (.ireturn, 1) := by decide +kernel
theorem dX5_init_0 : decode cX5_init 0 = .ok (.aload_n 0, 1) := by decide +kernel
theorem dX5_init_1 : decode cX5_init 1 = .ok (.invokespecial 3, 3) := by decide +kernel
theorem dX5_init_4 : decode cX5_init 4 = .ok (.aload_n 0, 1) := by decide +kernel
theorem dX5_init_5 : decode cX5_init 5 = .ok (.iconst 0, 1) := by decide +kernel
theorem dX5_init_6 : decode cX5_init 6 = .ok (.putfield 9, 3) := by decide +kernel
theorem dX5_init_9 : decode cX5_init 9 = .ok (.aload_n 0, 1) := by decide +kernel
theorem dX5_init_10 : decode cX5_init 10 = .ok (.iconst 0, 1) := by decide +kernel
theorem dX5_init_11 : decode cX5_init 11 = .ok (.putfield 15, 3) := by decide +kernel
theorem dX5_init_14 : decode cX5_init 14 = .ok (.aload_n 0, 1) := by decide +kernel
theorem dX5_init_15 : decode cX5_init 15 = .ok (.iconst (-1), 1) := by decide +kernel
theorem dX5_init_16 : decode cX5_init 16 = .ok (.putfield 19, 3) := by decide +kernel
theorem dX5_init_19 : decode cX5_init 19 = .ok (.aload_n 0, 1) := by decide +kernel
theorem dX5_init_20 : decode cX5_init 20 = .ok (.iconst (-1), 1) := by decide +kernel
theorem dX5_init_21 : decode cX5_init 21 = .ok (.putfield 22, 3) := by decide +kernel
theorem dX5_init_24 : decode cX5_init 24 = .ok (.aload_n 0, 1) := by decide +kernel
theorem dX5_init_25 : decode cX5_init 25 = .ok (.iconst (-1), 1) := by decide +kernel
theorem dX5_init_26 : decode cX5_init 26 = .ok (.putfield 25, 3) := by decide +kernel
theorem dX5_init_29 : decode cX5_init 29 = .ok (.aload_n 0, 1) := by decide +kernel
theorem dX5_init_30 : decode cX5_init 30 = .ok (.iconst 0, 1) := by decide +kernel
theorem dX5_init_31 : decode cX5_init 31 = .ok (.putfield 28, 3) := by decide +kernel
theorem dX5_init_34 : decode cX5_init 34 = .ok (.aload_n 0, 1) := by decide +kernel
theorem dX5_init_35 : decode cX5_init 35 = .ok (.iconst 0, 1) := by decide +kernel
theorem dX5_init_36 : decode cX5_init 36 = .ok (.putfield 31, 3) := by decide +kernel
theorem dX5_init_39 : decode cX5_init 39 = .ok (.aload_n 0, 1) := by decide +kernel
theorem dX5_init_40 : decode cX5_init 40 = .ok (.iconst 2, 1) := by decide +kernel
theorem dX5_init_41 : decode cX5_init 41 = .ok (.newarray .int, 2) := by decide +kernel
theorem dX5_init_43 : decode cX5_init 43 = .ok (.putfield 34, 3) := by decide +kernel
theorem dX5_init_46 : decode cX5_init 46 = .ok (.aload_n 0, 1) := by decide +kernel
theorem dX5_init_47 : decode cX5_init 47 = .ok (.iconst 2, 1) := by decide +kernel
theorem dX5_init_48 : decode cX5_init 48 = .ok (.newarray .int, 2) := by decide +kernel
theorem dX5_init_50 : decode cX5_init 50 = .ok (.putfield 38, 3) := by decide +kernel
theorem dX5_init_53 : decode cX5_init 53 = .ok (.aload_n 0, 1) := by decide +kernel
theorem dX5_init_54 : decode cX5_init 54 = .ok (.iconst 2, 1) := by decide +kernel
theorem dX5_init_55 : decode cX5_init 55 = .ok (.newarray .int, 2) := by decide +kernel
theorem dX5_init_57 : decode cX5_init 57 = .ok (.putfield 41, 3) := by decide +kernel
theorem dX5_init_60 : decode cX5_init 60 = .ok (.return_, 1) := by decide +kernel
theorem dX5_isParty_0 : decode cX5_isParty 0 = .ok (.iload_n 0, 1) := by decide +kernel
theorem dX5_isParty_1 : decode cX5_isParty 1 = .ok (.bipush 100, 2) := by decide +kernel
theorem dX5_isParty_3 : decode cX5_isParty 3 = .ok (.invokestatic 44, 3) := by decide +kernel
theorem dX5_isParty_6 : decode cX5_isParty 6 = .ok (.ifCond .eq 28, 3) := by decide +kernel
theorem dX5_isParty_9 : decode cX5_isParty 9 = .ok (.iload_n 1, 1) := by decide +kernel
theorem dX5_isParty_10 : decode cX5_isParty 10 = .ok (.sipush 1000, 3) := by decide +kernel
theorem dX5_isParty_13 : decode cX5_isParty 13 = .ok (.invokestatic 44, 3) := by decide +kernel
theorem dX5_isParty_16 : decode cX5_isParty 16 = .ok (.ifCond .eq 18, 3) := by decide +kernel
theorem dX5_isParty_19 : decode cX5_isParty 19 = .ok (.iload_n 2, 1) := by decide +kernel
theorem dX5_isParty_20 : decode cX5_isParty 20 = .ok (.iconst 1, 1) := by decide +kernel
theorem dX5_isParty_21 : decode cX5_isParty 21 = .ok (.if_icmp .lt 13, 3) := by decide +kernel
theorem dX5_isParty_24 : decode cX5_isParty 24 = .ok (.iload_n 2, 1) := by decide +kernel
theorem dX5_isParty_25 : decode cX5_isParty 25 = .ok (.bipush 99, 2) := by decide +kernel
theorem dX5_isParty_27 : decode cX5_isParty 27 = .ok (.if_icmp .gt 7, 3) := by decide +kernel
theorem dX5_isParty_30 : decode cX5_isParty 30 = .ok (.iconst 1, 1) := by decide +kernel
theorem dX5_isParty_31 : decode cX5_isParty 31 = .ok (.goto 4, 3) := by decide +kernel
theorem dX5_isParty_34 : decode cX5_isParty 34 = .ok (.iconst 0, 1) := by decide +kernel
theorem dX5_isParty_35 : decode cX5_isParty 35 = .ok (.ireturn, 1) := by decide +kernel
theorem dX5_open_0 : decode cX5_open 0 = .ok (.aload_n 0, 1) := by decide +kernel
theorem dX5_open_1 : decode cX5_open 1 = .ok (.iconst 1, 1) := by decide +kernel
theorem dX5_open_2 : decode cX5_open 2 = .ok (.putfield 9, 3) := by decide +kernel
theorem dX5_open_5 : decode cX5_open 5 = .ok (.aload_n 0, 1) := by decide +kernel
theorem dX5_open_6 : decode cX5_open 6 = .ok (.iload_n 1, 1) := by decide +kernel
theorem dX5_open_7 : decode cX5_open 7 = .ok (.putfield 28, 3) := by decide +kernel
theorem dX5_open_10 : decode cX5_open 10 = .ok (.aload_n 0, 1) := by decide +kernel
theorem dX5_open_11 : decode cX5_open 11 = .ok (.iload_n 2, 1) := by decide +kernel
theorem dX5_open_12 : decode cX5_open 12 = .ok (.putfield 31, 3) := by decide +kernel
theorem dX5_open_15 : decode cX5_open 15 = .ok (.return_, 1) := by decide +kernel
theorem dX5_setParty_0 : decode cX5_setParty 0 = .ok (.aload_n 0, 1) := by decide +kernel
theorem dX5_setParty_1 : decode cX5_setParty 1 = .ok (.getfield 34, 3) := by decide +kernel
theorem dX5_setParty_4 : decode cX5_setParty 4 = .ok (.iload_n 1, 1) := by decide +kernel
theorem dX5_setParty_5 : decode cX5_setParty 5 = .ok (.iload_n 2, 1) := by decide +kernel
theorem dX5_setParty_6 : decode cX5_setParty 6 = .ok (.iastore, 1) := by decide +kernel
theorem dX5_setParty_7 : decode cX5_setParty 7 = .ok (.aload_n 0, 1) := by decide +kernel
theorem dX5_setParty_8 : decode cX5_setParty 8 = .ok (.getfield 38, 3) := by decide +kernel
theorem dX5_setParty_11 : decode cX5_setParty 11 = .ok (.iload_n 1, 1) := by decide +kernel
theorem dX5_setParty_12 : decode cX5_setParty 12 = .ok (.iload_n 3, 1) := by decide +kernel
theorem dX5_setParty_13 : decode cX5_setParty 13 = .ok (.iastore, 1) := by decide +kernel
theorem dX5_setParty_14 : decode cX5_setParty 14 = .ok (.aload_n 0, 1) := by decide +kernel
theorem dX5_setParty_15 : decode cX5_setParty 15 = .ok (.getfield 41, 3) := by decide +kernel
theorem dX5_setParty_18 : decode cX5_setParty 18 = .ok (.iload_n 1, 1) := by decide +kernel
theorem dX5_setParty_19 : decode cX5_setParty 19 = .ok (.iload 4, 2) := by decide +kernel
theorem dX5_setParty_21 : decode cX5_setParty 21 = .ok (.iastore, 1) := by decide +kernel
theorem dX5_setParty_22 : decode cX5_setParty 22 = .ok (.return_, 1) := by decide +kernel
theorem dX5_judge_0 : decode cX5_judge 0 = .ok (.aload_n 0, 1) := by decide +kernel
theorem dX5_judge_1 : decode cX5_judge 1 = .ok (.iconst 0, 1) := by decide +kernel
theorem dX5_judge_2 : decode cX5_judge 2 = .ok (.putfield 15, 3) := by decide +kernel
theorem dX5_judge_5 : decode cX5_judge 5 = .ok (.aload_n 0, 1) := by decide +kernel
theorem dX5_judge_6 : decode cX5_judge 6 = .ok (.iconst (-1), 1) := by decide +kernel
theorem dX5_judge_7 : decode cX5_judge 7 = .ok (.putfield 19, 3) := by decide +kernel
theorem dX5_judge_10 : decode cX5_judge 10 = .ok (.aload_n 0, 1) := by decide +kernel
theorem dX5_judge_11 : decode cX5_judge 11 = .ok (.iconst (-1), 1) := by decide +kernel
theorem dX5_judge_12 : decode cX5_judge 12 = .ok (.putfield 22, 3) := by decide +kernel
theorem dX5_judge_15 : decode cX5_judge 15 = .ok (.aload_n 0, 1) := by decide +kernel
theorem dX5_judge_16 : decode cX5_judge 16 = .ok (.iconst (-1), 1) := by decide +kernel
theorem dX5_judge_17 : decode cX5_judge 17 = .ok (.putfield 25, 3) := by decide +kernel
theorem dX5_judge_20 : decode cX5_judge 20 = .ok (.iconst 0, 1) := by decide +kernel
theorem dX5_judge_21 : decode cX5_judge 21 = .ok (.istore_n 1, 1) := by decide +kernel
theorem dX5_judge_22 : decode cX5_judge 22 = .ok (.aload_n 0, 1) := by decide +kernel
theorem dX5_judge_23 : decode cX5_judge 23 = .ok (.getfield 31, 3) := by decide +kernel
theorem dX5_judge_26 : decode cX5_judge 26 = .ok (.istore_n 2, 1) := by decide +kernel
theorem dX5_judge_27 : decode cX5_judge 27 = .ok (.iload_n 2, 1) := by decide +kernel
theorem dX5_judge_28 : decode cX5_judge 28 = .ok (.aload_n 0, 1) := by decide +kernel
theorem dX5_judge_29 : decode cX5_judge 29 = .ok (.getfield 28, 3) := by decide +kernel
theorem dX5_judge_32 : decode cX5_judge 32 = .ok (.if_icmp .gt 94, 3) := by decide +kernel
theorem dX5_judge_35 : decode cX5_judge 35 = .ok (.aload_n 0, 1) := by decide +kernel
theorem dX5_judge_36 : decode cX5_judge 36 = .ok (.iconst 0, 1) := by decide +kernel
theorem dX5_judge_37 : decode cX5_judge 37 = .ok (.iload_n 2, 1) := by decide +kernel
theorem dX5_judge_38 : decode cX5_judge 38 = .ok (.aload_n 0, 1) := by decide +kernel
theorem dX5_judge_39 : decode cX5_judge 39 = .ok (.getfield 31, 3) := by decide +kernel
theorem dX5_judge_42 : decode cX5_judge 42 = .ok (.isub, 1) := by decide +kernel
theorem dX5_judge_43 : decode cX5_judge 43 = .ok (.invokevirtual 48, 3) := by decide +kernel
theorem dX5_judge_46 : decode cX5_judge 46 = .ok (.aload_n 0, 1) := by decide +kernel
theorem dX5_judge_47 : decode cX5_judge 47 = .ok (.iconst 1, 1) := by decide +kernel
theorem dX5_judge_48 : decode cX5_judge 48 = .ok (.aload_n 0, 1) := by decide +kernel
theorem dX5_judge_49 : decode cX5_judge 49 = .ok (.getfield 28, 3) := by decide +kernel
theorem dX5_judge_52 : decode cX5_judge 52 = .ok (.iload_n 2, 1) := by decide +kernel
theorem dX5_judge_53 : decode cX5_judge 53 = .ok (.isub, 1) := by decide +kernel
theorem dX5_judge_54 : decode cX5_judge 54 = .ok (.invokevirtual 48, 3) := by decide +kernel
theorem dX5_judge_57 : decode cX5_judge 57 = .ok (.invokestatic 52, 3) := by decide +kernel
theorem dX5_judge_60 : decode cX5_judge 60 = .ok (.istore_n 3, 1) := by decide +kernel
theorem dX5_judge_61 : decode cX5_judge 61 = .ok (.iload_n 3, 1) := by decide +kernel
theorem dX5_judge_62 : decode cX5_judge 62 = .ok (.ifCond .lt 58, 3) := by decide +kernel
theorem dX5_judge_65 : decode cX5_judge 65 = .ok (.aload_n 0, 1) := by decide +kernel
theorem dX5_judge_66 : decode cX5_judge 66 = .ok (.dup, 1) := by decide +kernel
theorem dX5_judge_67 : decode cX5_judge 67 = .ok (.getfield 15, 3) := by decide +kernel
theorem dX5_judge_70 : decode cX5_judge 70 = .ok (.iconst 1, 1) := by decide +kernel
theorem dX5_judge_71 : decode cX5_judge 71 = .ok (.iadd, 1) := by decide +kernel
theorem dX5_judge_72 : decode cX5_judge 72 = .ok (.putfield 15, 3) := by decide +kernel
theorem dX5_judge_75 : decode cX5_judge 75 = .ok (.aload_n 0, 1) := by decide +kernel
theorem dX5_judge_76 : decode cX5_judge 76 = .ok (.aload_n 0, 1) := by decide +kernel
theorem dX5_judge_77 : decode cX5_judge 77 = .ok (.getfield 19, 3) := by decide +kernel
theorem dX5_judge_80 : decode cX5_judge 80 = .ok (.iconst (-1), 1) := by decide +kernel
theorem dX5_judge_81 : decode cX5_judge 81 = .ok (.if_icmp .ne 7, 3) := by decide +kernel
theorem dX5_judge_84 : decode cX5_judge 84 = .ok (.iload_n 2, 1) := by decide +kernel
theorem dX5_judge_85 : decode cX5_judge 85 = .ok (.goto 7, 3) := by decide +kernel
theorem dX5_judge_88 : decode cX5_judge 88 = .ok (.aload_n 0, 1) := by decide +kernel
theorem dX5_judge_89 : decode cX5_judge 89 = .ok (.getfield 19, 3) := by decide +kernel
theorem dX5_judge_92 : decode cX5_judge 92 = .ok (.putfield 19, 3) := by decide +kernel
theorem dX5_judge_95 : decode cX5_judge 95 = .ok (.aload_n 0, 1) := by decide +kernel
theorem dX5_judge_96 : decode cX5_judge 96 = .ok (.iload_n 2, 1) := by decide +kernel
theorem dX5_judge_97 : decode cX5_judge 97 = .ok (.putfield 22, 3) := by decide +kernel
theorem dX5_judge_100 : decode cX5_judge 100 = .ok (.aload_n 0, 1) := by decide +kernel
theorem dX5_judge_101 : decode cX5_judge 101 = .ok (.getfield 25, 3) := by decide +kernel
theorem dX5_judge_104 : decode cX5_judge 104 = .ok (.iconst (-1), 1) := by decide +kernel
theorem dX5_judge_105 : decode cX5_judge 105 = .ok (.if_icmp .eq 8, 3) := by decide +kernel
theorem dX5_judge_108 : decode cX5_judge 108 = .ok (.iload_n 3, 1) := by decide +kernel
theorem dX5_judge_109 : decode cX5_judge 109 = .ok (.iload_n 1, 1) := by decide +kernel
theorem dX5_judge_110 : decode cX5_judge 110 = .ok (.if_icmp .le 10, 3) := by decide +kernel
theorem dX5_judge_113 : decode cX5_judge 113 = .ok (.iload_n 3, 1) := by decide +kernel
theorem dX5_judge_114 : decode cX5_judge 114 = .ok (.istore_n 1, 1) := by decide +kernel
theorem dX5_judge_115 : decode cX5_judge 115 = .ok (.aload_n 0, 1) := by decide +kernel
theorem dX5_judge_116 : decode cX5_judge 116 = .ok (.iload_n 2, 1) := by decide +kernel
theorem dX5_judge_117 : decode cX5_judge 117 = .ok (.putfield 25, 3) := by decide +kernel
theorem dX5_judge_120 : decode cX5_judge 120 = .ok (.iinc 2 1, 3) := by decide +kernel
theorem dX5_judge_123 : decode cX5_judge 123 = .ok (.goto (-96), 3) := by decide +kernel
theorem dX5_judge_126 : decode cX5_judge 126 = .ok (.return_, 1) := by decide +kernel
theorem dX5_gainOf_0 : decode cX5_gainOf 0 = .ok (.aload_n 0, 1) := by decide +kernel
theorem dX5_gainOf_1 : decode cX5_gainOf 1 = .ok (.getfield 41, 3) := by decide +kernel
theorem dX5_gainOf_4 : decode cX5_gainOf 4 = .ok (.iconst 0, 1) := by decide +kernel
theorem dX5_gainOf_5 : decode cX5_gainOf 5 = .ok (.iaload, 1) := by decide +kernel
theorem dX5_gainOf_6 : decode cX5_gainOf 6 = .ok (.aload_n 0, 1) := by decide +kernel
theorem dX5_gainOf_7 : decode cX5_gainOf 7 = .ok (.getfield 41, 3) := by decide +kernel
theorem dX5_gainOf_10 : decode cX5_gainOf 10 = .ok (.iconst 1, 1) := by decide +kernel
theorem dX5_gainOf_11 : decode cX5_gainOf 11 = .ok (.iaload, 1) := by decide +kernel
theorem dX5_gainOf_12 : decode cX5_gainOf 12 = .ok (.iadd, 1) := by decide +kernel
theorem dX5_gainOf_13 : decode cX5_gainOf 13 = .ok (.istore_n 3, 1) := by decide +kernel
theorem dX5_gainOf_14 : decode cX5_gainOf 14 = .ok (.aload_n 0, 1) := by decide +kernel
theorem dX5_gainOf_15 : decode cX5_gainOf 15 = .ok (.getfield 34, 3) := by decide +kernel
theorem dX5_gainOf_18 : decode cX5_gainOf 18 = .ok (.iload_n 1, 1) := by decide +kernel
theorem dX5_gainOf_19 : decode cX5_gainOf 19 = .ok (.iaload, 1) := by decide +kernel
theorem dX5_gainOf_20 : decode cX5_gainOf 20 = .ok (.iload_n 2, 1) := by decide +kernel
theorem dX5_gainOf_21 : decode cX5_gainOf 21 = .ok (.imul, 1) := by decide +kernel
theorem dX5_gainOf_22 : decode cX5_gainOf 22 = .ok (.iload_n 3, 1) := by decide +kernel
theorem dX5_gainOf_23 : decode cX5_gainOf 23 = .ok (.imul, 1) := by decide +kernel
theorem dX5_gainOf_24 : decode cX5_gainOf 24 = .ok (.aload_n 0, 1) := by decide +kernel
theorem dX5_gainOf_25 : decode cX5_gainOf 25 = .ok (.getfield 34, 3) := by decide +kernel
theorem dX5_gainOf_28 : decode cX5_gainOf 28 = .ok (.iload_n 1, 1) := by decide +kernel
theorem dX5_gainOf_29 : decode cX5_gainOf 29 = .ok (.iaload, 1) := by decide +kernel
theorem dX5_gainOf_30 : decode cX5_gainOf 30 = .ok (.aload_n 0, 1) := by decide +kernel
theorem dX5_gainOf_31 : decode cX5_gainOf 31 = .ok (.getfield 28, 3) := by decide +kernel
theorem dX5_gainOf_34 : decode cX5_gainOf 34 = .ok (.aload_n 0, 1) := by decide +kernel
theorem dX5_gainOf_35 : decode cX5_gainOf 35 = .ok (.getfield 31, 3) := by decide +kernel
theorem dX5_gainOf_38 : decode cX5_gainOf 38 = .ok (.isub, 1) := by decide +kernel
theorem dX5_gainOf_39 : decode cX5_gainOf 39 = .ok (.imul, 1) := by decide +kernel
theorem dX5_gainOf_40 : decode cX5_gainOf 40 = .ok (.aload_n 0, 1) := by decide +kernel
theorem dX5_gainOf_41 : decode cX5_gainOf 41 = .ok (.getfield 41, 3) := by decide +kernel
theorem dX5_gainOf_44 : decode cX5_gainOf 44 = .ok (.iload_n 1, 1) := by decide +kernel
theorem dX5_gainOf_45 : decode cX5_gainOf 45 = .ok (.iaload, 1) := by decide +kernel
theorem dX5_gainOf_46 : decode cX5_gainOf 46 = .ok (.imul, 1) := by decide +kernel
theorem dX5_gainOf_47 : decode cX5_gainOf 47 = .ok (.isub, 1) := by decide +kernel
theorem dX5_gainOf_48 : decode cX5_gainOf 48 = .ok (.aload_n 0, 1) := by decide +kernel
theorem dX5_gainOf_49 : decode cX5_gainOf 49 = .ok (.getfield 38, 3) := by decide +kernel
theorem dX5_gainOf_52 : decode cX5_gainOf 52 = .ok (.iload_n 1, 1) := by decide +kernel
theorem dX5_gainOf_53 : decode cX5_gainOf 53 = .ok (.iaload, 1) := by decide +kernel
theorem dX5_gainOf_54 : decode cX5_gainOf 54 = .ok (.iload_n 3, 1) := by decide +kernel
theorem dX5_gainOf_55 : decode cX5_gainOf 55 = .ok (.imul, 1) := by decide +kernel
theorem dX5_gainOf_56 : decode cX5_gainOf 56 = .ok (.iadd, 1) := by decide +kernel
theorem dX5_gainOf_57 : decode cX5_gainOf 57 = .ok (.ireturn, 1) := by decide +kernel
theorem dX6_init_0 : decode cX6_init 0 = .ok (.aload_n 0, 1) := by decide +kernel
theorem dX6_init_1 : decode cX6_init 1 = .ok (.invokespecial 3, 3) := by decide +kernel
theorem dX6_init_4 : decode cX6_init 4 = .ok (.aload_n 0, 1) := by decide +kernel
theorem dX6_init_5 : decode cX6_init 5 = .ok (.iload_n 1, 1) := by decide +kernel
theorem dX6_init_6 : decode cX6_init 6 = .ok (.putfield 9, 3) := by decide +kernel
theorem dX6_init_9 : decode cX6_init 9 = .ok (.aload_n 0, 1) := by decide +kernel
theorem dX6_init_10 : decode cX6_init 10 = .ok (.iload_n 2, 1) := by decide +kernel
theorem dX6_init_11 : decode cX6_init 11 = .ok (.putfield 15, 3) := by decide +kernel
theorem dX6_init_14 : decode cX6_init 14 = .ok (.aload_n 0, 1) := by decide +kernel
theorem dX6_init_15 : decode cX6_init 15 = .ok (.iload_n 3, 1) := by decide +kernel
theorem dX6_init_16 : decode cX6_init 16 = .ok (.putfield 18, 3) := by decide +kernel
theorem dX6_init_19 : decode cX6_init 19 = .ok (.aload_n 0, 1) := by decide +kernel
theorem dX6_init_20 : decode cX6_init 20 = .ok (.iload 4, 2) := by decide +kernel
theorem dX6_init_22 : decode cX6_init 22 = .ok (.putfield 21, 3) := by decide +kernel
theorem dX6_init_25 : decode cX6_init 25 = .ok (.aload_n 0, 1) := by decide +kernel
theorem dX6_init_26 : decode cX6_init 26 = .ok (.iload 5, 2) := by decide +kernel
theorem dX6_init_28 : decode cX6_init 28 = .ok (.putfield 24, 3) := by decide +kernel
theorem dX6_init_31 : decode cX6_init 31 = .ok (.aload_n 0, 1) := by decide +kernel
theorem dX6_init_32 : decode cX6_init 32 = .ok (.iload 6, 2) := by decide +kernel
theorem dX6_init_34 : decode cX6_init 34 = .ok (.putfield 27, 3) := by decide +kernel
theorem dX6_init_37 : decode cX6_init 37 = .ok (.aload_n 0, 1) := by decide +kernel
theorem dX6_init_38 : decode cX6_init 38 = .ok (.iload 7, 2) := by decide +kernel
theorem dX6_init_40 : decode cX6_init 40 = .ok (.putfield 30, 3) := by decide +kernel
theorem dX6_init_43 : decode cX6_init 43 = .ok (.return_, 1) := by decide +kernel
theorem dX6_counted_0 : decode cX6_counted 0 = .ok (.aload_n 0, 1) := by decide +kernel
theorem dX6_counted_1 : decode cX6_counted 1 = .ok (.getfield 9, 3) := by decide +kernel
theorem dX6_counted_4 : decode cX6_counted 4 = .ok (.iconst 2, 1) := by decide +kernel
theorem dX6_counted_5 : decode cX6_counted 5 = .ok (.if_icmp .eq 5, 3) := by decide +kernel
theorem dX6_counted_8 : decode cX6_counted 8 = .ok (.iload_n 1, 1) := by decide +kernel
theorem dX6_counted_9 : decode cX6_counted 9 = .ok (.ireturn, 1) := by decide +kernel
theorem dX6_counted_10 : decode cX6_counted 10 = .ok (.aload_n 0, 1) := by decide +kernel
theorem dX6_counted_11 : decode cX6_counted 11 = .ok (.getfield 30, 3) := by decide +kernel
theorem dX6_counted_14 : decode cX6_counted 14 = .ok (.ifCond .ne 12, 3) := by decide +kernel
theorem dX6_counted_17 : decode cX6_counted 17 = .ok (.iload_n 1, 1) := by decide +kernel
theorem dX6_counted_18 : decode cX6_counted 18 = .ok (.aload_n 2, 1) := by decide +kernel
theorem dX6_counted_19 : decode cX6_counted 19 = .ok (.getfield 33, 3) := by decide +kernel
theorem dX6_counted_22 : decode cX6_counted 22 = .ok (.iadd, 1) := by decide +kernel
theorem dX6_counted_23 : decode cX6_counted 23 = .ok (.goto 9, 3) := by decide +kernel
theorem dX6_counted_26 : decode cX6_counted 26 = .ok (.iload_n 1, 1) := by decide +kernel
theorem dX6_counted_27 : decode cX6_counted 27 = .ok (.aload_n 2, 1) := by decide +kernel
theorem dX6_counted_28 : decode cX6_counted 28 = .ok (.getfield 33, 3) := by decide +kernel
theorem dX6_counted_31 : decode cX6_counted 31 = .ok (.isub, 1) := by decide +kernel
theorem dX6_counted_32 : decode cX6_counted 32 = .ok (.istore_n 3, 1) := by decide +kernel
theorem dX6_counted_33 : decode cX6_counted 33 = .ok (.iconst 0, 1) := by decide +kernel
theorem dX6_counted_34 : decode cX6_counted 34 = .ok (.bipush 79, 2) := by decide +kernel
theorem dX6_counted_36 : decode cX6_counted 36 = .ok (.iload_n 3, 1) := by decide +kernel
theorem dX6_counted_37 : decode cX6_counted 37 = .ok (.invokestatic 38, 3) := by decide +kernel
theorem dX6_counted_40 : decode cX6_counted 40 = .ok (.invokestatic 44, 3) := by decide +kernel
theorem dX6_counted_43 : decode cX6_counted 43 = .ok (.ireturn, 1) := by decide +kernel
theorem dX6_has_0 : decode cX6_has 0 = .ok (.iload_n 1, 1) := by decide +kernel
theorem dX6_has_1 : decode cX6_has 1 = .ok (.aload_n 0, 1) := by decide +kernel
theorem dX6_has_2 : decode cX6_has 2 = .ok (.getfield 15, 3) := by decide +kernel
theorem dX6_has_5 : decode cX6_has 5 = .ok (.if_icmp .lt 15, 3) := by decide +kernel
theorem dX6_has_8 : decode cX6_has 8 = .ok (.iload_n 1, 1) := by decide +kernel
theorem dX6_has_9 : decode cX6_has 9 = .ok (.aload_n 0, 1) := by decide +kernel
theorem dX6_has_10 : decode cX6_has 10 = .ok (.getfield 18, 3) := by decide +kernel
theorem dX6_has_13 : decode cX6_has 13 = .ok (.if_icmp .gt 7, 3) := by decide +kernel
theorem dX6_has_16 : decode cX6_has 16 = .ok (.iconst 1, 1) := by decide +kernel
theorem dX6_has_17 : decode cX6_has 17 = .ok (.goto 4, 3) := by decide +kernel
theorem dX6_has_20 : decode cX6_has 20 = .ok (.iconst 0, 1) := by decide +kernel
theorem dX6_has_21 : decode cX6_has 21 = .ok (.ireturn, 1) := by decide +kernel
theorem dX6_countsAt_0 : decode cX6_countsAt 0 = .ok (.aload_n 0, 1) := by decide +kernel
theorem dX6_countsAt_1 : decode cX6_countsAt 1 = .ok (.iload_n 1, 1) := by decide +kernel
theorem dX6_countsAt_2 : decode cX6_countsAt 2 = .ok (.invokevirtual 47, 3) := by decide +kernel
theorem dX6_countsAt_5 : decode cX6_countsAt 5 = .ok (.ifCond .ne 5, 3) := by decide +kernel
theorem dX6_countsAt_8 : decode cX6_countsAt 8 = .ok (.iconst 0, 1) := by decide +kernel
theorem dX6_countsAt_9 : decode cX6_countsAt 9 = .ok (.ireturn, 1) := by decide +kernel
theorem dX6_countsAt_10 : decode cX6_countsAt 10 = .ok (.aload_n 3, 1) := by decide +kernel
theorem dX6_countsAt_11 : decode cX6_countsAt 11 = .ok (.getfield 51, 3) := by decide +kernel
theorem dX6_countsAt_14 : decode cX6_countsAt 14 = .ok (.aload_n 0, 1) := by decide +kernel
theorem dX6_countsAt_15 : decode cX6_countsAt 15 = .ok (.getfield 9, 3) := by decide +kernel
theorem dX6_countsAt_18 : decode cX6_countsAt 18 = .ok (.baload, 1) := by decide +kernel
theorem dX6_countsAt_19 : decode cX6_countsAt 19 = .ok (.ifCond .ne 5, 3) := by decide +kernel
theorem dX6_countsAt_22 : decode cX6_countsAt 22 = .ok (.iconst 1, 1) := by decide +kernel
theorem dX6_countsAt_23 : decode cX6_countsAt 23 = .ok (.ireturn, 1) := by decide +kernel
theorem dX6_countsAt_24 : decode cX6_countsAt 24 = .ok (.iconst 0, 1) := by decide +kernel
theorem dX6_countsAt_25 : decode cX6_countsAt 25 = .ok (.istore 4, 2) := by decide +kernel
theorem dX6_countsAt_27 : decode cX6_countsAt 27 = .ok (.iload 4, 2) := by decide +kernel
theorem dX6_countsAt_29 : decode cX6_countsAt 29 = .ok (.aload_n 2, 1) := by decide +kernel
theorem dX6_countsAt_30 : decode cX6_countsAt 30 = .ok (.invokevirtual 55, 3) := by decide +kernel
theorem dX6_countsAt_33 : decode cX6_countsAt 33 = .ok (.if_icmp .ge 55, 3) := by decide +kernel
theorem dX6_countsAt_36 : decode cX6_countsAt 36 = .ok (.aload_n 2, 1) := by decide +kernel
theorem dX6_countsAt_37 : decode cX6_countsAt 37 = .ok (.iload 4, 2) := by decide +kernel
theorem dX6_countsAt_39 : decode cX6_countsAt 39 = .ok (.invokevirtual 61, 3) := by decide +kernel
theorem dX6_countsAt_42 : decode cX6_countsAt 42 = .ok (.checkcast 10, 3) := by decide +kernel
theorem dX6_countsAt_45 : decode cX6_countsAt 45 = .ok (.astore 5, 2) := by decide +kernel
theorem dX6_countsAt_47 : decode cX6_countsAt 47 = .ok (.aload 5, 2) := by decide +kernel
theorem dX6_countsAt_49 : decode cX6_countsAt 49 = .ok (.getfield 9, 3) := by decide +kernel
theorem dX6_countsAt_52 : decode cX6_countsAt 52 = .ok (.aload_n 0, 1) := by decide +kernel
theorem dX6_countsAt_53 : decode cX6_countsAt 53 = .ok (.getfield 9, 3) := by decide +kernel
theorem dX6_countsAt_56 : decode cX6_countsAt 56 = .ok (.if_icmp .ne 26, 3) := by decide +kernel
theorem dX6_countsAt_59 : decode cX6_countsAt 59 = .ok (.aload 5, 2) := by decide +kernel
theorem dX6_countsAt_61 : decode cX6_countsAt 61 = .ok (.iload_n 1, 1) := by decide +kernel
theorem dX6_countsAt_62 : decode cX6_countsAt 62 = .ok (.invokevirtual 47, 3) := by decide +kernel
theorem dX6_countsAt_65 : decode cX6_countsAt 65 = .ok (.ifCond .eq 17, 3) := by decide +kernel
theorem dX6_countsAt_68 : decode cX6_countsAt 68 = .ok (.aload 5, 2) := by decide +kernel
theorem dX6_countsAt_70 : decode cX6_countsAt 70 = .ok (.getfield 27, 3) := by decide +kernel
theorem dX6_countsAt_73 : decode cX6_countsAt 73 = .ok (.aload_n 0, 1) := by decide +kernel
theorem dX6_countsAt_74 : decode cX6_countsAt 74 = .ok (.getfield 27, 3) := by decide +kernel
theorem dX6_countsAt_77 : decode cX6_countsAt 77 = .ok (.if_icmp .le 5, 3) := by decide +kernel
theorem dX6_countsAt_80 : decode cX6_countsAt 80 = .ok (.iconst 0, 1) := by decide +kernel
theorem dX6_countsAt_81 : decode cX6_countsAt 81 = .ok (.ireturn, 1) := by decide +kernel
theorem dX6_countsAt_82 : decode cX6_countsAt 82 = .ok (.iinc 4 1, 3) := by decide +kernel
theorem dX6_countsAt_85 : decode cX6_countsAt 85 = .ok (.goto (-58), 3) := by decide +kernel
theorem dX6_countsAt_88 : decode cX6_countsAt 88 = .ok (.iconst 1, 1) := by decide +kernel
theorem dX6_countsAt_89 : decode cX6_countsAt 89 = .ok (.ireturn, 1) := by decide +kernel
theorem dX7_init_0 : decode cX7_init 0 = .ok (.aload_n 0, 1) := by decide +kernel
theorem dX7_init_1 : decode cX7_init 1 = .ok (.invokespecial 3, 3) := by decide +kernel
theorem dX7_init_4 : decode cX7_init 4 = .ok (.aload_n 0, 1) := by decide +kernel
theorem dX7_init_5 : decode cX7_init 5 = .ok (.sipush 400, 3) := by decide +kernel
theorem dX7_init_8 : decode cX7_init 8 = .ok (.newarray .byte, 2) := by decide +kernel
theorem dX7_init_10 : decode cX7_init 10 = .ok (.putfield 9, 3) := by decide +kernel
theorem dX7_init_13 : decode cX7_init 13 = .ok (.aload_n 0, 1) := by decide +kernel
theorem dX7_init_14 : decode cX7_init 14 = .ok (.iconst 0, 1) := by decide +kernel
theorem dX7_init_15 : decode cX7_init 15 = .ok (.putfield 15, 3) := by decide +kernel
theorem dX7_init_18 : decode cX7_init 18 = .ok (.return_, 1) := by decide +kernel
theorem dX7_append_0 : decode cX7_append 0 = .ok (.bipush 24, 2) := by decide +kernel
theorem dX7_append_2 : decode cX7_append 2 = .ok (.istore_n 2, 1) := by decide +kernel
theorem dX7_append_3 : decode cX7_append 3 = .ok (.iload_n 2, 1) := by decide +kernel
theorem dX7_append_4 : decode cX7_append 4 = .ok (.ifCond .lt 42, 3) := by decide +kernel
theorem dX7_append_7 : decode cX7_append 7 = .ok (.aload_n 0, 1) := by decide +kernel
theorem dX7_append_8 : decode cX7_append 8 = .ok (.getfield 15, 3) := by decide +kernel
theorem dX7_append_11 : decode cX7_append 11 = .ok (.sipush 400, 3) := by decide +kernel
theorem dX7_append_14 : decode cX7_append 14 = .ok (.if_icmp .ge 32, 3) := by decide +kernel
theorem dX7_append_17 : decode cX7_append 17 = .ok (.aload_n 0, 1) := by decide +kernel
theorem dX7_append_18 : decode cX7_append 18 = .ok (.getfield 9, 3) := by decide +kernel
theorem dX7_append_21 : decode cX7_append 21 = .ok (.aload_n 0, 1) := by decide +kernel
theorem dX7_append_22 : decode cX7_append 22 = .ok (.getfield 15, 3) := by decide +kernel
theorem dX7_append_25 : decode cX7_append 25 = .ok (.iload_n 1, 1) := by decide +kernel
theorem dX7_append_26 : decode cX7_append 26 = .ok (.iload_n 2, 1) := by decide +kernel
theorem dX7_append_27 : decode cX7_append 27 = .ok (.ishr, 1) := by decide +kernel
theorem dX7_append_28 : decode cX7_append 28 = .ok (.i2b, 1) := by decide +kernel
theorem dX7_append_29 : decode cX7_append 29 = .ok (.bastore, 1) := by decide +kernel
theorem dX7_append_30 : decode cX7_append 30 = .ok (.aload_n 0, 1) := by decide +kernel
theorem dX7_append_31 : decode cX7_append 31 = .ok (.dup, 1) := by decide +kernel
theorem dX7_append_32 : decode cX7_append 32 = .ok (.getfield 15, 3) := by decide +kernel
theorem dX7_append_35 : decode cX7_append 35 = .ok (.iconst 1, 1) := by decide +kernel
theorem dX7_append_36 : decode cX7_append 36 = .ok (.iadd, 1) := by decide +kernel
theorem dX7_append_37 : decode cX7_append 37 = .ok (.putfield 15, 3) := by decide +kernel
theorem dX7_append_40 : decode cX7_append 40 = .ok (.iinc 2 (-8), 3) := by decide +kernel
theorem dX7_append_43 : decode cX7_append 43 = .ok (.goto (-40), 3) := by decide +kernel
theorem dX7_append_46 : decode cX7_append 46 = .ok (.return_, 1) := by decide +kernel
theorem dX7_cut_0 : decode cX7_cut 0 = .ok (.iload_n 1, 1) := by decide +kernel
theorem dX7_cut_1 : decode cX7_cut 1 = .ok (.ifCond .lt 11, 3) := by decide +kernel
theorem dX7_cut_4 : decode cX7_cut 4 = .ok (.iload_n 1, 1) := by decide +kernel
theorem dX7_cut_5 : decode cX7_cut 5 = .ok (.aload_n 0, 1) := by decide +kernel
theorem dX7_cut_6 : decode cX7_cut 6 = .ok (.getfield 15, 3) := by decide +kernel
theorem dX7_cut_9 : decode cX7_cut 9 = .ok (.if_icmp .le 5, 3) := by decide +kernel
theorem dX7_cut_12 : decode cX7_cut 12 = .ok (.iconst 0, 1) := by decide +kernel
theorem dX7_cut_13 : decode cX7_cut 13 = .ok (.ireturn, 1) := by decide +kernel
theorem dX7_cut_14 : decode cX7_cut 14 = .ok (.aload_n 0, 1) := by decide +kernel
theorem dX7_cut_15 : decode cX7_cut 15 = .ok (.iload_n 1, 1) := by decide +kernel
theorem dX7_cut_16 : decode cX7_cut 16 = .ok (.putfield 15, 3) := by decide +kernel
theorem dX7_cut_19 : decode cX7_cut 19 = .ok (.iconst 1, 1) := by decide +kernel
theorem dX7_cut_20 : decode cX7_cut 20 = .ok (.ireturn, 1) := by decide +kernel
theorem dX8_init_0 : decode cX8_init 0 = .ok (.aload_n 0, 1) := by decide +kernel
theorem dX8_init_1 : decode cX8_init 1 = .ok (.invokespecial 3, 3) := by decide +kernel
theorem dX8_init_4 : decode cX8_init 4 = .ok (.aload_n 0, 1) := by decide +kernel
theorem dX8_init_5 : decode cX8_init 5 = .ok (.iconst 0, 1) := by decide +kernel
theorem dX8_init_6 : decode cX8_init 6 = .ok (.putfield 9, 3) := by decide +kernel
theorem dX8_init_9 : decode cX8_init 9 = .ok (.aload_n 0, 1) := by decide +kernel
theorem dX8_init_10 : decode cX8_init 10 = .ok (.iconst (-1), 1) := by decide +kernel
theorem dX8_init_11 : decode cX8_init 11 = .ok (.putfield 15, 3) := by decide +kernel
theorem dX8_init_14 : decode cX8_init 14 = .ok (.aload_n 0, 1) := by decide +kernel
theorem dX8_init_15 : decode cX8_init 15 = .ok (.iconst 2, 1) := by decide +kernel
theorem dX8_init_16 : decode cX8_init 16 = .ok (.newarray .int, 2) := by decide +kernel
theorem dX8_init_18 : decode cX8_init 18 = .ok (.putfield 18, 3) := by decide +kernel
theorem dX8_init_21 : decode cX8_init 21 = .ok (.aload_n 0, 1) := by decide +kernel
theorem dX8_init_22 : decode cX8_init 22 = .ok (.iconst 2, 1) := by decide +kernel
theorem dX8_init_23 : decode cX8_init 23 = .ok (.newarray .int, 2) := by decide +kernel
theorem dX8_init_25 : decode cX8_init 25 = .ok (.putfield 22, 3) := by decide +kernel
theorem dX8_init_28 : decode cX8_init 28 = .ok (.aload_n 0, 1) := by decide +kernel
theorem dX8_init_29 : decode cX8_init 29 = .ok (.iconst 2, 1) := by decide +kernel
theorem dX8_init_30 : decode cX8_init 30 = .ok (.bipush 60, 2) := by decide +kernel
theorem dX8_init_32 : decode cX8_init 32 = .ok (.multianewarray 25 2, 4) := by decide +kernel
theorem dX8_init_36 : decode cX8_init 36 = .ok (.putfield 27, 3) := by decide +kernel
theorem dX8_init_39 : decode cX8_init 39 = .ok (.aload_n 0, 1) := by decide +kernel
theorem dX8_init_40 : decode cX8_init 40 = .ok (.aload_n 1, 1) := by decide +kernel
theorem dX8_init_41 : decode cX8_init 41 = .ok (.putfield 30, 3) := by decide +kernel
theorem dX8_init_44 : decode cX8_init 44 = .ok (.aload_n 0, 1) := by decide +kernel
theorem dX8_init_45 : decode cX8_init 45 = .ok (.aload_n 2, 1) := by decide +kernel
theorem dX8_init_46 : decode cX8_init 46 = .ok (.putfield 34, 3) := by decide +kernel
theorem dX8_init_49 : decode cX8_init 49 = .ok (.return_, 1) := by decide +kernel
theorem dX8_draw_0 : decode cX8_draw 0 = .ok (.aload_n 0, 1) := by decide +kernel
theorem dX8_draw_1 : decode cX8_draw 1 = .ok (.iload_n 2, 1) := by decide +kernel
theorem dX8_draw_2 : decode cX8_draw 2 = .ok (.putfield 9, 3) := by decide +kernel
theorem dX8_draw_5 : decode cX8_draw 5 = .ok (.aload_n 0, 1) := by decide +kernel
theorem dX8_draw_6 : decode cX8_draw 6 = .ok (.iconst (-1), 1) := by decide +kernel
theorem dX8_draw_7 : decode cX8_draw 7 = .ok (.putfield 15, 3) := by decide +kernel
theorem dX8_draw_10 : decode cX8_draw 10 = .ok (.aload_n 0, 1) := by decide +kernel
theorem dX8_draw_11 : decode cX8_draw 11 = .ok (.getfield 18, 3) := by decide +kernel
theorem dX8_draw_14 : decode cX8_draw 14 = .ok (.iconst 0, 1) := by decide +kernel
theorem dX8_draw_15 : decode cX8_draw 15 = .ok (.invokestatic 38, 3) := by decide +kernel
theorem dX8_draw_18 : decode cX8_draw 18 = .ok (.aload_n 0, 1) := by decide +kernel
theorem dX8_draw_19 : decode cX8_draw 19 = .ok (.getfield 22, 3) := by decide +kernel
theorem dX8_draw_22 : decode cX8_draw 22 = .ok (.iconst 0, 1) := by decide +kernel
theorem dX8_draw_23 : decode cX8_draw 23 = .ok (.invokestatic 38, 3) := by decide +kernel
theorem dX8_draw_26 : decode cX8_draw 26 = .ok (.iconst 0, 1) := by decide +kernel
theorem dX8_draw_27 : decode cX8_draw 27 = .ok (.istore 4, 2) := by decide +kernel
theorem dX8_draw_29 : decode cX8_draw 29 = .ok (.iload 4, 2) := by decide +kernel
theorem dX8_draw_31 : decode cX8_draw 31 = .ok (.aload_n 0, 1) := by decide +kernel
theorem dX8_draw_32 : decode cX8_draw 32 = .ok (.getfield 30, 3) := by decide +kernel
theorem dX8_draw_35 : decode cX8_draw 35 = .ok (.getfield 44, 3) := by decide +kernel
theorem dX8_draw_38 : decode cX8_draw 38 = .ok (.if_icmp .ge 81, 3) := by decide +kernel
theorem dX8_draw_41 : decode cX8_draw 41 = .ok (.iconst 0, 1) := by decide +kernel
theorem dX8_draw_42 : decode cX8_draw 42 = .ok (.istore 5, 2) := by decide +kernel
theorem dX8_draw_44 : decode cX8_draw 44 = .ok (.iload 5, 2) := by decide +kernel
theorem dX8_draw_46 : decode cX8_draw 46 = .ok (.iconst 2, 1) := by decide +kernel
theorem dX8_draw_47 : decode cX8_draw 47 = .ok (.if_icmp .ge 66, 3) := by decide +kernel
theorem dX8_draw_50 : decode cX8_draw 50 = .ok (.aload_n 0, 1) := by decide +kernel
theorem dX8_draw_51 : decode cX8_draw 51 = .ok (.iload 5, 2) := by decide +kernel
theorem dX8_draw_53 : decode cX8_draw 53 = .ok (.iload_n 1, 1) := by decide +kernel
theorem dX8_draw_54 : decode cX8_draw 54 = .ok (.iload 4, 2) := by decide +kernel
theorem dX8_draw_56 : decode cX8_draw 56 = .ok (.iload_n 2, 1) := by decide +kernel
theorem dX8_draw_57 : decode cX8_draw 57 = .ok (.invokevirtual 49, 3) := by decide +kernel
theorem dX8_draw_60 : decode cX8_draw 60 = .ok (.aload_n 0, 1) := by decide +kernel
theorem dX8_draw_61 : decode cX8_draw 61 = .ok (.getfield 22, 3) := by decide +kernel
theorem dX8_draw_64 : decode cX8_draw 64 = .ok (.iload 5, 2) := by decide +kernel
theorem dX8_draw_66 : decode cX8_draw 66 = .ok (.iaload, 1) := by decide +kernel
theorem dX8_draw_67 : decode cX8_draw 67 = .ok (.iload_n 3, 1) := by decide +kernel
theorem dX8_draw_68 : decode cX8_draw 68 = .ok (.if_icmp .lt 39, 3) := by decide +kernel
theorem dX8_draw_71 : decode cX8_draw 71 = .ok (.aload_n 0, 1) := by decide +kernel
theorem dX8_draw_72 : decode cX8_draw 72 = .ok (.getfield 18, 3) := by decide +kernel
theorem dX8_draw_75 : decode cX8_draw 75 = .ok (.iload 5, 2) := by decide +kernel
theorem dX8_draw_77 : decode cX8_draw 77 = .ok (.dup2, 1) := by decide +kernel
theorem dX8_draw_78 : decode cX8_draw 78 = .ok (.iaload, 1) := by decide +kernel
theorem dX8_draw_79 : decode cX8_draw 79 = .ok (.iconst 1, 1) := by decide +kernel
theorem dX8_draw_80 : decode cX8_draw 80 = .ok (.iadd, 1) := by decide +kernel
theorem dX8_draw_81 : decode cX8_draw 81 = .ok (.iastore, 1) := by decide +kernel
theorem dX8_draw_82 : decode cX8_draw 82 = .ok (.aload_n 0, 1) := by decide +kernel
theorem dX8_draw_83 : decode cX8_draw 83 = .ok (.iload 5, 2) := by decide +kernel
theorem dX8_draw_85 : decode cX8_draw 85 = .ok (.aload_n 0, 1) := by decide +kernel
theorem dX8_draw_86 : decode cX8_draw 86 = .ok (.iload 5, 2) := by decide +kernel
theorem dX8_draw_88 : decode cX8_draw 88 = .ok (.iload 4, 2) := by decide +kernel
theorem dX8_draw_90 : decode cX8_draw 90 = .ok (.iload_n 3, 1) := by decide +kernel
theorem dX8_draw_91 : decode cX8_draw 91 = .ok (.invokevirtual 53, 3) := by decide +kernel
theorem dX8_draw_94 : decode cX8_draw 94 = .ok (.aload_n 0, 1) := by decide +kernel
theorem dX8_draw_95 : decode cX8_draw 95 = .ok (.getfield 30, 3) := by decide +kernel
theorem dX8_draw_98 : decode cX8_draw 98 = .ok (.getfield 57, 3) := by decide +kernel
theorem dX8_draw_101 : decode cX8_draw 101 = .ok (.iload 4, 2) := by decide +kernel
theorem dX8_draw_103 : decode cX8_draw 103 = .ok (.iaload, 1) := by decide +kernel
theorem dX8_draw_104 : decode cX8_draw 104 = .ok (.invokevirtual 60, 3) := by decide +kernel
theorem dX8_draw_107 : decode cX8_draw 107 = .ok (.iinc 5 1, 3) := by decide +kernel
theorem dX8_draw_110 : decode cX8_draw 110 = .ok (.goto (-66), 3) := by decide +kernel
theorem dX8_draw_113 : decode cX8_draw 113 = .ok (.iinc 4 1, 3) := by decide +kernel
theorem dX8_draw_116 : decode cX8_draw 116 = .ok (.goto (-87), 3) := by decide +kernel
theorem dX8_draw_119 : decode cX8_draw 119 = .ok (.return_, 1) := by decide +kernel
theorem dX8_extendRun_0 : decode cX8_extendRun 0 = .ok (.aload_n 0, 1) := by decide +kernel
theorem dX8_extendRun_1 : decode cX8_extendRun 1 = .ok (.getfield 30, 3) := by decide +kernel
theorem dX8_extendRun_4 : decode cX8_extendRun 4 = .ok (.getfield 57, 3) := by decide +kernel
theorem dX8_extendRun_7 : decode cX8_extendRun 7 = .ok (.iload_n 3, 1) := by decide +kernel
theorem dX8_extendRun_8 : decode cX8_extendRun 8 = .ok (.iaload, 1) := by decide +kernel
theorem dX8_extendRun_9 : decode cX8_extendRun 9 = .ok (.istore 5, 2) := by decide +kernel
theorem dX8_extendRun_11 : decode cX8_extendRun 11 = .ok (.aload_n 0, 1) := by decide +kernel
theorem dX8_extendRun_12 : decode cX8_extendRun 12 = .ok (.getfield 30, 3) := by decide +kernel
theorem dX8_extendRun_15 : decode cX8_extendRun 15 = .ok (.iload_n 1, 1) := by decide +kernel
theorem dX8_extendRun_16 : decode cX8_extendRun 16 = .ok (.iload_n 2, 1) := by decide +kernel
theorem dX8_extendRun_17 : decode cX8_extendRun 17 = .ok (.iload 5, 2) := by decide +kernel
theorem dX8_extendRun_19 : decode cX8_extendRun 19 = .ok (.invokevirtual 64, 3) := by decide +kernel
theorem dX8_extendRun_22 : decode cX8_extendRun 22 = .ok (.istore 6, 2) := by decide +kernel
theorem dX8_extendRun_24 : decode cX8_extendRun 24 = .ok (.aload_n 0, 1) := by decide +kernel
theorem dX8_extendRun_25 : decode cX8_extendRun 25 = .ok (.getfield 27, 3) := by decide +kernel
theorem dX8_extendRun_28 : decode cX8_extendRun 28 = .ok (.iload_n 1, 1) := by decide +kernel
theorem dX8_extendRun_29 : decode cX8_extendRun 29 = .ok (.aaload, 1) := by decide +kernel
theorem dX8_extendRun_30 : decode cX8_extendRun 30 = .ok (.iload_n 3, 1) := by decide +kernel
theorem dX8_extendRun_31 : decode cX8_extendRun 31 = .ok (.iload 6, 2) := by decide +kernel
theorem dX8_extendRun_33 : decode cX8_extendRun 33 = .ok (.iastore, 1) := by decide +kernel
theorem dX8_extendRun_34 : decode cX8_extendRun 34 = .ok (.iload 6, 2) := by decide +kernel
theorem dX8_extendRun_36 : decode cX8_extendRun 36 = .ok (.iconst (-1), 1) := by decide +kernel
theorem dX8_extendRun_37 : decode cX8_extendRun 37 = .ok (.if_icmp .eq 31, 3) := by decide +kernel
theorem dX8_extendRun_40 : decode cX8_extendRun 40 = .ok (.iload_n 1, 1) := by decide +kernel
theorem dX8_extendRun_41 : decode cX8_extendRun 41 = .ok (.iload 6, 2) := by decide +kernel
theorem dX8_extendRun_43 : decode cX8_extendRun 43 = .ok (.iload 4, 2) := by decide +kernel
theorem dX8_extendRun_45 : decode cX8_extendRun 45 = .ok (.invokestatic 67, 3) := by decide +kernel
theorem dX8_extendRun_48 : decode cX8_extendRun 48 = .ok (.ifCond .eq 20, 3) := by decide +kernel
theorem dX8_extendRun_51 : decode cX8_extendRun 51 = .ok (.aload_n 0, 1) := by decide +kernel
theorem dX8_extendRun_52 : decode cX8_extendRun 52 = .ok (.getfield 34, 3) := by decide +kernel
theorem dX8_extendRun_55 : decode cX8_extendRun 55 = .ok (.iload_n 2, 1) := by decide +kernel
theorem dX8_extendRun_56 : decode cX8_extendRun 56 = .ok (.iload 5, 2) := by decide +kernel
theorem dX8_extendRun_58 : decode cX8_extendRun 58 = .ok (.invokevirtual 71, 3) := by decide +kernel
theorem dX8_extendRun_61 : decode cX8_extendRun 61 = .ok (.ifCond .ne 7, 3) := by decide +kernel
theorem dX8_extendRun_64 : decode cX8_extendRun 64 = .ok (.iconst 1, 1) := by decide +kernel
theorem dX8_extendRun_65 : decode cX8_extendRun 65 = .ok (.goto 4, 3) := by decide +kernel
theorem dX8_extendRun_68 : decode cX8_extendRun 68 = .ok (.iconst 0, 1) := by decide +kernel
theorem dX8_extendRun_69 : decode cX8_extendRun 69 = .ok (.istore 7, 2) := by decide +kernel
theorem dX8_extendRun_71 : decode cX8_extendRun 71 = .ok (.iload_n 3, 1) := by decide +kernel
theorem dX8_extendRun_72 : decode cX8_extendRun 72 = .ok (.ifCond .le 25, 3) := by decide +kernel
theorem dX8_extendRun_75 : decode cX8_extendRun 75 = .ok (.aload_n 0, 1) := by decide +kernel
theorem dX8_extendRun_76 : decode cX8_extendRun 76 = .ok (.getfield 30, 3) := by decide +kernel
theorem dX8_extendRun_79 : decode cX8_extendRun 79 = .ok (.getfield 57, 3) := by decide +kernel
theorem dX8_extendRun_82 : decode cX8_extendRun 82 = .ok (.iload_n 3, 1) := by decide +kernel
theorem dX8_extendRun_83 : decode cX8_extendRun 83 = .ok (.iconst 1, 1) := by decide +kernel
theorem dX8_extendRun_84 : decode cX8_extendRun 84 = .ok (.isub, 1) := by decide +kernel
theorem dX8_extendRun_85 : decode cX8_extendRun 85 = .ok (.iaload, 1) := by decide +kernel
theorem dX8_extendRun_86 : decode cX8_extendRun 86 = .ok (.iload 5, 2) := by decide +kernel
theorem dX8_extendRun_88 : decode cX8_extendRun 88 = .ok (.iconst 1, 1) := by decide +kernel
theorem dX8_extendRun_89 : decode cX8_extendRun 89 = .ok (.isub, 1) := by decide +kernel
theorem dX8_extendRun_90 : decode cX8_extendRun 90 = .ok (.if_icmp .ne 7, 3) := by decide +kernel
theorem dX8_extendRun_93 : decode cX8_extendRun 93 = .ok (.iconst 1, 1) := by decide +kernel
theorem dX8_extendRun_94 : decode cX8_extendRun 94 = .ok (.goto 4, 3) := by decide +kernel
theorem dX8_extendRun_97 : decode cX8_extendRun 97 = .ok (.iconst 0, 1) := by decide +kernel
theorem dX8_extendRun_98 : decode cX8_extendRun 98 = .ok (.istore 8, 2) := by decide +kernel
theorem dX8_extendRun_100 : decode cX8_extendRun 100 = .ok (.iload 7, 2) := by decide +kernel
theorem dX8_extendRun_102 : decode cX8_extendRun 102 = .ok (.ifCond .ne 13, 3) := by decide +kernel
theorem dX8_extendRun_105 : decode cX8_extendRun 105 = .ok (.aload_n 0, 1) := by decide +kernel
theorem dX8_extendRun_106 : decode cX8_extendRun 106 = .ok (.getfield 22, 3) := by decide +kernel
theorem dX8_extendRun_109 : decode cX8_extendRun 109 = .ok (.iload_n 1, 1) := by decide +kernel
theorem dX8_extendRun_110 : decode cX8_extendRun 110 = .ok (.iconst 0, 1) := by decide +kernel
theorem dX8_extendRun_111 : decode cX8_extendRun 111 = .ok (.iastore, 1) := by decide +kernel
theorem dX8_extendRun_112 : decode cX8_extendRun 112 = .ok (.goto 26, 3) := by decide +kernel
theorem dX8_extendRun_115 : decode cX8_extendRun 115 = .ok (.aload_n 0, 1) := by decide +kernel
theorem dX8_extendRun_116 : decode cX8_extendRun 116 = .ok (.getfield 22, 3) := by decide +kernel
theorem dX8_extendRun_119 : decode cX8_extendRun 119 = .ok (.iload_n 1, 1) := by decide +kernel
theorem dX8_extendRun_120 : decode cX8_extendRun 120 = .ok (.iload 8, 2) := by decide +kernel
theorem dX8_extendRun_122 : decode cX8_extendRun 122 = .ok (.ifCond .eq 14, 3) := by decide +kernel
theorem dX8_extendRun_125 : decode cX8_extendRun 125 = .ok (.aload_n 0, 1) := by decide +kernel
theorem dX8_extendRun_126 : decode cX8_extendRun 126 = .ok (.getfield 22, 3) := by decide +kernel
theorem dX8_extendRun_129 : decode cX8_extendRun 129 = .ok (.iload_n 1, 1) := by decide +kernel
theorem dX8_extendRun_130 : decode cX8_extendRun 130 = .ok (.iaload, 1) := by decide +kernel
theorem dX8_extendRun_131 : decode cX8_extendRun 131 = .ok (.iconst 1, 1) := by decide +kernel
theorem dX8_extendRun_132 : decode cX8_extendRun 132 = .ok (.iadd, 1) := by decide +kernel
theorem dX8_extendRun_133 : decode cX8_extendRun 133 = .ok (.goto 4, 3) := by decide +kernel
theorem dX8_extendRun_136 : decode cX8_extendRun 136 = .ok (.iconst 1, 1) := by decide +kernel
theorem dX8_extendRun_137 : decode cX8_extendRun 137 = .ok (.iastore, 1) := by decide +kernel
theorem dX8_extendRun_138 : decode cX8_extendRun 138 = .ok (.return_, 1) := by decide +kernel
theorem dX8_nearest_0 : decode cX8_nearest 0 = .ok (.aload_n 0, 1) := by decide +kernel
theorem dX8_nearest_1 : decode cX8_nearest 1 = .ok (.getfield 27, 3) := by decide +kernel
theorem dX8_nearest_4 : decode cX8_nearest 4 = .ok (.iload_n 1, 1) := by decide +kernel
theorem dX8_nearest_5 : decode cX8_nearest 5 = .ok (.aaload, 1) := by decide +kernel
theorem dX8_nearest_6 : decode cX8_nearest 6 = .ok (.iload_n 2, 1) := by decide +kernel
theorem dX8_nearest_7 : decode cX8_nearest 7 = .ok (.iaload, 1) := by decide +kernel
theorem dX8_nearest_8 : decode cX8_nearest 8 = .ok (.istore 4, 2) := by decide +kernel
theorem dX8_nearest_10 : decode cX8_nearest 10 = .ok (.iload_n 2, 1) := by decide +kernel
theorem dX8_nearest_11 : decode cX8_nearest 11 = .ok (.istore 5, 2) := by decide +kernel
theorem dX8_nearest_13 : decode cX8_nearest 13 = .ok (.iload 5, 2) := by decide +kernel
theorem dX8_nearest_15 : decode cX8_nearest 15 = .ok (.ifCond .lt 46, 3) := by decide +kernel
theorem dX8_nearest_18 : decode cX8_nearest 18 = .ok (.iload 5, 2) := by decide +kernel
theorem dX8_nearest_20 : decode cX8_nearest 20 = .ok (.iload_n 2, 1) := by decide +kernel
theorem dX8_nearest_21 : decode cX8_nearest 21 = .ok (.iload_n 3, 1) := by decide +kernel
theorem dX8_nearest_22 : decode cX8_nearest 22 = .ok (.isub, 1) := by decide +kernel
theorem dX8_nearest_23 : decode cX8_nearest 23 = .ok (.if_icmp .le 38, 3) := by decide +kernel
theorem dX8_nearest_26 : decode cX8_nearest 26 = .ok (.iload_n 1, 1) := by decide +kernel
theorem dX8_nearest_27 : decode cX8_nearest 27 = .ok (.iload 4, 2) := by decide +kernel
theorem dX8_nearest_29 : decode cX8_nearest 29 = .ok (.aload_n 0, 1) := by decide +kernel
theorem dX8_nearest_30 : decode cX8_nearest 30 = .ok (.getfield 27, 3) := by decide +kernel
theorem dX8_nearest_33 : decode cX8_nearest 33 = .ok (.iload_n 1, 1) := by decide +kernel
theorem dX8_nearest_34 : decode cX8_nearest 34 = .ok (.aaload, 1) := by decide +kernel
theorem dX8_nearest_35 : decode cX8_nearest 35 = .ok (.iload 5, 2) := by decide +kernel
theorem dX8_nearest_37 : decode cX8_nearest 37 = .ok (.iaload, 1) := by decide +kernel
theorem dX8_nearest_38 : decode cX8_nearest 38 = .ok (.invokestatic 67, 3) := by decide +kernel
theorem dX8_nearest_41 : decode cX8_nearest 41 = .ok (.ifCond .eq 14, 3) := by decide +kernel
theorem dX8_nearest_44 : decode cX8_nearest 44 = .ok (.aload_n 0, 1) := by decide +kernel
theorem dX8_nearest_45 : decode cX8_nearest 45 = .ok (.getfield 27, 3) := by decide +kernel
theorem dX8_nearest_48 : decode cX8_nearest 48 = .ok (.iload_n 1, 1) := by decide +kernel
theorem dX8_nearest_49 : decode cX8_nearest 49 = .ok (.aaload, 1) := by decide +kernel
theorem dX8_nearest_50 : decode cX8_nearest 50 = .ok (.iload 5, 2) := by decide +kernel
theorem dX8_nearest_52 : decode cX8_nearest 52 = .ok (.iaload, 1) := by decide +kernel
theorem dX8_nearest_53 : decode cX8_nearest 53 = .ok (.istore 4, 2) := by decide +kernel
theorem dX8_nearest_55 : decode cX8_nearest 55 = .ok (.iinc 5 (-1), 3) := by decide +kernel
theorem dX8_nearest_58 : decode cX8_nearest 58 = .ok (.goto (-45), 3) := by decide +kernel
theorem dX8_nearest_61 : decode cX8_nearest 61 = .ok (.iload 4, 2) := by decide +kernel
theorem dX8_nearest_63 : decode cX8_nearest 63 = .ok (.ireturn, 1) := by decide +kernel
theorem dX8_moveLine_0 : decode cX8_moveLine 0 = .ok (.iload_n 1, 1) := by decide +kernel
theorem dX8_moveLine_1 : decode cX8_moveLine 1 = .ok (.iload_n 2, 1) := by decide +kernel
theorem dX8_moveLine_2 : decode cX8_moveLine 2 = .ok (.aload_n 0, 1) := by decide +kernel
theorem dX8_moveLine_3 : decode cX8_moveLine 3 = .ok (.getfield 9, 3) := by decide +kernel
theorem dX8_moveLine_6 : decode cX8_moveLine 6 = .ok (.invokestatic 67, 3) := by decide +kernel
theorem dX8_moveLine_9 : decode cX8_moveLine 9 = .ok (.ifCond .eq 13, 3) := by decide +kernel
theorem dX8_moveLine_12 : decode cX8_moveLine 12 = .ok (.aload_n 0, 1) := by decide +kernel
theorem dX8_moveLine_13 : decode cX8_moveLine 13 = .ok (.iload_n 2, 1) := by decide +kernel
theorem dX8_moveLine_14 : decode cX8_moveLine 14 = .ok (.putfield 9, 3) := by decide +kernel
theorem dX8_moveLine_17 : decode cX8_moveLine 17 = .ok (.aload_n 0, 1) := by decide +kernel
theorem dX8_moveLine_18 : decode cX8_moveLine 18 = .ok (.iload_n 3, 1) := by decide +kernel
theorem dX8_moveLine_19 : decode cX8_moveLine 19 = .ok (.putfield 15, 3) := by decide +kernel
theorem dX8_moveLine_22 : decode cX8_moveLine 22 = .ok (.return_, 1) := by decide +kernel
theorem dX8_isBeyond_0 : decode cX8_isBeyond 0 = .ok (.iload_n 0, 1) := by decide +kernel
theorem dX8_isBeyond_1 : decode cX8_isBeyond 1 = .ok (.ifCond .ne 16, 3) := by decide +kernel
theorem dX8_isBeyond_4 : decode cX8_isBeyond 4 = .ok (.iload_n 1, 1) := by decide +kernel
theorem dX8_isBeyond_5 : decode cX8_isBeyond 5 = .ok (.iload_n 2, 1) := by decide +kernel
theorem dX8_isBeyond_6 : decode cX8_isBeyond 6 = .ok (.if_icmp .le 7, 3) := by decide +kernel
theorem dX8_isBeyond_9 : decode cX8_isBeyond 9 = .ok (.iconst 1, 1) := by decide +kernel
theorem dX8_isBeyond_10 : decode cX8_isBeyond 10 = .ok (.goto 17, 3) := by decide +kernel
theorem dX8_isBeyond_13 : decode cX8_isBeyond 13 = .ok (.iconst 0, 1) := by decide +kernel
theorem dX8_isBeyond_14 : decode cX8_isBeyond 14 = .ok (.goto 13, 3) := by decide +kernel
theorem dX8_isBeyond_17 : decode cX8_isBeyond 17 = .ok (.iload_n 1, 1) := by decide +kernel
theorem dX8_isBeyond_18 : decode cX8_isBeyond 18 = .ok (.iload_n 2, 1) := by decide +kernel
theorem dX8_isBeyond_19 : decode cX8_isBeyond 19 = .ok (.if_icmp .ge 7, 3) := by decide +kernel
theorem dX8_isBeyond_22 : decode cX8_isBeyond 22 = .ok (.iconst 1, 1) := by decide +kernel
theorem dX8_isBeyond_23 : decode cX8_isBeyond 23 = .ok (.goto 4, 3) := by decide +kernel
theorem dX8_isBeyond_26 : decode cX8_isBeyond 26 = .ok (.iconst 0, 1) := by decide +kernel
theorem dX8_isBeyond_27 : decode cX8_isBeyond 27 = .ok (.ireturn, 1) := by decide +kernel
theorem dX9_init_0 : decode cX9_init 0 = .ok (.aload_n 0, 1) := by decide +kernel
theorem dX9_init_1 : decode cX9_init 1 = .ok (.invokespecial 1, 3) := by decide +kernel
theorem dX9_init_4 : decode cX9_init 4 = .ok (.aload_n 0, 1) := by decide +kernel
theorem dX9_init_5 : decode cX9_init 5 = .ok (.new 7, 3) := by decide +kernel
theorem dX9_init_8 : decode cX9_init 8 = .ok (.dup, 1) := by decide +kernel
theorem dX9_init_9 : decode cX9_init 9 = .ok (.invokespecial 9, 3) := by decide +kernel
theorem dX9_init_12 : decode cX9_init 12 = .ok (.putfield 10, 3) := by decide +kernel
theorem dX9_init_15 : decode cX9_init 15 = .ok (.aload_n 0, 1) := by decide +kernel
theorem dX9_init_16 : decode cX9_init 16 = .ok (.new 16, 3) := by decide +kernel
theorem dX9_init_19 : decode cX9_init 19 = .ok (.dup, 1) := by decide +kernel
theorem dX9_init_20 : decode cX9_init 20 = .ok (.invokespecial 18, 3) := by decide +kernel
theorem dX9_init_23 : decode cX9_init 23 = .ok (.putfield 19, 3) := by decide +kernel
theorem dX9_init_26 : decode cX9_init 26 = .ok (.aload_n 0, 1) := by decide +kernel
theorem dX9_init_27 : decode cX9_init 27 = .ok (.new 23, 3) := by decide +kernel
theorem dX9_init_30 : decode cX9_init 30 = .ok (.dup, 1) := by decide +kernel
theorem dX9_init_31 : decode cX9_init 31 = .ok (.aload_n 0, 1) := by decide +kernel
theorem dX9_init_32 : decode cX9_init 32 = .ok (.getfield 19, 3) := by decide +kernel
theorem dX9_init_35 : decode cX9_init 35 = .ok (.invokespecial 25, 3) := by decide +kernel
theorem dX9_init_38 : decode cX9_init 38 = .ok (.putfield 28, 3) := by decide +kernel
theorem dX9_init_41 : decode cX9_init 41 = .ok (.aload_n 0, 1) := by decide +kernel
theorem dX9_init_42 : decode cX9_init 42 = .ok (.new 32, 3) := by decide +kernel
theorem dX9_init_45 : decode cX9_init 45 = .ok (.dup, 1) := by decide +kernel
theorem dX9_init_46 : decode cX9_init 46 = .ok (.invokespecial 34, 3) := by decide +kernel
theorem dX9_init_49 : decode cX9_init 49 = .ok (.putfield 35, 3) := by decide +kernel
theorem dX9_init_52 : decode cX9_init 52 = .ok (.aload_n 0, 1) := by decide +kernel
theorem dX9_init_53 : decode cX9_init 53 = .ok (.new 39, 3) := by decide +kernel
theorem dX9_init_56 : decode cX9_init 56 = .ok (.dup, 1) := by decide +kernel
theorem dX9_init_57 : decode cX9_init 57 = .ok (.invokespecial 41, 3) := by decide +kernel
theorem dX9_init_60 : decode cX9_init 60 = .ok (.putfield 42, 3) := by decide +kernel
theorem dX9_init_63 : decode cX9_init 63 = .ok (.aload_n 0, 1) := by decide +kernel
theorem dX9_init_64 : decode cX9_init 64 = .ok (.new 46, 3) := by decide +kernel
theorem dX9_init_67 : decode cX9_init 67 = .ok (.dup, 1) := by decide +kernel
theorem dX9_init_68 : decode cX9_init 68 = .ok (.invokespecial 48, 3) := by decide +kernel
theorem dX9_init_71 : decode cX9_init 71 = .ok (.putfield 49, 3) := by decide +kernel
theorem dX9_init_74 : decode cX9_init 74 = .ok (.aload_n 0, 1) := by decide +kernel
theorem dX9_init_75 : decode cX9_init 75 = .ok (.new 53, 3) := by decide +kernel
theorem dX9_init_78 : decode cX9_init 78 = .ok (.dup, 1) := by decide +kernel
theorem dX9_init_79 : decode cX9_init 79 = .ok (.aload_n 0, 1) := by decide +kernel
theorem dX9_init_80 : decode cX9_init 80 = .ok (.getfield 42, 3) := by decide +kernel
theorem dX9_init_83 : decode cX9_init 83 = .ok (.aload_n 0, 1) := by decide +kernel
theorem dX9_init_84 : decode cX9_init 84 = .ok (.getfield 49, 3) := by decide +kernel
theorem dX9_init_87 : decode cX9_init 87 = .ok (.invokespecial 55, 3) := by decide +kernel
theorem dX9_init_90 : decode cX9_init 90 = .ok (.putfield 58, 3) := by decide +kernel
theorem dX9_init_93 : decode cX9_init 93 = .ok (.aload_n 0, 1) := by decide +kernel
theorem dX9_init_94 : decode cX9_init 94 = .ok (.new 62, 3) := by decide +kernel
theorem dX9_init_97 : decode cX9_init 97 = .ok (.dup, 1) := by decide +kernel
theorem dX9_init_98 : decode cX9_init 98 = .ok (.invokespecial 64, 3) := by decide +kernel
theorem dX9_init_101 : decode cX9_init 101 = .ok (.putfield 65, 3) := by decide +kernel
theorem dX9_init_104 : decode cX9_init 104 = .ok (.aload_n 0, 1) := by decide +kernel
theorem dX9_init_105 : decode cX9_init 105 = .ok (.new 69, 3) := by decide +kernel
theorem dX9_init_108 : decode cX9_init 108 = .ok (.dup, 1) := by decide +kernel
theorem dX9_init_109 : decode cX9_init 109 = .ok (.invokespecial 71, 3) := by decide +kernel
theorem dX9_init_112 : decode cX9_init 112 = .ok (.putfield 72, 3) := by decide +kernel
theorem dX9_init_115 : decode cX9_init 115 = .ok (.aload_n 0, 1) := by decide +kernel
theorem dX9_init_116 : decode cX9_init 116 = .ok (.new 69, 3) := by decide +kernel
theorem dX9_init_119 : decode cX9_init 119 = .ok (.dup, 1) := by decide +kernel
theorem dX9_init_120 : decode cX9_init 120 = .ok (.invokespecial 71, 3) := by decide +kernel
theorem dX9_init_123 : decode cX9_init 123 = .ok (.putfield 76, 3) := by decide +kernel
theorem dX9_init_126 : decode cX9_init 126 = .ok (.aload_n 0, 1) := by decide +kernel
theorem dX9_init_127 : decode cX9_init 127 = .ok (.iconst 0, 1) := by decide +kernel
theorem dX9_init_128 : decode cX9_init 128 = .ok (.putfield 79, 3) := by decide +kernel
theorem dX9_init_131 : decode cX9_init 131 = .ok (.return_, 1) := by decide +kernel
theorem dX9_say_0 : decode cX9_say 0 = .ok (.iload_n 1, 1) := by decide +kernel
theorem dX9_say_1 : decode cX9_say 1 = .ok (.bipush 6, 2) := by decide +kernel
theorem dX9_say_3 : decode cX9_say 3 = .ok (.invokestatic 83, 3) := by decide +kernel
theorem dX9_say_6 : decode cX9_say 6 = .ok (.ifCond .eq 49, 3) := by decide +kernel
theorem dX9_say_9 : decode cX9_say 9 = .ok (.iload_n 2, 1) := by decide +kernel
theorem dX9_say_10 : decode cX9_say 10 = .ok (.iload_n 3, 1) := by decide +kernel
theorem dX9_say_11 : decode cX9_say 11 = .ok (.bipush 10, 2) := by decide +kernel
theorem dX9_say_13 : decode cX9_say 13 = .ok (.invokestatic 87, 3) := by decide +kernel
theorem dX9_say_16 : decode cX9_say 16 = .ok (.ifCond .eq 39, 3) := by decide +kernel
theorem dX9_say_19 : decode cX9_say 19 = .ok (.iload 4, 2) := by decide +kernel
theorem dX9_say_21 : decode cX9_say 21 = .ok (.iload 5, 2) := by decide +kernel
theorem dX9_say_23 : decode cX9_say 23 = .ok (.bipush 80, 2) := by decide +kernel
theorem dX9_say_25 : decode cX9_say 25 = .ok (.invokestatic 87, 3) := by decide +kernel
theorem dX9_say_28 : decode cX9_say 28 = .ok (.ifCond .eq 27, 3) := by decide +kernel
theorem dX9_say_31 : decode cX9_say 31 = .ok (.iload 6, 2) := by decide +kernel
theorem dX9_say_33 : decode cX9_say 33 = .ok (.sipush 1000, 3) := by decide +kernel
theorem dX9_say_36 : decode cX9_say 36 = .ok (.invokestatic 83, 3) := by decide +kernel
theorem dX9_say_39 : decode cX9_say 39 = .ok (.ifCond .eq 16, 3) := by decide +kernel
theorem dX9_say_42 : decode cX9_say 42 = .ok (.iload 7, 2) := by decide +kernel
theorem dX9_say_44 : decode cX9_say 44 = .ok (.iconst 2, 1) := by decide +kernel
theorem dX9_say_45 : decode cX9_say 45 = .ok (.invokestatic 83, 3) := by decide +kernel
theorem dX9_say_48 : decode cX9_say 48 = .ok (.ifCond .eq 7, 3) := by decide +kernel
theorem dX9_say_51 : decode cX9_say 51 = .ok (.iconst 1, 1) := by decide +kernel
theorem dX9_say_52 : decode cX9_say 52 = .ok (.goto 4, 3) := by decide +kernel
theorem dX9_say_55 : decode cX9_say 55 = .ok (.iconst 0, 1) := by decide +kernel
theorem dX9_say_56 : decode cX9_say 56 = .ok (.istore 8, 2) := by decide +kernel
theorem dX9_say_58 : decode cX9_say 58 = .ok (.iload 8, 2) := by decide +kernel
theorem dX9_say_60 : decode cX9_say 60 = .ok (.ifCond .eq 15, 3) := by decide +kernel
theorem dX9_say_63 : decode cX9_say 63 = .ok (.aload_n 0, 1) := by decide +kernel
theorem dX9_say_64 : decode cX9_say 64 = .ok (.getfield 10, 3) := by decide +kernel
theorem dX9_say_67 : decode cX9_say 67 = .ok (.invokevirtual 91, 3) := by decide +kernel
theorem dX9_say_70 : decode cX9_say 70 = .ok (.bipush 12, 2) := by decide +kernel
theorem dX9_say_72 : decode cX9_say 72 = .ok (.if_icmp .lt 5, 3) := by decide +kernel
theorem dX9_say_75 : decode cX9_say 75 = .ok (.iconst (-1), 1) := by decide +kernel
theorem dX9_say_76 : decode cX9_say 76 = .ok (.ireturn, 1) := by decide +kernel
theorem dX9_say_77 : decode cX9_say 77 = .ok (.aload_n 0, 1) := by decide +kernel
theorem dX9_say_78 : decode cX9_say 78 = .ok (.getfield 10, 3) := by decide +kernel
theorem dX9_say_81 : decode cX9_say 81 = .ok (.new 95, 3) := by decide +kernel
theorem dX9_say_84 : decode cX9_say 84 = .ok (.dup, 1) := by decide +kernel
theorem dX9_say_85 : decode cX9_say 85 = .ok (.iload_n 1, 1) := by decide +kernel
theorem dX9_say_86 : decode cX9_say 86 = .ok (.iload_n 2, 1) := by decide +kernel
theorem dX9_say_87 : decode cX9_say 87 = .ok (.iload_n 3, 1) := by decide +kernel
theorem dX9_say_88 : decode cX9_say 88 = .ok (.iload 4, 2) := by decide +kernel
theorem dX9_say_90 : decode cX9_say 90 = .ok (.iload 5, 2) := by decide +kernel
theorem dX9_say_92 : decode cX9_say 92 = .ok (.iload 6, 2) := by decide +kernel
theorem dX9_say_94 : decode cX9_say 94 = .ok (.iload 7, 2) := by decide +kernel
theorem dX9_say_96 : decode cX9_say 96 = .ok (.invokespecial 97, 3) := by decide +kernel
theorem dX9_say_99 : decode cX9_say 99 = .ok (.invokevirtual 100, 3) := by decide +kernel
theorem dX9_say_102 : decode cX9_say 102 = .ok (.pop, 1) := by decide +kernel
theorem dX9_say_103 : decode cX9_say 103 = .ok (.aload_n 0, 1) := by decide +kernel
theorem dX9_say_104 : decode cX9_say 104 = .ok (.iconst 0, 1) := by decide +kernel
theorem dX9_say_105 : decode cX9_say 105 = .ok (.putfield 79, 3) := by decide +kernel
theorem dX9_say_108 : decode cX9_say 108 = .ok (.aload_n 0, 1) := by decide +kernel
theorem dX9_say_109 : decode cX9_say 109 = .ok (.getfield 10, 3) := by decide +kernel
theorem dX9_say_112 : decode cX9_say 112 = .ok (.invokevirtual 91, 3) := by decide +kernel
theorem dX9_say_115 : decode cX9_say 115 = .ok (.iconst 1, 1) := by decide +kernel
theorem dX9_say_116 : decode cX9_say 116 = .ok (.isub, 1) := by decide +kernel
theorem dX9_say_117 : decode cX9_say 117 = .ok (.ireturn, 1) := by decide +kernel
theorem dX9_feed_0 : decode cX9_feed 0 = .ok (.aload_n 0, 1) := by decide +kernel
theorem dX9_feed_1 : decode cX9_feed 1 = .ok (.getfield 19, 3) := by decide +kernel
theorem dX9_feed_4 : decode cX9_feed 4 = .ok (.getfield 104, 3) := by decide +kernel
theorem dX9_feed_7 : decode cX9_feed 7 = .ok (.sipush 380, 3) := by decide +kernel
theorem dX9_feed_10 : decode cX9_feed 10 = .ok (.if_icmp .le 5, 3) := by decide +kernel
theorem dX9_feed_13 : decode cX9_feed 13 = .ok (.iconst (-1), 1) := by decide +kernel
theorem dX9_feed_14 : decode cX9_feed 14 = .ok (.ireturn, 1) := by decide +kernel
theorem dX9_feed_15 : decode cX9_feed 15 = .ok (.aload_n 0, 1) := by decide +kernel
theorem dX9_feed_16 : decode cX9_feed 16 = .ok (.getfield 19, 3) := by decide +kernel
theorem dX9_feed_19 : decode cX9_feed 19 = .ok (.iload_n 1, 1) := by decide +kernel
theorem dX9_feed_20 : decode cX9_feed 20 = .ok (.invokevirtual 108, 3) := by decide +kernel
theorem dX9_feed_23 : decode cX9_feed 23 = .ok (.aload_n 0, 1) := by decide +kernel
theorem dX9_feed_24 : decode cX9_feed 24 = .ok (.getfield 19, 3) := by decide +kernel
theorem dX9_feed_27 : decode cX9_feed 27 = .ok (.iload_n 2, 1) := by decide +kernel
theorem dX9_feed_28 : decode cX9_feed 28 = .ok (.invokevirtual 108, 3) := by decide +kernel
theorem dX9_feed_31 : decode cX9_feed 31 = .ok (.aload_n 0, 1) := by decide +kernel
theorem dX9_feed_32 : decode cX9_feed 32 = .ok (.getfield 19, 3) := by decide +kernel
theorem dX9_feed_35 : decode cX9_feed 35 = .ok (.iload_n 3, 1) := by decide +kernel
theorem dX9_feed_36 : decode cX9_feed 36 = .ok (.invokevirtual 108, 3) := by decide +kernel
theorem dX9_feed_39 : decode cX9_feed 39 = .ok (.aload_n 0, 1) := by decide +kernel
theorem dX9_feed_40 : decode cX9_feed 40 = .ok (.getfield 19, 3) := by decide +kernel
theorem dX9_feed_43 : decode cX9_feed 43 = .ok (.iload 4, 2) := by decide +kernel
theorem dX9_feed_45 : decode cX9_feed 45 = .ok (.invokevirtual 108, 3) := by decide +kernel
theorem dX9_feed_48 : decode cX9_feed 48 = .ok (.aload_n 0, 1) := by decide +kernel
theorem dX9_feed_49 : decode cX9_feed 49 = .ok (.getfield 19, 3) := by decide +kernel
theorem dX9_feed_52 : decode cX9_feed 52 = .ok (.iload 5, 2) := by decide +kernel
theorem dX9_feed_54 : decode cX9_feed 54 = .ok (.invokevirtual 108, 3) := by decide +kernel
theorem dX9_feed_57 : decode cX9_feed 57 = .ok (.aload_n 0, 1) := by decide +kernel
theorem dX9_feed_58 : decode cX9_feed 58 = .ok (.getfield 19, 3) := by decide +kernel
theorem dX9_feed_61 : decode cX9_feed 61 = .ok (.getfield 104, 3) := by decide +kernel
theorem dX9_feed_64 : decode cX9_feed 64 = .ok (.ireturn, 1) := by decide +kernel
theorem dX9_end_0 : decode cX9_end 0 = .ok (.aload_n 0, 1) := by decide +kernel
theorem dX9_end_1 : decode cX9_end 1 = .ok (.getfield 19, 3) := by decide +kernel
theorem dX9_end_4 : decode cX9_end 4 = .ok (.iload_n 1, 1) := by decide +kernel
theorem dX9_end_5 : decode cX9_end 5 = .ok (.invokevirtual 112, 3) := by decide +kernel
theorem dX9_end_8 : decode cX9_end 8 = .ok (.ireturn, 1) := by decide +kernel
theorem dX9_rules_0 : decode cX9_rules 0 = .ok (.aload_n 0, 1) := by decide +kernel
theorem dX9_rules_1 : decode cX9_rules 1 = .ok (.getfield 28, 3) := by decide +kernel
theorem dX9_rules_4 : decode cX9_rules 4 = .ok (.aload_n 0, 1) := by decide +kernel
theorem dX9_rules_5 : decode cX9_rules 5 = .ok (.getfield 76, 3) := by decide +kernel
theorem dX9_rules_8 : decode cX9_rules 8 = .ok (.invokevirtual 116, 3) := by decide +kernel
theorem dX9_rules_11 : decode cX9_rules 11 = .ok (.aload_n 0, 1) := by decide +kernel
theorem dX9_rules_12 : decode cX9_rules 12 = .ok (.getfield 19, 3) := by decide +kernel
theorem dX9_rules_15 : decode cX9_rules 15 = .ok (.iconst 0, 1) := by decide +kernel
theorem dX9_rules_16 : decode cX9_rules 16 = .ok (.invokevirtual 112, 3) := by decide +kernel
theorem dX9_rules_19 : decode cX9_rules 19 = .ok (.pop, 1) := by decide +kernel
theorem dX9_rules_20 : decode cX9_rules 20 = .ok (.aload_n 0, 1) := by decide +kernel
theorem dX9_rules_21 : decode cX9_rules 21 = .ok (.getfield 28, 3) := by decide +kernel
theorem dX9_rules_24 : decode cX9_rules 24 = .ok (.getfield 120, 3) := by decide +kernel
theorem dX9_rules_27 : decode cX9_rules 27 = .ok (.ifCond .eq 5, 3) := by decide +kernel
theorem dX9_rules_30 : decode cX9_rules 30 = .ok (.iconst (-1), 1) := by decide +kernel
theorem dX9_rules_31 : decode cX9_rules 31 = .ok (.ireturn, 1) := by decide +kernel
theorem dX9_rules_32 : decode cX9_rules 32 = .ok (.aload_n 0, 1) := by decide +kernel
theorem dX9_rules_33 : decode cX9_rules 33 = .ok (.getfield 72, 3) := by decide +kernel
theorem dX9_rules_36 : decode cX9_rules 36 = .ok (.astore_n 1, 1) := by decide +kernel
theorem dX9_rules_37 : decode cX9_rules 37 = .ok (.aload_n 0, 1) := by decide +kernel
theorem dX9_rules_38 : decode cX9_rules 38 = .ok (.aload_n 0, 1) := by decide +kernel
theorem dX9_rules_39 : decode cX9_rules 39 = .ok (.getfield 76, 3) := by decide +kernel
theorem dX9_rules_42 : decode cX9_rules 42 = .ok (.putfield 72, 3) := by decide +kernel
theorem dX9_rules_45 : decode cX9_rules 45 = .ok (.aload_n 0, 1) := by decide +kernel
theorem dX9_rules_46 : decode cX9_rules 46 = .ok (.aload_n 1, 1) := by decide +kernel
theorem dX9_rules_47 : decode cX9_rules 47 = .ok (.putfield 76, 3) := by decide +kernel
theorem dX9_rules_50 : decode cX9_rules 50 = .ok (.aload_n 0, 1) := by decide +kernel
theorem dX9_rules_51 : decode cX9_rules 51 = .ok (.iconst 0, 1) := by decide +kernel
theorem dX9_rules_52 : decode cX9_rules 52 = .ok (.putfield 79, 3) := by decide +kernel
theorem dX9_rules_55 : decode cX9_rules 55 = .ok (.aload_n 0, 1) := by decide +kernel
theorem dX9_rules_56 : decode cX9_rules 56 = .ok (.getfield 28, 3) := by decide +kernel
theorem dX9_rules_59 : decode cX9_rules 59 = .ok (.getfield 123, 3) := by decide +kernel
theorem dX9_rules_62 : decode cX9_rules 62 = .ok (.ireturn, 1) := by decide +kernel
theorem dX9_fault_0 : decode cX9_fault 0 = .ok (.iload_n 1, 1) := by decide +kernel
theorem dX9_fault_1 : decode cX9_fault 1 = .ok (.lookupswitch 43 #[(0, 27), (1, 35)], 27) := by decide +kernel
theorem dX9_fault_28 : decode cX9_fault 28 = .ok (.aload_n 0, 1) := by decide +kernel
theorem dX9_fault_29 : decode cX9_fault 29 = .ok (.getfield 28, 3) := by decide +kernel
theorem dX9_fault_32 : decode cX9_fault 32 = .ok (.getfield 120, 3) := by decide +kernel
theorem dX9_fault_35 : decode cX9_fault 35 = .ok (.ireturn, 1) := by decide +kernel
theorem dX9_fault_36 : decode cX9_fault 36 = .ok (.aload_n 0, 1) := by decide +kernel
theorem dX9_fault_37 : decode cX9_fault 37 = .ok (.getfield 28, 3) := by decide +kernel
theorem dX9_fault_40 : decode cX9_fault 40 = .ok (.getfield 126, 3) := by decide +kernel
theorem dX9_fault_43 : decode cX9_fault 43 = .ok (.ireturn, 1) := by decide +kernel
theorem dX9_fault_44 : decode cX9_fault 44 = .ok (.iconst (-1), 1) := by decide +kernel
theorem dX9_fault_45 : decode cX9_fault 45 = .ok (.ireturn, 1) := by decide +kernel
theorem dX9_look_0 : decode cX9_look 0 = .ok (.iload_n 1, 1) := by decide +kernel
theorem dX9_look_1 : decode cX9_look 1 = .ok (.tableswitch 75 0 4 #[35, 43, 51, 59, 67], 35) := by decide +kernel
theorem dX9_look_36 : decode cX9_look 36 = .ok (.aload_n 0, 1) := by decide +kernel
theorem dX9_look_37 : decode cX9_look 37 = .ok (.getfield 10, 3) := by decide +kernel
theorem dX9_look_40 : decode cX9_look 40 = .ok (.invokevirtual 91, 3) := by decide +kernel
theorem dX9_look_43 : decode cX9_look 43 = .ok (.ireturn, 1) := by decide +kernel
theorem dX9_look_44 : decode cX9_look 44 = .ok (.aload_n 0, 1) := by decide +kernel
theorem dX9_look_45 : decode cX9_look 45 = .ok (.getfield 72, 3) := by decide +kernel
theorem dX9_look_48 : decode cX9_look 48 = .ok (.getfield 129, 3) := by decide +kernel
theorem dX9_look_51 : decode cX9_look 51 = .ok (.ireturn, 1) := by decide +kernel
theorem dX9_look_52 : decode cX9_look 52 = .ok (.aload_n 0, 1) := by decide +kernel
theorem dX9_look_53 : decode cX9_look 53 = .ok (.getfield 72, 3) := by decide +kernel
theorem dX9_look_56 : decode cX9_look 56 = .ok (.getfield 132, 3) := by decide +kernel
theorem dX9_look_59 : decode cX9_look 59 = .ok (.ireturn, 1) := by decide +kernel
theorem dX9_look_60 : decode cX9_look 60 = .ok (.aload_n 0, 1) := by decide +kernel
theorem dX9_look_61 : decode cX9_look 61 = .ok (.getfield 72, 3) := by decide +kernel
theorem dX9_look_64 : decode cX9_look 64 = .ok (.getfield 135, 3) := by decide +kernel
theorem dX9_look_67 : decode cX9_look 67 = .ok (.ireturn, 1) := by decide +kernel
theorem dX9_look_68 : decode cX9_look 68 = .ok (.aload_n 0, 1) := by decide +kernel
theorem dX9_look_69 : decode cX9_look 69 = .ok (.getfield 42, 3) := by decide +kernel
theorem dX9_look_72 : decode cX9_look 72 = .ok (.getfield 138, 3) := by decide +kernel
theorem dX9_look_75 : decode cX9_look 75 = .ok (.ireturn, 1) := by decide +kernel
theorem dX9_look_76 : decode cX9_look 76 = .ok (.aload_n 0, 1) := by decide +kernel
theorem dX9_look_77 : decode cX9_look 77 = .ok (.iload_n 1, 1) := by decide +kernel
theorem dX9_look_78 : decode cX9_look 78 = .ok (.invokevirtual 141, 3) := by decide +kernel
theorem dX9_look_81 : decode cX9_look 81 = .ok (.ireturn, 1) := by decide +kernel
theorem dX9_lookAtKinds_0 : decode cX9_lookAtKinds 0 = .ok (.iload_n 1, 1) := by decide +kernel
theorem dX9_lookAtKinds_1 : decode cX9_lookAtKinds 1 = .ok (.bipush 10, 2) := by decide +kernel
theorem dX9_lookAtKinds_3 : decode cX9_lookAtKinds 3 = .ok (.if_icmp .lt 22, 3) := by decide +kernel
theorem dX9_lookAtKinds_6 : decode cX9_lookAtKinds 6 = .ok (.iload_n 1, 1) := by decide +kernel
theorem dX9_lookAtKinds_7 : decode cX9_lookAtKinds 7 = .ok (.bipush 16, 2) := by decide +kernel
theorem dX9_lookAtKinds_9 : decode cX9_lookAtKinds 9 = .ok (.if_icmp .ge 16, 3) := by decide +kernel
theorem dX9_lookAtKinds_12 : decode cX9_lookAtKinds 12 = .ok (.aload_n 0, 1) := by decide +kernel
theorem dX9_lookAtKinds_13 : decode cX9_lookAtKinds 13 = .ok (.getfield 72, 3) := by decide +kernel
theorem dX9_lookAtKinds_16 : decode cX9_lookAtKinds 16 = .ok (.getfield 145, 3) := by decide +kernel
theorem dX9_lookAtKinds_19 : decode cX9_lookAtKinds 19 = .ok (.iload_n 1, 1) := by decide +kernel
theorem dX9_lookAtKinds_20 : decode cX9_lookAtKinds 20 = .ok (.bipush 10, 2) := by decide +kernel
theorem dX9_lookAtKinds_22 : decode cX9_lookAtKinds 22 = .ok (.isub, 1) := by decide +kernel
theorem dX9_lookAtKinds_23 : decode cX9_lookAtKinds 23 = .ok (.iaload, 1) := by decide +kernel
theorem dX9_lookAtKinds_24 : decode cX9_lookAtKinds 24 = .ok (.ireturn, 1) := by decide +kernel
theorem dX9_lookAtKinds_25 : decode cX9_lookAtKinds 25 = .ok (.iload_n 1, 1) := by decide +kernel
theorem dX9_lookAtKinds_26 : decode cX9_lookAtKinds 26 = .ok (.bipush 20, 2) := by decide +kernel
theorem dX9_lookAtKinds_28 : decode cX9_lookAtKinds 28 = .ok (.if_icmp .lt 30, 3) := by decide +kernel
theorem dX9_lookAtKinds_31 : decode cX9_lookAtKinds 31 = .ok (.iload_n 1, 1) := by decide +kernel
theorem dX9_lookAtKinds_32 : decode cX9_lookAtKinds 32 = .ok (.bipush 26, 2) := by decide +kernel
theorem dX9_lookAtKinds_34 : decode cX9_lookAtKinds 34 = .ok (.if_icmp .ge 24, 3) := by decide +kernel
theorem dX9_lookAtKinds_37 : decode cX9_lookAtKinds 37 = .ok (.aload_n 0, 1) := by decide +kernel
theorem dX9_lookAtKinds_38 : decode cX9_lookAtKinds 38 = .ok (.getfield 72, 3) := by decide +kernel
theorem dX9_lookAtKinds_41 : decode cX9_lookAtKinds 41 = .ok (.getfield 149, 3) := by decide +kernel
theorem dX9_lookAtKinds_44 : decode cX9_lookAtKinds 44 = .ok (.iload_n 1, 1) := by decide +kernel
theorem dX9_lookAtKinds_45 : decode cX9_lookAtKinds 45 = .ok (.bipush 20, 2) := by decide +kernel
theorem dX9_lookAtKinds_47 : decode cX9_lookAtKinds 47 = .ok (.isub, 1) := by decide +kernel
theorem dX9_lookAtKinds_48 : decode cX9_lookAtKinds 48 = .ok (.baload, 1) := by decide +kernel
theorem dX9_lookAtKinds_49 : decode cX9_lookAtKinds 49 = .ok (.ifCond .eq 7, 3) := by decide +kernel
theorem dX9_lookAtKinds_52 : decode cX9_lookAtKinds 52 = .ok (.iconst 1, 1) := by decide +kernel
theorem dX9_lookAtKinds_53 : decode cX9_lookAtKinds 53 = .ok (.goto 4, 3) := by decide +kernel
theorem dX9_lookAtKinds_56 : decode cX9_lookAtKinds 56 = .ok (.iconst 0, 1) := by decide +kernel
theorem dX9_lookAtKinds_57 : decode cX9_lookAtKinds 57 = .ok (.ireturn, 1) := by decide +kernel
theorem dX9_lookAtKinds_58 : decode cX9_lookAtKinds 58 = .ok (.iconst (-1), 1) := by decide +kernel
theorem dX9_lookAtKinds_59 : decode cX9_lookAtKinds 59 = .ok (.ireturn, 1) := by decide +kernel
theorem dX9_said_0 : decode cX9_said 0 = .ok (.iload_n 1, 1) := by decide +kernel
theorem dX9_said_1 : decode cX9_said 1 = .ok (.aload_n 0, 1) := by decide +kernel
theorem dX9_said_2 : decode cX9_said 2 = .ok (.getfield 10, 3) := by decide +kernel
theorem dX9_said_5 : decode cX9_said 5 = .ok (.invokevirtual 91, 3) := by decide +kernel
theorem dX9_said_8 : decode cX9_said 8 = .ok (.invokestatic 83, 3) := by decide +kernel
theorem dX9_said_11 : decode cX9_said 11 = .ok (.ifCond .ne 5, 3) := by decide +kernel
theorem dX9_said_14 : decode cX9_said 14 = .ok (.iconst (-1), 1) := by decide +kernel
theorem dX9_said_15 : decode cX9_said 15 = .ok (.ireturn, 1) := by decide +kernel
theorem dX9_said_16 : decode cX9_said 16 = .ok (.aload_n 0, 1) := by decide +kernel
theorem dX9_said_17 : decode cX9_said 17 = .ok (.getfield 10, 3) := by decide +kernel
theorem dX9_said_20 : decode cX9_said 20 = .ok (.iload_n 1, 1) := by decide +kernel
theorem dX9_said_21 : decode cX9_said 21 = .ok (.invokevirtual 153, 3) := by decide +kernel
theorem dX9_said_24 : decode cX9_said 24 = .ok (.checkcast 95, 3) := by decide +kernel
theorem dX9_said_27 : decode cX9_said 27 = .ok (.astore_n 3, 1) := by decide +kernel
theorem dX9_said_28 : decode cX9_said 28 = .ok (.iload_n 2, 1) := by decide +kernel
theorem dX9_said_29 : decode cX9_said 29 = .ok (.tableswitch 77 0 4 #[35, 40, 53, 66, 71], 35) := by decide +kernel
theorem dX9_said_64 : decode cX9_said 64 = .ok (.aload_n 3, 1) := by decide +kernel
theorem dX9_said_65 : decode cX9_said 65 = .ok (.getfield 157, 3) := by decide +kernel
theorem dX9_said_68 : decode cX9_said 68 = .ok (.ireturn, 1) := by decide +kernel
theorem dX9_said_69 : decode cX9_said 69 = .ok (.aload_n 3, 1) := by decide +kernel
theorem dX9_said_70 : decode cX9_said 70 = .ok (.aload_n 3, 1) := by decide +kernel
theorem dX9_said_71 : decode cX9_said 71 = .ok (.getfield 160, 3) := by decide +kernel
theorem dX9_said_74 : decode cX9_said 74 = .ok (.aload_n 0, 1) := by decide +kernel
theorem dX9_said_75 : decode cX9_said 75 = .ok (.getfield 72, 3) := by decide +kernel
theorem dX9_said_78 : decode cX9_said 78 = .ok (.invokevirtual 163, 3) := by decide +kernel
theorem dX9_said_81 : decode cX9_said 81 = .ok (.ireturn, 1) := by decide +kernel
theorem dX9_said_82 : decode cX9_said 82 = .ok (.aload_n 3, 1) := by decide +kernel
theorem dX9_said_83 : decode cX9_said 83 = .ok (.aload_n 3, 1) := by decide +kernel
theorem dX9_said_84 : decode cX9_said 84 = .ok (.getfield 167, 3) := by decide +kernel
theorem dX9_said_87 : decode cX9_said 87 = .ok (.aload_n 0, 1) := by decide +kernel
theorem dX9_said_88 : decode cX9_said 88 = .ok (.getfield 72, 3) := by decide +kernel
theorem dX9_said_91 : decode cX9_said 91 = .ok (.invokevirtual 163, 3) := by decide +kernel
theorem dX9_said_94 : decode cX9_said 94 = .ok (.ireturn, 1) := by decide +kernel
theorem dX9_said_95 : decode cX9_said 95 = .ok (.aload_n 3, 1) := by decide +kernel
theorem dX9_said_96 : decode cX9_said 96 = .ok (.getfield 170, 3) := by decide +kernel
theorem dX9_said_99 : decode cX9_said 99 = .ok (.ireturn, 1) := by decide +kernel
theorem dX9_said_100 : decode cX9_said 100 = .ok (.aload_n 0, 1) := by decide +kernel
theorem dX9_said_101 : decode cX9_said 101 = .ok (.aload_n 3, 1) := by decide +kernel
theorem dX9_said_102 : decode cX9_said 102 = .ok (.invokevirtual 173, 3) := by decide +kernel
theorem dX9_said_105 : decode cX9_said 105 = .ok (.ireturn, 1) := by decide +kernel
theorem dX9_said_106 : decode cX9_said 106 = .ok (.iconst (-1), 1) := by decide +kernel
theorem dX9_said_107 : decode cX9_said 107 = .ok (.ireturn, 1) := by decide +kernel
theorem dX9_stationsOf_0 : decode cX9_stationsOf 0 = .ok (.iconst 0, 1) := by decide +kernel
theorem dX9_stationsOf_1 : decode cX9_stationsOf 1 = .ok (.istore_n 2, 1) := by decide +kernel
theorem dX9_stationsOf_2 : decode cX9_stationsOf 2 = .ok (.aload_n 1, 1) := by decide +kernel
theorem dX9_stationsOf_3 : decode cX9_stationsOf 3 = .ok (.getfield 177, 3) := by decide +kernel
theorem dX9_stationsOf_6 : decode cX9_stationsOf 6 = .ok (.istore_n 3, 1) := by decide +kernel
theorem dX9_stationsOf_7 : decode cX9_stationsOf 7 = .ok (.iload_n 3, 1) := by decide +kernel
theorem dX9_stationsOf_8 : decode cX9_stationsOf 8 = .ok (.aload_n 1, 1) := by decide +kernel
theorem dX9_stationsOf_9 : decode cX9_stationsOf 9 = .ok (.getfield 180, 3) := by decide +kernel
theorem dX9_stationsOf_12 : decode cX9_stationsOf 12 = .ok (.if_icmp .gt 31, 3) := by decide +kernel
theorem dX9_stationsOf_15 : decode cX9_stationsOf 15 = .ok (.aload_n 1, 1) := by decide +kernel
theorem dX9_stationsOf_16 : decode cX9_stationsOf 16 = .ok (.iload_n 3, 1) := by decide +kernel
theorem dX9_stationsOf_17 : decode cX9_stationsOf 17 = .ok (.aload_n 0, 1) := by decide +kernel
theorem dX9_stationsOf_18 : decode cX9_stationsOf 18 = .ok (.getfield 10, 3) := by decide +kernel
theorem dX9_stationsOf_21 : decode cX9_stationsOf 21 = .ok (.aload_n 0, 1) := by decide +kernel
theorem dX9_stationsOf_22 : decode cX9_stationsOf 22 = .ok (.getfield 72, 3) := by decide +kernel
theorem dX9_stationsOf_25 : decode cX9_stationsOf 25 = .ok (.invokevirtual 183, 3) := by decide +kernel
theorem dX9_stationsOf_28 : decode cX9_stationsOf 28 = .ok (.ifCond .eq 9, 3) := by decide +kernel
theorem dX9_stationsOf_31 : decode cX9_stationsOf 31 = .ok (.iload_n 2, 1) := by decide +kernel
theorem dX9_stationsOf_32 : decode cX9_stationsOf 32 = .ok (.iconst 1, 1) := by decide +kernel
theorem dX9_stationsOf_33 : decode cX9_stationsOf 33 = .ok (.iload_n 3, 1) := by decide +kernel
theorem dX9_stationsOf_34 : decode cX9_stationsOf 34 = .ok (.ishl, 1) := by decide +kernel
theorem dX9_stationsOf_35 : decode cX9_stationsOf 35 = .ok (.ior, 1) := by decide +kernel
theorem dX9_stationsOf_36 : decode cX9_stationsOf 36 = .ok (.istore_n 2, 1) := by decide +kernel
theorem dX9_stationsOf_37 : decode cX9_stationsOf 37 = .ok (.iinc 3 1, 3) := by decide +kernel
theorem dX9_stationsOf_40 : decode cX9_stationsOf 40 = .ok (.goto (-33), 3) := by decide +kernel
theorem dX9_stationsOf_43 : decode cX9_stationsOf 43 = .ok (.iload_n 2, 1) := by decide +kernel
theorem dX9_stationsOf_44 : decode cX9_stationsOf 44 = .ok (.ireturn, 1) := by decide +kernel
theorem dX9_paper_0 : decode cX9_paper 0 = .ok (.iload_n 1, 1) := by decide +kernel
theorem dX9_paper_1 : decode cX9_paper 1 = .ok (.iconst (-1), 1) := by decide +kernel
theorem dX9_paper_2 : decode cX9_paper 2 = .ok (.if_icmp .eq 15, 3) := by decide +kernel
theorem dX9_paper_5 : decode cX9_paper 5 = .ok (.iload_n 1, 1) := by decide +kernel
theorem dX9_paper_6 : decode cX9_paper 6 = .ok (.bipush 10, 2) := by decide +kernel
theorem dX9_paper_8 : decode cX9_paper 8 = .ok (.invokestatic 83, 3) := by decide +kernel
theorem dX9_paper_11 : decode cX9_paper 11 = .ok (.ifCond .ne 6, 3) := by decide +kernel
theorem dX9_paper_14 : decode cX9_paper 14 = .ok (.bipush (-2), 2) := by decide +kernel
theorem dX9_paper_16 : decode cX9_paper 16 = .ok (.ireturn, 1) := by decide +kernel
theorem dX9_paper_17 : decode cX9_paper 17 = .ok (.aload_n 0, 1) := by decide +kernel
theorem dX9_paper_18 : decode cX9_paper 18 = .ok (.invokevirtual 187, 3) := by decide +kernel
theorem dX9_paper_21 : decode cX9_paper 21 = .ok (.iload_n 1, 1) := by decide +kernel
theorem dX9_paper_22 : decode cX9_paper 22 = .ok (.iconst (-1), 1) := by decide +kernel
theorem dX9_paper_23 : decode cX9_paper 23 = .ok (.if_icmp .ne 13, 3) := by decide +kernel
theorem dX9_paper_26 : decode cX9_paper 26 = .ok (.aload_n 0, 1) := by decide +kernel
theorem dX9_paper_27 : decode cX9_paper 27 = .ok (.getfield 35, 3) := by decide +kernel
theorem dX9_paper_30 : decode cX9_paper 30 = .ok (.getfield 190, 3) := by decide +kernel
theorem dX9_paper_33 : decode cX9_paper 33 = .ok (.goto 12, 3) := by decide +kernel
theorem dX9_paper_36 : decode cX9_paper 36 = .ok (.aload_n 0, 1) := by decide +kernel
theorem dX9_paper_37 : decode cX9_paper 37 = .ok (.getfield 35, 3) := by decide +kernel
theorem dX9_paper_40 : decode cX9_paper 40 = .ok (.getfield 193, 3) := by decide +kernel
theorem dX9_paper_43 : decode cX9_paper 43 = .ok (.iload_n 1, 1) := by decide +kernel
theorem dX9_paper_44 : decode cX9_paper 44 = .ok (.iaload, 1) := by decide +kernel
theorem dX9_paper_45 : decode cX9_paper 45 = .ok (.ireturn, 1) := by decide +kernel
theorem dX9_drawPaperLine_0 : decode cX9_drawPaperLine 0 = .ok (.aload_n 0, 1) := by decide +kernel
theorem dX9_drawPaperLine_1 : decode cX9_drawPaperLine 1 = .ok (.getfield 79, 3) := by decide +kernel
theorem dX9_drawPaperLine_4 : decode cX9_drawPaperLine 4 = .ok (.ifCond .ne 23, 3) := by decide +kernel
theorem dX9_drawPaperLine_7 : decode cX9_drawPaperLine 7 = .ok (.aload_n 0, 1) := by decide +kernel
theorem dX9_drawPaperLine_8 : decode cX9_drawPaperLine 8 = .ok (.getfield 35, 3) := by decide +kernel
theorem dX9_drawPaperLine_11 : decode cX9_drawPaperLine 11 = .ok (.aload_n 0, 1) := by decide +kernel
theorem dX9_drawPaperLine_12 : decode cX9_drawPaperLine 12 = .ok (.getfield 10, 3) := by decide +kernel
theorem dX9_drawPaperLine_15 : decode cX9_drawPaperLine 15 = .ok (.aload_n 0, 1) := by decide +kernel
theorem dX9_drawPaperLine_16 : decode cX9_drawPaperLine 16 = .ok (.getfield 72, 3) := by decide +kernel
theorem dX9_drawPaperLine_19 : decode cX9_drawPaperLine 19 = .ok (.invokevirtual 196, 3) := by decide +kernel
theorem dX9_drawPaperLine_22 : decode cX9_drawPaperLine 22 = .ok (.aload_n 0, 1) := by decide +kernel
theorem dX9_drawPaperLine_23 : decode cX9_drawPaperLine 23 = .ok (.iconst 1, 1) := by decide +kernel
theorem dX9_drawPaperLine_24 : decode cX9_drawPaperLine 24 = .ok (.putfield 79, 3) := by decide +kernel
theorem dX9_drawPaperLine_27 : decode cX9_drawPaperLine 27 = .ok (.return_, 1) := by decide +kernel
theorem dX9_straight_0 : decode cX9_straight 0 = .ok (.iload_n 1, 1) := by decide +kernel
theorem dX9_straight_1 : decode cX9_straight 1 = .ok (.bipush 80, 2) := by decide +kernel
theorem dX9_straight_3 : decode cX9_straight 3 = .ok (.invokestatic 83, 3) := by decide +kernel
theorem dX9_straight_6 : decode cX9_straight 6 = .ok (.ifCond .ne 5, 3) := by decide +kernel
theorem dX9_straight_9 : decode cX9_straight 9 = .ok (.iconst (-1), 1) := by decide +kernel
theorem dX9_straight_10 : decode cX9_straight 10 = .ok (.ireturn, 1) := by decide +kernel
theorem dX9_straight_11 : decode cX9_straight 11 = .ok (.iconst 0, 1) := by decide +kernel
theorem dX9_straight_12 : decode cX9_straight 12 = .ok (.istore_n 2, 1) := by decide +kernel
theorem dX9_straight_13 : decode cX9_straight 13 = .ok (.iconst 0, 1) := by decide +kernel
theorem dX9_straight_14 : decode cX9_straight 14 = .ok (.istore_n 3, 1) := by decide +kernel
theorem dX9_straight_15 : decode cX9_straight 15 = .ok (.iload_n 3, 1) := by decide +kernel
theorem dX9_straight_16 : decode cX9_straight 16 = .ok (.aload_n 0, 1) := by decide +kernel
theorem dX9_straight_17 : decode cX9_straight 17 = .ok (.getfield 10, 3) := by decide +kernel
theorem dX9_straight_20 : decode cX9_straight 20 = .ok (.invokevirtual 91, 3) := by decide +kernel
theorem dX9_straight_23 : decode cX9_straight 23 = .ok (.if_icmp .ge 89, 3) := by decide +kernel
theorem dX9_straight_26 : decode cX9_straight 26 = .ok (.aload_n 0, 1) := by decide +kernel
theorem dX9_straight_27 : decode cX9_straight 27 = .ok (.getfield 10, 3) := by decide +kernel
theorem dX9_straight_30 : decode cX9_straight 30 = .ok (.iload_n 3, 1) := by decide +kernel
theorem dX9_straight_31 : decode cX9_straight 31 = .ok (.invokevirtual 153, 3) := by decide +kernel
theorem dX9_straight_34 : decode cX9_straight 34 = .ok (.checkcast 95, 3) := by decide +kernel
theorem dX9_straight_37 : decode cX9_straight 37 = .ok (.astore 4, 2) := by decide +kernel
theorem dX9_straight_39 : decode cX9_straight 39 = .ok (.aload_n 0, 1) := by decide +kernel
theorem dX9_straight_40 : decode cX9_straight 40 = .ok (.aload 4, 2) := by decide +kernel
theorem dX9_straight_42 : decode cX9_straight 42 = .ok (.invokevirtual 173, 3) := by decide +kernel
theorem dX9_straight_45 : decode cX9_straight 45 = .ok (.invokestatic 200, 3) := by decide +kernel
theorem dX9_straight_48 : decode cX9_straight 48 = .ok (.istore 5, 2) := by decide +kernel
theorem dX9_straight_50 : decode cX9_straight 50 = .ok (.iload_n 1, 1) := by decide +kernel
theorem dX9_straight_51 : decode cX9_straight 51 = .ok (.aload 4, 2) := by decide +kernel
theorem dX9_straight_53 : decode cX9_straight 53 = .ok (.aload 4, 2) := by decide +kernel
theorem dX9_straight_55 : decode cX9_straight 55 = .ok (.getfield 160, 3) := by decide +kernel
theorem dX9_straight_58 : decode cX9_straight 58 = .ok (.aload_n 0, 1) := by decide +kernel
theorem dX9_straight_59 : decode cX9_straight 59 = .ok (.getfield 72, 3) := by decide +kernel
theorem dX9_straight_62 : decode cX9_straight 62 = .ok (.invokevirtual 163, 3) := by decide +kernel
theorem dX9_straight_65 : decode cX9_straight 65 = .ok (.aload 4, 2) := by decide +kernel
theorem dX9_straight_67 : decode cX9_straight 67 = .ok (.aload 4, 2) := by decide +kernel
theorem dX9_straight_69 : decode cX9_straight 69 = .ok (.getfield 167, 3) := by decide +kernel
theorem dX9_straight_72 : decode cX9_straight 72 = .ok (.aload_n 0, 1) := by decide +kernel
theorem dX9_straight_73 : decode cX9_straight 73 = .ok (.getfield 72, 3) := by decide +kernel
theorem dX9_straight_76 : decode cX9_straight 76 = .ok (.invokevirtual 163, 3) := by decide +kernel
theorem dX9_straight_79 : decode cX9_straight 79 = .ok (.invokestatic 205, 3) := by decide +kernel
theorem dX9_straight_82 : decode cX9_straight 82 = .ok (.istore 6, 2) := by decide +kernel
theorem dX9_straight_84 : decode cX9_straight 84 = .ok (.iload_n 2, 1) := by decide +kernel
theorem dX9_straight_85 : decode cX9_straight 85 = .ok (.iload 5, 2) := by decide +kernel
theorem dX9_straight_87 : decode cX9_straight 87 = .ok (.aload_n 0, 1) := by decide +kernel
theorem dX9_straight_88 : decode cX9_straight 88 = .ok (.getfield 72, 3) := by decide +kernel
theorem dX9_straight_91 : decode cX9_straight 91 = .ok (.getfield 145, 3) := by decide +kernel
theorem dX9_straight_94 : decode cX9_straight 94 = .ok (.aload 4, 2) := by decide +kernel
theorem dX9_straight_96 : decode cX9_straight 96 = .ok (.getfield 157, 3) := by decide +kernel
theorem dX9_straight_99 : decode cX9_straight 99 = .ok (.iaload, 1) := by decide +kernel
theorem dX9_straight_100 : decode cX9_straight 100 = .ok (.imul, 1) := by decide +kernel
theorem dX9_straight_101 : decode cX9_straight 101 = .ok (.iload 6, 2) := by decide +kernel
theorem dX9_straight_103 : decode cX9_straight 103 = .ok (.imul, 1) := by decide +kernel
theorem dX9_straight_104 : decode cX9_straight 104 = .ok (.iadd, 1) := by decide +kernel
theorem dX9_straight_105 : decode cX9_straight 105 = .ok (.istore_n 2, 1) := by decide +kernel
theorem dX9_straight_106 : decode cX9_straight 106 = .ok (.iinc 3 1, 3) := by decide +kernel
theorem dX9_straight_109 : decode cX9_straight 109 = .ok (.goto (-94), 3) := by decide +kernel
theorem dX9_straight_112 : decode cX9_straight 112 = .ok (.iload_n 2, 1) := by decide +kernel
theorem dX9_straight_113 : decode cX9_straight 113 = .ok (.ireturn, 1) := by decide +kernel
theorem dX9_mow_0 : decode cX9_mow 0 = .ok (.iload_n 1, 1) := by decide +kernel
theorem dX9_mow_1 : decode cX9_mow 1 = .ok (.iconst 2, 1) := by decide +kernel
theorem dX9_mow_2 : decode cX9_mow 2 = .ok (.invokestatic 83, 3) := by decide +kernel
theorem dX9_mow_5 : decode cX9_mow 5 = .ok (.ifCond .eq 38, 3) := by decide +kernel
theorem dX9_mow_8 : decode cX9_mow 8 = .ok (.iload_n 2, 1) := by decide +kernel
theorem dX9_mow_9 : decode cX9_mow 9 = .ok (.iload_n 3, 1) := by decide +kernel
theorem dX9_mow_10 : decode cX9_mow 10 = .ok (.bipush 10, 2) := by decide +kernel
theorem dX9_mow_12 : decode cX9_mow 12 = .ok (.invokestatic 87, 3) := by decide +kernel
theorem dX9_mow_15 : decode cX9_mow 15 = .ok (.ifCond .eq 28, 3) := by decide +kernel
theorem dX9_mow_18 : decode cX9_mow 18 = .ok (.iload 4, 2) := by decide +kernel
theorem dX9_mow_20 : decode cX9_mow 20 = .ok (.bipush 80, 2) := by decide +kernel
theorem dX9_mow_22 : decode cX9_mow 22 = .ok (.invokestatic 83, 3) := by decide +kernel
theorem dX9_mow_25 : decode cX9_mow 25 = .ok (.ifCond .eq 18, 3) := by decide +kernel
theorem dX9_mow_28 : decode cX9_mow 28 = .ok (.iload 5, 2) := by decide +kernel
theorem dX9_mow_30 : decode cX9_mow 30 = .ok (.sipush 1000, 3) := by decide +kernel
theorem dX9_mow_33 : decode cX9_mow 33 = .ok (.invokestatic 83, 3) := by decide +kernel
theorem dX9_mow_36 : decode cX9_mow 36 = .ok (.ifCond .eq 7, 3) := by decide +kernel
theorem dX9_mow_39 : decode cX9_mow 39 = .ok (.iconst 1, 1) := by decide +kernel
theorem dX9_mow_40 : decode cX9_mow 40 = .ok (.goto 4, 3) := by decide +kernel
theorem dX9_mow_43 : decode cX9_mow 43 = .ok (.iconst 0, 1) := by decide +kernel
theorem dX9_mow_44 : decode cX9_mow 44 = .ok (.istore 6, 2) := by decide +kernel
theorem dX9_mow_46 : decode cX9_mow 46 = .ok (.iload 6, 2) := by decide +kernel
theorem dX9_mow_48 : decode cX9_mow 48 = .ok (.ifCond .eq 24, 3) := by decide +kernel
theorem dX9_mow_51 : decode cX9_mow 51 = .ok (.aload_n 0, 1) := by decide +kernel
theorem dX9_mow_52 : decode cX9_mow 52 = .ok (.getfield 42, 3) := by decide +kernel
theorem dX9_mow_55 : decode cX9_mow 55 = .ok (.iload_n 1, 1) := by decide +kernel
theorem dX9_mow_56 : decode cX9_mow 56 = .ok (.iload_n 2, 1) := by decide +kernel
theorem dX9_mow_57 : decode cX9_mow 57 = .ok (.iload_n 3, 1) := by decide +kernel
theorem dX9_mow_58 : decode cX9_mow 58 = .ok (.iload 4, 2) := by decide +kernel
theorem dX9_mow_60 : decode cX9_mow 60 = .ok (.iload 5, 2) := by decide +kernel
theorem dX9_mow_62 : decode cX9_mow 62 = .ok (.invokevirtual 209, 3) := by decide +kernel
theorem dX9_mow_65 : decode cX9_mow 65 = .ok (.ifCond .eq 7, 3) := by decide +kernel
theorem dX9_mow_68 : decode cX9_mow 68 = .ok (.iconst 1, 1) := by decide +kernel
theorem dX9_mow_69 : decode cX9_mow 69 = .ok (.goto 4, 3) := by decide +kernel
theorem dX9_mow_72 : decode cX9_mow 72 = .ok (.iconst 0, 1) := by decide +kernel
theorem dX9_mow_73 : decode cX9_mow 73 = .ok (.ireturn, 1) := by decide +kernel
theorem dX9_protest_0 : decode cX9_protest 0 = .ok (.iload_n 1, 1) := by decide +kernel
theorem dX9_protest_1 : decode cX9_protest 1 = .ok (.bipush 10, 2) := by decide +kernel
theorem dX9_protest_3 : decode cX9_protest 3 = .ok (.invokestatic 83, 3) := by decide +kernel
theorem dX9_protest_6 : decode cX9_protest 6 = .ok (.ifCond .eq 29, 3) := by decide +kernel
theorem dX9_protest_9 : decode cX9_protest 9 = .ok (.iload_n 2, 1) := by decide +kernel
theorem dX9_protest_10 : decode cX9_protest 10 = .ok (.sipush 1000, 3) := by decide +kernel
theorem dX9_protest_13 : decode cX9_protest 13 = .ok (.invokestatic 83, 3) := by decide +kernel
theorem dX9_protest_16 : decode cX9_protest 16 = .ok (.ifCond .eq 19, 3) := by decide +kernel
theorem dX9_protest_19 : decode cX9_protest 19 = .ok (.aload_n 0, 1) := by decide +kernel
theorem dX9_protest_20 : decode cX9_protest 20 = .ok (.getfield 49, 3) := by decide +kernel
theorem dX9_protest_23 : decode cX9_protest 23 = .ok (.iload_n 1, 1) := by decide +kernel
theorem dX9_protest_24 : decode cX9_protest 24 = .ok (.iload_n 2, 1) := by decide +kernel
theorem dX9_protest_25 : decode cX9_protest 25 = .ok (.invokevirtual 213, 3) := by decide +kernel
theorem dX9_protest_28 : decode cX9_protest 28 = .ok (.ifCond .eq 7, 3) := by decide +kernel
theorem dX9_protest_31 : decode cX9_protest 31 = .ok (.iconst 1, 1) := by decide +kernel
theorem dX9_protest_32 : decode cX9_protest 32 = .ok (.goto 4, 3) := by decide +kernel
theorem dX9_protest_35 : decode cX9_protest 35 = .ok (.iconst 0, 1) := by decide +kernel
theorem dX9_protest_36 : decode cX9_protest 36 = .ok (.ireturn, 1) := by decide +kernel
theorem dX9_mowed_0 : decode cX9_mowed 0 = .ok (.iload_n 1, 1) := by decide +kernel
theorem dX9_mowed_1 : decode cX9_mowed 1 = .ok (.iconst 2, 1) := by decide +kernel
theorem dX9_mowed_2 : decode cX9_mowed 2 = .ok (.invokestatic 83, 3) := by decide +kernel
theorem dX9_mowed_5 : decode cX9_mowed 5 = .ok (.ifCond .eq 26, 3) := by decide +kernel
theorem dX9_mowed_8 : decode cX9_mowed 8 = .ok (.iload_n 2, 1) := by decide +kernel
theorem dX9_mowed_9 : decode cX9_mowed 9 = .ok (.bipush 10, 2) := by decide +kernel
theorem dX9_mowed_11 : decode cX9_mowed 11 = .ok (.invokestatic 83, 3) := by decide +kernel
theorem dX9_mowed_14 : decode cX9_mowed 14 = .ok (.ifCond .eq 17, 3) := by decide +kernel
theorem dX9_mowed_17 : decode cX9_mowed 17 = .ok (.iload_n 3, 1) := by decide +kernel
theorem dX9_mowed_18 : decode cX9_mowed 18 = .ok (.sipush 1000, 3) := by decide +kernel
theorem dX9_mowed_21 : decode cX9_mowed 21 = .ok (.invokestatic 83, 3) := by decide +kernel
theorem dX9_mowed_24 : decode cX9_mowed 24 = .ok (.ifCond .eq 7, 3) := by decide +kernel
theorem dX9_mowed_27 : decode cX9_mowed 27 = .ok (.iconst 1, 1) := by decide +kernel
theorem dX9_mowed_28 : decode cX9_mowed 28 = .ok (.goto 4, 3) := by decide +kernel
theorem dX9_mowed_31 : decode cX9_mowed 31 = .ok (.iconst 0, 1) := by decide +kernel
theorem dX9_mowed_32 : decode cX9_mowed 32 = .ok (.istore 4, 2) := by decide +kernel
theorem dX9_mowed_34 : decode cX9_mowed 34 = .ok (.iload 4, 2) := by decide +kernel
theorem dX9_mowed_36 : decode cX9_mowed 36 = .ok (.ifCond .eq 16, 3) := by decide +kernel
theorem dX9_mowed_39 : decode cX9_mowed 39 = .ok (.aload_n 0, 1) := by decide +kernel
theorem dX9_mowed_40 : decode cX9_mowed 40 = .ok (.getfield 42, 3) := by decide +kernel
theorem dX9_mowed_43 : decode cX9_mowed 43 = .ok (.iload_n 1, 1) := by decide +kernel
theorem dX9_mowed_44 : decode cX9_mowed 44 = .ok (.iload_n 2, 1) := by decide +kernel
theorem dX9_mowed_45 : decode cX9_mowed 45 = .ok (.iload_n 3, 1) := by decide +kernel
theorem dX9_mowed_46 : decode cX9_mowed 46 = .ok (.invokevirtual 215, 3) := by decide +kernel
theorem dX9_mowed_49 : decode cX9_mowed 49 = .ok (.goto 4, 3) := by decide +kernel
theorem dX9_mowed_52 : decode cX9_mowed 52 = .ok (.iconst (-1), 1) := by decide +kernel
theorem dX9_mowed_53 : decode cX9_mowed 53 = .ok (.ireturn, 1) := by decide +kernel
theorem dX9_spells_0 : decode cX9_spells 0 = .ok (.iload_n 1, 1) := by decide +kernel
theorem dX9_spells_1 : decode cX9_spells 1 = .ok (.bipush 10, 2) := by decide +kernel
theorem dX9_spells_3 : decode cX9_spells 3 = .ok (.invokestatic 83, 3) := by decide +kernel
theorem dX9_spells_6 : decode cX9_spells 6 = .ok (.ifCond .eq 11, 3) := by decide +kernel
theorem dX9_spells_9 : decode cX9_spells 9 = .ok (.iload_n 2, 1) := by decide +kernel
theorem dX9_spells_10 : decode cX9_spells 10 = .ok (.iconst 3, 1) := by decide +kernel
theorem dX9_spells_11 : decode cX9_spells 11 = .ok (.invokestatic 83, 3) := by decide +kernel
theorem dX9_spells_14 : decode cX9_spells 14 = .ok (.ifCond .ne 5, 3) := by decide +kernel
theorem dX9_spells_17 : decode cX9_spells 17 = .ok (.iconst (-1), 1) := by decide +kernel
theorem dX9_spells_18 : decode cX9_spells 18 = .ok (.ireturn, 1) := by decide +kernel
theorem dX9_spells_19 : decode cX9_spells 19 = .ok (.aload_n 0, 1) := by decide +kernel
theorem dX9_spells_20 : decode cX9_spells 20 = .ok (.iload_n 1, 1) := by decide +kernel
theorem dX9_spells_21 : decode cX9_spells 21 = .ok (.invokevirtual 218, 3) := by decide +kernel
theorem dX9_spells_24 : decode cX9_spells 24 = .ok (.iload_n 2, 1) := by decide +kernel
theorem dX9_spells_25 : decode cX9_spells 25 = .ok (.iconst 2, 1) := by decide +kernel
theorem dX9_spells_26 : decode cX9_spells 26 = .ok (.if_icmp .ge 15, 3) := by decide +kernel
theorem dX9_spells_29 : decode cX9_spells 29 = .ok (.aload_n 0, 1) := by decide +kernel
theorem dX9_spells_30 : decode cX9_spells 30 = .ok (.getfield 58, 3) := by decide +kernel
theorem dX9_spells_33 : decode cX9_spells 33 = .ok (.getfield 221, 3) := by decide +kernel
theorem dX9_spells_36 : decode cX9_spells 36 = .ok (.iload_n 2, 1) := by decide +kernel
theorem dX9_spells_37 : decode cX9_spells 37 = .ok (.iaload, 1) := by decide +kernel
theorem dX9_spells_38 : decode cX9_spells 38 = .ok (.goto 10, 3) := by decide +kernel
theorem dX9_spells_41 : decode cX9_spells 41 = .ok (.aload_n 0, 1) := by decide +kernel
theorem dX9_spells_42 : decode cX9_spells 42 = .ok (.getfield 58, 3) := by decide +kernel
theorem dX9_spells_45 : decode cX9_spells 45 = .ok (.getfield 224, 3) := by decide +kernel
theorem dX9_spells_48 : decode cX9_spells 48 = .ok (.ireturn, 1) := by decide +kernel
theorem dX9_line_0 : decode cX9_line 0 = .ok (.iload_n 1, 1) := by decide +kernel
theorem dX9_line_1 : decode cX9_line 1 = .ok (.bipush 10, 2) := by decide +kernel
theorem dX9_line_3 : decode cX9_line 3 = .ok (.invokestatic 83, 3) := by decide +kernel
theorem dX9_line_6 : decode cX9_line 6 = .ok (.ifCond .ne 5, 3) := by decide +kernel
theorem dX9_line_9 : decode cX9_line 9 = .ok (.iconst (-1), 1) := by decide +kernel
theorem dX9_line_10 : decode cX9_line 10 = .ok (.ireturn, 1) := by decide +kernel
theorem dX9_line_11 : decode cX9_line 11 = .ok (.aload_n 0, 1) := by decide +kernel
theorem dX9_line_12 : decode cX9_line 12 = .ok (.iload_n 1, 1) := by decide +kernel
theorem dX9_line_13 : decode cX9_line 13 = .ok (.invokevirtual 218, 3) := by decide +kernel
theorem dX9_line_16 : decode cX9_line 16 = .ok (.aload_n 0, 1) := by decide +kernel
theorem dX9_line_17 : decode cX9_line 17 = .ok (.getfield 58, 3) := by decide +kernel
theorem dX9_line_20 : decode cX9_line 20 = .ok (.getfield 227, 3) := by decide +kernel
theorem dX9_line_23 : decode cX9_line 23 = .ok (.ireturn, 1) := by decide +kernel
theorem dX9_drawTrueLine_0 : decode cX9_drawTrueLine 0 = .ok (.aload_n 0, 1) := by decide +kernel
theorem dX9_drawTrueLine_1 : decode cX9_drawTrueLine 1 = .ok (.invokevirtual 187, 3) := by decide +kernel
theorem dX9_drawTrueLine_4 : decode cX9_drawTrueLine 4 = .ok (.aload_n 0, 1) := by decide +kernel
theorem dX9_drawTrueLine_5 : decode cX9_drawTrueLine 5 = .ok (.getfield 58, 3) := by decide +kernel
theorem dX9_drawTrueLine_8 : decode cX9_drawTrueLine 8 = .ok (.iload_n 1, 1) := by decide +kernel
theorem dX9_drawTrueLine_9 : decode cX9_drawTrueLine 9 = .ok (.aload_n 0, 1) := by decide +kernel
theorem dX9_drawTrueLine_10 : decode cX9_drawTrueLine 10 = .ok (.getfield 35, 3) := by decide +kernel
theorem dX9_drawTrueLine_13 : decode cX9_drawTrueLine 13 = .ok (.getfield 193, 3) := by decide +kernel
theorem dX9_drawTrueLine_16 : decode cX9_drawTrueLine 16 = .ok (.iload_n 1, 1) := by decide +kernel
theorem dX9_drawTrueLine_17 : decode cX9_drawTrueLine 17 = .ok (.iaload, 1) := by decide +kernel
theorem dX9_drawTrueLine_18 : decode cX9_drawTrueLine 18 = .ok (.aload_n 0, 1) := by decide +kernel
theorem dX9_drawTrueLine_19 : decode cX9_drawTrueLine 19 = .ok (.getfield 72, 3) := by decide +kernel
theorem dX9_drawTrueLine_22 : decode cX9_drawTrueLine 22 = .ok (.getfield 132, 3) := by decide +kernel
theorem dX9_drawTrueLine_25 : decode cX9_drawTrueLine 25 = .ok (.invokevirtual 230, 3) := by decide +kernel
theorem dX9_drawTrueLine_28 : decode cX9_drawTrueLine 28 = .ok (.return_, 1) := by decide +kernel
theorem dX9_quarrel_0 : decode cX9_quarrel 0 = .ok (.iload_n 1, 1) := by decide +kernel
theorem dX9_quarrel_1 : decode cX9_quarrel 1 = .ok (.bipush 80, 2) := by decide +kernel
theorem dX9_quarrel_3 : decode cX9_quarrel 3 = .ok (.invokestatic 83, 3) := by decide +kernel
theorem dX9_quarrel_6 : decode cX9_quarrel 6 = .ok (.ifCond .eq 44, 3) := by decide +kernel
theorem dX9_quarrel_9 : decode cX9_quarrel 9 = .ok (.iload_n 2, 1) := by decide +kernel
theorem dX9_quarrel_10 : decode cX9_quarrel 10 = .ok (.bipush 80, 2) := by decide +kernel
theorem dX9_quarrel_12 : decode cX9_quarrel 12 = .ok (.invokestatic 83, 3) := by decide +kernel
theorem dX9_quarrel_15 : decode cX9_quarrel 15 = .ok (.ifCond .eq 35, 3) := by decide +kernel
theorem dX9_quarrel_18 : decode cX9_quarrel 18 = .ok (.iload_n 1, 1) := by decide +kernel
theorem dX9_quarrel_19 : decode cX9_quarrel 19 = .ok (.iload_n 2, 1) := by decide +kernel
theorem dX9_quarrel_20 : decode cX9_quarrel 20 = .ok (.if_icmp .le 30, 3) := by decide +kernel
theorem dX9_quarrel_23 : decode cX9_quarrel 23 = .ok (.iload_n 3, 1) := by decide +kernel
theorem dX9_quarrel_24 : decode cX9_quarrel 24 = .ok (.iload 5, 2) := by decide +kernel
theorem dX9_quarrel_26 : decode cX9_quarrel 26 = .ok (.iload 7, 2) := by decide +kernel
theorem dX9_quarrel_28 : decode cX9_quarrel 28 = .ok (.invokestatic 233, 3) := by decide +kernel
theorem dX9_quarrel_31 : decode cX9_quarrel 31 = .ok (.ifCond .eq 19, 3) := by decide +kernel
theorem dX9_quarrel_34 : decode cX9_quarrel 34 = .ok (.iload 4, 2) := by decide +kernel
theorem dX9_quarrel_36 : decode cX9_quarrel 36 = .ok (.iload 6, 2) := by decide +kernel
theorem dX9_quarrel_38 : decode cX9_quarrel 38 = .ok (.iload 8, 2) := by decide +kernel
theorem dX9_quarrel_40 : decode cX9_quarrel 40 = .ok (.invokestatic 233, 3) := by decide +kernel
theorem dX9_quarrel_43 : decode cX9_quarrel 43 = .ok (.ifCond .eq 7, 3) := by decide +kernel
theorem dX9_quarrel_46 : decode cX9_quarrel 46 = .ok (.iconst 1, 1) := by decide +kernel
theorem dX9_quarrel_47 : decode cX9_quarrel 47 = .ok (.goto 4, 3) := by decide +kernel
theorem dX9_quarrel_50 : decode cX9_quarrel 50 = .ok (.iconst 0, 1) := by decide +kernel
theorem dX9_quarrel_51 : decode cX9_quarrel 51 = .ok (.istore 9, 2) := by decide +kernel
theorem dX9_quarrel_53 : decode cX9_quarrel 53 = .ok (.iload 9, 2) := by decide +kernel
theorem dX9_quarrel_55 : decode cX9_quarrel 55 = .ok (.ifCond .ne 5, 3) := by decide +kernel
theorem dX9_quarrel_58 : decode cX9_quarrel 58 = .ok (.iconst 0, 1) := by decide +kernel
theorem dX9_quarrel_59 : decode cX9_quarrel 59 = .ok (.ireturn, 1) := by decide +kernel
theorem dX9_quarrel_60 : decode cX9_quarrel 60 = .ok (.aload_n 0, 1) := by decide +kernel
theorem dX9_quarrel_61 : decode cX9_quarrel 61 = .ok (.getfield 65, 3) := by decide +kernel
theorem dX9_quarrel_64 : decode cX9_quarrel 64 = .ok (.iload_n 1, 1) := by decide +kernel
theorem dX9_quarrel_65 : decode cX9_quarrel 65 = .ok (.iload_n 2, 1) := by decide +kernel
theorem dX9_quarrel_66 : decode cX9_quarrel 66 = .ok (.invokevirtual 236, 3) := by decide +kernel
theorem dX9_quarrel_69 : decode cX9_quarrel 69 = .ok (.aload_n 0, 1) := by decide +kernel
theorem dX9_quarrel_70 : decode cX9_quarrel 70 = .ok (.getfield 65, 3) := by decide +kernel
theorem dX9_quarrel_73 : decode cX9_quarrel 73 = .ok (.iconst 0, 1) := by decide +kernel
theorem dX9_quarrel_74 : decode cX9_quarrel 74 = .ok (.iload_n 3, 1) := by decide +kernel
theorem dX9_quarrel_75 : decode cX9_quarrel 75 = .ok (.iload 5, 2) := by decide +kernel
theorem dX9_quarrel_77 : decode cX9_quarrel 77 = .ok (.iload 7, 2) := by decide +kernel
theorem dX9_quarrel_79 : decode cX9_quarrel 79 = .ok (.invokevirtual 240, 3) := by decide +kernel
theorem dX9_quarrel_82 : decode cX9_quarrel 82 = .ok (.aload_n 0, 1) := by decide +kernel
theorem dX9_quarrel_83 : decode cX9_quarrel 83 = .ok (.getfield 65, 3) := by decide +kernel
theorem dX9_quarrel_86 : decode cX9_quarrel 86 = .ok (.iconst 1, 1) := by decide +kernel
theorem dX9_quarrel_87 : decode cX9_quarrel 87 = .ok (.iload 4, 2) := by decide +kernel
theorem dX9_quarrel_89 : decode cX9_quarrel 89 = .ok (.iload 6, 2) := by decide +kernel
theorem dX9_quarrel_91 : decode cX9_quarrel 91 = .ok (.iload 8, 2) := by decide +kernel
theorem dX9_quarrel_93 : decode cX9_quarrel 93 = .ok (.invokevirtual 240, 3) := by decide +kernel
theorem dX9_quarrel_96 : decode cX9_quarrel 96 = .ok (.aload_n 0, 1) := by decide +kernel
theorem dX9_quarrel_97 : decode cX9_quarrel 97 = .ok (.getfield 65, 3) := by decide +kernel
theorem dX9_quarrel_100 : decode cX9_quarrel 100 = .ok (.invokevirtual 244, 3) := by decide +kernel
theorem dX9_quarrel_103 : decode cX9_quarrel 103 = .ok (.iconst 1, 1) := by decide +kernel
theorem dX9_quarrel_104 : decode cX9_quarrel 104 = .ok (.ireturn, 1) := by decide +kernel
theorem dX9_split_0 : decode cX9_split 0 = .ok (.aload_n 0, 1) := by decide +kernel
theorem dX9_split_1 : decode cX9_split 1 = .ok (.getfield 65, 3) := by decide +kernel
theorem dX9_split_4 : decode cX9_split 4 = .ok (.getfield 247, 3) := by decide +kernel
theorem dX9_split_7 : decode cX9_split 7 = .ok (.ifCond .ne 5, 3) := by decide +kernel
theorem dX9_split_10 : decode cX9_split 10 = .ok (.iconst (-1), 1) := by decide +kernel
theorem dX9_split_11 : decode cX9_split 11 = .ok (.ireturn, 1) := by decide +kernel
theorem dX9_split_12 : decode cX9_split 12 = .ok (.iload_n 1, 1) := by decide +kernel
theorem dX9_split_13 : decode cX9_split 13 = .ok (.tableswitch 63 0 3 #[31, 39, 47, 55], 31) := by decide +kernel
theorem dX9_split_44 : decode cX9_split 44 = .ok (.aload_n 0, 1) := by decide +kernel
theorem dX9_split_45 : decode cX9_split 45 = .ok (.getfield 65, 3) := by decide +kernel
theorem dX9_split_48 : decode cX9_split 48 = .ok (.getfield 250, 3) := by decide +kernel
theorem dX9_split_51 : decode cX9_split 51 = .ok (.ireturn, 1) := by decide +kernel
theorem dX9_split_52 : decode cX9_split 52 = .ok (.aload_n 0, 1) := by decide +kernel
theorem dX9_split_53 : decode cX9_split 53 = .ok (.getfield 65, 3) := by decide +kernel
theorem dX9_split_56 : decode cX9_split 56 = .ok (.getfield 253, 3) := by decide +kernel
theorem dX9_split_59 : decode cX9_split 59 = .ok (.ireturn, 1) := by decide +kernel
theorem dX9_split_60 : decode cX9_split 60 = .ok (.aload_n 0, 1) := by decide +kernel
theorem dX9_split_61 : decode cX9_split 61 = .ok (.getfield 65, 3) := by decide +kernel
theorem dX9_split_64 : decode cX9_split 64 = .ok (.getfield 256, 3) := by decide +kernel
theorem dX9_split_67 : decode cX9_split 67 = .ok (.ireturn, 1) := by decide +kernel
theorem dX9_split_68 : decode cX9_split 68 = .ok (.aload_n 0, 1) := by decide +kernel
theorem dX9_split_69 : decode cX9_split 69 = .ok (.getfield 65, 3) := by decide +kernel
theorem dX9_split_72 : decode cX9_split 72 = .ok (.getfield 259, 3) := by decide +kernel
theorem dX9_split_75 : decode cX9_split 75 = .ok (.ireturn, 1) := by decide +kernel
theorem dX9_split_76 : decode cX9_split 76 = .ok (.iconst (-1), 1) := by decide +kernel
theorem dX9_split_77 : decode cX9_split 77 = .ok (.ireturn, 1) := by decide +kernel
theorem dX9_below_0 : decode cX9_below 0 = .ok (.iload_n 0, 1) := by decide +kernel
theorem dX9_below_1 : decode cX9_below 1 = .ok (.ifCond .lt 12, 3) := by decide +kernel
theorem dX9_below_4 : decode cX9_below 4 = .ok (.iload_n 0, 1) := by decide +kernel
theorem dX9_below_5 : decode cX9_below 5 = .ok (.iload_n 1, 1) := by decide +kernel
theorem dX9_below_6 : decode cX9_below 6 = .ok (.if_icmp .ge 7, 3) := by decide +kernel
theorem dX9_below_9 : decode cX9_below 9 = .ok (.iconst 1, 1) := by decide +kernel
theorem dX9_below_10 : decode cX9_below 10 = .ok (.goto 4, 3) := by decide +kernel
theorem dX9_below_13 : decode cX9_below 13 = .ok (.iconst 0, 1) := by decide +kernel
theorem dX9_below_14 : decode cX9_below 14 = .ok (.ireturn, 1) := by decide +kernel
theorem dX9_isStretch_0 : decode cX9_isStretch 0 = .ok (.iload_n 0, 1) := by decide +kernel
theorem dX9_isStretch_1 : decode cX9_isStretch 1 = .ok (.ifCond .lt 17, 3) := by decide +kernel
theorem dX9_isStretch_4 : decode cX9_isStretch 4 = .ok (.iload_n 0, 1) := by decide +kernel
theorem dX9_isStretch_5 : decode cX9_isStretch 5 = .ok (.iload_n 1, 1) := by decide +kernel
theorem dX9_isStretch_6 : decode cX9_isStretch 6 = .ok (.if_icmp .gt 12, 3) := by decide +kernel
theorem dX9_isStretch_9 : decode cX9_isStretch 9 = .ok (.iload_n 1, 1) := by decide +kernel
theorem dX9_isStretch_10 : decode cX9_isStretch 10 = .ok (.iload_n 2, 1) := by decide +kernel
theorem dX9_isStretch_11 : decode cX9_isStretch 11 = .ok (.if_icmp .ge 7, 3) := by decide +kernel
theorem dX9_isStretch_14 : decode cX9_isStretch 14 = .ok (.iconst 1, 1) := by decide +kernel
theorem dX9_isStretch_15 : decode cX9_isStretch 15 = .ok (.goto 4, 3) := by decide +kernel
theorem dX9_isStretch_18 : decode cX9_isStretch 18 = .ok (.iconst 0, 1) := by decide +kernel
theorem dX9_isStretch_19 : decode cX9_isStretch 19 = .ok (.ireturn, 1) := by decide +kernel
theorem dX9_missOf_0 : decode cX9_missOf 0 = .ok (.iconst 0, 1) := by decide +kernel
theorem dX9_missOf_1 : decode cX9_missOf 1 = .ok (.iload_n 1, 1) := by decide +kernel
theorem dX9_missOf_2 : decode cX9_missOf 2 = .ok (.iload_n 0, 1) := by decide +kernel
theorem dX9_missOf_3 : decode cX9_missOf 3 = .ok (.isub, 1) := by decide +kernel
theorem dX9_missOf_4 : decode cX9_missOf 4 = .ok (.iload_n 0, 1) := by decide +kernel
theorem dX9_missOf_5 : decode cX9_missOf 5 = .ok (.iload_n 2, 1) := by decide +kernel
theorem dX9_missOf_6 : decode cX9_missOf 6 = .ok (.isub, 1) := by decide +kernel
theorem dX9_missOf_7 : decode cX9_missOf 7 = .ok (.invokestatic 262, 3) := by decide +kernel
theorem dX9_missOf_10 : decode cX9_missOf 10 = .ok (.invokestatic 262, 3) := by decide +kernel
theorem dX9_missOf_13 : decode cX9_missOf 13 = .ok (.ireturn, 1) := by decide +kernel
theorem dJ6_bitCount_0f7a4_0 : decode cJ6_bitCount_0f7a4 0 = .ok (.iload_n 0, 1) := by decide +kernel
theorem dJ6_bitCount_0f7a4_1 : decode cJ6_bitCount_0f7a4 1 = .ok (.iload_n 0, 1) := by decide +kernel
theorem dJ6_bitCount_0f7a4_2 : decode cJ6_bitCount_0f7a4 2 = .ok (.iconst 1, 1) := by decide +kernel
theorem dJ6_bitCount_0f7a4_3 : decode cJ6_bitCount_0f7a4 3 = .ok (.iushr, 1) := by decide +kernel
theorem dJ6_bitCount_0f7a4_4 : decode cJ6_bitCount_0f7a4 4 = .ok (.ldc_w 265, 3) := by decide +kernel
theorem dJ6_bitCount_0f7a4_7 : decode cJ6_bitCount_0f7a4 7 = .ok (.iand, 1) := by decide +kernel
theorem dJ6_bitCount_0f7a4_8 : decode cJ6_bitCount_0f7a4 8 = .ok (.isub, 1) := by decide +kernel
theorem dJ6_bitCount_0f7a4_9 : decode cJ6_bitCount_0f7a4 9 = .ok (.istore_n 0, 1) := by decide +kernel
theorem dJ6_bitCount_0f7a4_10 : decode cJ6_bitCount_0f7a4 10 = .ok (.iload_n 0, 1) := by decide +kernel
theorem dJ6_bitCount_0f7a4_11 : decode cJ6_bitCount_0f7a4 11 = .ok (.ldc_w 266, 3) := by decide +kernel
theorem dJ6_bitCount_0f7a4_14 : decode cJ6_bitCount_0f7a4 14 = .ok (.iand, 1) := by decide +kernel
theorem dJ6_bitCount_0f7a4_15 : decode cJ6_bitCount_0f7a4 15 = .ok (.iload_n 0, 1) := by decide +kernel
theorem dJ6_bitCount_0f7a4_16 : decode cJ6_bitCount_0f7a4 16 = .ok (.iconst 2, 1) := by decide +kernel
theorem dJ6_bitCount_0f7a4_17 : decode cJ6_bitCount_0f7a4 17 = .ok (.iushr, 1) := by decide +kernel
theorem dJ6_bitCount_0f7a4_18 : decode cJ6_bitCount_0f7a4 18 = .ok (.ldc_w 266, 3) := by decide +kernel
theorem dJ6_bitCount_0f7a4_21 : decode cJ6_bitCount_0f7a4 21 = .ok (.iand, 1) := by decide +kernel
theorem dJ6_bitCount_0f7a4_22 : decode cJ6_bitCount_0f7a4 22 = .ok (.iadd, 1) := by decide +kernel
theorem dJ6_bitCount_0f7a4_23 : decode cJ6_bitCount_0f7a4 23 = .ok (.istore_n 0, 1) := by decide +kernel
theorem dJ6_bitCount_0f7a4_24 : decode cJ6_bitCount_0f7a4 24 = .ok (.iload_n 0, 1) := by decide +kernel
theorem dJ6_bitCount_0f7a4_25 : decode cJ6_bitCount_0f7a4 25 = .ok (.iload_n 0, 1) := by decide +kernel
theorem dJ6_bitCount_0f7a4_26 : decode cJ6_bitCount_0f7a4 26 = .ok (.iconst 4, 1) := by decide +kernel
theorem dJ6_bitCount_0f7a4_27 : decode cJ6_bitCount_0f7a4 27 = .ok (.iushr, 1) := by decide +kernel
theorem dJ6_bitCount_0f7a4_28 : decode cJ6_bitCount_0f7a4 28 = .ok (.iadd, 1) := by decide +kernel
theorem dJ6_bitCount_0f7a4_29 : decode cJ6_bitCount_0f7a4 29 = .ok (.ldc_w 267, 3) := by decide +kernel
theorem dJ6_bitCount_0f7a4_32 : decode cJ6_bitCount_0f7a4 32 = .ok (.iand, 1) := by decide +kernel
theorem dJ6_bitCount_0f7a4_33 : decode cJ6_bitCount_0f7a4 33 = .ok (.istore_n 0, 1) := by decide +kernel
theorem dJ6_bitCount_0f7a4_34 : decode cJ6_bitCount_0f7a4 34 = .ok (.iload_n 0, 1) := by decide +kernel
theorem dJ6_bitCount_0f7a4_35 : decode cJ6_bitCount_0f7a4 35 = .ok (.iload_n 0, 1) := by decide +kernel
theorem dJ6_bitCount_0f7a4_36 : decode cJ6_bitCount_0f7a4 36 = .ok (.bipush 8, 2) := by decide +kernel
theorem dJ6_bitCount_0f7a4_38 : decode cJ6_bitCount_0f7a4 38 = .ok (.iushr, 1) := by decide +kernel
theorem dJ6_bitCount_0f7a4_39 : decode cJ6_bitCount_0f7a4 39 = .ok (.iadd, 1) := by decide +kernel
theorem dJ6_bitCount_0f7a4_40 : decode cJ6_bitCount_0f7a4 40 = .ok (.istore_n 0, 1) := by decide +kernel
theorem dJ6_bitCount_0f7a4_41 : decode cJ6_bitCount_0f7a4 41 = .ok (.iload_n 0, 1) := by decide +kernel
theorem dJ6_bitCount_0f7a4_42 : decode cJ6_bitCount_0f7a4 42 = .ok (.iload_n 0, 1) := by decide +kernel
theorem dJ6_bitCount_0f7a4_43 : decode cJ6_bitCount_0f7a4 43 = .ok (.bipush 16, 2) := by decide +kernel
theorem dJ6_bitCount_0f7a4_45 : decode cJ6_bitCount_0f7a4 45 = .ok (.iushr, 1) := by decide +kernel
theorem dJ6_bitCount_0f7a4_46 : decode cJ6_bitCount_0f7a4 46 = .ok (.iadd, 1) := by decide +kernel
theorem dJ6_bitCount_0f7a4_47 : decode cJ6_bitCount_0f7a4 47 = .ok (.istore_n 0, 1) := by decide +kernel
theorem dJ6_bitCount_0f7a4_48 : decode cJ6_bitCount_0f7a4 48 = .ok (.iload_n 0, 1) := by decide +kernel
theorem dJ6_bitCount_0f7a4_49 : decode cJ6_bitCount_0f7a4 49 = .ok (.bipush 63, 2) := by decide +kernel
theorem dJ6_bitCount_0f7a4_51 : decode cJ6_bitCount_0f7a4 51 = .ok (.iand, 1) := by decide +kernel
theorem dJ6_bitCount_0f7a4_52 : decode cJ6_bitCount_0f7a4 52 = .ok (.ireturn, 1) := by decide +kernel
theorem dJ9_abs_0f7a4_0 : decode cJ9_abs_0f7a4 0 = .ok (.iload_n 0, 1) := by decide +kernel
theorem dJ9_abs_0f7a4_1 : decode cJ9_abs_0f7a4 1 = .ok (.ifCond .ge 8, 3) := by decide +kernel
theorem dJ9_abs_0f7a4_4 : decode cJ9_abs_0f7a4 4 = .ok (.iload_n 0, 1) := by decide +kernel
theorem dJ9_abs_0f7a4_5 : decode cJ9_abs_0f7a4 5 = .ok (.ineg, 1) := by decide +kernel
theorem dJ9_abs_0f7a4_6 : decode cJ9_abs_0f7a4 6 = .ok (.goto 4, 3) := by decide +kernel
theorem dJ9_abs_0f7a4_9 : decode cJ9_abs_0f7a4 9 = .ok (.iload_n 0, 1) := by decide +kernel
theorem dJ9_abs_0f7a4_10 : decode cJ9_abs_0f7a4 10 = .ok (.ireturn, 1) := by decide +kernel
theorem dJ9_max_7cf53_0 : decode cJ9_max_7cf53 0 = .ok (.iload_n 0, 1) := by decide +kernel
theorem dJ9_max_7cf53_1 : decode cJ9_max_7cf53 1 = .ok (.iload_n 1, 1) := by decide +kernel
theorem dJ9_max_7cf53_2 : decode cJ9_max_7cf53 2 = .ok (.if_icmp .lt 7, 3) := by decide +kernel
theorem dJ9_max_7cf53_5 : decode cJ9_max_7cf53 5 = .ok (.iload_n 0, 1) := by decide +kernel
theorem dJ9_max_7cf53_6 : decode cJ9_max_7cf53 6 = .ok (.goto 4, 3) := by decide +kernel
theorem dJ9_max_7cf53_9 : decode cJ9_max_7cf53 9 = .ok (.iload_n 1, 1) := by decide +kernel
theorem dJ9_max_7cf53_10 : decode cJ9_max_7cf53 10 = .ok (.ireturn, 1) := by decide +kernel
theorem dJ9_min_7cf53_0 : decode cJ9_min_7cf53 0 = .ok (.iload_n 0, 1) := by decide +kernel
theorem dJ9_min_7cf53_1 : decode cJ9_min_7cf53 1 = .ok (.iload_n 1, 1) := by decide +kernel
theorem dJ9_min_7cf53_2 : decode cJ9_min_7cf53 2 = .ok (.if_icmp .gt 7, 3) := by decide +kernel
theorem dJ9_min_7cf53_5 : decode cJ9_min_7cf53 5 = .ok (.iload_n 0, 1) := by decide +kernel
theorem dJ9_min_7cf53_6 : decode cJ9_min_7cf53 6 = .ok (.goto 4, 3) := by decide +kernel
theorem dJ9_min_7cf53_9 : decode cJ9_min_7cf53 9 = .ok (.iload_n 1, 1) := by decide +kernel
theorem dJ9_min_7cf53_10 : decode cJ9_min_7cf53 10 = .ok (.ireturn, 1) := by decide +kernel
theorem dJ0_length_8abf5_0 : decode cJ0_length_8abf5 0 = .ok (.aload_n 0, 1) := by decide +kernel
theorem dJ0_length_8abf5_1 : decode cJ0_length_8abf5 1 = .ok (.getfield 9, 3) := by decide +kernel
theorem dJ0_length_8abf5_4 : decode cJ0_length_8abf5 4 = .ok (.arraylength, 1) := by decide +kernel
theorem dJ0_length_8abf5_5 : decode cJ0_length_8abf5 5 = .ok (.aload_n 0, 1) := by decide +kernel
theorem dJ0_length_8abf5_6 : decode cJ0_length_8abf5 6 = .ok (.invokevirtual 335, 3) := by decide +kernel
theorem dJ0_length_8abf5_9 : decode cJ0_length_8abf5 9 = .ok (.ishr, 1) := by decide +kernel
theorem dJ0_length_8abf5_10 : decode cJ0_length_8abf5 10 = .ok (.ireturn, 1) := by decide +kernel
theorem dJ0_charAt_5068e_0 : decode cJ0_charAt_5068e 0 = .ok (.aload_n 0, 1) := by decide +kernel
theorem dJ0_charAt_5068e_1 : decode cJ0_charAt_5068e 1 = .ok (.invokevirtual 492, 3) := by decide +kernel
theorem dJ0_charAt_5068e_4 : decode cJ0_charAt_5068e 4 = .ok (.ifCond .eq 12, 3) := by decide +kernel
theorem dJ0_charAt_5068e_7 : decode cJ0_charAt_5068e 7 = .ok (.aload_n 0, 1) := by decide +kernel
theorem dJ0_charAt_5068e_8 : decode cJ0_charAt_5068e 8 = .ok (.getfield 9, 3) := by decide +kernel
theorem dJ0_charAt_5068e_11 : decode cJ0_charAt_5068e 11 = .ok (.iload_n 1, 1) := by decide +kernel
theorem dJ0_charAt_5068e_12 : decode cJ0_charAt_5068e 12 = .ok (.invokestatic 495, 3) := by decide +kernel
theorem dJ0_charAt_5068e_15 : decode cJ0_charAt_5068e 15 = .ok (.ireturn, 1) := by decide +kernel
theorem dJ0_charAt_5068e_16 : decode cJ0_charAt_5068e 16 = .ok (.aload_n 0, 1) := by decide +kernel
theorem dJ0_charAt_5068e_17 : decode cJ0_charAt_5068e 17 = .ok (.getfield 9, 3) := by decide +kernel
theorem dJ0_charAt_5068e_20 : decode cJ0_charAt_5068e 20 = .ok (.iload_n 1, 1) := by decide +kernel
theorem dJ0_charAt_5068e_21 : decode cJ0_charAt_5068e 21 = .ok (.invokestatic 498, 3) := by decide +kernel
theorem dJ0_charAt_5068e_24 : decode cJ0_charAt_5068e 24 = .ok (.ireturn, 1) := by decide +kernel
theorem dJ0_coder_7d493_0 : decode cJ0_coder_7d493 0 = .ok (.getstatic 38, 3) := by decide +kernel
theorem dJ0_coder_7d493_3 : decode cJ0_coder_7d493 3 = .ok (.ifCond .eq 10, 3) := by decide +kernel
theorem dJ0_coder_7d493_6 : decode cJ0_coder_7d493 6 = .ok (.aload_n 0, 1) := by decide +kernel
theorem dJ0_coder_7d493_7 : decode cJ0_coder_7d493 7 = .ok (.getfield 15, 3) := by decide +kernel
theorem dJ0_coder_7d493_10 : decode cJ0_coder_7d493 10 = .ok (.goto 4, 3) := by decide +kernel
theorem dJ0_coder_7d493_13 : decode cJ0_coder_7d493 13 = .ok (.iconst 1, 1) := by decide +kernel
theorem dJ0_coder_7d493_14 : decode cJ0_coder_7d493 14 = .ok (.ireturn, 1) := by decide +kernel
theorem dJ0_isLatin1_aae02_0 : decode cJ0_isLatin1_aae02 0 = .ok (.getstatic 38, 3) := by decide +kernel
theorem dJ0_isLatin1_aae02_3 : decode cJ0_isLatin1_aae02 3 = .ok (.ifCond .eq 14, 3) := by decide +kernel
theorem dJ0_isLatin1_aae02_6 : decode cJ0_isLatin1_aae02 6 = .ok (.aload_n 0, 1) := by decide +kernel
theorem dJ0_isLatin1_aae02_7 : decode cJ0_isLatin1_aae02 7 = .ok (.getfield 15, 3) := by decide +kernel
theorem dJ0_isLatin1_aae02_10 : decode cJ0_isLatin1_aae02 10 = .ok (.ifCond .ne 7, 3) := by decide +kernel
theorem dJ0_isLatin1_aae02_13 : decode cJ0_isLatin1_aae02 13 = .ok (.iconst 1, 1) := by decide +kernel
theorem dJ0_isLatin1_aae02_14 : decode cJ0_isLatin1_aae02 14 = .ok (.goto 4, 3) := by decide +kernel
theorem dJ0_isLatin1_aae02_17 : decode cJ0_isLatin1_aae02 17 = .ok (.iconst 0, 1) := by decide +kernel
theorem dJ0_isLatin1_aae02_18 : decode cJ0_isLatin1_aae02 18 = .ok (.ireturn, 1) := by decide +kernel
theorem dJ0_checkIndex_df160_0 : decode cJ0_checkIndex_df160 0 = .ok (.iload_n 0, 1) := by decide +kernel
theorem dJ0_checkIndex_df160_1 : decode cJ0_checkIndex_df160 1 = .ok (.iload_n 1, 1) := by decide +kernel
theorem dJ0_checkIndex_df160_2 : decode cJ0_checkIndex_df160 2 = .ok (.getstatic 1053, 3) := by decide +kernel
theorem dJ0_checkIndex_df160_5 : decode cJ0_checkIndex_df160 5 = .ok (.invokestatic 1059, 3) := by decide +kernel
theorem dJ0_checkIndex_df160_8 : decode cJ0_checkIndex_df160 8 = .ok (.pop, 1) := by decide +kernel
theorem dJ0_checkIndex_df160_9 : decode cJ0_checkIndex_df160 9 = .ok (.return_, 1) := by decide +kernel
theorem dJ1_charAt_3b067_0 : decode cJ1_charAt_3b067 0 = .ok (.iload_n 1, 1) := by decide +kernel
theorem dJ1_charAt_3b067_1 : decode cJ1_charAt_3b067 1 = .ok (.aload_n 0, 1) := by decide +kernel
theorem dJ1_charAt_3b067_2 : decode cJ1_charAt_3b067 2 = .ok (.arraylength, 1) := by decide +kernel
theorem dJ1_charAt_3b067_3 : decode cJ1_charAt_3b067 3 = .ok (.invokestatic 9, 3) := by decide +kernel
theorem dJ1_charAt_3b067_6 : decode cJ1_charAt_3b067 6 = .ok (.aload_n 0, 1) := by decide +kernel
theorem dJ1_charAt_3b067_7 : decode cJ1_charAt_3b067 7 = .ok (.iload_n 1, 1) := by decide +kernel
theorem dJ1_charAt_3b067_8 : decode cJ1_charAt_3b067 8 = .ok (.baload, 1) := by decide +kernel
theorem dJ1_charAt_3b067_9 : decode cJ1_charAt_3b067 9 = .ok (.sipush 255, 3) := by decide +kernel
theorem dJ1_charAt_3b067_12 : decode cJ1_charAt_3b067 12 = .ok (.iand, 1) := by decide +kernel
theorem dJ1_charAt_3b067_13 : decode cJ1_charAt_3b067 13 = .ok (.i2c, 1) := by decide +kernel
theorem dJ1_charAt_3b067_14 : decode cJ1_charAt_3b067 14 = .ok (.ireturn, 1) := by decide +kernel
theorem dJ2_getChar_3b067_0 : decode cJ2_getChar_3b067 0 = .ok (.getstatic 44, 3) := by decide +kernel
theorem dJ2_getChar_3b067_3 : decode cJ2_getChar_3b067 3 = .ok (.ifCond .ne 25, 3) := by decide +kernel
theorem dJ2_getChar_3b067_6 : decode cJ2_getChar_3b067 6 = .ok (.iload_n 1, 1) := by decide +kernel
theorem dJ2_getChar_3b067_7 : decode cJ2_getChar_3b067 7 = .ok (.ifCond .lt 11, 3) := by decide +kernel
theorem dJ2_getChar_3b067_10 : decode cJ2_getChar_3b067 10 = .ok (.iload_n 1, 1) := by decide +kernel
theorem dJ2_getChar_3b067_11 : decode cJ2_getChar_3b067 11 = .ok (.aload_n 0, 1) := by decide +kernel
theorem dJ2_getChar_3b067_12 : decode cJ2_getChar_3b067 12 = .ok (.invokestatic 48, 3) := by decide +kernel
theorem dJ2_getChar_3b067_15 : decode cJ2_getChar_3b067 15 = .ok (.if_icmp .lt 13, 3) := by decide +kernel
theorem dJ2_getChar_3b067_18 : decode cJ2_getChar_3b067 18 = .ok (.new 52, 3) := by decide +kernel
theorem dJ2_getChar_3b067_21 : decode cJ2_getChar_3b067 21 = .ok (.dup, 1) := by decide +kernel
theorem dJ2_getChar_3b067_22 : decode cJ2_getChar_3b067 22 = .ok (.ldc 54, 2) := by decide +kernel
theorem dJ2_getChar_3b067_24 : decode cJ2_getChar_3b067 24 = .ok (.invokespecial 56, 3) := by decide +kernel
theorem dJ2_getChar_3b067_27 : decode cJ2_getChar_3b067 27 = .ok (.athrow, 1) := by decide +kernel
theorem dJ2_getChar_3b067_28 : decode cJ2_getChar_3b067 28 = .ok (.iload_n 1, 1) := by decide +kernel
theorem dJ2_getChar_3b067_29 : decode cJ2_getChar_3b067 29 = .ok (.iconst 1, 1) := by decide +kernel
theorem dJ2_getChar_3b067_30 : decode cJ2_getChar_3b067 30 = .ok (.ishl, 1) := by decide +kernel
theorem dJ2_getChar_3b067_31 : decode cJ2_getChar_3b067 31 = .ok (.istore_n 1, 1) := by decide +kernel
theorem dJ2_getChar_3b067_32 : decode cJ2_getChar_3b067 32 = .ok (.aload_n 0, 1) := by decide +kernel
theorem dJ2_getChar_3b067_33 : decode cJ2_getChar_3b067 33 = .ok (.iload_n 1, 1) := by decide +kernel
theorem dJ2_getChar_3b067_34 : decode cJ2_getChar_3b067 34 = .ok (.iinc 1 1, 3) := by decide +kernel
theorem dJ2_getChar_3b067_37 : decode cJ2_getChar_3b067 37 = .ok (.baload, 1) := by decide +kernel
theorem dJ2_getChar_3b067_38 : decode cJ2_getChar_3b067 38 = .ok (.sipush 255, 3) := by decide +kernel
theorem dJ2_getChar_3b067_41 : decode cJ2_getChar_3b067 41 = .ok (.iand, 1) := by decide +kernel
theorem dJ2_getChar_3b067_42 : decode cJ2_getChar_3b067 42 = .ok (.getstatic 59, 3) := by decide +kernel
theorem dJ2_getChar_3b067_45 : decode cJ2_getChar_3b067 45 = .ok (.ishl, 1) := by decide +kernel
theorem dJ2_getChar_3b067_46 : decode cJ2_getChar_3b067 46 = .ok (.aload_n 0, 1) := by decide +kernel
theorem dJ2_getChar_3b067_47 : decode cJ2_getChar_3b067 47 = .ok (.iload_n 1, 1) := by decide +kernel
theorem dJ2_getChar_3b067_48 : decode cJ2_getChar_3b067 48 = .ok (.baload, 1) := by decide +kernel
theorem dJ2_getChar_3b067_49 : decode cJ2_getChar_3b067 49 = .ok (.sipush 255, 3) := by decide +kernel
theorem dJ2_getChar_3b067_52 : decode cJ2_getChar_3b067 52 = .ok (.iand, 1) := by decide +kernel
theorem dJ2_getChar_3b067_53 : decode cJ2_getChar_3b067 53 = .ok (.getstatic 63, 3) := by decide +kernel
theorem dJ2_getChar_3b067_56 : decode cJ2_getChar_3b067 56 = .ok (.ishl, 1) := by decide +kernel
theorem dJ2_getChar_3b067_57 : decode cJ2_getChar_3b067 57 = .ok (.ior, 1) := by decide +kernel
theorem dJ2_getChar_3b067_58 : decode cJ2_getChar_3b067 58 = .ok (.i2c, 1) := by decide +kernel
theorem dJ2_getChar_3b067_59 : decode cJ2_getChar_3b067 59 = .ok (.ireturn, 1) := by decide +kernel
theorem dJ2_length_9d52b_0 : decode cJ2_length_9d52b 0 = .ok (.aload_n 0, 1) := by decide +kernel
theorem dJ2_length_9d52b_1 : decode cJ2_length_9d52b 1 = .ok (.arraylength, 1) := by decide +kernel
theorem dJ2_length_9d52b_2 : decode cJ2_length_9d52b 2 = .ok (.iconst 1, 1) := by decide +kernel
theorem dJ2_length_9d52b_3 : decode cJ2_length_9d52b 3 = .ok (.ishr, 1) := by decide +kernel
theorem dJ2_length_9d52b_4 : decode cJ2_length_9d52b 4 = .ok (.ireturn, 1) := by decide +kernel
theorem dJ2_charAt_3b067_0 : decode cJ2_charAt_3b067 0 = .ok (.iload_n 1, 1) := by decide +kernel
theorem dJ2_charAt_3b067_1 : decode cJ2_charAt_3b067 1 = .ok (.aload_n 0, 1) := by decide +kernel
theorem dJ2_charAt_3b067_2 : decode cJ2_charAt_3b067 2 = .ok (.invokestatic 67, 3) := by decide +kernel
theorem dJ2_charAt_3b067_5 : decode cJ2_charAt_3b067 5 = .ok (.aload_n 0, 1) := by decide +kernel
theorem dJ2_charAt_3b067_6 : decode cJ2_charAt_3b067 6 = .ok (.iload_n 1, 1) := by decide +kernel
theorem dJ2_charAt_3b067_7 : decode cJ2_charAt_3b067 7 = .ok (.invokestatic 71, 3) := by decide +kernel
theorem dJ2_charAt_3b067_10 : decode cJ2_charAt_3b067 10 = .ok (.ireturn, 1) := by decide +kernel
theorem dJ2_checkIndex_2214a_0 : decode cJ2_checkIndex_2214a 0 = .ok (.iload_n 0, 1) := by decide +kernel
theorem dJ2_checkIndex_2214a_1 : decode cJ2_checkIndex_2214a 1 = .ok (.aload_n 1, 1) := by decide +kernel
theorem dJ2_checkIndex_2214a_2 : decode cJ2_checkIndex_2214a 2 = .ok (.invokestatic 48, 3) := by decide +kernel
theorem dJ2_checkIndex_2214a_5 : decode cJ2_checkIndex_2214a 5 = .ok (.invokestatic 414, 3) := by decide +kernel
theorem dJ2_checkIndex_2214a_8 : decode cJ2_checkIndex_2214a 8 = .ok (.return_, 1) := by decide +kernel
theorem dJxa1e45_init_da8c8_0 : decode cJxa1e45_init_da8c8 0 = .ok (.aload_n 0, 1) := by decide +kernel
theorem dJxa1e45_init_da8c8_1 : decode cJxa1e45_init_da8c8 1 = .ok (.invokespecial 1, 3) := by decide +kernel
theorem dJxa1e45_init_da8c8_4 : decode cJxa1e45_init_da8c8 4 = .ok (.return_, 1) := by decide +kernel
theorem dJxc12de_init_da8c8_0 : decode cJxc12de_init_da8c8 0 = .ok (.aload_n 0, 1) := by decide +kernel
theorem dJxc12de_init_da8c8_1 : decode cJxc12de_init_da8c8 1 = .ok (.invokespecial 1, 3) := by decide +kernel
theorem dJxc12de_init_da8c8_4 : decode cJxc12de_init_da8c8 4 = .ok (.aload_n 0, 1) := by decide +kernel
theorem dJxc12de_init_da8c8_5 : decode cJxc12de_init_da8c8 5 = .ok (.iconst 0, 1) := by decide +kernel
theorem dJxc12de_init_da8c8_6 : decode cJxc12de_init_da8c8 6 = .ok (.putfield 7, 3) := by decide +kernel
theorem dJxc12de_init_da8c8_9 : decode cJxc12de_init_da8c8 9 = .ok (.return_, 1) := by decide +kernel
theorem dJx4a65c_init_da8c8_0 : decode cJx4a65c_init_da8c8 0 = .ok (.aload_n 0, 1) := by decide +kernel
theorem dJx4a65c_init_da8c8_1 : decode cJx4a65c_init_da8c8 1 = .ok (.invokespecial 1, 3) := by decide +kernel
theorem dJx4a65c_init_da8c8_4 : decode cJx4a65c_init_da8c8 4 = .ok (.aload_n 0, 1) := by decide +kernel
theorem dJx4a65c_init_da8c8_5 : decode cJx4a65c_init_da8c8 5 = .ok (.getstatic 39, 3) := by decide +kernel
theorem dJx4a65c_init_da8c8_8 : decode cJx4a65c_init_da8c8 8 = .ok (.putfield 9, 3) := by decide +kernel
theorem dJx4a65c_init_da8c8_11 : decode cJx4a65c_init_da8c8 11 = .ok (.return_, 1) := by decide +kernel
theorem dJx4a65c_grow_92f84_0 : decode cJx4a65c_grow_92f84 0 = .ok (.aload_n 0, 1) := by decide +kernel
theorem dJx4a65c_grow_92f84_1 : decode cJx4a65c_grow_92f84 1 = .ok (.getfield 9, 3) := by decide +kernel
theorem dJx4a65c_grow_92f84_4 : decode cJx4a65c_grow_92f84 4 = .ok (.arraylength, 1) := by decide +kernel
theorem dJx4a65c_grow_92f84_5 : decode cJx4a65c_grow_92f84 5 = .ok (.istore_n 2, 1) := by decide +kernel
theorem dJx4a65c_grow_92f84_6 : decode cJx4a65c_grow_92f84 6 = .ok (.iload_n 2, 1) := by decide +kernel
theorem dJx4a65c_grow_92f84_7 : decode cJx4a65c_grow_92f84 7 = .ok (.ifCond .gt 13, 3) := by decide +kernel
theorem dJx4a65c_grow_92f84_10 : decode cJx4a65c_grow_92f84 10 = .ok (.aload_n 0, 1) := by decide +kernel
theorem dJx4a65c_grow_92f84_11 : decode cJx4a65c_grow_92f84 11 = .ok (.getfield 9, 3) := by decide +kernel
theorem dJx4a65c_grow_92f84_14 : decode cJx4a65c_grow_92f84 14 = .ok (.getstatic 39, 3) := by decide +kernel
theorem dJx4a65c_grow_92f84_17 : decode cJx4a65c_grow_92f84 17 = .ok (.if_acmp .eq 28, 3) := by decide +kernel
theorem dJx4a65c_grow_92f84_20 : decode cJx4a65c_grow_92f84 20 = .ok (.iload_n 2, 1) := by decide +kernel
theorem dJx4a65c_grow_92f84_21 : decode cJx4a65c_grow_92f84 21 = .ok (.iload_n 1, 1) := by decide +kernel
theorem dJx4a65c_grow_92f84_22 : decode cJx4a65c_grow_92f84 22 = .ok (.iload_n 2, 1) := by decide +kernel
theorem dJx4a65c_grow_92f84_23 : decode cJx4a65c_grow_92f84 23 = .ok (.isub, 1) := by decide +kernel
theorem dJx4a65c_grow_92f84_24 : decode cJx4a65c_grow_92f84 24 = .ok (.iload_n 2, 1) := by decide +kernel
theorem dJx4a65c_grow_92f84_25 : decode cJx4a65c_grow_92f84 25 = .ok (.iconst 1, 1) := by decide +kernel
theorem dJx4a65c_grow_92f84_26 : decode cJx4a65c_grow_92f84 26 = .ok (.ishr, 1) := by decide +kernel
theorem dJx4a65c_grow_92f84_27 : decode cJx4a65c_grow_92f84 27 = .ok (.invokestatic 73, 3) := by decide +kernel
theorem dJx4a65c_grow_92f84_30 : decode cJx4a65c_grow_92f84 30 = .ok (.istore_n 3, 1) := by decide +kernel
theorem dJx4a65c_grow_92f84_31 : decode cJx4a65c_grow_92f84 31 = .ok (.aload_n 0, 1) := by decide +kernel
theorem dJx4a65c_grow_92f84_32 : decode cJx4a65c_grow_92f84 32 = .ok (.aload_n 0, 1) := by decide +kernel
theorem dJx4a65c_grow_92f84_33 : decode cJx4a65c_grow_92f84 33 = .ok (.getfield 9, 3) := by decide +kernel
theorem dJx4a65c_grow_92f84_36 : decode cJx4a65c_grow_92f84 36 = .ok (.iload_n 3, 1) := by decide +kernel
theorem dJx4a65c_grow_92f84_37 : decode cJx4a65c_grow_92f84 37 = .ok (.invokestatic 66, 3) := by decide +kernel
theorem dJx4a65c_grow_92f84_40 : decode cJx4a65c_grow_92f84 40 = .ok (.dup_x1, 1) := by decide +kernel
theorem dJx4a65c_grow_92f84_41 : decode cJx4a65c_grow_92f84 41 = .ok (.putfield 9, 3) := by decide +kernel
theorem dJx4a65c_grow_92f84_44 : decode cJx4a65c_grow_92f84 44 = .ok (.areturn, 1) := by decide +kernel
theorem dJx4a65c_grow_92f84_45 : decode cJx4a65c_grow_92f84 45 = .ok (.aload_n 0, 1) := by decide +kernel
theorem dJx4a65c_grow_92f84_46 : decode cJx4a65c_grow_92f84 46 = .ok (.bipush 10, 2) := by decide +kernel
theorem dJx4a65c_grow_92f84_48 : decode cJx4a65c_grow_92f84 48 = .ok (.iload_n 1, 1) := by decide +kernel
theorem dJx4a65c_grow_92f84_49 : decode cJx4a65c_grow_92f84 49 = .ok (.invokestatic 79, 3) := by decide +kernel
theorem dJx4a65c_grow_92f84_52 : decode cJx4a65c_grow_92f84 52 = .ok (.anewarray 7, 3) := by decide +kernel
theorem dJx4a65c_grow_92f84_55 : decode cJx4a65c_grow_92f84 55 = .ok (.dup_x1, 1) := by decide +kernel
theorem dJx4a65c_grow_92f84_56 : decode cJx4a65c_grow_92f84 56 = .ok (.putfield 9, 3) := by decide +kernel
theorem dJx4a65c_grow_92f84_59 : decode cJx4a65c_grow_92f84 59 = .ok (.areturn, 1) := by decide +kernel
theorem dJx4a65c_grow_d5877_0 : decode cJx4a65c_grow_d5877 0 = .ok (.aload_n 0, 1) := by decide +kernel
theorem dJx4a65c_grow_d5877_1 : decode cJx4a65c_grow_d5877 1 = .ok (.aload_n 0, 1) := by decide +kernel
theorem dJx4a65c_grow_d5877_2 : decode cJx4a65c_grow_d5877 2 = .ok (.getfield 48, 3) := by decide +kernel
theorem dJx4a65c_grow_d5877_5 : decode cJx4a65c_grow_d5877 5 = .ok (.iconst 1, 1) := by decide +kernel
theorem dJx4a65c_grow_d5877_6 : decode cJx4a65c_grow_d5877 6 = .ok (.iadd, 1) := by decide +kernel
theorem dJx4a65c_grow_d5877_7 : decode cJx4a65c_grow_d5877 7 = .ok (.invokevirtual 69, 3) := by decide +kernel
theorem dJx4a65c_grow_d5877_10 : decode cJx4a65c_grow_d5877 10 = .ok (.areturn, 1) := by decide +kernel
theorem dJx4a65c_size_8abf5_0 : decode cJx4a65c_size_8abf5 0 = .ok (.aload_n 0, 1) := by decide +kernel
theorem dJx4a65c_size_8abf5_1 : decode cJx4a65c_size_8abf5 1 = .ok (.getfield 48, 3) := by decide +kernel
theorem dJx4a65c_size_8abf5_4 : decode cJx4a65c_size_8abf5 4 = .ok (.ireturn, 1) := by decide +kernel
theorem dJx4a65c_elementData_915e3_0 : decode cJx4a65c_elementData_915e3 0 = .ok (.aload_n 0, 1) := by decide +kernel
theorem dJx4a65c_elementData_915e3_1 : decode cJx4a65c_elementData_915e3 1 = .ok (.getfield 9, 3) := by decide +kernel
theorem dJx4a65c_elementData_915e3_4 : decode cJx4a65c_elementData_915e3 4 = .ok (.iload_n 1, 1) := by decide +kernel
theorem dJx4a65c_elementData_915e3_5 : decode cJx4a65c_elementData_915e3 5 = .ok (.aaload, 1) := by decide +kernel
theorem dJx4a65c_elementData_915e3_6 : decode cJx4a65c_elementData_915e3 6 = .ok (.areturn, 1) := by decide +kernel
theorem dJx4a65c_get_915e3_0 : decode cJx4a65c_get_915e3 0 = .ok (.iload_n 1, 1) := by decide +kernel
theorem dJx4a65c_get_915e3_1 : decode cJx4a65c_get_915e3 1 = .ok (.aload_n 0, 1) := by decide +kernel
theorem dJx4a65c_get_915e3_2 : decode cJx4a65c_get_915e3 2 = .ok (.getfield 48, 3) := by decide +kernel
theorem dJx4a65c_get_915e3_5 : decode cJx4a65c_get_915e3 5 = .ok (.invokestatic 118, 3) := by decide +kernel
theorem dJx4a65c_get_915e3_8 : decode cJx4a65c_get_915e3 8 = .ok (.pop, 1) := by decide +kernel
theorem dJx4a65c_get_915e3_9 : decode cJx4a65c_get_915e3 9 = .ok (.aload_n 0, 1) := by decide +kernel
theorem dJx4a65c_get_915e3_10 : decode cJx4a65c_get_915e3 10 = .ok (.iload_n 1, 1) := by decide +kernel
theorem dJx4a65c_get_915e3_11 : decode cJx4a65c_get_915e3 11 = .ok (.invokevirtual 123, 3) := by decide +kernel
theorem dJx4a65c_get_915e3_14 : decode cJx4a65c_get_915e3 14 = .ok (.areturn, 1) := by decide +kernel
theorem dJx4a65c_add_72be8_0 : decode cJx4a65c_add_72be8 0 = .ok (.iload_n 3, 1) := by decide +kernel
theorem dJx4a65c_add_72be8_1 : decode cJx4a65c_add_72be8 1 = .ok (.aload_n 2, 1) := by decide +kernel
theorem dJx4a65c_add_72be8_2 : decode cJx4a65c_add_72be8 2 = .ok (.arraylength, 1) := by decide +kernel
theorem dJx4a65c_add_72be8_3 : decode cJx4a65c_add_72be8 3 = .ok (.if_icmp .ne 8, 3) := by decide +kernel
theorem dJx4a65c_add_72be8_6 : decode cJx4a65c_add_72be8 6 = .ok (.aload_n 0, 1) := by decide +kernel
theorem dJx4a65c_add_72be8_7 : decode cJx4a65c_add_72be8 7 = .ok (.invokevirtual 129, 3) := by decide +kernel
theorem dJx4a65c_add_72be8_10 : decode cJx4a65c_add_72be8 10 = .ok (.astore_n 2, 1) := by decide +kernel
theorem dJx4a65c_add_72be8_11 : decode cJx4a65c_add_72be8 11 = .ok (.aload_n 2, 1) := by decide +kernel
theorem dJx4a65c_add_72be8_12 : decode cJx4a65c_add_72be8 12 = .ok (.iload_n 3, 1) := by decide +kernel
theorem dJx4a65c_add_72be8_13 : decode cJx4a65c_add_72be8 13 = .ok (.aload_n 1, 1) := by decide +kernel
theorem dJx4a65c_add_72be8_14 : decode cJx4a65c_add_72be8 14 = .ok (.aastore, 1) := by decide +kernel
theorem dJx4a65c_add_72be8_15 : decode cJx4a65c_add_72be8 15 = .ok (.aload_n 0, 1) := by decide +kernel
theorem dJx4a65c_add_72be8_16 : decode cJx4a65c_add_72be8 16 = .ok (.iload_n 3, 1) := by decide +kernel
theorem dJx4a65c_add_72be8_17 : decode cJx4a65c_add_72be8 17 = .ok (.iconst 1, 1) := by decide +kernel
theorem dJx4a65c_add_72be8_18 : decode cJx4a65c_add_72be8 18 = .ok (.iadd, 1) := by decide +kernel
theorem dJx4a65c_add_72be8_19 : decode cJx4a65c_add_72be8 19 = .ok (.putfield 48, 3) := by decide +kernel
theorem dJx4a65c_add_72be8_22 : decode cJx4a65c_add_72be8 22 = .ok (.return_, 1) := by decide +kernel
theorem dJx4a65c_add_9ea2d_0 : decode cJx4a65c_add_9ea2d 0 = .ok (.aload_n 0, 1) := by decide +kernel
theorem dJx4a65c_add_9ea2d_1 : decode cJx4a65c_add_9ea2d 1 = .ok (.dup, 1) := by decide +kernel
theorem dJx4a65c_add_9ea2d_2 : decode cJx4a65c_add_9ea2d 2 = .ok (.getfield 63, 3) := by decide +kernel
theorem dJx4a65c_add_9ea2d_5 : decode cJx4a65c_add_9ea2d 5 = .ok (.iconst 1, 1) := by decide +kernel
theorem dJx4a65c_add_9ea2d_6 : decode cJx4a65c_add_9ea2d 6 = .ok (.iadd, 1) := by decide +kernel
theorem dJx4a65c_add_9ea2d_7 : decode cJx4a65c_add_9ea2d 7 = .ok (.putfield 63, 3) := by decide +kernel
theorem dJx4a65c_add_9ea2d_10 : decode cJx4a65c_add_9ea2d 10 = .ok (.aload_n 0, 1) := by decide +kernel
theorem dJx4a65c_add_9ea2d_11 : decode cJx4a65c_add_9ea2d 11 = .ok (.aload_n 1, 1) := by decide +kernel
theorem dJx4a65c_add_9ea2d_12 : decode cJx4a65c_add_9ea2d 12 = .ok (.aload_n 0, 1) := by decide +kernel
theorem dJx4a65c_add_9ea2d_13 : decode cJx4a65c_add_9ea2d 13 = .ok (.getfield 9, 3) := by decide +kernel
theorem dJx4a65c_add_9ea2d_16 : decode cJx4a65c_add_9ea2d 16 = .ok (.aload_n 0, 1) := by decide +kernel
theorem dJx4a65c_add_9ea2d_17 : decode cJx4a65c_add_9ea2d 17 = .ok (.getfield 48, 3) := by decide +kernel
theorem dJx4a65c_add_9ea2d_20 : decode cJx4a65c_add_9ea2d 20 = .ok (.invokevirtual 131, 3) := by decide +kernel
theorem dJx4a65c_add_9ea2d_23 : decode cJx4a65c_add_9ea2d 23 = .ok (.iconst 1, 1) := by decide +kernel
theorem dJx4a65c_add_9ea2d_24 : decode cJx4a65c_add_9ea2d 24 = .ok (.ireturn, 1) := by decide +kernel
theorem dJ7_fill_53178_0 : decode cJ7_fill_53178 0 = .ok (.iconst 0, 1) := by decide +kernel
theorem dJ7_fill_53178_1 : decode cJ7_fill_53178 1 = .ok (.istore_n 2, 1) := by decide +kernel
theorem dJ7_fill_53178_2 : decode cJ7_fill_53178 2 = .ok (.aload_n 0, 1) := by decide +kernel
theorem dJ7_fill_53178_3 : decode cJ7_fill_53178 3 = .ok (.arraylength, 1) := by decide +kernel
theorem dJ7_fill_53178_4 : decode cJ7_fill_53178 4 = .ok (.istore_n 3, 1) := by decide +kernel
theorem dJ7_fill_53178_5 : decode cJ7_fill_53178 5 = .ok (.iload_n 2, 1) := by decide +kernel
theorem dJ7_fill_53178_6 : decode cJ7_fill_53178 6 = .ok (.iload_n 3, 1) := by decide +kernel
theorem dJ7_fill_53178_7 : decode cJ7_fill_53178 7 = .ok (.if_icmp .ge 13, 3) := by decide +kernel
theorem dJ7_fill_53178_10 : decode cJ7_fill_53178 10 = .ok (.aload_n 0, 1) := by decide +kernel
theorem dJ7_fill_53178_11 : decode cJ7_fill_53178 11 = .ok (.iload_n 2, 1) := by decide +kernel
theorem dJ7_fill_53178_12 : decode cJ7_fill_53178 12 = .ok (.iload_n 1, 1) := by decide +kernel
theorem dJ7_fill_53178_13 : decode cJ7_fill_53178 13 = .ok (.iastore, 1) := by decide +kernel
theorem dJ7_fill_53178_14 : decode cJ7_fill_53178 14 = .ok (.iinc 2 1, 3) := by decide +kernel
theorem dJ7_fill_53178_17 : decode cJ7_fill_53178 17 = .ok (.goto (-12), 3) := by decide +kernel
theorem dJ7_fill_53178_20 : decode cJ7_fill_53178 20 = .ok (.return_, 1) := by decide +kernel
theorem dJ7_copyOf_1904c_0 : decode cJ7_copyOf_1904c 0 = .ok (.aload_n 0, 1) := by decide +kernel
theorem dJ7_copyOf_1904c_1 : decode cJ7_copyOf_1904c 1 = .ok (.iload_n 1, 1) := by decide +kernel
theorem dJ7_copyOf_1904c_2 : decode cJ7_copyOf_1904c 2 = .ok (.aload_n 0, 1) := by decide +kernel
theorem dJ7_copyOf_1904c_3 : decode cJ7_copyOf_1904c 3 = .ok (.invokevirtual 86, 3) := by decide +kernel
theorem dJ7_copyOf_1904c_6 : decode cJ7_copyOf_1904c 6 = .ok (.invokestatic 300, 3) := by decide +kernel
theorem dJ7_copyOf_1904c_9 : decode cJ7_copyOf_1904c 9 = .ok (.areturn, 1) := by decide +kernel
theorem dJ7_copyOf_6403c_0 : decode cJ7_copyOf_6403c 0 = .ok (.aload_n 2, 1) := by decide +kernel
theorem dJ7_copyOf_6403c_1 : decode cJ7_copyOf_6403c 1 = .ok (.ldc 110, 2) := by decide +kernel
theorem dJ7_copyOf_6403c_3 : decode cJ7_copyOf_6403c 3 = .ok (.if_acmp .ne 10, 3) := by decide +kernel
theorem dJ7_copyOf_6403c_6 : decode cJ7_copyOf_6403c 6 = .ok (.iload_n 1, 1) := by decide +kernel
theorem dJ7_copyOf_6403c_7 : decode cJ7_copyOf_6403c 7 = .ok (.anewarray 2, 3) := by decide +kernel
theorem dJ7_copyOf_6403c_10 : decode cJ7_copyOf_6403c 10 = .ok (.goto 14, 3) := by decide +kernel
theorem dJ7_copyOf_6403c_13 : decode cJ7_copyOf_6403c 13 = .ok (.aload_n 2, 1) := by decide +kernel
theorem dJ7_copyOf_6403c_14 : decode cJ7_copyOf_6403c 14 = .ok (.invokevirtual 90, 3) := by decide +kernel
theorem dJ7_copyOf_6403c_17 : decode cJ7_copyOf_6403c 17 = .ok (.iload_n 1, 1) := by decide +kernel
theorem dJ7_copyOf_6403c_18 : decode cJ7_copyOf_6403c 18 = .ok (.invokestatic 95, 3) := by decide +kernel
theorem dJ7_copyOf_6403c_21 : decode cJ7_copyOf_6403c 21 = .ok (.checkcast 110, 3) := by decide +kernel
theorem dJ7_copyOf_6403c_24 : decode cJ7_copyOf_6403c 24 = .ok (.astore_n 3, 1) := by decide +kernel
theorem dJ7_copyOf_6403c_25 : decode cJ7_copyOf_6403c 25 = .ok (.aload_n 0, 1) := by decide +kernel
theorem dJ7_copyOf_6403c_26 : decode cJ7_copyOf_6403c 26 = .ok (.iconst 0, 1) := by decide +kernel
theorem dJ7_copyOf_6403c_27 : decode cJ7_copyOf_6403c 27 = .ok (.aload_n 3, 1) := by decide +kernel
theorem dJ7_copyOf_6403c_28 : decode cJ7_copyOf_6403c 28 = .ok (.iconst 0, 1) := by decide +kernel
theorem dJ7_copyOf_6403c_29 : decode cJ7_copyOf_6403c 29 = .ok (.aload_n 0, 1) := by decide +kernel
theorem dJ7_copyOf_6403c_30 : decode cJ7_copyOf_6403c 30 = .ok (.arraylength, 1) := by decide +kernel
theorem dJ7_copyOf_6403c_31 : decode cJ7_copyOf_6403c 31 = .ok (.iload_n 1, 1) := by decide +kernel
theorem dJ7_copyOf_6403c_32 : decode cJ7_copyOf_6403c 32 = .ok (.invokestatic 304, 3) := by decide +kernel
theorem dJ7_copyOf_6403c_35 : decode cJ7_copyOf_6403c 35 = .ok (.invokestatic 150, 3) := by decide +kernel
theorem dJ7_copyOf_6403c_38 : decode cJ7_copyOf_6403c 38 = .ok (.aload_n 3, 1) := by decide +kernel
theorem dJ7_copyOf_6403c_39 : decode cJ7_copyOf_6403c 39 = .ok (.areturn, 1) := by decide +kernel
theorem dJ15_checkIndex_7cf53_0 : decode cJ15_checkIndex_7cf53 0 = .ok (.iload_n 0, 1) := by decide +kernel
theorem dJ15_checkIndex_7cf53_1 : decode cJ15_checkIndex_7cf53 1 = .ok (.iload_n 1, 1) := by decide +kernel
theorem dJ15_checkIndex_7cf53_2 : decode cJ15_checkIndex_7cf53 2 = .ok (.aconst_null, 1) := by decide +kernel
theorem dJ15_checkIndex_7cf53_3 : decode cJ15_checkIndex_7cf53 3 = .ok (.invokestatic 105, 3) := by decide +kernel
theorem dJ15_checkIndex_7cf53_6 : decode cJ15_checkIndex_7cf53 6 = .ok (.ireturn, 1) := by decide +kernel
theorem dJ8_newLength_cabcc_0 : decode cJ8_newLength_cabcc 0 = .ok (.iload_n 0, 1) := by decide +kernel
theorem dJ8_newLength_cabcc_1 : decode cJ8_newLength_cabcc 1 = .ok (.iload_n 1, 1) := by decide +kernel
theorem dJ8_newLength_cabcc_2 : decode cJ8_newLength_cabcc 2 = .ok (.iload_n 2, 1) := by decide +kernel
theorem dJ8_newLength_cabcc_3 : decode cJ8_newLength_cabcc 3 = .ok (.invokestatic 194, 3) := by decide +kernel
theorem dJ8_newLength_cabcc_6 : decode cJ8_newLength_cabcc 6 = .ok (.iadd, 1) := by decide +kernel
theorem dJ8_newLength_cabcc_7 : decode cJ8_newLength_cabcc 7 = .ok (.istore_n 3, 1) := by decide +kernel
theorem dJ8_newLength_cabcc_8 : decode cJ8_newLength_cabcc 8 = .ok (.iconst 0, 1) := by decide +kernel
theorem dJ8_newLength_cabcc_9 : decode cJ8_newLength_cabcc 9 = .ok (.iload_n 3, 1) := by decide +kernel
theorem dJ8_newLength_cabcc_10 : decode cJ8_newLength_cabcc 10 = .ok (.if_icmp .ge 11, 3) := by decide +kernel
theorem dJ8_newLength_cabcc_13 : decode cJ8_newLength_cabcc 13 = .ok (.iload_n 3, 1) := by decide +kernel
theorem dJ8_newLength_cabcc_14 : decode cJ8_newLength_cabcc 14 = .ok (.ldc 200, 2) := by decide +kernel
theorem dJ8_newLength_cabcc_16 : decode cJ8_newLength_cabcc 16 = .ok (.if_icmp .gt 5, 3) := by decide +kernel
theorem dJ8_newLength_cabcc_19 : decode cJ8_newLength_cabcc 19 = .ok (.iload_n 3, 1) := by decide +kernel
theorem dJ8_newLength_cabcc_20 : decode cJ8_newLength_cabcc 20 = .ok (.ireturn, 1) := by decide +kernel
theorem dJ8_newLength_cabcc_21 : decode cJ8_newLength_cabcc 21 = .ok (.iload_n 0, 1) := by decide +kernel
theorem dJ8_newLength_cabcc_22 : decode cJ8_newLength_cabcc 22 = .ok (.iload_n 1, 1) := by decide +kernel
theorem dJ8_newLength_cabcc_23 : decode cJ8_newLength_cabcc 23 = .ok (.invokestatic 201, 3) := by decide +kernel
theorem dJ8_newLength_cabcc_26 : decode cJ8_newLength_cabcc 26 = .ok (.ireturn, 1) := by decide +kernel
theorem dJ8_hugeLength_7cf53_0 : decode cJ8_hugeLength_7cf53 0 = .ok (.iload_n 0, 1) := by decide +kernel
theorem dJ8_hugeLength_7cf53_1 : decode cJ8_hugeLength_7cf53 1 = .ok (.iload_n 1, 1) := by decide +kernel
theorem dJ8_hugeLength_7cf53_2 : decode cJ8_hugeLength_7cf53 2 = .ok (.iadd, 1) := by decide +kernel
theorem dJ8_hugeLength_7cf53_3 : decode cJ8_hugeLength_7cf53 3 = .ok (.istore_n 2, 1) := by decide +kernel
theorem dJ8_hugeLength_7cf53_4 : decode cJ8_hugeLength_7cf53 4 = .ok (.iload_n 2, 1) := by decide +kernel
theorem dJ8_hugeLength_7cf53_5 : decode cJ8_hugeLength_7cf53 5 = .ok (.ifCond .ge 44, 3) := by decide +kernel
theorem dJ8_hugeLength_7cf53_8 : decode cJ8_hugeLength_7cf53 8 = .ok (.new 204, 3) := by decide +kernel
theorem dJ8_hugeLength_7cf53_11 : decode cJ8_hugeLength_7cf53 11 = .ok (.dup, 1) := by decide +kernel
theorem dJ8_hugeLength_7cf53_12 : decode cJ8_hugeLength_7cf53 12 = .ok (.new 89, 3) := by decide +kernel
theorem dJ8_hugeLength_7cf53_15 : decode cJ8_hugeLength_7cf53 15 = .ok (.dup, 1) := by decide +kernel
theorem dJ8_hugeLength_7cf53_16 : decode cJ8_hugeLength_7cf53 16 = .ok (.invokespecial 91, 3) := by decide +kernel
theorem dJ8_hugeLength_7cf53_19 : decode cJ8_hugeLength_7cf53 19 = .ok (.ldc 206, 2) := by decide +kernel
theorem dJ8_hugeLength_7cf53_21 : decode cJ8_hugeLength_7cf53 21 = .ok (.invokevirtual 94, 3) := by decide +kernel
theorem dJ8_hugeLength_7cf53_24 : decode cJ8_hugeLength_7cf53 24 = .ok (.iload_n 0, 1) := by decide +kernel
theorem dJ8_hugeLength_7cf53_25 : decode cJ8_hugeLength_7cf53 25 = .ok (.invokevirtual 98, 3) := by decide +kernel
theorem dJ8_hugeLength_7cf53_28 : decode cJ8_hugeLength_7cf53 28 = .ok (.ldc 208, 2) := by decide +kernel
theorem dJ8_hugeLength_7cf53_30 : decode cJ8_hugeLength_7cf53 30 = .ok (.invokevirtual 94, 3) := by decide +kernel
theorem dJ8_hugeLength_7cf53_33 : decode cJ8_hugeLength_7cf53 33 = .ok (.iload_n 1, 1) := by decide +kernel
theorem dJ8_hugeLength_7cf53_34 : decode cJ8_hugeLength_7cf53 34 = .ok (.invokevirtual 98, 3) := by decide +kernel
theorem dJ8_hugeLength_7cf53_37 : decode cJ8_hugeLength_7cf53 37 = .ok (.ldc 210, 2) := by decide +kernel
theorem dJ8_hugeLength_7cf53_39 : decode cJ8_hugeLength_7cf53 39 = .ok (.invokevirtual 94, 3) := by decide +kernel
theorem dJ8_hugeLength_7cf53_42 : decode cJ8_hugeLength_7cf53 42 = .ok (.invokevirtual 101, 3) := by decide +kernel
theorem dJ8_hugeLength_7cf53_45 : decode cJ8_hugeLength_7cf53 45 = .ok (.invokespecial 212, 3) := by decide +kernel
theorem dJ8_hugeLength_7cf53_48 : decode cJ8_hugeLength_7cf53 48 = .ok (.athrow, 1) := by decide +kernel
theorem dJ8_hugeLength_7cf53_49 : decode cJ8_hugeLength_7cf53 49 = .ok (.iload_n 2, 1) := by decide +kernel
theorem dJ8_hugeLength_7cf53_50 : decode cJ8_hugeLength_7cf53 50 = .ok (.ldc 200, 2) := by decide +kernel
theorem dJ8_hugeLength_7cf53_52 : decode cJ8_hugeLength_7cf53 52 = .ok (.if_icmp .gt 6, 3) := by decide +kernel
theorem dJ8_hugeLength_7cf53_55 : decode cJ8_hugeLength_7cf53 55 = .ok (.ldc 200, 2) := by decide +kernel
theorem dJ8_hugeLength_7cf53_57 : decode cJ8_hugeLength_7cf53 57 = .ok (.ireturn, 1) := by decide +kernel
theorem dJ8_hugeLength_7cf53_58 : decode cJ8_hugeLength_7cf53 58 = .ok (.iload_n 2, 1) := by decide +kernel
theorem dJ8_hugeLength_7cf53_59 : decode cJ8_hugeLength_7cf53 59 = .ok (.ireturn, 1) := by decide +kernel
theorem dJ3_checkIndex_8e157_0 : decode cJ3_checkIndex_8e157 0 = .ok (.iload_n 0, 1) := by decide +kernel
theorem dJ3_checkIndex_8e157_1 : decode cJ3_checkIndex_8e157 1 = .ok (.ifCond .lt 8, 3) := by decide +kernel
theorem dJ3_checkIndex_8e157_4 : decode cJ3_checkIndex_8e157 4 = .ok (.iload_n 0, 1) := by decide +kernel
theorem dJ3_checkIndex_8e157_5 : decode cJ3_checkIndex_8e157 5 = .ok (.iload_n 1, 1) := by decide +kernel
theorem dJ3_checkIndex_8e157_6 : decode cJ3_checkIndex_8e157 6 = .ok (.if_icmp .lt 10, 3) := by decide +kernel
theorem dJ3_checkIndex_8e157_9 : decode cJ3_checkIndex_8e157 9 = .ok (.aload_n 2, 1) := by decide +kernel
theorem dJ3_checkIndex_8e157_10 : decode cJ3_checkIndex_8e157 10 = .ok (.iload_n 0, 1) := by decide +kernel
theorem dJ3_checkIndex_8e157_11 : decode cJ3_checkIndex_8e157 11 = .ok (.iload_n 1, 1) := by decide +kernel
theorem dJ3_checkIndex_8e157_12 : decode cJ3_checkIndex_8e157 12 = .ok (.invokestatic 95, 3) := by decide +kernel
theorem dJ3_checkIndex_8e157_15 : decode cJ3_checkIndex_8e157 15 = .ok (.athrow, 1) := by decide +kernel
theorem dJ3_checkIndex_8e157_16 : decode cJ3_checkIndex_8e157 16 = .ok (.iload_n 0, 1) := by decide +kernel
theorem dJ3_checkIndex_8e157_17 : decode cJ3_checkIndex_8e157 17 = .ok (.ireturn, 1) := by decide +kernel
end
section
theorem dL_law_0 : decode cL_law 0 = .ok (.new 7, 3) := by decide +kernel
theorem dL_law_3 : decode cL_law 3 = .ok (.dup, 1) := by decide +kernel
theorem dL_law_4 : decode cL_law 4 = .ok (.invokespecial 9, 3) := by decide +kernel
theorem dL_law_7 : decode cL_law 7 = .ok (.astore_n 1, 1) := by decide +kernel
theorem dL_law_8 : decode cL_law 8 = .ok (.new 10, 3) := by decide +kernel
theorem dL_law_11 : decode cL_law 11 = .ok (.dup, 1) := by decide +kernel
theorem dL_law_12 : decode cL_law 12 = .ok (.invokespecial 12, 3) := by decide +kernel
theorem dL_law_15 : decode cL_law 15 = .ok (.astore_n 2, 1) := by decide +kernel
theorem dL_law_16 : decode cL_law 16 = .ok (.iconst 0, 1) := by decide +kernel
theorem dL_law_17 : decode cL_law 17 = .ok (.istore_n 3, 1) := by decide +kernel
theorem dL_law_18 : decode cL_law 18 = .ok (.iload_n 3, 1) := by decide +kernel
theorem dL_law_19 : decode cL_law 19 = .ok (.aload_n 0, 1) := by decide +kernel
theorem dL_law_20 : decode cL_law 20 = .ok (.arraylength, 1) := by decide +kernel
theorem dL_law_21 : decode cL_law 21 = .ok (.bipush 9, 2) := by decide +kernel
theorem dL_law_23 : decode cL_law 23 = .ok (.isub, 1) := by decide +kernel
theorem dL_law_24 : decode cL_law 24 = .ok (.if_icmp .gt 722, 3) := by decide +kernel
theorem dL_law_27 : decode cL_law 27 = .ok (.aload_n 0, 1) := by decide +kernel
theorem dL_law_28 : decode cL_law 28 = .ok (.iload_n 3, 1) := by decide +kernel
theorem dL_law_29 : decode cL_law 29 = .ok (.iaload, 1) := by decide +kernel
theorem dL_law_30 : decode cL_law 30 = .ok (.bipush 15, 2) := by decide +kernel
theorem dL_law_32 : decode cL_law 32 = .ok (.iand, 1) := by decide +kernel
theorem dL_law_33 : decode cL_law 33 = .ok (.tableswitch 707 0 15 #[79, 166, 229, 252, 265, 288, 311, 344, 367, 390, 453, 486, 529, 562, 585, 684], 79) := by decide +kernel
theorem dL_law_112 : decode cL_law 112 = .ok (.aload_n 1, 1) := by decide +kernel
theorem dL_law_113 : decode cL_law 113 = .ok (.aload_n 0, 1) := by decide +kernel
theorem dL_law_114 : decode cL_law 114 = .ok (.iload_n 3, 1) := by decide +kernel
theorem dL_law_115 : decode cL_law 115 = .ok (.iconst 1, 1) := by decide +kernel
theorem dL_law_116 : decode cL_law 116 = .ok (.iadd, 1) := by decide +kernel
theorem dL_law_117 : decode cL_law 117 = .ok (.iaload, 1) := by decide +kernel
theorem dL_law_118 : decode cL_law 118 = .ok (.aload_n 0, 1) := by decide +kernel
theorem dL_law_119 : decode cL_law 119 = .ok (.iload_n 3, 1) := by decide +kernel
theorem dL_law_120 : decode cL_law 120 = .ok (.iconst 2, 1) := by decide +kernel
theorem dL_law_121 : decode cL_law 121 = .ok (.iadd, 1) := by decide +kernel
theorem dL_law_122 : decode cL_law 122 = .ok (.iaload, 1) := by decide +kernel
theorem dL_law_123 : decode cL_law 123 = .ok (.aload_n 0, 1) := by decide +kernel
theorem dL_law_124 : decode cL_law 124 = .ok (.iload_n 3, 1) := by decide +kernel
theorem dL_law_125 : decode cL_law 125 = .ok (.iconst 3, 1) := by decide +kernel
theorem dL_law_126 : decode cL_law 126 = .ok (.iadd, 1) := by decide +kernel
theorem dL_law_127 : decode cL_law 127 = .ok (.iaload, 1) := by decide +kernel
theorem dL_law_128 : decode cL_law 128 = .ok (.aload_n 0, 1) := by decide +kernel
theorem dL_law_129 : decode cL_law 129 = .ok (.iload_n 3, 1) := by decide +kernel
theorem dL_law_130 : decode cL_law 130 = .ok (.iconst 4, 1) := by decide +kernel
theorem dL_law_131 : decode cL_law 131 = .ok (.iadd, 1) := by decide +kernel
theorem dL_law_132 : decode cL_law 132 = .ok (.iaload, 1) := by decide +kernel
theorem dL_law_133 : decode cL_law 133 = .ok (.aload_n 0, 1) := by decide +kernel
theorem dL_law_134 : decode cL_law 134 = .ok (.iload_n 3, 1) := by decide +kernel
theorem dL_law_135 : decode cL_law 135 = .ok (.iconst 5, 1) := by decide +kernel
theorem dL_law_136 : decode cL_law 136 = .ok (.iadd, 1) := by decide +kernel
theorem dL_law_137 : decode cL_law 137 = .ok (.iaload, 1) := by decide +kernel
theorem dL_law_138 : decode cL_law 138 = .ok (.aload_n 0, 1) := by decide +kernel
theorem dL_law_139 : decode cL_law 139 = .ok (.iload_n 3, 1) := by decide +kernel
theorem dL_law_140 : decode cL_law 140 = .ok (.bipush 6, 2) := by decide +kernel
theorem dL_law_142 : decode cL_law 142 = .ok (.iadd, 1) := by decide +kernel
theorem dL_law_143 : decode cL_law 143 = .ok (.iaload, 1) := by decide +kernel
theorem dL_law_144 : decode cL_law 144 = .ok (.aload_n 0, 1) := by decide +kernel
theorem dL_law_145 : decode cL_law 145 = .ok (.iload_n 3, 1) := by decide +kernel
theorem dL_law_146 : decode cL_law 146 = .ok (.bipush 7, 2) := by decide +kernel
theorem dL_law_148 : decode cL_law 148 = .ok (.iadd, 1) := by decide +kernel
theorem dL_law_149 : decode cL_law 149 = .ok (.iaload, 1) := by decide +kernel
theorem dL_law_150 : decode cL_law 150 = .ok (.invokevirtual 13, 3) := by decide +kernel
theorem dL_law_153 : decode cL_law 153 = .ok (.aload_n 2, 1) := by decide +kernel
theorem dL_law_154 : decode cL_law 154 = .ok (.aload_n 0, 1) := by decide +kernel
theorem dL_law_155 : decode cL_law 155 = .ok (.iload_n 3, 1) := by decide +kernel
theorem dL_law_156 : decode cL_law 156 = .ok (.iconst 1, 1) := by decide +kernel
theorem dL_law_157 : decode cL_law 157 = .ok (.iadd, 1) := by decide +kernel
theorem dL_law_158 : decode cL_law 158 = .ok (.iaload, 1) := by decide +kernel
theorem dL_law_159 : decode cL_law 159 = .ok (.aload_n 0, 1) := by decide +kernel
theorem dL_law_160 : decode cL_law 160 = .ok (.iload_n 3, 1) := by decide +kernel
theorem dL_law_161 : decode cL_law 161 = .ok (.iconst 2, 1) := by decide +kernel
theorem dL_law_162 : decode cL_law 162 = .ok (.iadd, 1) := by decide +kernel
theorem dL_law_163 : decode cL_law 163 = .ok (.iaload, 1) := by decide +kernel
theorem dL_law_164 : decode cL_law 164 = .ok (.aload_n 0, 1) := by decide +kernel
theorem dL_law_165 : decode cL_law 165 = .ok (.iload_n 3, 1) := by decide +kernel
theorem dL_law_166 : decode cL_law 166 = .ok (.iconst 3, 1) := by decide +kernel
theorem dL_law_167 : decode cL_law 167 = .ok (.iadd, 1) := by decide +kernel
theorem dL_law_168 : decode cL_law 168 = .ok (.iaload, 1) := by decide +kernel
theorem dL_law_169 : decode cL_law 169 = .ok (.aload_n 0, 1) := by decide +kernel
theorem dL_law_170 : decode cL_law 170 = .ok (.iload_n 3, 1) := by decide +kernel
theorem dL_law_171 : decode cL_law 171 = .ok (.iconst 4, 1) := by decide +kernel
theorem dL_law_172 : decode cL_law 172 = .ok (.iadd, 1) := by decide +kernel
theorem dL_law_173 : decode cL_law 173 = .ok (.iaload, 1) := by decide +kernel
theorem dL_law_174 : decode cL_law 174 = .ok (.aload_n 0, 1) := by decide +kernel
theorem dL_law_175 : decode cL_law 175 = .ok (.iload_n 3, 1) := by decide +kernel
theorem dL_law_176 : decode cL_law 176 = .ok (.iconst 5, 1) := by decide +kernel
theorem dL_law_177 : decode cL_law 177 = .ok (.iadd, 1) := by decide +kernel
theorem dL_law_178 : decode cL_law 178 = .ok (.iaload, 1) := by decide +kernel
theorem dL_law_179 : decode cL_law 179 = .ok (.aload_n 0, 1) := by decide +kernel
theorem dL_law_180 : decode cL_law 180 = .ok (.iload_n 3, 1) := by decide +kernel
theorem dL_law_181 : decode cL_law 181 = .ok (.bipush 6, 2) := by decide +kernel
theorem dL_law_183 : decode cL_law 183 = .ok (.iadd, 1) := by decide +kernel
theorem dL_law_184 : decode cL_law 184 = .ok (.iaload, 1) := by decide +kernel
theorem dL_law_185 : decode cL_law 185 = .ok (.aload_n 0, 1) := by decide +kernel
theorem dL_law_186 : decode cL_law 186 = .ok (.iload_n 3, 1) := by decide +kernel
theorem dL_law_187 : decode cL_law 187 = .ok (.bipush 7, 2) := by decide +kernel
theorem dL_law_189 : decode cL_law 189 = .ok (.iadd, 1) := by decide +kernel
theorem dL_law_190 : decode cL_law 190 = .ok (.iaload, 1) := by decide +kernel
theorem dL_law_191 : decode cL_law 191 = .ok (.invokevirtual 17, 3) := by decide +kernel
theorem dL_law_194 : decode cL_law 194 = .ok (.if_icmp .eq 546, 3) := by decide +kernel
theorem dL_law_197 : decode cL_law 197 = .ok (.iconst 0, 1) := by decide +kernel
theorem dL_law_198 : decode cL_law 198 = .ok (.ireturn, 1) := by decide +kernel
theorem dL_law_199 : decode cL_law 199 = .ok (.aload_n 1, 1) := by decide +kernel
theorem dL_law_200 : decode cL_law 200 = .ok (.aload_n 0, 1) := by decide +kernel
theorem dL_law_201 : decode cL_law 201 = .ok (.iload_n 3, 1) := by decide +kernel
theorem dL_law_202 : decode cL_law 202 = .ok (.iconst 1, 1) := by decide +kernel
theorem dL_law_203 : decode cL_law 203 = .ok (.iadd, 1) := by decide +kernel
theorem dL_law_204 : decode cL_law 204 = .ok (.iaload, 1) := by decide +kernel
theorem dL_law_205 : decode cL_law 205 = .ok (.aload_n 0, 1) := by decide +kernel
theorem dL_law_206 : decode cL_law 206 = .ok (.iload_n 3, 1) := by decide +kernel
theorem dL_law_207 : decode cL_law 207 = .ok (.iconst 2, 1) := by decide +kernel
theorem dL_law_208 : decode cL_law 208 = .ok (.iadd, 1) := by decide +kernel
theorem dL_law_209 : decode cL_law 209 = .ok (.iaload, 1) := by decide +kernel
theorem dL_law_210 : decode cL_law 210 = .ok (.aload_n 0, 1) := by decide +kernel
theorem dL_law_211 : decode cL_law 211 = .ok (.iload_n 3, 1) := by decide +kernel
theorem dL_law_212 : decode cL_law 212 = .ok (.iconst 3, 1) := by decide +kernel
theorem dL_law_213 : decode cL_law 213 = .ok (.iadd, 1) := by decide +kernel
theorem dL_law_214 : decode cL_law 214 = .ok (.iaload, 1) := by decide +kernel
theorem dL_law_215 : decode cL_law 215 = .ok (.aload_n 0, 1) := by decide +kernel
theorem dL_law_216 : decode cL_law 216 = .ok (.iload_n 3, 1) := by decide +kernel
theorem dL_law_217 : decode cL_law 217 = .ok (.iconst 4, 1) := by decide +kernel
theorem dL_law_218 : decode cL_law 218 = .ok (.iadd, 1) := by decide +kernel
theorem dL_law_219 : decode cL_law 219 = .ok (.iaload, 1) := by decide +kernel
theorem dL_law_220 : decode cL_law 220 = .ok (.aload_n 0, 1) := by decide +kernel
theorem dL_law_221 : decode cL_law 221 = .ok (.iload_n 3, 1) := by decide +kernel
theorem dL_law_222 : decode cL_law 222 = .ok (.iconst 5, 1) := by decide +kernel
theorem dL_law_223 : decode cL_law 223 = .ok (.iadd, 1) := by decide +kernel
theorem dL_law_224 : decode cL_law 224 = .ok (.iaload, 1) := by decide +kernel
theorem dL_law_225 : decode cL_law 225 = .ok (.invokevirtual 18, 3) := by decide +kernel
theorem dL_law_228 : decode cL_law 228 = .ok (.aload_n 2, 1) := by decide +kernel
theorem dL_law_229 : decode cL_law 229 = .ok (.aload_n 0, 1) := by decide +kernel
theorem dL_law_230 : decode cL_law 230 = .ok (.iload_n 3, 1) := by decide +kernel
theorem dL_law_231 : decode cL_law 231 = .ok (.iconst 1, 1) := by decide +kernel
theorem dL_law_232 : decode cL_law 232 = .ok (.iadd, 1) := by decide +kernel
theorem dL_law_233 : decode cL_law 233 = .ok (.iaload, 1) := by decide +kernel
theorem dL_law_234 : decode cL_law 234 = .ok (.aload_n 0, 1) := by decide +kernel
theorem dL_law_235 : decode cL_law 235 = .ok (.iload_n 3, 1) := by decide +kernel
theorem dL_law_236 : decode cL_law 236 = .ok (.iconst 2, 1) := by decide +kernel
theorem dL_law_237 : decode cL_law 237 = .ok (.iadd, 1) := by decide +kernel
theorem dL_law_238 : decode cL_law 238 = .ok (.iaload, 1) := by decide +kernel
theorem dL_law_239 : decode cL_law 239 = .ok (.aload_n 0, 1) := by decide +kernel
theorem dL_law_240 : decode cL_law 240 = .ok (.iload_n 3, 1) := by decide +kernel
theorem dL_law_241 : decode cL_law 241 = .ok (.iconst 3, 1) := by decide +kernel
theorem dL_law_242 : decode cL_law 242 = .ok (.iadd, 1) := by decide +kernel
theorem dL_law_243 : decode cL_law 243 = .ok (.iaload, 1) := by decide +kernel
theorem dL_law_244 : decode cL_law 244 = .ok (.aload_n 0, 1) := by decide +kernel
theorem dL_law_245 : decode cL_law 245 = .ok (.iload_n 3, 1) := by decide +kernel
theorem dL_law_246 : decode cL_law 246 = .ok (.iconst 4, 1) := by decide +kernel
theorem dL_law_247 : decode cL_law 247 = .ok (.iadd, 1) := by decide +kernel
theorem dL_law_248 : decode cL_law 248 = .ok (.iaload, 1) := by decide +kernel
theorem dL_law_249 : decode cL_law 249 = .ok (.aload_n 0, 1) := by decide +kernel
theorem dL_law_250 : decode cL_law 250 = .ok (.iload_n 3, 1) := by decide +kernel
theorem dL_law_251 : decode cL_law 251 = .ok (.iconst 5, 1) := by decide +kernel
theorem dL_law_252 : decode cL_law 252 = .ok (.iadd, 1) := by decide +kernel
theorem dL_law_253 : decode cL_law 253 = .ok (.iaload, 1) := by decide +kernel
theorem dL_law_254 : decode cL_law 254 = .ok (.invokevirtual 22, 3) := by decide +kernel
theorem dL_law_257 : decode cL_law 257 = .ok (.if_icmp .eq 483, 3) := by decide +kernel
theorem dL_law_260 : decode cL_law 260 = .ok (.iconst 0, 1) := by decide +kernel
theorem dL_law_261 : decode cL_law 261 = .ok (.ireturn, 1) := by decide +kernel
theorem dL_law_262 : decode cL_law 262 = .ok (.aload_n 1, 1) := by decide +kernel
theorem dL_law_263 : decode cL_law 263 = .ok (.aload_n 0, 1) := by decide +kernel
theorem dL_law_264 : decode cL_law 264 = .ok (.iload_n 3, 1) := by decide +kernel
theorem dL_law_265 : decode cL_law 265 = .ok (.iconst 1, 1) := by decide +kernel
theorem dL_law_266 : decode cL_law 266 = .ok (.iadd, 1) := by decide +kernel
theorem dL_law_267 : decode cL_law 267 = .ok (.iaload, 1) := by decide +kernel
theorem dL_law_268 : decode cL_law 268 = .ok (.invokevirtual 23, 3) := by decide +kernel
theorem dL_law_271 : decode cL_law 271 = .ok (.aload_n 2, 1) := by decide +kernel
theorem dL_law_272 : decode cL_law 272 = .ok (.aload_n 0, 1) := by decide +kernel
theorem dL_law_273 : decode cL_law 273 = .ok (.iload_n 3, 1) := by decide +kernel
theorem dL_law_274 : decode cL_law 274 = .ok (.iconst 1, 1) := by decide +kernel
theorem dL_law_275 : decode cL_law 275 = .ok (.iadd, 1) := by decide +kernel
theorem dL_law_276 : decode cL_law 276 = .ok (.iaload, 1) := by decide +kernel
theorem dL_law_277 : decode cL_law 277 = .ok (.invokevirtual 27, 3) := by decide +kernel
theorem dL_law_280 : decode cL_law 280 = .ok (.if_icmp .eq 460, 3) := by decide +kernel
theorem dL_law_283 : decode cL_law 283 = .ok (.iconst 0, 1) := by decide +kernel
theorem dL_law_284 : decode cL_law 284 = .ok (.ireturn, 1) := by decide +kernel
theorem dL_law_285 : decode cL_law 285 = .ok (.aload_n 1, 1) := by decide +kernel
theorem dL_law_286 : decode cL_law 286 = .ok (.invokevirtual 28, 3) := by decide +kernel
theorem dL_law_289 : decode cL_law 289 = .ok (.aload_n 2, 1) := by decide +kernel
theorem dL_law_290 : decode cL_law 290 = .ok (.invokevirtual 32, 3) := by decide +kernel
theorem dL_law_293 : decode cL_law 293 = .ok (.if_icmp .eq 447, 3) := by decide +kernel
theorem dL_law_296 : decode cL_law 296 = .ok (.iconst 0, 1) := by decide +kernel
theorem dL_law_297 : decode cL_law 297 = .ok (.ireturn, 1) := by decide +kernel
theorem dL_law_298 : decode cL_law 298 = .ok (.aload_n 1, 1) := by decide +kernel
theorem dL_law_299 : decode cL_law 299 = .ok (.aload_n 0, 1) := by decide +kernel
theorem dL_law_300 : decode cL_law 300 = .ok (.iload_n 3, 1) := by decide +kernel
theorem dL_law_301 : decode cL_law 301 = .ok (.iconst 1, 1) := by decide +kernel
theorem dL_law_302 : decode cL_law 302 = .ok (.iadd, 1) := by decide +kernel
theorem dL_law_303 : decode cL_law 303 = .ok (.iaload, 1) := by decide +kernel
theorem dL_law_304 : decode cL_law 304 = .ok (.invokevirtual 33, 3) := by decide +kernel
theorem dL_law_307 : decode cL_law 307 = .ok (.aload_n 2, 1) := by decide +kernel
theorem dL_law_308 : decode cL_law 308 = .ok (.aload_n 0, 1) := by decide +kernel
theorem dL_law_309 : decode cL_law 309 = .ok (.iload_n 3, 1) := by decide +kernel
theorem dL_law_310 : decode cL_law 310 = .ok (.iconst 1, 1) := by decide +kernel
theorem dL_law_311 : decode cL_law 311 = .ok (.iadd, 1) := by decide +kernel
theorem dL_law_312 : decode cL_law 312 = .ok (.iaload, 1) := by decide +kernel
theorem dL_law_313 : decode cL_law 313 = .ok (.invokevirtual 37, 3) := by decide +kernel
theorem dL_law_316 : decode cL_law 316 = .ok (.if_icmp .eq 424, 3) := by decide +kernel
theorem dL_law_319 : decode cL_law 319 = .ok (.iconst 0, 1) := by decide +kernel
theorem dL_law_320 : decode cL_law 320 = .ok (.ireturn, 1) := by decide +kernel
theorem dL_law_321 : decode cL_law 321 = .ok (.aload_n 1, 1) := by decide +kernel
theorem dL_law_322 : decode cL_law 322 = .ok (.aload_n 0, 1) := by decide +kernel
theorem dL_law_323 : decode cL_law 323 = .ok (.iload_n 3, 1) := by decide +kernel
theorem dL_law_324 : decode cL_law 324 = .ok (.iconst 1, 1) := by decide +kernel
theorem dL_law_325 : decode cL_law 325 = .ok (.iadd, 1) := by decide +kernel
theorem dL_law_326 : decode cL_law 326 = .ok (.iaload, 1) := by decide +kernel
theorem dL_law_327 : decode cL_law 327 = .ok (.invokevirtual 38, 3) := by decide +kernel
theorem dL_law_330 : decode cL_law 330 = .ok (.aload_n 2, 1) := by decide +kernel
theorem dL_law_331 : decode cL_law 331 = .ok (.aload_n 0, 1) := by decide +kernel
theorem dL_law_332 : decode cL_law 332 = .ok (.iload_n 3, 1) := by decide +kernel
theorem dL_law_333 : decode cL_law 333 = .ok (.iconst 1, 1) := by decide +kernel
theorem dL_law_334 : decode cL_law 334 = .ok (.iadd, 1) := by decide +kernel
theorem dL_law_335 : decode cL_law 335 = .ok (.iaload, 1) := by decide +kernel
theorem dL_law_336 : decode cL_law 336 = .ok (.invokevirtual 41, 3) := by decide +kernel
theorem dL_law_339 : decode cL_law 339 = .ok (.if_icmp .eq 401, 3) := by decide +kernel
theorem dL_law_342 : decode cL_law 342 = .ok (.iconst 0, 1) := by decide +kernel
theorem dL_law_343 : decode cL_law 343 = .ok (.ireturn, 1) := by decide +kernel
theorem dL_law_344 : decode cL_law 344 = .ok (.aload_n 1, 1) := by decide +kernel
theorem dL_law_345 : decode cL_law 345 = .ok (.aload_n 0, 1) := by decide +kernel
theorem dL_law_346 : decode cL_law 346 = .ok (.iload_n 3, 1) := by decide +kernel
theorem dL_law_347 : decode cL_law 347 = .ok (.iconst 1, 1) := by decide +kernel
theorem dL_law_348 : decode cL_law 348 = .ok (.iadd, 1) := by decide +kernel
theorem dL_law_349 : decode cL_law 349 = .ok (.iaload, 1) := by decide +kernel
theorem dL_law_350 : decode cL_law 350 = .ok (.aload_n 0, 1) := by decide +kernel
theorem dL_law_351 : decode cL_law 351 = .ok (.iload_n 3, 1) := by decide +kernel
theorem dL_law_352 : decode cL_law 352 = .ok (.iconst 2, 1) := by decide +kernel
theorem dL_law_353 : decode cL_law 353 = .ok (.iadd, 1) := by decide +kernel
theorem dL_law_354 : decode cL_law 354 = .ok (.iaload, 1) := by decide +kernel
theorem dL_law_355 : decode cL_law 355 = .ok (.invokevirtual 42, 3) := by decide +kernel
theorem dL_law_358 : decode cL_law 358 = .ok (.aload_n 2, 1) := by decide +kernel
theorem dL_law_359 : decode cL_law 359 = .ok (.aload_n 0, 1) := by decide +kernel
theorem dL_law_360 : decode cL_law 360 = .ok (.iload_n 3, 1) := by decide +kernel
theorem dL_law_361 : decode cL_law 361 = .ok (.iconst 1, 1) := by decide +kernel
theorem dL_law_362 : decode cL_law 362 = .ok (.iadd, 1) := by decide +kernel
theorem dL_law_363 : decode cL_law 363 = .ok (.iaload, 1) := by decide +kernel
theorem dL_law_364 : decode cL_law 364 = .ok (.aload_n 0, 1) := by decide +kernel
theorem dL_law_365 : decode cL_law 365 = .ok (.iload_n 3, 1) := by decide +kernel
theorem dL_law_366 : decode cL_law 366 = .ok (.iconst 2, 1) := by decide +kernel
theorem dL_law_367 : decode cL_law 367 = .ok (.iadd, 1) := by decide +kernel
theorem dL_law_368 : decode cL_law 368 = .ok (.iaload, 1) := by decide +kernel
theorem dL_law_369 : decode cL_law 369 = .ok (.invokevirtual 46, 3) := by decide +kernel
theorem dL_law_372 : decode cL_law 372 = .ok (.if_icmp .eq 368, 3) := by decide +kernel
theorem dL_law_375 : decode cL_law 375 = .ok (.iconst 0, 1) := by decide +kernel
theorem dL_law_376 : decode cL_law 376 = .ok (.ireturn, 1) := by decide +kernel
theorem dL_law_377 : decode cL_law 377 = .ok (.aload_n 1, 1) := by decide +kernel
theorem dL_law_378 : decode cL_law 378 = .ok (.aload_n 0, 1) := by decide +kernel
theorem dL_law_379 : decode cL_law 379 = .ok (.iload_n 3, 1) := by decide +kernel
theorem dL_law_380 : decode cL_law 380 = .ok (.iconst 1, 1) := by decide +kernel
theorem dL_law_381 : decode cL_law 381 = .ok (.iadd, 1) := by decide +kernel
theorem dL_law_382 : decode cL_law 382 = .ok (.iaload, 1) := by decide +kernel
theorem dL_law_383 : decode cL_law 383 = .ok (.invokevirtual 47, 3) := by decide +kernel
theorem dL_law_386 : decode cL_law 386 = .ok (.aload_n 2, 1) := by decide +kernel
theorem dL_law_387 : decode cL_law 387 = .ok (.aload_n 0, 1) := by decide +kernel
theorem dL_law_388 : decode cL_law 388 = .ok (.iload_n 3, 1) := by decide +kernel
theorem dL_law_389 : decode cL_law 389 = .ok (.iconst 1, 1) := by decide +kernel
theorem dL_law_390 : decode cL_law 390 = .ok (.iadd, 1) := by decide +kernel
theorem dL_law_391 : decode cL_law 391 = .ok (.iaload, 1) := by decide +kernel
theorem dL_law_392 : decode cL_law 392 = .ok (.invokevirtual 50, 3) := by decide +kernel
theorem dL_law_395 : decode cL_law 395 = .ok (.if_icmp .eq 345, 3) := by decide +kernel
theorem dL_law_398 : decode cL_law 398 = .ok (.iconst 0, 1) := by decide +kernel
theorem dL_law_399 : decode cL_law 399 = .ok (.ireturn, 1) := by decide +kernel
theorem dL_law_400 : decode cL_law 400 = .ok (.aload_n 1, 1) := by decide +kernel
theorem dL_law_401 : decode cL_law 401 = .ok (.aload_n 0, 1) := by decide +kernel
theorem dL_law_402 : decode cL_law 402 = .ok (.iload_n 3, 1) := by decide +kernel
theorem dL_law_403 : decode cL_law 403 = .ok (.iconst 1, 1) := by decide +kernel
theorem dL_law_404 : decode cL_law 404 = .ok (.iadd, 1) := by decide +kernel
theorem dL_law_405 : decode cL_law 405 = .ok (.iaload, 1) := by decide +kernel
theorem dL_law_406 : decode cL_law 406 = .ok (.invokevirtual 51, 3) := by decide +kernel
theorem dL_law_409 : decode cL_law 409 = .ok (.aload_n 2, 1) := by decide +kernel
theorem dL_law_410 : decode cL_law 410 = .ok (.aload_n 0, 1) := by decide +kernel
theorem dL_law_411 : decode cL_law 411 = .ok (.iload_n 3, 1) := by decide +kernel
theorem dL_law_412 : decode cL_law 412 = .ok (.iconst 1, 1) := by decide +kernel
theorem dL_law_413 : decode cL_law 413 = .ok (.iadd, 1) := by decide +kernel
theorem dL_law_414 : decode cL_law 414 = .ok (.iaload, 1) := by decide +kernel
theorem dL_law_415 : decode cL_law 415 = .ok (.invokevirtual 54, 3) := by decide +kernel
theorem dL_law_418 : decode cL_law 418 = .ok (.if_icmp .eq 322, 3) := by decide +kernel
theorem dL_law_421 : decode cL_law 421 = .ok (.iconst 0, 1) := by decide +kernel
theorem dL_law_422 : decode cL_law 422 = .ok (.ireturn, 1) := by decide +kernel
theorem dL_law_423 : decode cL_law 423 = .ok (.aload_n 1, 1) := by decide +kernel
theorem dL_law_424 : decode cL_law 424 = .ok (.aload_n 0, 1) := by decide +kernel
theorem dL_law_425 : decode cL_law 425 = .ok (.iload_n 3, 1) := by decide +kernel
theorem dL_law_426 : decode cL_law 426 = .ok (.iconst 1, 1) := by decide +kernel
theorem dL_law_427 : decode cL_law 427 = .ok (.iadd, 1) := by decide +kernel
theorem dL_law_428 : decode cL_law 428 = .ok (.iaload, 1) := by decide +kernel
theorem dL_law_429 : decode cL_law 429 = .ok (.aload_n 0, 1) := by decide +kernel
theorem dL_law_430 : decode cL_law 430 = .ok (.iload_n 3, 1) := by decide +kernel
theorem dL_law_431 : decode cL_law 431 = .ok (.iconst 2, 1) := by decide +kernel
theorem dL_law_432 : decode cL_law 432 = .ok (.iadd, 1) := by decide +kernel
theorem dL_law_433 : decode cL_law 433 = .ok (.iaload, 1) := by decide +kernel
theorem dL_law_434 : decode cL_law 434 = .ok (.aload_n 0, 1) := by decide +kernel
theorem dL_law_435 : decode cL_law 435 = .ok (.iload_n 3, 1) := by decide +kernel
theorem dL_law_436 : decode cL_law 436 = .ok (.iconst 3, 1) := by decide +kernel
theorem dL_law_437 : decode cL_law 437 = .ok (.iadd, 1) := by decide +kernel
theorem dL_law_438 : decode cL_law 438 = .ok (.iaload, 1) := by decide +kernel
theorem dL_law_439 : decode cL_law 439 = .ok (.aload_n 0, 1) := by decide +kernel
theorem dL_law_440 : decode cL_law 440 = .ok (.iload_n 3, 1) := by decide +kernel
theorem dL_law_441 : decode cL_law 441 = .ok (.iconst 4, 1) := by decide +kernel
theorem dL_law_442 : decode cL_law 442 = .ok (.iadd, 1) := by decide +kernel
theorem dL_law_443 : decode cL_law 443 = .ok (.iaload, 1) := by decide +kernel
theorem dL_law_444 : decode cL_law 444 = .ok (.aload_n 0, 1) := by decide +kernel
theorem dL_law_445 : decode cL_law 445 = .ok (.iload_n 3, 1) := by decide +kernel
theorem dL_law_446 : decode cL_law 446 = .ok (.iconst 5, 1) := by decide +kernel
theorem dL_law_447 : decode cL_law 447 = .ok (.iadd, 1) := by decide +kernel
theorem dL_law_448 : decode cL_law 448 = .ok (.iaload, 1) := by decide +kernel
theorem dL_law_449 : decode cL_law 449 = .ok (.invokevirtual 55, 3) := by decide +kernel
theorem dL_law_452 : decode cL_law 452 = .ok (.aload_n 2, 1) := by decide +kernel
theorem dL_law_453 : decode cL_law 453 = .ok (.aload_n 0, 1) := by decide +kernel
theorem dL_law_454 : decode cL_law 454 = .ok (.iload_n 3, 1) := by decide +kernel
theorem dL_law_455 : decode cL_law 455 = .ok (.iconst 1, 1) := by decide +kernel
theorem dL_law_456 : decode cL_law 456 = .ok (.iadd, 1) := by decide +kernel
theorem dL_law_457 : decode cL_law 457 = .ok (.iaload, 1) := by decide +kernel
theorem dL_law_458 : decode cL_law 458 = .ok (.aload_n 0, 1) := by decide +kernel
theorem dL_law_459 : decode cL_law 459 = .ok (.iload_n 3, 1) := by decide +kernel
theorem dL_law_460 : decode cL_law 460 = .ok (.iconst 2, 1) := by decide +kernel
theorem dL_law_461 : decode cL_law 461 = .ok (.iadd, 1) := by decide +kernel
theorem dL_law_462 : decode cL_law 462 = .ok (.iaload, 1) := by decide +kernel
theorem dL_law_463 : decode cL_law 463 = .ok (.aload_n 0, 1) := by decide +kernel
theorem dL_law_464 : decode cL_law 464 = .ok (.iload_n 3, 1) := by decide +kernel
theorem dL_law_465 : decode cL_law 465 = .ok (.iconst 3, 1) := by decide +kernel
theorem dL_law_466 : decode cL_law 466 = .ok (.iadd, 1) := by decide +kernel
theorem dL_law_467 : decode cL_law 467 = .ok (.iaload, 1) := by decide +kernel
theorem dL_law_468 : decode cL_law 468 = .ok (.aload_n 0, 1) := by decide +kernel
theorem dL_law_469 : decode cL_law 469 = .ok (.iload_n 3, 1) := by decide +kernel
theorem dL_law_470 : decode cL_law 470 = .ok (.iconst 4, 1) := by decide +kernel
theorem dL_law_471 : decode cL_law 471 = .ok (.iadd, 1) := by decide +kernel
theorem dL_law_472 : decode cL_law 472 = .ok (.iaload, 1) := by decide +kernel
theorem dL_law_473 : decode cL_law 473 = .ok (.aload_n 0, 1) := by decide +kernel
theorem dL_law_474 : decode cL_law 474 = .ok (.iload_n 3, 1) := by decide +kernel
theorem dL_law_475 : decode cL_law 475 = .ok (.iconst 5, 1) := by decide +kernel
theorem dL_law_476 : decode cL_law 476 = .ok (.iadd, 1) := by decide +kernel
theorem dL_law_477 : decode cL_law 477 = .ok (.iaload, 1) := by decide +kernel
theorem dL_law_478 : decode cL_law 478 = .ok (.invokevirtual 59, 3) := by decide +kernel
theorem dL_law_481 : decode cL_law 481 = .ok (.if_icmp .eq 259, 3) := by decide +kernel
theorem dL_law_484 : decode cL_law 484 = .ok (.iconst 0, 1) := by decide +kernel
theorem dL_law_485 : decode cL_law 485 = .ok (.ireturn, 1) := by decide +kernel
theorem dL_law_486 : decode cL_law 486 = .ok (.aload_n 1, 1) := by decide +kernel
theorem dL_law_487 : decode cL_law 487 = .ok (.aload_n 0, 1) := by decide +kernel
theorem dL_law_488 : decode cL_law 488 = .ok (.iload_n 3, 1) := by decide +kernel
theorem dL_law_489 : decode cL_law 489 = .ok (.iconst 1, 1) := by decide +kernel
theorem dL_law_490 : decode cL_law 490 = .ok (.iadd, 1) := by decide +kernel
theorem dL_law_491 : decode cL_law 491 = .ok (.iaload, 1) := by decide +kernel
theorem dL_law_492 : decode cL_law 492 = .ok (.aload_n 0, 1) := by decide +kernel
theorem dL_law_493 : decode cL_law 493 = .ok (.iload_n 3, 1) := by decide +kernel
theorem dL_law_494 : decode cL_law 494 = .ok (.iconst 2, 1) := by decide +kernel
theorem dL_law_495 : decode cL_law 495 = .ok (.iadd, 1) := by decide +kernel
theorem dL_law_496 : decode cL_law 496 = .ok (.iaload, 1) := by decide +kernel
theorem dL_law_497 : decode cL_law 497 = .ok (.invokevirtual 60, 3) := by decide +kernel
theorem dL_law_500 : decode cL_law 500 = .ok (.aload_n 2, 1) := by decide +kernel
theorem dL_law_501 : decode cL_law 501 = .ok (.aload_n 0, 1) := by decide +kernel
theorem dL_law_502 : decode cL_law 502 = .ok (.iload_n 3, 1) := by decide +kernel
theorem dL_law_503 : decode cL_law 503 = .ok (.iconst 1, 1) := by decide +kernel
theorem dL_law_504 : decode cL_law 504 = .ok (.iadd, 1) := by decide +kernel
theorem dL_law_505 : decode cL_law 505 = .ok (.iaload, 1) := by decide +kernel
theorem dL_law_506 : decode cL_law 506 = .ok (.aload_n 0, 1) := by decide +kernel
theorem dL_law_507 : decode cL_law 507 = .ok (.iload_n 3, 1) := by decide +kernel
theorem dL_law_508 : decode cL_law 508 = .ok (.iconst 2, 1) := by decide +kernel
theorem dL_law_509 : decode cL_law 509 = .ok (.iadd, 1) := by decide +kernel
theorem dL_law_510 : decode cL_law 510 = .ok (.iaload, 1) := by decide +kernel
theorem dL_law_511 : decode cL_law 511 = .ok (.invokevirtual 64, 3) := by decide +kernel
theorem dL_law_514 : decode cL_law 514 = .ok (.if_icmp .eq 226, 3) := by decide +kernel
theorem dL_law_517 : decode cL_law 517 = .ok (.iconst 0, 1) := by decide +kernel
theorem dL_law_518 : decode cL_law 518 = .ok (.ireturn, 1) := by decide +kernel
theorem dL_law_519 : decode cL_law 519 = .ok (.aload_n 1, 1) := by decide +kernel
theorem dL_law_520 : decode cL_law 520 = .ok (.aload_n 0, 1) := by decide +kernel
theorem dL_law_521 : decode cL_law 521 = .ok (.iload_n 3, 1) := by decide +kernel
theorem dL_law_522 : decode cL_law 522 = .ok (.iconst 1, 1) := by decide +kernel
theorem dL_law_523 : decode cL_law 523 = .ok (.iadd, 1) := by decide +kernel
theorem dL_law_524 : decode cL_law 524 = .ok (.iaload, 1) := by decide +kernel
theorem dL_law_525 : decode cL_law 525 = .ok (.aload_n 0, 1) := by decide +kernel
theorem dL_law_526 : decode cL_law 526 = .ok (.iload_n 3, 1) := by decide +kernel
theorem dL_law_527 : decode cL_law 527 = .ok (.iconst 2, 1) := by decide +kernel
theorem dL_law_528 : decode cL_law 528 = .ok (.iadd, 1) := by decide +kernel
theorem dL_law_529 : decode cL_law 529 = .ok (.iaload, 1) := by decide +kernel
theorem dL_law_530 : decode cL_law 530 = .ok (.aload_n 0, 1) := by decide +kernel
theorem dL_law_531 : decode cL_law 531 = .ok (.iload_n 3, 1) := by decide +kernel
theorem dL_law_532 : decode cL_law 532 = .ok (.iconst 3, 1) := by decide +kernel
theorem dL_law_533 : decode cL_law 533 = .ok (.iadd, 1) := by decide +kernel
theorem dL_law_534 : decode cL_law 534 = .ok (.iaload, 1) := by decide +kernel
theorem dL_law_535 : decode cL_law 535 = .ok (.invokevirtual 65, 3) := by decide +kernel
theorem dL_law_538 : decode cL_law 538 = .ok (.aload_n 2, 1) := by decide +kernel
theorem dL_law_539 : decode cL_law 539 = .ok (.aload_n 0, 1) := by decide +kernel
theorem dL_law_540 : decode cL_law 540 = .ok (.iload_n 3, 1) := by decide +kernel
theorem dL_law_541 : decode cL_law 541 = .ok (.iconst 1, 1) := by decide +kernel
theorem dL_law_542 : decode cL_law 542 = .ok (.iadd, 1) := by decide +kernel
theorem dL_law_543 : decode cL_law 543 = .ok (.iaload, 1) := by decide +kernel
theorem dL_law_544 : decode cL_law 544 = .ok (.aload_n 0, 1) := by decide +kernel
theorem dL_law_545 : decode cL_law 545 = .ok (.iload_n 3, 1) := by decide +kernel
theorem dL_law_546 : decode cL_law 546 = .ok (.iconst 2, 1) := by decide +kernel
theorem dL_law_547 : decode cL_law 547 = .ok (.iadd, 1) := by decide +kernel
theorem dL_law_548 : decode cL_law 548 = .ok (.iaload, 1) := by decide +kernel
theorem dL_law_549 : decode cL_law 549 = .ok (.aload_n 0, 1) := by decide +kernel
theorem dL_law_550 : decode cL_law 550 = .ok (.iload_n 3, 1) := by decide +kernel
theorem dL_law_551 : decode cL_law 551 = .ok (.iconst 3, 1) := by decide +kernel
theorem dL_law_552 : decode cL_law 552 = .ok (.iadd, 1) := by decide +kernel
theorem dL_law_553 : decode cL_law 553 = .ok (.iaload, 1) := by decide +kernel
theorem dL_law_554 : decode cL_law 554 = .ok (.invokevirtual 69, 3) := by decide +kernel
theorem dL_law_557 : decode cL_law 557 = .ok (.if_icmp .eq 183, 3) := by decide +kernel
theorem dL_law_560 : decode cL_law 560 = .ok (.iconst 0, 1) := by decide +kernel
theorem dL_law_561 : decode cL_law 561 = .ok (.ireturn, 1) := by decide +kernel
theorem dL_law_562 : decode cL_law 562 = .ok (.aload_n 1, 1) := by decide +kernel
theorem dL_law_563 : decode cL_law 563 = .ok (.aload_n 0, 1) := by decide +kernel
theorem dL_law_564 : decode cL_law 564 = .ok (.iload_n 3, 1) := by decide +kernel
theorem dL_law_565 : decode cL_law 565 = .ok (.iconst 1, 1) := by decide +kernel
theorem dL_law_566 : decode cL_law 566 = .ok (.iadd, 1) := by decide +kernel
theorem dL_law_567 : decode cL_law 567 = .ok (.iaload, 1) := by decide +kernel
theorem dL_law_568 : decode cL_law 568 = .ok (.aload_n 0, 1) := by decide +kernel
theorem dL_law_569 : decode cL_law 569 = .ok (.iload_n 3, 1) := by decide +kernel
theorem dL_law_570 : decode cL_law 570 = .ok (.iconst 2, 1) := by decide +kernel
theorem dL_law_571 : decode cL_law 571 = .ok (.iadd, 1) := by decide +kernel
theorem dL_law_572 : decode cL_law 572 = .ok (.iaload, 1) := by decide +kernel
theorem dL_law_573 : decode cL_law 573 = .ok (.invokevirtual 70, 3) := by decide +kernel
theorem dL_law_576 : decode cL_law 576 = .ok (.aload_n 2, 1) := by decide +kernel
theorem dL_law_577 : decode cL_law 577 = .ok (.aload_n 0, 1) := by decide +kernel
theorem dL_law_578 : decode cL_law 578 = .ok (.iload_n 3, 1) := by decide +kernel
theorem dL_law_579 : decode cL_law 579 = .ok (.iconst 1, 1) := by decide +kernel
theorem dL_law_580 : decode cL_law 580 = .ok (.iadd, 1) := by decide +kernel
theorem dL_law_581 : decode cL_law 581 = .ok (.iaload, 1) := by decide +kernel
theorem dL_law_582 : decode cL_law 582 = .ok (.aload_n 0, 1) := by decide +kernel
theorem dL_law_583 : decode cL_law 583 = .ok (.iload_n 3, 1) := by decide +kernel
theorem dL_law_584 : decode cL_law 584 = .ok (.iconst 2, 1) := by decide +kernel
theorem dL_law_585 : decode cL_law 585 = .ok (.iadd, 1) := by decide +kernel
theorem dL_law_586 : decode cL_law 586 = .ok (.iaload, 1) := by decide +kernel
theorem dL_law_587 : decode cL_law 587 = .ok (.invokevirtual 73, 3) := by decide +kernel
theorem dL_law_590 : decode cL_law 590 = .ok (.if_icmp .eq 150, 3) := by decide +kernel
theorem dL_law_593 : decode cL_law 593 = .ok (.iconst 0, 1) := by decide +kernel
theorem dL_law_594 : decode cL_law 594 = .ok (.ireturn, 1) := by decide +kernel
theorem dL_law_595 : decode cL_law 595 = .ok (.aload_n 1, 1) := by decide +kernel
theorem dL_law_596 : decode cL_law 596 = .ok (.aload_n 0, 1) := by decide +kernel
theorem dL_law_597 : decode cL_law 597 = .ok (.iload_n 3, 1) := by decide +kernel
theorem dL_law_598 : decode cL_law 598 = .ok (.iconst 1, 1) := by decide +kernel
theorem dL_law_599 : decode cL_law 599 = .ok (.iadd, 1) := by decide +kernel
theorem dL_law_600 : decode cL_law 600 = .ok (.iaload, 1) := by decide +kernel
theorem dL_law_601 : decode cL_law 601 = .ok (.invokevirtual 74, 3) := by decide +kernel
theorem dL_law_604 : decode cL_law 604 = .ok (.aload_n 2, 1) := by decide +kernel
theorem dL_law_605 : decode cL_law 605 = .ok (.aload_n 0, 1) := by decide +kernel
theorem dL_law_606 : decode cL_law 606 = .ok (.iload_n 3, 1) := by decide +kernel
theorem dL_law_607 : decode cL_law 607 = .ok (.iconst 1, 1) := by decide +kernel
theorem dL_law_608 : decode cL_law 608 = .ok (.iadd, 1) := by decide +kernel
theorem dL_law_609 : decode cL_law 609 = .ok (.iaload, 1) := by decide +kernel
theorem dL_law_610 : decode cL_law 610 = .ok (.invokevirtual 77, 3) := by decide +kernel
theorem dL_law_613 : decode cL_law 613 = .ok (.if_icmp .eq 127, 3) := by decide +kernel
theorem dL_law_616 : decode cL_law 616 = .ok (.iconst 0, 1) := by decide +kernel
theorem dL_law_617 : decode cL_law 617 = .ok (.ireturn, 1) := by decide +kernel
theorem dL_law_618 : decode cL_law 618 = .ok (.aload_n 1, 1) := by decide +kernel
theorem dL_law_619 : decode cL_law 619 = .ok (.aload_n 0, 1) := by decide +kernel
theorem dL_law_620 : decode cL_law 620 = .ok (.iload_n 3, 1) := by decide +kernel
theorem dL_law_621 : decode cL_law 621 = .ok (.iconst 1, 1) := by decide +kernel
theorem dL_law_622 : decode cL_law 622 = .ok (.iadd, 1) := by decide +kernel
theorem dL_law_623 : decode cL_law 623 = .ok (.iaload, 1) := by decide +kernel
theorem dL_law_624 : decode cL_law 624 = .ok (.aload_n 0, 1) := by decide +kernel
theorem dL_law_625 : decode cL_law 625 = .ok (.iload_n 3, 1) := by decide +kernel
theorem dL_law_626 : decode cL_law 626 = .ok (.iconst 2, 1) := by decide +kernel
theorem dL_law_627 : decode cL_law 627 = .ok (.iadd, 1) := by decide +kernel
theorem dL_law_628 : decode cL_law 628 = .ok (.iaload, 1) := by decide +kernel
theorem dL_law_629 : decode cL_law 629 = .ok (.aload_n 0, 1) := by decide +kernel
theorem dL_law_630 : decode cL_law 630 = .ok (.iload_n 3, 1) := by decide +kernel
theorem dL_law_631 : decode cL_law 631 = .ok (.iconst 3, 1) := by decide +kernel
theorem dL_law_632 : decode cL_law 632 = .ok (.iadd, 1) := by decide +kernel
theorem dL_law_633 : decode cL_law 633 = .ok (.iaload, 1) := by decide +kernel
theorem dL_law_634 : decode cL_law 634 = .ok (.aload_n 0, 1) := by decide +kernel
theorem dL_law_635 : decode cL_law 635 = .ok (.iload_n 3, 1) := by decide +kernel
theorem dL_law_636 : decode cL_law 636 = .ok (.iconst 4, 1) := by decide +kernel
theorem dL_law_637 : decode cL_law 637 = .ok (.iadd, 1) := by decide +kernel
theorem dL_law_638 : decode cL_law 638 = .ok (.iaload, 1) := by decide +kernel
theorem dL_law_639 : decode cL_law 639 = .ok (.aload_n 0, 1) := by decide +kernel
theorem dL_law_640 : decode cL_law 640 = .ok (.iload_n 3, 1) := by decide +kernel
theorem dL_law_641 : decode cL_law 641 = .ok (.iconst 5, 1) := by decide +kernel
theorem dL_law_642 : decode cL_law 642 = .ok (.iadd, 1) := by decide +kernel
theorem dL_law_643 : decode cL_law 643 = .ok (.iaload, 1) := by decide +kernel
theorem dL_law_644 : decode cL_law 644 = .ok (.aload_n 0, 1) := by decide +kernel
theorem dL_law_645 : decode cL_law 645 = .ok (.iload_n 3, 1) := by decide +kernel
theorem dL_law_646 : decode cL_law 646 = .ok (.bipush 6, 2) := by decide +kernel
theorem dL_law_648 : decode cL_law 648 = .ok (.iadd, 1) := by decide +kernel
theorem dL_law_649 : decode cL_law 649 = .ok (.iaload, 1) := by decide +kernel
theorem dL_law_650 : decode cL_law 650 = .ok (.aload_n 0, 1) := by decide +kernel
theorem dL_law_651 : decode cL_law 651 = .ok (.iload_n 3, 1) := by decide +kernel
theorem dL_law_652 : decode cL_law 652 = .ok (.bipush 7, 2) := by decide +kernel
theorem dL_law_654 : decode cL_law 654 = .ok (.iadd, 1) := by decide +kernel
theorem dL_law_655 : decode cL_law 655 = .ok (.iaload, 1) := by decide +kernel
theorem dL_law_656 : decode cL_law 656 = .ok (.aload_n 0, 1) := by decide +kernel
theorem dL_law_657 : decode cL_law 657 = .ok (.iload_n 3, 1) := by decide +kernel
theorem dL_law_658 : decode cL_law 658 = .ok (.bipush 8, 2) := by decide +kernel
theorem dL_law_660 : decode cL_law 660 = .ok (.iadd, 1) := by decide +kernel
theorem dL_law_661 : decode cL_law 661 = .ok (.iaload, 1) := by decide +kernel
theorem dL_law_662 : decode cL_law 662 = .ok (.invokevirtual 78, 3) := by decide +kernel
theorem dL_law_665 : decode cL_law 665 = .ok (.aload_n 2, 1) := by decide +kernel
theorem dL_law_666 : decode cL_law 666 = .ok (.aload_n 0, 1) := by decide +kernel
theorem dL_law_667 : decode cL_law 667 = .ok (.iload_n 3, 1) := by decide +kernel
theorem dL_law_668 : decode cL_law 668 = .ok (.iconst 1, 1) := by decide +kernel
theorem dL_law_669 : decode cL_law 669 = .ok (.iadd, 1) := by decide +kernel
theorem dL_law_670 : decode cL_law 670 = .ok (.iaload, 1) := by decide +kernel
theorem dL_law_671 : decode cL_law 671 = .ok (.aload_n 0, 1) := by decide +kernel
theorem dL_law_672 : decode cL_law 672 = .ok (.iload_n 3, 1) := by decide +kernel
theorem dL_law_673 : decode cL_law 673 = .ok (.iconst 2, 1) := by decide +kernel
theorem dL_law_674 : decode cL_law 674 = .ok (.iadd, 1) := by decide +kernel
theorem dL_law_675 : decode cL_law 675 = .ok (.iaload, 1) := by decide +kernel
theorem dL_law_676 : decode cL_law 676 = .ok (.aload_n 0, 1) := by decide +kernel
theorem dL_law_677 : decode cL_law 677 = .ok (.iload_n 3, 1) := by decide +kernel
theorem dL_law_678 : decode cL_law 678 = .ok (.iconst 3, 1) := by decide +kernel
theorem dL_law_679 : decode cL_law 679 = .ok (.iadd, 1) := by decide +kernel
theorem dL_law_680 : decode cL_law 680 = .ok (.iaload, 1) := by decide +kernel
theorem dL_law_681 : decode cL_law 681 = .ok (.aload_n 0, 1) := by decide +kernel
theorem dL_law_682 : decode cL_law 682 = .ok (.iload_n 3, 1) := by decide +kernel
theorem dL_law_683 : decode cL_law 683 = .ok (.iconst 4, 1) := by decide +kernel
theorem dL_law_684 : decode cL_law 684 = .ok (.iadd, 1) := by decide +kernel
theorem dL_law_685 : decode cL_law 685 = .ok (.iaload, 1) := by decide +kernel
theorem dL_law_686 : decode cL_law 686 = .ok (.aload_n 0, 1) := by decide +kernel
theorem dL_law_687 : decode cL_law 687 = .ok (.iload_n 3, 1) := by decide +kernel
theorem dL_law_688 : decode cL_law 688 = .ok (.iconst 5, 1) := by decide +kernel
theorem dL_law_689 : decode cL_law 689 = .ok (.iadd, 1) := by decide +kernel
theorem dL_law_690 : decode cL_law 690 = .ok (.iaload, 1) := by decide +kernel
theorem dL_law_691 : decode cL_law 691 = .ok (.aload_n 0, 1) := by decide +kernel
theorem dL_law_692 : decode cL_law 692 = .ok (.iload_n 3, 1) := by decide +kernel
theorem dL_law_693 : decode cL_law 693 = .ok (.bipush 6, 2) := by decide +kernel
theorem dL_law_695 : decode cL_law 695 = .ok (.iadd, 1) := by decide +kernel
theorem dL_law_696 : decode cL_law 696 = .ok (.iaload, 1) := by decide +kernel
theorem dL_law_697 : decode cL_law 697 = .ok (.aload_n 0, 1) := by decide +kernel
theorem dL_law_698 : decode cL_law 698 = .ok (.iload_n 3, 1) := by decide +kernel
theorem dL_law_699 : decode cL_law 699 = .ok (.bipush 7, 2) := by decide +kernel
theorem dL_law_701 : decode cL_law 701 = .ok (.iadd, 1) := by decide +kernel
theorem dL_law_702 : decode cL_law 702 = .ok (.iaload, 1) := by decide +kernel
theorem dL_law_703 : decode cL_law 703 = .ok (.aload_n 0, 1) := by decide +kernel
theorem dL_law_704 : decode cL_law 704 = .ok (.iload_n 3, 1) := by decide +kernel
theorem dL_law_705 : decode cL_law 705 = .ok (.bipush 8, 2) := by decide +kernel
theorem dL_law_707 : decode cL_law 707 = .ok (.iadd, 1) := by decide +kernel
theorem dL_law_708 : decode cL_law 708 = .ok (.iaload, 1) := by decide +kernel
theorem dL_law_709 : decode cL_law 709 = .ok (.invokevirtual 82, 3) := by decide +kernel
theorem dL_law_712 : decode cL_law 712 = .ok (.if_icmp .eq 28, 3) := by decide +kernel
theorem dL_law_715 : decode cL_law 715 = .ok (.iconst 0, 1) := by decide +kernel
theorem dL_law_716 : decode cL_law 716 = .ok (.ireturn, 1) := by decide +kernel
theorem dL_law_717 : decode cL_law 717 = .ok (.aload_n 1, 1) := by decide +kernel
theorem dL_law_718 : decode cL_law 718 = .ok (.aload_n 0, 1) := by decide +kernel
theorem dL_law_719 : decode cL_law 719 = .ok (.iload_n 3, 1) := by decide +kernel
theorem dL_law_720 : decode cL_law 720 = .ok (.iconst 1, 1) := by decide +kernel
theorem dL_law_721 : decode cL_law 721 = .ok (.iadd, 1) := by decide +kernel
theorem dL_law_722 : decode cL_law 722 = .ok (.iaload, 1) := by decide +kernel
theorem dL_law_723 : decode cL_law 723 = .ok (.invokevirtual 83, 3) := by decide +kernel
theorem dL_law_726 : decode cL_law 726 = .ok (.aload_n 2, 1) := by decide +kernel
theorem dL_law_727 : decode cL_law 727 = .ok (.aload_n 0, 1) := by decide +kernel
theorem dL_law_728 : decode cL_law 728 = .ok (.iload_n 3, 1) := by decide +kernel
theorem dL_law_729 : decode cL_law 729 = .ok (.iconst 1, 1) := by decide +kernel
theorem dL_law_730 : decode cL_law 730 = .ok (.iadd, 1) := by decide +kernel
theorem dL_law_731 : decode cL_law 731 = .ok (.iaload, 1) := by decide +kernel
theorem dL_law_732 : decode cL_law 732 = .ok (.invokevirtual 86, 3) := by decide +kernel
theorem dL_law_735 : decode cL_law 735 = .ok (.if_icmp .eq 5, 3) := by decide +kernel
theorem dL_law_738 : decode cL_law 738 = .ok (.iconst 0, 1) := by decide +kernel
theorem dL_law_739 : decode cL_law 739 = .ok (.ireturn, 1) := by decide +kernel
theorem dL_law_740 : decode cL_law 740 = .ok (.iinc 3 9, 3) := by decide +kernel
theorem dL_law_743 : decode cL_law 743 = .ok (.goto (-725), 3) := by decide +kernel
theorem dL_law_746 : decode cL_law 746 = .ok (.iconst 1, 1) := by decide +kernel
theorem dL_law_747 : decode cL_law 747 = .ok (.ireturn, 1) := by decide +kernel
end
section
/-! numbers: an int by the whole number that it is -/
def iI (z : Int) : Int32 := Int32.ofInt z
theorem iI_add (a b : Int) : iI a + iI b = iI (a + b) := (Int32.ofInt_add a b).symm
theorem iI_sub (a b : Int) : iI a - iI b = iI (a - b) := (Int32.ofInt_sub a b).symm
theorem iI_mul (a b : Int) : iI a * iI b = iI (a * b) := (Int32.ofInt_mul a b).symm
theorem iI_neg (a : Int) : - iI a = iI (-a) := (Int32.ofInt_neg a).symm
theorem iI_toInt {z : Int} (h : -2147483648 ≤ z ∧ z < 2147483648) : (iI z).toInt = z := by
  unfold iI
  rw [Int32.toInt_ofInt]
  show z.bmod 4294967296 = z
  exact Int.bmod_eq_of_le (by omega) (by omega)
theorem iI_self (x : Int32) : iI x.toInt = x := Int32.ofInt_toInt x
theorem iI_ex (x : Int32) : ∃ z : Int, (-2147483648 ≤ z ∧ z < 2147483648) ∧ x = iI z :=
  ⟨x.toInt, ⟨Int32.le_toInt x, Int32.toInt_lt x⟩, (iI_self x).symm⟩
theorem iI_lt {a b : Int} (ha : -2147483648 ≤ a ∧ a < 2147483648) (hb : -2147483648 ≤ b ∧ b < 2147483648) : iI a < iI b ↔ a < b := by
  rw [Int32.lt_iff_toInt_lt, iI_toInt ha, iI_toInt hb]
theorem iI_le {a b : Int} (ha : -2147483648 ≤ a ∧ a < 2147483648) (hb : -2147483648 ≤ b ∧ b < 2147483648) : iI a ≤ iI b ↔ a ≤ b := by
  rw [Int32.le_iff_toInt_le, iI_toInt ha, iI_toInt hb]
theorem iI_eq {a b : Int} (ha : -2147483648 ≤ a ∧ a < 2147483648) (hb : -2147483648 ≤ b ∧ b < 2147483648) : iI a = iI b ↔ a = b := by
  refine ⟨fun h => ?_, fun h => by rw [h]⟩
  have h1 := congrArg Int32.toInt h
  rwa [iI_toInt ha, iI_toInt hb] at h1
theorem iI_0 : iI 0 = 0 := rfl
theorem iI_nI (n : Nat) : nI n = iI n := by
  unfold nI iI
  exact (Int32.ofInt_eq_ofNat).symm
theorem iI_cl {z : Int} (h : 0 ≤ z ∧ z < 2147483648) : (iI z).toNatClampNeg = z.toNat := by
  show (iI z).toInt.toNat = z.toNat
  rw [iI_toInt ⟨by omega, h.2⟩]
theorem iI_in {z : Int} {n : Nat} (h : 0 ≤ z ∧ z < n) (hn : n < 2147483648) : vp_in (iI z) n := by
  unfold vp_in
  rw [← iI_0, iI_lt ⟨by omega, by omega⟩ ⟨by omega, by omega⟩, iI_cl ⟨by omega, by omega⟩]
  omega
/-- a condition as the machine's boolean -/
noncomputable def bI (P : Prop) : Int32 := @ite _ P (Classical.propDecidable P) 1 0
theorem bI_t {P : Prop} (h : P) : bI P = 1 := if_pos h
theorem bI_f {P : Prop} (h : ¬ P) : bI P = 0 := if_neg h
theorem bI_c {P Q : Prop} (h : P ↔ Q) : bI P = bI Q := by rw [propext h]
theorem bI_z {P : Prop} : bI P = 0 ↔ ¬ P := by
  by_cases h : P
  · rw [bI_t h]; simp [h]
  · rw [bI_f h]; simp [h]
theorem bI_nz {P : Prop} : ¬ bI P = 0 ↔ P := by rw [bI_z]; exact Classical.not_not
theorem bI_1 {P : Prop} (h : P) : iI 1 = bI P := (bI_t h).symm
theorem bI_0 {P : Prop} (h : ¬ P) : iI 0 = bI P := (bI_f h).symm
theorem bI_nar (P : Prop) : narrow .boolean (.int (bI P)) = .int (bI P) := by
  by_cases h : P
  · rw [bI_t h]; rfl
  · rw [bI_f h]; rfl
theorem bI_iI (P : Prop) : bI P = iI (@ite _ P (Classical.propDecidable P) 1 0) := by
  by_cases h : P
  · rw [bI_t h, if_pos h]; rfl
  · rw [bI_f h, if_neg h]; rfl
/-! one list of words for every method -/
abbrev BG : List Cond := wsL_law
set_option maxRecDepth 20000 in
theorem BG_good : BG.all goodWord = true := by decide +kernel
theorem BG_gd {w : Cond} (h : w ∈ BG) : w ∈ BG ∧ ((w.onTables && w.keeps) = true ∨ ∃ ty, w = .arrayClass ty) := ⟨h, good_of_word (List.all_eq_true.mp BG_good w h)⟩
theorem BG_call {y : MethodName} {bytes : ByteArray} {n : Nat} {r : Option FieldType} (h : Cond.code y bytes n r ∈ BG) : GoodIn BG (.code y bytes n r :: BG) := fun w hw => (List.mem_cons.mp hw).elim (fun e => e ▸ BG_gd h) BG_gd
/-! what a state is given by: classes, array classes; what lies outside the world -/
abbrev GG : Type := va_G × (Nat → ClassId)
def gT (Γ : GG) : List (ClassId × FieldType) := [(Γ.2 0, .int), (Γ.2 1, .byte), (Γ.2 2, .boolean), (Γ.2 3, .object "java/lang/Object"), (Γ.2 4, .array .int)]
abbrev XX : Type := (Nat → Prop) → State → Heap → Prop
def XS (E : XX) : Prop := (∀ (A : Nat → Prop) (u U : State) (H : Heap), U.vm = u.vm → E A u H → E A U H) ∧ (∀ (A : Nat → Prop) (u U : State) (H : Heap), u.WarmedH U.vm → E A u H → E A U H) ∧ (∀ (A : Nat → Prop) (U : State) (H H1 : Heap), (∀ a : Nat, a < H.size → ¬ A a → H1[a]? = H[a]?) → E A U H → E A U H1) ∧ (∀ (A B : Nat → Prop) (U : State) (H : Heap), (∀ q, B q → A q) → E A U H → E B U H)
def X0 : XX := fun _ _ _ => True
theorem X0s : XS X0 := ⟨fun _ _ _ _ _ _ => trivial, fun _ _ _ _ _ _ => trivial, fun _ _ _ _ _ _ => trivial, fun _ _ _ _ _ _ => trivial⟩
/-- the post of a method: an answer, a world -/
abbrev PT : Type := Option Value → va_W → Prop
def CPre (E : XX) (Γ : GG) (w : va_W) (av : List Value) (sz : Nat) : Array Value → State → Prop := va_Pc av (fun U => U.heap.size = sz ∧ va_P Γ.1 vwCl w U.heap ∧ va_K Γ.1 vwCl (gT Γ) U ∧ va_D (fun _ => True) w ∧ E (va_A w sz) U U.heap)
def CPost (Γ : GG) (A : Nat → Prop) (Qp : PT) : Array Value → State → Outcome → State → Prop := fun _ st oc t => (∃ (v : Option Value) (w' : va_W), oc = .returned v ∧ Qp v w' ∧ va_P Γ.1 vwCl w' t.heap ∧ va_D A w') ∧ va_F A st t
def Con (E : XX) (l : Launch) (y : MethodName) (cc : ByteArray) (nL : Nat) (ret : Option FieldType) (rm : Room) (Γ : GG) (w : va_W) (av : List Value) (Qp : PT) : Prop :=
  ∀ sz : Nat, Met l y (.code y cc nL ret :: BG) rm (CPre E Γ w av sz) (CPost Γ (va_A w sz) Qp) rm.cells rm.slots (va_A w sz)
def Wd (E : XX) (Γ : GG) (A : Nat → Prop) (s : State) (H : Heap) (locs : List Loc) (w : va_W) : Prop :=
  va_K Γ.1 vwCl (gT Γ) s ∧ va_P Γ.1 vwCl w H ∧ va_D A w ∧ va_S A s.heap H locs ∧ (∀ q, s.heap.size ≤ q → A q) ∧ E A s s.heap
def RQ (below : List Frame) (args : Array Value) (s : State) (Γ : GG) (A : Nat → Prop) (Qp : PT) (rm : Room) : State → Prop := MQ below (CPost Γ A Qp) args s rm.cells rm.slots A
theorem Con_mk {E : XX} {l : Launch} {y : MethodName} {cc : ByteArray} {nL : Nat} {ret : Option FieldType} {rm : Room} {Γ : GG} {w : va_W} {av : List Value} {Qp : PT} (hy : plainName y.cls = true) (hn : (lg_sl av).length ≤ nL)
    (body : ∀ (p : Program) (e : Env) (s : State) (m : MethodId) (args : Array Value) (below : List Frame) (meth : Method) (c : Code) (A : Nat → Prop), CallFix p m c cc nL s args BG y.cls → meth.sig.returnType = ret → meth.locks = false → meth.name = y.name → Wd E Γ A s s.heap [] w → ∀ ls : Array Slot, lv_has ls nL (lv_args 0 av) → W p l e rm s m args below meth c s.heap [] 0 0 (RQ below args s Γ A Qp rm) (F0 m 0 ls [])) : Con E l y cc nL ret rm Γ w av Qp := by
  intro sz
  refine Met.ofW (cc := cc) (maxL := nL) (ret := ret) hy rfl ?_
  intro p e s m args below meth c s₁ B hml hv
  obtain ⟨rfl, hsz, hP, hK, hD0, hE⟩ := hv
  subst hsz
  have hts : ∀ w ∈ BG, w.before av.toArray s = true := fun w hw => atoms_spec (ws := .code y cc nL ret :: BG) B.pre w (List.mem_cons_of_mem _ hw)
  rw [lg_entry_eq]
  exact body p e s m av.toArray below meth c (va_A w s.heap.size) ⟨B.exec, B.bytes, hml, findClass_of_methodNamed B.named, hts⟩ B.returns B.notSynchronized (name_of_methodNamed B.named B.method).1 ⟨hK, hP, hD0.self, va_S.rf, fun q h => Or.inr h, hE⟩ _ (lv_entry av hn)
section BASE
variable {p : Program} {l : Launch} {e : Env} {R : Room} {s : State} {m : MethodId} {args : Array Value} {below : List Frame} {meth : Method} {c : Code} {H : Heap} {locs : List Loc} {cells slots : Nat} {Q : State → Prop}
variable {cc : ByteArray} {nL pc : Nat} {own : String} {ls : Array Slot} {rest : List Value} {E : XX} {Γ : GG} {A : Nat → Prop} {w w' : va_W} {Qp : PT}
theorem Wd.pre (hE : XS E) (X : Wd E Γ A s H locs w) (av : List Value) : FrameBlind (CPre E Γ w av H.size) ∧ ∀ U : State, U.heap = H → s.WarmedH U.vm → CPre E Γ w av H.size av.toArray U := by
  obtain ⟨hK, hP, hD, hS, hA, hX⟩ := X
  refine ⟨fun a U g mk q => ?_, fun U hU hW => ?_⟩
  · obtain ⟨q0, q1, qP, qK, qD, qE⟩ := q
    exact ⟨q0, q1, qP, va_K.moved (u := U) (U := U.calling g mk a) (Vm.Alike.refl U.vm) qK, qD, hE.1 _ U _ _ rfl qE⟩
  · refine ⟨rfl, by rw [hU], by rw [hU]; exact hP, va_K.moved hW.alike hK, hD.weaken (fun _ _ _ _ => trivial), ?_⟩
    rw [hU]
    refine hE.2.2.2 A _ U H (fun q h => ?_) (hE.2.1 A s U H hW (hE.2.2.1 A s s.heap H hS.2.1 hX))
    rcases h with ⟨k, e, h⟩ | h
    · exact hD.2 k (q, e) h
    · exact hA q (Nat.le_trans hS.1 h)
theorem k_call {mc ms : Nat} {st0 : List Value} {a : Array Value} (X : Wd E Γ A s H locs w) (hr : va_Run p l e R s m args below meth c H locs cells slots mc ms (F0 m pc ls st0) rest (CPost Γ (va_A w H.size) Qp a) (va_A w H.size))
    (kk : ∀ (v : Option Value) (w' : va_W) (H1 : Heap) (locs1 : List Loc), Qp v w' → Wd E Γ A s H1 locs1 w' → W p l e R s m args below meth c H1 locs1 (cells + mc) (slots + ms) Q (F0 m (pc + 3) ls (v.toList ++ rest))) : W p l e R s m args below meth c H locs cells slots Q (F0 m pc ls st0) := by
  obtain ⟨hK, hP, hD, hS, hA, hX⟩ := X
  have hF : ∀ q, va_A w H.size q → A q := by
    intro q h
    rcases h with ⟨k, e, h⟩ | h
    · exact hD.2 k (q, e) h
    · exact hA q (Nat.le_trans hS.1 h)
  intro T hT Xs
  obtain ⟨v, st₀, t, T', L, h0, X', hL, e1, e2, ⟨⟨v', w', hv, hq, hP1, hD1⟩, hz, hk⟩, st⟩ := hr T hT Xs
  cases hv
  rw [h0] at hz hk
  obtain ⟨t2, a1, b1⟩ := kk v w' T'.heap (locs ++ L) hq ⟨hK, by rw [e1]; exact hP1, ⟨hD1.1, fun k q h => hF _ (hD1.2 k q h)⟩,
    ⟨Nat.le_trans hS.1 (by rw [e1]; exact hz), fun q h1 h2 => by rw [e1, hk q (Nat.lt_of_lt_of_le h1 hS.1) (fun z => h2 (hF q z))]; exact hS.2.1 q h1 h2, fun q hq => by
      rcases List.mem_append.mp hq with h | h
      · exact hS.2.2 q h
      · exact hF _ (hL q h)⟩, hA, hX⟩ T' rfl X'
  exact ⟨t2, st t2 a1, b1⟩
/-- the words of a call, by one list -/
abbrev gV (own : String) (index : Nat) (y : MethodName) (bytes : ByteArray) (maxL : Nat) (ret : Option FieldType) (n : Nat) : Prop := (Cond.methodLink own index y ∈ BG ∧ Cond.instanceMethod y ∈ BG ∧ Cond.selects y.cls y y ∈ BG ∧ Cond.initialized y.cls ∈ BG ∧ Cond.code y bytes maxL ret ∈ BG) ∧ y.cls ≠ "java/lang/invoke/MethodHandle" ∧ y.cls ≠ "java/lang/invoke/VarHandle" ∧ (parseMethodDescriptor y.desc).map (fun d => d.parameters.length) = some n
abbrev gS (own : String) (index : Nat) (y : MethodName) (bytes : ByteArray) (maxL : Nat) (ret : Option FieldType) (n : Nat) : Prop := (Cond.methodLink own index y ∈ BG ∧ Cond.static y ∈ BG ∧ Cond.initialized y.cls ∈ BG ∧ Cond.code y bytes maxL ret ∈ BG) ∧ y.cls ≠ "java/lang/invoke/MethodHandle" ∧ y.cls ≠ "java/lang/invoke/VarHandle" ∧ (parseMethodDescriptor y.desc).map (fun d => d.parameters.length) = some n
abbrev gI (own : String) (index : Nat) (y : MethodName) (bytes : ByteArray) (maxL : Nat) (n : Nat) : Prop := (Cond.methodLink own index y ∈ BG ∧ Cond.instanceMethod y ∈ BG ∧ Cond.initialized y.cls ∈ BG ∧ Cond.code y bytes maxL none ∈ BG) ∧ y.name = "<init>" ∧ y.cls ≠ "java/lang/invoke/MethodHandle" ∧ y.cls ≠ "java/lang/invoke/VarHandle" ∧ (parseMethodDescriptor y.desc).map (fun d => d.parameters.length) = some n
abbrev rmOk (R rm : Room) (maxL cells slots : Nat) : Prop := (rm.frames + 1 ≤ R.frames ∧ 8 + (maxL + 11) + rm.locals ≤ R.locals) ∧ cells + rm.cells ≤ R.cells ∧ slots + rm.slots ≤ R.slots
theorem r_callV {y : MethodName} {bytes : ByteArray} {maxL n index b : Nat} {ret : Option FieldType} {rm : Room} {As st0 : List Value} (hE : XS E) (S : CallFix p m c cc nL s args BG own) (X : Wd E Γ A s H locs w) (hC : Con E l y bytes maxL ret rm Γ w (.ref b :: As) Qp) (hG : gV own index y bytes maxL ret n)
    (hb : ∃ cell : Cell, H[b]? = some cell ∧ cell.vm.isStatics = false ∧ s.vm.findClass y.cls = some cell.cls) (hn : As.length = n) (hst : st0 = As.reverse ++ .ref b :: rest) (hsum : (rest.map fun v => v.category).sum ≤ 8) (hR : rmOk R rm maxL cells slots) (hsz : ls.size = nL) (hdg : decode cc pc = .ok (.invokevirtual index, 3))
    (kk : ∀ (v : Option Value) (w' : va_W) (H1 : Heap) (locs1 : List Loc), Qp v w' → Wd E Γ A s H1 locs1 w' → W p l e R s m args below meth c H1 locs1 (cells + rm.cells) (slots + rm.slots) Q (F0 m (pc + 3) ls (v.toList ++ rest))) : W p l e R s m args below meth c H locs cells slots Q (F0 m pc ls st0) := by
  obtain ⟨⟨g1, g2, g3, g4, g5⟩, g6⟩ := hG
  have hp := Wd.pre hE X (.ref b :: As)
  refine k_call (a := (Value.ref b :: As).toArray) X (va_runV (As := As) (rest := rest) S (hC H.size) (cwV (C := y.cls) n S.2.2.2.2 (fun x hx => ?_) rfl rfl rfl ⟨rfl, g6⟩ hR.1) ⟨hp.1, hb, hp.2⟩ rfl hn hsz hst (lv_room hsum) hdg hR.2) kk
  rcases List.mem_append.mp hx with h | h
  · simp only [List.mem_cons, List.not_mem_nil, or_false] at h
    rcases h with rfl | rfl | rfl | rfl
    · exact BG_gd g1
    · exact BG_gd g2
    · exact BG_gd g3
    · exact BG_gd g4
  · exact BG_call g5 x h
theorem r_callS {y : MethodName} {bytes : ByteArray} {maxL n index : Nat} {ret : Option FieldType} {rm : Room} {As st0 : List Value} (hE : XS E) (S : CallFix p m c cc nL s args BG own) (X : Wd E Γ A s H locs w) (hC : Con E l y bytes maxL ret rm Γ w As Qp) (hG : gS own index y bytes maxL ret n)
    (hn : As.length = n) (hst : st0 = As.reverse ++ rest) (hsum : (rest.map fun v => v.category).sum ≤ 8) (hR : rmOk R rm maxL cells slots) (hsz : ls.size = nL) (hdg : decode cc pc = .ok (.invokestatic index, 3))
    (kk : ∀ (v : Option Value) (w' : va_W) (H1 : Heap) (locs1 : List Loc), Qp v w' → Wd E Γ A s H1 locs1 w' → W p l e R s m args below meth c H1 locs1 (cells + rm.cells) (slots + rm.slots) Q (F0 m (pc + 3) ls (v.toList ++ rest))) : W p l e R s m args below meth c H locs cells slots Q (F0 m pc ls st0) := by
  obtain ⟨⟨g1, g2, g4, g5⟩, g6⟩ := hG
  have hp := Wd.pre hE X As
  exact k_call (a := As.toArray) X (va_runS (As := As) (rest := rest) S (hC H.size) ⟨callB_of n S.2.2.2.2 (BG_call g5) rfl rfl rfl (S.2.2.2.2 _ g4) (S.2.2.2.2 _ g1) g6 hR.1, S.2.2.2.2 _ g2⟩ hp rfl hn hsz hst (lv_room hsum) hdg hR.2) kk
theorem r_callI {y : MethodName} {bytes : ByteArray} {maxL n index b : Nat} {rm : Room} {As st0 : List Value} (hE : XS E) (S : CallFix p m c cc nL s args BG own) (X : Wd E Γ A s H locs w) (hC : Con E l y bytes maxL none rm Γ w (.ref b :: As) Qp) (hG : gI own index y bytes maxL n)
    (hn : As.length = n) (hst : st0 = As.reverse ++ .ref b :: rest) (hsum : (rest.map fun v => v.category).sum ≤ 8) (hR : rmOk R rm maxL cells slots) (hsz : ls.size = nL) (hdg : decode cc pc = .ok (.invokespecial index, 3))
    (kk : ∀ (v : Option Value) (w' : va_W) (H1 : Heap) (locs1 : List Loc), Qp v w' → Wd E Γ A s H1 locs1 w' → W p l e R s m args below meth c H1 locs1 (cells + rm.cells) (slots + rm.slots) Q (F0 m (pc + 3) ls (v.toList ++ rest))) : W p l e R s m args below meth c H locs cells slots Q (F0 m pc ls st0) := by
  obtain ⟨⟨g1, g2, g4, g5⟩, g6, g7⟩ := hG
  have hp := Wd.pre hE X (.ref b :: As)
  exact k_call (a := (Value.ref b :: As).toArray) X (va_runI (As := As) (rest := rest) S (hC H.size) ⟨callB_of n S.2.2.2.2 (BG_call g5) rfl rfl rfl (S.2.2.2.2 _ g4) (S.2.2.2.2 _ g1) g7 hR.1, g6, S.2.2.2.2 _ g2⟩ hp rfl hn hsz hst (lv_room hsum) hdg hR.2) kk
/-- a world whose list is the same -/
theorem Wd.to (X : Wd E Γ A s H locs w) (h : w = w') : Wd E Γ A s H locs w' := h ▸ X
/-! answers -/
theorem r_iret {rm : Room} {v : Int32} (S : CallFix p m c cc nL s args BG own) (hr : meth.sig.returnType = some .int) (hlk : meth.locks = false) (X : Wd E Γ A s H locs w') (hc : cells ≤ rm.cells ∧ slots ≤ rm.slots) (hdg : decode cc pc = .ok (.ireturn, 1)) (hq : Qp (some (.int v)) w') : W p l e R s m args below meth c H locs cells slots (RQ below args s Γ A Qp rm) (F0 m pc ls [.int v]) := by
  refine W.widen hc.1 hc.2 ?_
  exact W.iret S.1 S.2.1 hr (fun t ht hW => ⟨⟨_, w', rfl, hq, by rw [ht]; exact X.2.1, X.2.2.1⟩, X.2.2.2.1.F ht⟩) X.2.2.2.1.2.2 hdg hlk
theorem r_zret {rm : Room} {v : Int32} {ty : FieldType} (S : CallFix p m c cc nL s args BG own) (hr : meth.sig.returnType = some ty) (hlk : meth.locks = false) (X : Wd E Γ A s H locs w') (hc : cells ≤ rm.cells ∧ slots ≤ rm.slots) (hdg : decode cc pc = .ok (.ireturn, 1)) (hn : narrow ty (.int v) = .int v) (hq : Qp (some (.int v)) w') : W p l e R s m args below meth c H locs cells slots (RQ below args s Γ A Qp rm) (F0 m pc ls [.int v]) := by
  refine W.widen hc.1 hc.2 ?_
  exact W.zret S.1 S.2.1 hr hn (fun t ht hW => ⟨⟨_, w', rfl, hq, by rw [ht]; exact X.2.1, X.2.2.1⟩, X.2.2.2.1.F ht⟩) X.2.2.2.1.2.2 hdg hlk
theorem r_vret {rm : Room} (S : CallFix p m c cc nL s args BG own) (hr : meth.sig.returnType = none) (hlk : meth.locks = false) (X : Wd E Γ A s H locs w') (hc : cells ≤ rm.cells ∧ slots ≤ rm.slots) (hdg : decode cc pc = .ok (.return_, 1)) (hq : Qp none w') : W p l e R s m args below meth c H locs cells slots (RQ below args s Γ A Qp rm) (F0 m pc ls []) := by
  refine W.widen hc.1 hc.2 ?_
  exact W.vret S.1 S.2.1 hr (fun t ht hW => ⟨⟨_, w', rfl, hq, by rw [ht]; exact X.2.1, X.2.2.1⟩, X.2.2.2.1.F ht⟩) X.2.2.2.1.2.2 hdg hlk
theorem r_aret {rm : Room} {a : Nat} {rt : FieldType} (S : CallFix p m c cc nL s args BG own) (hr : meth.sig.returnType = some rt) (hrt : (∃ n, rt = .object n) ∨ ∃ t, rt = .array t) (hlk : meth.locks = false) (X : Wd E Γ A s H locs w') (hc : cells ≤ rm.cells ∧ slots ≤ rm.slots) (hdg : decode cc pc = .ok (.areturn, 1)) (hq : Qp (some (.ref a)) w') : W p l e R s m args below meth c H locs cells slots (RQ below args s Γ A Qp rm) (F0 m pc ls [.ref a]) := by
  refine W.widen hc.1 hc.2 ?_
  exact W.aret S.1 S.2.1 hr hrt (Or.inr ⟨a, rfl⟩) (fun t ht hW => ⟨⟨_, w', rfl, hq, by rw [ht]; exact X.2.1, X.2.2.1⟩, X.2.2.2.1.F ht⟩) X.2.2.2.1.2.2 hdg hlk
/-! instructions on whole numbers -/
theorem k_cg {x y : Int32} (h : x = y) (k : W p l e R s m args below meth c H locs cells slots Q (F0 m pc ls (.int y :: rest))) : W p l e R s m args below meth c H locs cells slots Q (F0 m pc ls (.int x :: rest)) := h ▸ k
theorem k_iconst {n : Int} (S : CallFix p m c cc nL s args BG own) (hdg : decode cc pc = .ok (.iconst n, 1)) (k : W p l e R s m args below meth c H locs cells slots Q (F0 m (pc + 1) ls (.int (iI n) :: rest))) : W p l e R s m args below meth c H locs cells slots Q (F0 m pc ls rest) := lv_iconst S.1 S.2.1 hdg rfl k
theorem k_bipush {n : Int} (S : CallFix p m c cc nL s args BG own) (hdg : decode cc pc = .ok (.bipush n, 2)) (hv : (Int8.ofInt n).toInt32 = iI n) (k : W p l e R s m args below meth c H locs cells slots Q (F0 m (pc + 2) ls (.int (iI n) :: rest))) : W p l e R s m args below meth c H locs cells slots Q (F0 m pc ls rest) := lv_bipush S.1 S.2.1 hdg hv k
theorem k_sipush {n : Int} (S : CallFix p m c cc nL s args BG own) (hdg : decode cc pc = .ok (.sipush n, 3)) (hv : (Int16.ofInt n).toInt32 = iI n) (k : W p l e R s m args below meth c H locs cells slots Q (F0 m (pc + 3) ls (.int (iI n) :: rest))) : W p l e R s m args below meth c H locs cells slots Q (F0 m pc ls rest) := lv_sipush S.1 S.2.1 hdg hv k
theorem k_iadd {a b : Int} (S : CallFix p m c cc nL s args BG own) (hdg : decode cc pc = .ok (.iadd, 1)) (k : W p l e R s m args below meth c H locs cells slots Q (F0 m (pc + 1) ls (.int (iI (a + b)) :: rest))) : W p l e R s m args below meth c H locs cells slots Q (F0 m pc ls (.int (iI b) :: .int (iI a) :: rest)) := lv_iadd S.1 S.2.1 hdg (k_cg (iI_add a b) k)
theorem k_isub {a b : Int} (S : CallFix p m c cc nL s args BG own) (hdg : decode cc pc = .ok (.isub, 1)) (k : W p l e R s m args below meth c H locs cells slots Q (F0 m (pc + 1) ls (.int (iI (a - b)) :: rest))) : W p l e R s m args below meth c H locs cells slots Q (F0 m pc ls (.int (iI b) :: .int (iI a) :: rest)) := lv_isub S.1 S.2.1 hdg (k_cg (iI_sub a b) k)
theorem k_imul {a b : Int} (S : CallFix p m c cc nL s args BG own) (hdg : decode cc pc = .ok (.imul, 1)) (k : W p l e R s m args below meth c H locs cells slots Q (F0 m (pc + 1) ls (.int (iI (a * b)) :: rest))) : W p l e R s m args below meth c H locs cells slots Q (F0 m pc ls (.int (iI b) :: .int (iI a) :: rest)) := lv_imul S.1 S.2.1 hdg (k_cg (iI_mul a b) k)
theorem k_ineg {a : Int} (S : CallFix p m c cc nL s args BG own) (hdg : decode cc pc = .ok (.ineg, 1)) (k : W p l e R s m args below meth c H locs cells slots Q (F0 m (pc + 1) ls (.int (iI (-a)) :: rest))) : W p l e R s m args below meth c H locs cells slots Q (F0 m pc ls (.int (iI a) :: rest)) := lv_ineg S.1 S.2.1 hdg (k_cg (iI_neg a) k)
theorem k_iinc {i k : Nat} {n a : Int} {lv lv' : List (Nat × Value)} (S : CallFix p m c cc nL s args BG own) (hdg : decode cc pc = .ok (.iinc i n, 3)) (h : lv_has ls nL lv) (hk : lv[k]? = some (i, .int (iI a))) (hn : i < nL) (hl : (i, Value.int (iI (a + n))) :: lv.filter (fun q => !(q.1 == i) && !(q.1 + 1 == i && q.2.category == 2)) = lv')
    (kk : ∀ ls' : Array Slot, lv_has ls' nL lv' → W p l e R s m args below meth c H locs cells slots Q (F0 m (pc + 3) ls' rest)) : W p l e R s m args below meth c H locs cells slots Q (F0 m pc ls rest) := lv_iinc S.1 S.2.1 hdg h hk (iI_add a n) hn hl kk
theorem k_icmp_eq {a b : Int} {off : Int} {tgt : Nat} (S : CallFix p m c cc nL s args BG own) (hdg : decode cc pc = .ok (.if_icmp .eq off, 3)) (ht : (pc : Int) + off = (tgt : Int)) (ha : -2147483648 ≤ a ∧ a < 2147483648) (hb : -2147483648 ≤ b ∧ b < 2147483648) (kt : a = b → W p l e R s m args below meth c H locs cells slots Q (F0 m tgt ls rest)) (kf : ¬ a = b → W p l e R s m args below meth c H locs cells slots Q (F0 m (pc + 3) ls rest)) : W p l e R s m args below meth c H locs cells slots Q (F0 m pc ls (.int (iI b) :: .int (iI a) :: rest)) := by
  exact lv_icmp_eq S.1 S.2.1 hdg ht (fun q => kt ((iI_eq ha hb).mp q)) (fun q => kf (fun z => q ((iI_eq ha hb).mpr z)))
theorem k_icmp_ne {a b : Int} {off : Int} {tgt : Nat} (S : CallFix p m c cc nL s args BG own) (hdg : decode cc pc = .ok (.if_icmp .ne off, 3)) (ht : (pc : Int) + off = (tgt : Int)) (ha : -2147483648 ≤ a ∧ a < 2147483648) (hb : -2147483648 ≤ b ∧ b < 2147483648) (kt : ¬ a = b → W p l e R s m args below meth c H locs cells slots Q (F0 m tgt ls rest)) (kf : a = b → W p l e R s m args below meth c H locs cells slots Q (F0 m (pc + 3) ls rest)) : W p l e R s m args below meth c H locs cells slots Q (F0 m pc ls (.int (iI b) :: .int (iI a) :: rest)) := by
  exact lv_icmp_ne S.1 S.2.1 hdg ht (fun q => kt (fun z => q ((iI_eq ha hb).mpr z))) (fun q => kf ((iI_eq ha hb).mp q))
theorem k_icmp_lt {a b : Int} {off : Int} {tgt : Nat} (S : CallFix p m c cc nL s args BG own) (hdg : decode cc pc = .ok (.if_icmp .lt off, 3)) (ht : (pc : Int) + off = (tgt : Int)) (ha : -2147483648 ≤ a ∧ a < 2147483648) (hb : -2147483648 ≤ b ∧ b < 2147483648) (kt : a < b → W p l e R s m args below meth c H locs cells slots Q (F0 m tgt ls rest)) (kf : b ≤ a → W p l e R s m args below meth c H locs cells slots Q (F0 m (pc + 3) ls rest)) : W p l e R s m args below meth c H locs cells slots Q (F0 m pc ls (.int (iI b) :: .int (iI a) :: rest)) := by
  exact lv_icmp_lt S.1 S.2.1 hdg ht (fun q => kt ((iI_lt ha hb).mp q)) (fun q => kf (Int.not_lt.mp (fun z => q ((iI_lt ha hb).mpr z))))
theorem k_icmp_ge {a b : Int} {off : Int} {tgt : Nat} (S : CallFix p m c cc nL s args BG own) (hdg : decode cc pc = .ok (.if_icmp .ge off, 3)) (ht : (pc : Int) + off = (tgt : Int)) (ha : -2147483648 ≤ a ∧ a < 2147483648) (hb : -2147483648 ≤ b ∧ b < 2147483648) (kt : b ≤ a → W p l e R s m args below meth c H locs cells slots Q (F0 m tgt ls rest)) (kf : a < b → W p l e R s m args below meth c H locs cells slots Q (F0 m (pc + 3) ls rest)) : W p l e R s m args below meth c H locs cells slots Q (F0 m pc ls (.int (iI b) :: .int (iI a) :: rest)) := by
  exact lv_icmp_ge S.1 S.2.1 hdg ht (fun q => kt ((iI_le hb ha).mp q)) (fun q => kf (Int.not_le.mp (fun z => q ((iI_le hb ha).mpr z))))
theorem k_icmp_gt {a b : Int} {off : Int} {tgt : Nat} (S : CallFix p m c cc nL s args BG own) (hdg : decode cc pc = .ok (.if_icmp .gt off, 3)) (ht : (pc : Int) + off = (tgt : Int)) (ha : -2147483648 ≤ a ∧ a < 2147483648) (hb : -2147483648 ≤ b ∧ b < 2147483648) (kt : b < a → W p l e R s m args below meth c H locs cells slots Q (F0 m tgt ls rest)) (kf : a ≤ b → W p l e R s m args below meth c H locs cells slots Q (F0 m (pc + 3) ls rest)) : W p l e R s m args below meth c H locs cells slots Q (F0 m pc ls (.int (iI b) :: .int (iI a) :: rest)) := by
  exact lv_icmp_gt S.1 S.2.1 hdg ht (fun q => kt ((iI_lt hb ha).mp q)) (fun q => kf (Int.not_lt.mp (fun z => q ((iI_lt hb ha).mpr z))))
theorem k_icmp_le {a b : Int} {off : Int} {tgt : Nat} (S : CallFix p m c cc nL s args BG own) (hdg : decode cc pc = .ok (.if_icmp .le off, 3)) (ht : (pc : Int) + off = (tgt : Int)) (ha : -2147483648 ≤ a ∧ a < 2147483648) (hb : -2147483648 ≤ b ∧ b < 2147483648) (kt : a ≤ b → W p l e R s m args below meth c H locs cells slots Q (F0 m tgt ls rest)) (kf : b < a → W p l e R s m args below meth c H locs cells slots Q (F0 m (pc + 3) ls rest)) : W p l e R s m args below meth c H locs cells slots Q (F0 m pc ls (.int (iI b) :: .int (iI a) :: rest)) := by
  exact lv_icmp_le S.1 S.2.1 hdg ht (fun q => kt ((iI_le ha hb).mp q)) (fun q => kf (Int.not_le.mp (fun z => q ((iI_le ha hb).mpr z))))
theorem k_if_eq {a : Int} {off : Int} {tgt : Nat} (S : CallFix p m c cc nL s args BG own) (hdg : decode cc pc = .ok (.ifCond .eq off, 3)) (ht : (pc : Int) + off = (tgt : Int)) (ha : -2147483648 ≤ a ∧ a < 2147483648) (kt : a = 0 → W p l e R s m args below meth c H locs cells slots Q (F0 m tgt ls rest)) (kf : ¬ a = 0 → W p l e R s m args below meth c H locs cells slots Q (F0 m (pc + 3) ls rest)) : W p l e R s m args below meth c H locs cells slots Q (F0 m pc ls (.int (iI a) :: rest)) := by
  have hb : -2147483648 ≤ (0 : Int) ∧ (0 : Int) < 2147483648 := by omega
  exact lv_if_eq S.1 S.2.1 hdg ht (fun q => kt ((iI_eq ha hb).mp q)) (fun q => kf (fun z => q ((iI_eq ha hb).mpr z)))
theorem k_if_ne {a : Int} {off : Int} {tgt : Nat} (S : CallFix p m c cc nL s args BG own) (hdg : decode cc pc = .ok (.ifCond .ne off, 3)) (ht : (pc : Int) + off = (tgt : Int)) (ha : -2147483648 ≤ a ∧ a < 2147483648) (kt : ¬ a = 0 → W p l e R s m args below meth c H locs cells slots Q (F0 m tgt ls rest)) (kf : a = 0 → W p l e R s m args below meth c H locs cells slots Q (F0 m (pc + 3) ls rest)) : W p l e R s m args below meth c H locs cells slots Q (F0 m pc ls (.int (iI a) :: rest)) := by
  have hb : -2147483648 ≤ (0 : Int) ∧ (0 : Int) < 2147483648 := by omega
  exact lv_if_ne S.1 S.2.1 hdg ht (fun q => kt (fun z => q ((iI_eq ha hb).mpr z))) (fun q => kf ((iI_eq ha hb).mp q))
theorem k_if_lt {a : Int} {off : Int} {tgt : Nat} (S : CallFix p m c cc nL s args BG own) (hdg : decode cc pc = .ok (.ifCond .lt off, 3)) (ht : (pc : Int) + off = (tgt : Int)) (ha : -2147483648 ≤ a ∧ a < 2147483648) (kt : a < 0 → W p l e R s m args below meth c H locs cells slots Q (F0 m tgt ls rest)) (kf : 0 ≤ a → W p l e R s m args below meth c H locs cells slots Q (F0 m (pc + 3) ls rest)) : W p l e R s m args below meth c H locs cells slots Q (F0 m pc ls (.int (iI a) :: rest)) := by
  have hb : -2147483648 ≤ (0 : Int) ∧ (0 : Int) < 2147483648 := by omega
  exact lv_if_lt S.1 S.2.1 hdg ht (fun q => kt ((iI_lt ha hb).mp q)) (fun q => kf (Int.not_lt.mp (fun z => q ((iI_lt ha hb).mpr z))))
theorem k_if_ge {a : Int} {off : Int} {tgt : Nat} (S : CallFix p m c cc nL s args BG own) (hdg : decode cc pc = .ok (.ifCond .ge off, 3)) (ht : (pc : Int) + off = (tgt : Int)) (ha : -2147483648 ≤ a ∧ a < 2147483648) (kt : 0 ≤ a → W p l e R s m args below meth c H locs cells slots Q (F0 m tgt ls rest)) (kf : a < 0 → W p l e R s m args below meth c H locs cells slots Q (F0 m (pc + 3) ls rest)) : W p l e R s m args below meth c H locs cells slots Q (F0 m pc ls (.int (iI a) :: rest)) := by
  have hb : -2147483648 ≤ (0 : Int) ∧ (0 : Int) < 2147483648 := by omega
  exact lv_if_ge S.1 S.2.1 hdg ht (fun q => kt ((iI_le hb ha).mp q)) (fun q => kf (Int.not_le.mp (fun z => q ((iI_le hb ha).mpr z))))
theorem k_if_gt {a : Int} {off : Int} {tgt : Nat} (S : CallFix p m c cc nL s args BG own) (hdg : decode cc pc = .ok (.ifCond .gt off, 3)) (ht : (pc : Int) + off = (tgt : Int)) (ha : -2147483648 ≤ a ∧ a < 2147483648) (kt : 0 < a → W p l e R s m args below meth c H locs cells slots Q (F0 m tgt ls rest)) (kf : a ≤ 0 → W p l e R s m args below meth c H locs cells slots Q (F0 m (pc + 3) ls rest)) : W p l e R s m args below meth c H locs cells slots Q (F0 m pc ls (.int (iI a) :: rest)) := by
  have hb : -2147483648 ≤ (0 : Int) ∧ (0 : Int) < 2147483648 := by omega
  exact lv_if_gt S.1 S.2.1 hdg ht (fun q => kt ((iI_lt hb ha).mp q)) (fun q => kf (Int.not_lt.mp (fun z => q ((iI_lt hb ha).mpr z))))
theorem k_if_le {a : Int} {off : Int} {tgt : Nat} (S : CallFix p m c cc nL s args BG own) (hdg : decode cc pc = .ok (.ifCond .le off, 3)) (ht : (pc : Int) + off = (tgt : Int)) (ha : -2147483648 ≤ a ∧ a < 2147483648) (kt : a ≤ 0 → W p l e R s m args below meth c H locs cells slots Q (F0 m tgt ls rest)) (kf : 0 < a → W p l e R s m args below meth c H locs cells slots Q (F0 m (pc + 3) ls rest)) : W p l e R s m args below meth c H locs cells slots Q (F0 m pc ls (.int (iI a) :: rest)) := by
  have hb : -2147483648 ≤ (0 : Int) ∧ (0 : Int) < 2147483648 := by omega
  exact lv_if_le S.1 S.2.1 hdg ht (fun q => kt ((iI_le ha hb).mp q)) (fun q => kf (Int.not_le.mp (fun z => q ((iI_le ha hb).mpr z))))
theorem k_bif_eq {P : Prop} {off : Int} {tgt : Nat} (S : CallFix p m c cc nL s args BG own) (hdg : decode cc pc = .ok (.ifCond .eq off, 3)) (ht : (pc : Int) + off = (tgt : Int)) (kt : ¬ P → W p l e R s m args below meth c H locs cells slots Q (F0 m tgt ls rest)) (kf : P → W p l e R s m args below meth c H locs cells slots Q (F0 m (pc + 3) ls rest)) : W p l e R s m args below meth c H locs cells slots Q (F0 m pc ls (.int (bI P) :: rest)) := by
  exact lv_if_eq S.1 S.2.1 hdg ht (fun q => kt (bI_z.mp q)) (fun q => kf (bI_nz.mp q))
theorem k_bif_ne {P : Prop} {off : Int} {tgt : Nat} (S : CallFix p m c cc nL s args BG own) (hdg : decode cc pc = .ok (.ifCond .ne off, 3)) (ht : (pc : Int) + off = (tgt : Int)) (kt : P → W p l e R s m args below meth c H locs cells slots Q (F0 m tgt ls rest)) (kf : ¬ P → W p l e R s m args below meth c H locs cells slots Q (F0 m (pc + 3) ls rest)) : W p l e R s m args below meth c H locs cells slots Q (F0 m pc ls (.int (bI P) :: rest)) := by
  exact lv_if_ne S.1 S.2.1 hdg ht (fun q => kt (bI_nz.mp q)) (fun q => kf (bI_z.mp q))
end BASE
/-- a loop: by a number that falls -/
theorem lp_wf {σ : Type} (Wp Inv : σ → Prop) (mu : σ → Nat) (h : ∀ a, Inv a → (∀ b, Inv b → mu b < mu a → Wp b) → Wp a) : ∀ a, Inv a → Wp a := by
  have key : ∀ n a, mu a < n → Inv a → Wp a := by
    intro n
    induction n with
    | zero => intro a ha; exact absurd ha (Nat.not_lt_zero _)
    | succ n ih => intro a ha hi; exact h a hi (fun b hb hlt => ih b (by omega) hb)
  exact fun a hi => key (mu a + 1) a (Nat.lt_succ_self _) hi
end
section
/-! a field by its place in the pool of the class whose code it is -/
section FIELDS
variable {p : Program} {l : Launch} {e : Env} {R : Room} {s : State} {m : MethodId} {args : Array Value} {below : List Frame} {meth : Method} {c : Code} {H : Heap} {locs : List Loc} {cells slots : Nat} {Q : State → Prop}
variable {cc : ByteArray} {nL pc : Nat} {ls : Array Slot} {rest : List Value} {E : XX} {Γ : GG} {A : Nat → Prop} {w : va_W}
theorem sf_modCount : Cond.sameField "java/util/ArrayList" "java/util/AbstractList" "modCount" "I" ∈ BG := by decide +kernel
theorem fl_Jx4a65c_9 : Cond.fieldLink RJx4a65c 9 "java/util/ArrayList" "elementData" "[Ljava/lang/Object;" ∈ BG := by decide +kernel
theorem gf_Jx4a65c_9 {q0 a : Nat} {fs : List Value} {v : Value} (S : CallFix p m c cc nL s args BG RJx4a65c) (X : Wd E Γ A s H locs w) (he : w[q0]? = some (a, .inr (0, fs))) (hv : fs[1]? = some v) (hdg : decode cc pc = .ok (.getfield 9, 3)) (kk : W p l e R s m args below meth c H locs cells slots Q (F0 m (pc + 3) ls (v :: rest))) : W p l e R s m args below meth c H locs cells slots Q (F0 m pc ls (.ref a :: rest)) := va_get (D := Γ.1) (ci := 0) (C := RJx4a65c) (T := TJx4a65c) (N := 3) S.1 S.2.1 S.2.2.2.2 inlJx4a65c S.2.2.2.1 X.1 X.2.1 q0 he rfl 1 (by decide) (S.2.2.2.2 _ fl_Jx4a65c_9) (fun _ h => h) hv hdg kk
theorem pf_Jx4a65c_9 {q0 a : Nat} {fs : List Value} {v : Value} (S : CallFix p m c cc nL s args BG RJx4a65c) (X : Wd E Γ A s H locs w) (he : w[q0]? = some (a, .inr (0, fs))) (hn : narrow (.array (.object "java/lang/Object")) v = v) (hf : fits (.array (.object "java/lang/Object")) v = true) (hl : 1 < fs.length) (hdg : decode cc pc = .ok (.putfield 9, 3)) (kk : ∀ (H1 : Heap) (locs1 : List Loc), Wd E Γ A s H1 locs1 (w.set q0 (a, .inr (0, fs.set 1 v))) → W p l e R s m args below meth c H1 locs1 cells slots Q (F0 m (pc + 3) ls rest)) : W p l e R s m args below meth c H locs cells slots Q (F0 m pc ls (v :: .ref a :: rest)) := va_put (D := Γ.1) (ci := 0) (C := RJx4a65c) (T := TJx4a65c) (N := 3) S.1 S.2.1 S.2.2.2.2 inlJx4a65c tyJx4a65c tyJx4a65c_ok nmJx4a65c S.2.2.2.1 X.1 X.2.1 X.2.2.1 X.2.2.2.1 q0 he rfl 1 (by decide) (S.2.2.2.2 _ fl_Jx4a65c_9) (fun _ h => h) rfl (ty := .array (.object "java/lang/Object")) (by decide +kernel) hn hf hl hdg (fun H1 locs1 a1 a2 a3 => kk H1 locs1 ⟨X.1, a1, a2, a3, X.2.2.2.2⟩)
theorem fl_Jx4a65c_48 : Cond.fieldLink RJx4a65c 48 "java/util/ArrayList" "size" "I" ∈ BG := by decide +kernel
theorem gf_Jx4a65c_48 {q0 a : Nat} {fs : List Value} {v : Value} (S : CallFix p m c cc nL s args BG RJx4a65c) (X : Wd E Γ A s H locs w) (he : w[q0]? = some (a, .inr (0, fs))) (hv : fs[2]? = some v) (hdg : decode cc pc = .ok (.getfield 48, 3)) (kk : W p l e R s m args below meth c H locs cells slots Q (F0 m (pc + 3) ls (v :: rest))) : W p l e R s m args below meth c H locs cells slots Q (F0 m pc ls (.ref a :: rest)) := va_get (D := Γ.1) (ci := 0) (C := RJx4a65c) (T := TJx4a65c) (N := 3) S.1 S.2.1 S.2.2.2.2 inlJx4a65c S.2.2.2.1 X.1 X.2.1 q0 he rfl 2 (by decide) (S.2.2.2.2 _ fl_Jx4a65c_48) (fun _ h => h) hv hdg kk
theorem pf_Jx4a65c_48 {q0 a : Nat} {fs : List Value} {v : Value} (S : CallFix p m c cc nL s args BG RJx4a65c) (X : Wd E Γ A s H locs w) (he : w[q0]? = some (a, .inr (0, fs))) (hn : narrow (.int) v = v) (hf : fits (.int) v = true) (hl : 2 < fs.length) (hdg : decode cc pc = .ok (.putfield 48, 3)) (kk : ∀ (H1 : Heap) (locs1 : List Loc), Wd E Γ A s H1 locs1 (w.set q0 (a, .inr (0, fs.set 2 v))) → W p l e R s m args below meth c H1 locs1 cells slots Q (F0 m (pc + 3) ls rest)) : W p l e R s m args below meth c H locs cells slots Q (F0 m pc ls (v :: .ref a :: rest)) := va_put (D := Γ.1) (ci := 0) (C := RJx4a65c) (T := TJx4a65c) (N := 3) S.1 S.2.1 S.2.2.2.2 inlJx4a65c tyJx4a65c tyJx4a65c_ok nmJx4a65c S.2.2.2.1 X.1 X.2.1 X.2.2.1 X.2.2.2.1 q0 he rfl 2 (by decide) (S.2.2.2.2 _ fl_Jx4a65c_48) (fun _ h => h) rfl (ty := .int) (by decide +kernel) hn hf hl hdg (fun H1 locs1 a1 a2 a3 => kk H1 locs1 ⟨X.1, a1, a2, a3, X.2.2.2.2⟩)
theorem fl_Jx4a65c_63 : Cond.fieldLink RJx4a65c 63 "java/util/ArrayList" "modCount" "I" ∈ BG := by decide +kernel
theorem gf_Jx4a65c_63 {q0 a : Nat} {fs : List Value} {v : Value} (S : CallFix p m c cc nL s args BG RJx4a65c) (X : Wd E Γ A s H locs w) (he : w[q0]? = some (a, .inr (0, fs))) (hv : fs[0]? = some v) (hdg : decode cc pc = .ok (.getfield 63, 3)) (kk : W p l e R s m args below meth c H locs cells slots Q (F0 m (pc + 3) ls (v :: rest))) : W p l e R s m args below meth c H locs cells slots Q (F0 m pc ls (.ref a :: rest)) := va_get (D := Γ.1) (ci := 0) (C := RJx4a65c) (T := TJx4a65c) (N := 3) S.1 S.2.1 S.2.2.2.2 inlJx4a65c S.2.2.2.1 X.1 X.2.1 q0 he rfl 0 (by decide) (S.2.2.2.2 _ fl_Jx4a65c_63) (u_same (S.2.2.2.2 _ sf_modCount)) hv hdg kk
theorem pf_Jx4a65c_63 {q0 a : Nat} {fs : List Value} {v : Value} (S : CallFix p m c cc nL s args BG RJx4a65c) (X : Wd E Γ A s H locs w) (he : w[q0]? = some (a, .inr (0, fs))) (hn : narrow (.int) v = v) (hf : fits (.int) v = true) (hl : 0 < fs.length) (hdg : decode cc pc = .ok (.putfield 63, 3)) (kk : ∀ (H1 : Heap) (locs1 : List Loc), Wd E Γ A s H1 locs1 (w.set q0 (a, .inr (0, fs.set 0 v))) → W p l e R s m args below meth c H1 locs1 cells slots Q (F0 m (pc + 3) ls rest)) : W p l e R s m args below meth c H locs cells slots Q (F0 m pc ls (v :: .ref a :: rest)) := va_put (D := Γ.1) (ci := 0) (C := RJx4a65c) (T := TJx4a65c) (N := 3) S.1 S.2.1 S.2.2.2.2 inlJx4a65c tyJx4a65c tyJx4a65c_ok nmJx4a65c S.2.2.2.1 X.1 X.2.1 X.2.2.1 X.2.2.2.1 q0 he rfl 0 (by decide) (S.2.2.2.2 _ fl_Jx4a65c_63) (u_same (S.2.2.2.2 _ sf_modCount)) rfl (ty := .int) (by decide +kernel) hn hf hl hdg (fun H1 locs1 a1 a2 a3 => kk H1 locs1 ⟨X.1, a1, a2, a3, X.2.2.2.2⟩)
theorem fl_Jxc12de_7 : Cond.fieldLink RJxc12de 7 "java/util/AbstractList" "modCount" "I" ∈ BG := by decide +kernel
theorem gf_Jxc12de_7 {q0 a : Nat} {fs : List Value} {v : Value} (S : CallFix p m c cc nL s args BG RJxc12de) (X : Wd E Γ A s H locs w) (he : w[q0]? = some (a, .inr (0, fs))) (hv : fs[0]? = some v) (hdg : decode cc pc = .ok (.getfield 7, 3)) (kk : W p l e R s m args below meth c H locs cells slots Q (F0 m (pc + 3) ls (v :: rest))) : W p l e R s m args below meth c H locs cells slots Q (F0 m pc ls (.ref a :: rest)) := va_get (D := Γ.1) (ci := 0) (C := RJx4a65c) (T := TJx4a65c) (N := 3) S.1 S.2.1 S.2.2.2.2 inlJx4a65c S.2.2.2.1 X.1 X.2.1 q0 he rfl 0 (by decide) (S.2.2.2.2 _ fl_Jxc12de_7) (fun _ h => h) hv hdg kk
theorem pf_Jxc12de_7 {q0 a : Nat} {fs : List Value} {v : Value} (S : CallFix p m c cc nL s args BG RJxc12de) (X : Wd E Γ A s H locs w) (he : w[q0]? = some (a, .inr (0, fs))) (hn : narrow (.int) v = v) (hf : fits (.int) v = true) (hl : 0 < fs.length) (hdg : decode cc pc = .ok (.putfield 7, 3)) (kk : ∀ (H1 : Heap) (locs1 : List Loc), Wd E Γ A s H1 locs1 (w.set q0 (a, .inr (0, fs.set 0 v))) → W p l e R s m args below meth c H1 locs1 cells slots Q (F0 m (pc + 3) ls rest)) : W p l e R s m args below meth c H locs cells slots Q (F0 m pc ls (v :: .ref a :: rest)) := va_put (D := Γ.1) (ci := 0) (C := RJx4a65c) (T := TJx4a65c) (N := 3) S.1 S.2.1 S.2.2.2.2 inlJx4a65c tyJx4a65c tyJx4a65c_ok nmJx4a65c S.2.2.2.1 X.1 X.2.1 X.2.2.1 X.2.2.2.1 q0 he rfl 0 (by decide) (S.2.2.2.2 _ fl_Jxc12de_7) (fun _ h => h) rfl (ty := .int) (by decide +kernel) hn hf hl hdg (fun H1 locs1 a1 a2 a3 => kk H1 locs1 ⟨X.1, a1, a2, a3, X.2.2.2.2⟩)
theorem fl_X0_9 : Cond.fieldLink RX0 9 "HedgeCourt$Law" "weight" "[I" ∈ BG := by decide +kernel
theorem gf_X0_9 {q0 a : Nat} {fs : List Value} {v : Value} (S : CallFix p m c cc nL s args BG RX0) (X : Wd E Γ A s H locs w) (he : w[q0]? = some (a, .inr (1, fs))) (hv : fs[0]? = some v) (hdg : decode cc pc = .ok (.getfield 9, 3)) (kk : W p l e R s m args below meth c H locs cells slots Q (F0 m (pc + 3) ls (v :: rest))) : W p l e R s m args below meth c H locs cells slots Q (F0 m pc ls (.ref a :: rest)) := va_get (D := Γ.1) (ci := 1) (C := RX0) (T := TX0) (N := 5) S.1 S.2.1 S.2.2.2.2 inlX0 S.2.2.2.1 X.1 X.2.1 q0 he rfl 0 (by decide) (S.2.2.2.2 _ fl_X0_9) (fun _ h => h) hv hdg kk
theorem pF_X0_9 {q0 a : Nat} {fs : List Value} {v : Value} (S : CallFix p m c cc nL s args BG RX0) (hin : meth.name = "<init>") (X : Wd E Γ A s H locs w) (he : w[q0]? = some (a, .inr (1, fs))) (hn : narrow (.array .int) v = v) (hf : fits (.array .int) v = true) (hl : 0 < fs.length) (hdg : decode cc pc = .ok (.putfield 9, 3)) (kk : ∀ (H1 : Heap) (locs1 : List Loc), Wd E Γ A s H1 locs1 (w.set q0 (a, .inr (1, fs.set 0 v))) → W p l e R s m args below meth c H1 locs1 cells slots Q (F0 m (pc + 3) ls rest)) : W p l e R s m args below meth c H locs cells slots Q (F0 m pc ls (v :: .ref a :: rest)) := va_putF (D := Γ.1) (ci := 1) (C := RX0) (T := TX0) (N := 5) S.1 S.2.1 S.2.2.2.2 inlX0 tyX0 tyX0_ok nmX0 S.2.2.2.1 X.1 X.2.1 X.2.2.1 X.2.2.2.1 q0 he rfl 0 (by decide) (S.2.2.2.2 _ fl_X0_9) (fun _ h => h) rfl hin rfl (ty := .array .int) (by decide +kernel) hn hf hl hdg (fun H1 locs1 a1 a2 a3 => kk H1 locs1 ⟨X.1, a1, a2, a3, X.2.2.2.2⟩)
theorem fl_X0_15 : Cond.fieldLink RX0 15 "HedgeCourt$Law" "newerAlone" "[Z" ∈ BG := by decide +kernel
theorem gf_X0_15 {q0 a : Nat} {fs : List Value} {v : Value} (S : CallFix p m c cc nL s args BG RX0) (X : Wd E Γ A s H locs w) (he : w[q0]? = some (a, .inr (1, fs))) (hv : fs[1]? = some v) (hdg : decode cc pc = .ok (.getfield 15, 3)) (kk : W p l e R s m args below meth c H locs cells slots Q (F0 m (pc + 3) ls (v :: rest))) : W p l e R s m args below meth c H locs cells slots Q (F0 m pc ls (.ref a :: rest)) := va_get (D := Γ.1) (ci := 1) (C := RX0) (T := TX0) (N := 5) S.1 S.2.1 S.2.2.2.2 inlX0 S.2.2.2.1 X.1 X.2.1 q0 he rfl 1 (by decide) (S.2.2.2.2 _ fl_X0_15) (fun _ h => h) hv hdg kk
theorem pF_X0_15 {q0 a : Nat} {fs : List Value} {v : Value} (S : CallFix p m c cc nL s args BG RX0) (hin : meth.name = "<init>") (X : Wd E Γ A s H locs w) (he : w[q0]? = some (a, .inr (1, fs))) (hn : narrow (.array .boolean) v = v) (hf : fits (.array .boolean) v = true) (hl : 1 < fs.length) (hdg : decode cc pc = .ok (.putfield 15, 3)) (kk : ∀ (H1 : Heap) (locs1 : List Loc), Wd E Γ A s H1 locs1 (w.set q0 (a, .inr (1, fs.set 1 v))) → W p l e R s m args below meth c H1 locs1 cells slots Q (F0 m (pc + 3) ls rest)) : W p l e R s m args below meth c H locs cells slots Q (F0 m pc ls (v :: .ref a :: rest)) := va_putF (D := Γ.1) (ci := 1) (C := RX0) (T := TX0) (N := 5) S.1 S.2.1 S.2.2.2.2 inlX0 tyX0 tyX0_ok nmX0 S.2.2.2.1 X.1 X.2.1 X.2.2.1 X.2.2.2.1 q0 he rfl 1 (by decide) (S.2.2.2.2 _ fl_X0_15) (fun _ h => h) rfl hin rfl (ty := .array .boolean) (by decide +kernel) hn hf hl hdg (fun H1 locs1 a1 a2 a3 => kk H1 locs1 ⟨X.1, a1, a2, a3, X.2.2.2.2⟩)
theorem fl_X0_28 : Cond.fieldLink RX0 28 "HedgeCourt$Law" "thrown" "I" ∈ BG := by decide +kernel
theorem gf_X0_28 {q0 a : Nat} {fs : List Value} {v : Value} (S : CallFix p m c cc nL s args BG RX0) (X : Wd E Γ A s H locs w) (he : w[q0]? = some (a, .inr (1, fs))) (hv : fs[2]? = some v) (hdg : decode cc pc = .ok (.getfield 28, 3)) (kk : W p l e R s m args below meth c H locs cells slots Q (F0 m (pc + 3) ls (v :: rest))) : W p l e R s m args below meth c H locs cells slots Q (F0 m pc ls (.ref a :: rest)) := va_get (D := Γ.1) (ci := 1) (C := RX0) (T := TX0) (N := 5) S.1 S.2.1 S.2.2.2.2 inlX0 S.2.2.2.1 X.1 X.2.1 q0 he rfl 2 (by decide) (S.2.2.2.2 _ fl_X0_28) (fun _ h => h) hv hdg kk
theorem pf_X0_28 {q0 a : Nat} {fs : List Value} {v : Value} (S : CallFix p m c cc nL s args BG RX0) (X : Wd E Γ A s H locs w) (he : w[q0]? = some (a, .inr (1, fs))) (hn : narrow (.int) v = v) (hf : fits (.int) v = true) (hl : 2 < fs.length) (hdg : decode cc pc = .ok (.putfield 28, 3)) (kk : ∀ (H1 : Heap) (locs1 : List Loc), Wd E Γ A s H1 locs1 (w.set q0 (a, .inr (1, fs.set 2 v))) → W p l e R s m args below meth c H1 locs1 cells slots Q (F0 m (pc + 3) ls rest)) : W p l e R s m args below meth c H locs cells slots Q (F0 m pc ls (v :: .ref a :: rest)) := va_put (D := Γ.1) (ci := 1) (C := RX0) (T := TX0) (N := 5) S.1 S.2.1 S.2.2.2.2 inlX0 tyX0 tyX0_ok nmX0 S.2.2.2.1 X.1 X.2.1 X.2.2.1 X.2.2.2.1 q0 he rfl 2 (by decide) (S.2.2.2.2 _ fl_X0_28) (fun _ h => h) rfl (ty := .int) (by decide +kernel) hn hf hl hdg (fun H1 locs1 a1 a2 a3 => kk H1 locs1 ⟨X.1, a1, a2, a3, X.2.2.2.2⟩)
theorem fl_X0_32 : Cond.fieldLink RX0 32 "HedgeCourt$Law" "hold" "I" ∈ BG := by decide +kernel
theorem gf_X0_32 {q0 a : Nat} {fs : List Value} {v : Value} (S : CallFix p m c cc nL s args BG RX0) (X : Wd E Γ A s H locs w) (he : w[q0]? = some (a, .inr (1, fs))) (hv : fs[3]? = some v) (hdg : decode cc pc = .ok (.getfield 32, 3)) (kk : W p l e R s m args below meth c H locs cells slots Q (F0 m (pc + 3) ls (v :: rest))) : W p l e R s m args below meth c H locs cells slots Q (F0 m pc ls (.ref a :: rest)) := va_get (D := Γ.1) (ci := 1) (C := RX0) (T := TX0) (N := 5) S.1 S.2.1 S.2.2.2.2 inlX0 S.2.2.2.1 X.1 X.2.1 q0 he rfl 3 (by decide) (S.2.2.2.2 _ fl_X0_32) (fun _ h => h) hv hdg kk
theorem pf_X0_32 {q0 a : Nat} {fs : List Value} {v : Value} (S : CallFix p m c cc nL s args BG RX0) (X : Wd E Γ A s H locs w) (he : w[q0]? = some (a, .inr (1, fs))) (hn : narrow (.int) v = v) (hf : fits (.int) v = true) (hl : 3 < fs.length) (hdg : decode cc pc = .ok (.putfield 32, 3)) (kk : ∀ (H1 : Heap) (locs1 : List Loc), Wd E Γ A s H1 locs1 (w.set q0 (a, .inr (1, fs.set 3 v))) → W p l e R s m args below meth c H1 locs1 cells slots Q (F0 m (pc + 3) ls rest)) : W p l e R s m args below meth c H locs cells slots Q (F0 m pc ls (v :: .ref a :: rest)) := va_put (D := Γ.1) (ci := 1) (C := RX0) (T := TX0) (N := 5) S.1 S.2.1 S.2.2.2.2 inlX0 tyX0 tyX0_ok nmX0 S.2.2.2.1 X.1 X.2.1 X.2.2.1 X.2.2.2.1 q0 he rfl 3 (by decide) (S.2.2.2.2 _ fl_X0_32) (fun _ h => h) rfl (ty := .int) (by decide +kernel) hn hf hl hdg (fun H1 locs1 a1 a2 a3 => kk H1 locs1 ⟨X.1, a1, a2, a3, X.2.2.2.2⟩)
theorem fl_X0_35 : Cond.fieldLink RX0 35 "HedgeCourt$Law" "bend" "I" ∈ BG := by decide +kernel
theorem gf_X0_35 {q0 a : Nat} {fs : List Value} {v : Value} (S : CallFix p m c cc nL s args BG RX0) (X : Wd E Γ A s H locs w) (he : w[q0]? = some (a, .inr (1, fs))) (hv : fs[4]? = some v) (hdg : decode cc pc = .ok (.getfield 35, 3)) (kk : W p l e R s m args below meth c H locs cells slots Q (F0 m (pc + 3) ls (v :: rest))) : W p l e R s m args below meth c H locs cells slots Q (F0 m pc ls (.ref a :: rest)) := va_get (D := Γ.1) (ci := 1) (C := RX0) (T := TX0) (N := 5) S.1 S.2.1 S.2.2.2.2 inlX0 S.2.2.2.1 X.1 X.2.1 q0 he rfl 4 (by decide) (S.2.2.2.2 _ fl_X0_35) (fun _ h => h) hv hdg kk
theorem pf_X0_35 {q0 a : Nat} {fs : List Value} {v : Value} (S : CallFix p m c cc nL s args BG RX0) (X : Wd E Γ A s H locs w) (he : w[q0]? = some (a, .inr (1, fs))) (hn : narrow (.int) v = v) (hf : fits (.int) v = true) (hl : 4 < fs.length) (hdg : decode cc pc = .ok (.putfield 35, 3)) (kk : ∀ (H1 : Heap) (locs1 : List Loc), Wd E Γ A s H1 locs1 (w.set q0 (a, .inr (1, fs.set 4 v))) → W p l e R s m args below meth c H1 locs1 cells slots Q (F0 m (pc + 3) ls rest)) : W p l e R s m args below meth c H locs cells slots Q (F0 m pc ls (v :: .ref a :: rest)) := va_put (D := Γ.1) (ci := 1) (C := RX0) (T := TX0) (N := 5) S.1 S.2.1 S.2.2.2.2 inlX0 tyX0 tyX0_ok nmX0 S.2.2.2.1 X.1 X.2.1 X.2.2.1 X.2.2.2.1 q0 he rfl 4 (by decide) (S.2.2.2.2 _ fl_X0_35) (fun _ h => h) rfl (ty := .int) (by decide +kernel) hn hf hl hdg (fun H1 locs1 a1 a2 a3 => kk H1 locs1 ⟨X.1, a1, a2, a3, X.2.2.2.2⟩)
theorem fl_X1_9 : Cond.fieldLink RX1 9 "HedgeCourt$LawReader" "fault" "I" ∈ BG := by decide +kernel
theorem gf_X1_9 {q0 a : Nat} {fs : List Value} {v : Value} (S : CallFix p m c cc nL s args BG RX1) (X : Wd E Γ A s H locs w) (he : w[q0]? = some (a, .inr (2, fs))) (hv : fs[0]? = some v) (hdg : decode cc pc = .ok (.getfield 9, 3)) (kk : W p l e R s m args below meth c H locs cells slots Q (F0 m (pc + 3) ls (v :: rest))) : W p l e R s m args below meth c H locs cells slots Q (F0 m pc ls (.ref a :: rest)) := va_get (D := Γ.1) (ci := 2) (C := RX1) (T := TX1) (N := 8) S.1 S.2.1 S.2.2.2.2 inlX1 S.2.2.2.1 X.1 X.2.1 q0 he rfl 0 (by decide) (S.2.2.2.2 _ fl_X1_9) (fun _ h => h) hv hdg kk
theorem pf_X1_9 {q0 a : Nat} {fs : List Value} {v : Value} (S : CallFix p m c cc nL s args BG RX1) (X : Wd E Γ A s H locs w) (he : w[q0]? = some (a, .inr (2, fs))) (hn : narrow (.int) v = v) (hf : fits (.int) v = true) (hl : 0 < fs.length) (hdg : decode cc pc = .ok (.putfield 9, 3)) (kk : ∀ (H1 : Heap) (locs1 : List Loc), Wd E Γ A s H1 locs1 (w.set q0 (a, .inr (2, fs.set 0 v))) → W p l e R s m args below meth c H1 locs1 cells slots Q (F0 m (pc + 3) ls rest)) : W p l e R s m args below meth c H locs cells slots Q (F0 m pc ls (v :: .ref a :: rest)) := va_put (D := Γ.1) (ci := 2) (C := RX1) (T := TX1) (N := 8) S.1 S.2.1 S.2.2.2.2 inlX1 tyX1 tyX1_ok nmX1 S.2.2.2.1 X.1 X.2.1 X.2.2.1 X.2.2.2.1 q0 he rfl 0 (by decide) (S.2.2.2.2 _ fl_X1_9) (fun _ h => h) rfl (ty := .int) (by decide +kernel) hn hf hl hdg (fun H1 locs1 a1 a2 a3 => kk H1 locs1 ⟨X.1, a1, a2, a3, X.2.2.2.2⟩)
theorem fl_X1_15 : Cond.fieldLink RX1 15 "HedgeCourt$LawReader" "faultPlace" "I" ∈ BG := by decide +kernel
theorem gf_X1_15 {q0 a : Nat} {fs : List Value} {v : Value} (S : CallFix p m c cc nL s args BG RX1) (X : Wd E Γ A s H locs w) (he : w[q0]? = some (a, .inr (2, fs))) (hv : fs[1]? = some v) (hdg : decode cc pc = .ok (.getfield 15, 3)) (kk : W p l e R s m args below meth c H locs cells slots Q (F0 m (pc + 3) ls (v :: rest))) : W p l e R s m args below meth c H locs cells slots Q (F0 m pc ls (.ref a :: rest)) := va_get (D := Γ.1) (ci := 2) (C := RX1) (T := TX1) (N := 8) S.1 S.2.1 S.2.2.2.2 inlX1 S.2.2.2.1 X.1 X.2.1 q0 he rfl 1 (by decide) (S.2.2.2.2 _ fl_X1_15) (fun _ h => h) hv hdg kk
theorem pf_X1_15 {q0 a : Nat} {fs : List Value} {v : Value} (S : CallFix p m c cc nL s args BG RX1) (X : Wd E Γ A s H locs w) (he : w[q0]? = some (a, .inr (2, fs))) (hn : narrow (.int) v = v) (hf : fits (.int) v = true) (hl : 1 < fs.length) (hdg : decode cc pc = .ok (.putfield 15, 3)) (kk : ∀ (H1 : Heap) (locs1 : List Loc), Wd E Γ A s H1 locs1 (w.set q0 (a, .inr (2, fs.set 1 v))) → W p l e R s m args below meth c H1 locs1 cells slots Q (F0 m (pc + 3) ls rest)) : W p l e R s m args below meth c H locs cells slots Q (F0 m pc ls (v :: .ref a :: rest)) := va_put (D := Γ.1) (ci := 2) (C := RX1) (T := TX1) (N := 8) S.1 S.2.1 S.2.2.2.2 inlX1 tyX1 tyX1_ok nmX1 S.2.2.2.1 X.1 X.2.1 X.2.2.1 X.2.2.2.1 q0 he rfl 1 (by decide) (S.2.2.2.2 _ fl_X1_15) (fun _ h => h) rfl (ty := .int) (by decide +kernel) hn hf hl hdg (fun H1 locs1 a1 a2 a3 => kk H1 locs1 ⟨X.1, a1, a2, a3, X.2.2.2.2⟩)
theorem fl_X1_18 : Cond.fieldLink RX1 18 "HedgeCourt$LawReader" "lines" "I" ∈ BG := by decide +kernel
theorem gf_X1_18 {q0 a : Nat} {fs : List Value} {v : Value} (S : CallFix p m c cc nL s args BG RX1) (X : Wd E Γ A s H locs w) (he : w[q0]? = some (a, .inr (2, fs))) (hv : fs[2]? = some v) (hdg : decode cc pc = .ok (.getfield 18, 3)) (kk : W p l e R s m args below meth c H locs cells slots Q (F0 m (pc + 3) ls (v :: rest))) : W p l e R s m args below meth c H locs cells slots Q (F0 m pc ls (.ref a :: rest)) := va_get (D := Γ.1) (ci := 2) (C := RX1) (T := TX1) (N := 8) S.1 S.2.1 S.2.2.2.2 inlX1 S.2.2.2.1 X.1 X.2.1 q0 he rfl 2 (by decide) (S.2.2.2.2 _ fl_X1_18) (fun _ h => h) hv hdg kk
theorem pf_X1_18 {q0 a : Nat} {fs : List Value} {v : Value} (S : CallFix p m c cc nL s args BG RX1) (X : Wd E Γ A s H locs w) (he : w[q0]? = some (a, .inr (2, fs))) (hn : narrow (.int) v = v) (hf : fits (.int) v = true) (hl : 2 < fs.length) (hdg : decode cc pc = .ok (.putfield 18, 3)) (kk : ∀ (H1 : Heap) (locs1 : List Loc), Wd E Γ A s H1 locs1 (w.set q0 (a, .inr (2, fs.set 2 v))) → W p l e R s m args below meth c H1 locs1 cells slots Q (F0 m (pc + 3) ls rest)) : W p l e R s m args below meth c H locs cells slots Q (F0 m pc ls (v :: .ref a :: rest)) := va_put (D := Γ.1) (ci := 2) (C := RX1) (T := TX1) (N := 8) S.1 S.2.1 S.2.2.2.2 inlX1 tyX1 tyX1_ok nmX1 S.2.2.2.1 X.1 X.2.1 X.2.2.1 X.2.2.2.1 q0 he rfl 2 (by decide) (S.2.2.2.2 _ fl_X1_18) (fun _ h => h) rfl (ty := .int) (by decide +kernel) hn hf hl hdg (fun H1 locs1 a1 a2 a3 => kk H1 locs1 ⟨X.1, a1, a2, a3, X.2.2.2.2⟩)
theorem fl_X1_21 : Cond.fieldLink RX1 21 "HedgeCourt$LawReader" "next" "I" ∈ BG := by decide +kernel
theorem gf_X1_21 {q0 a : Nat} {fs : List Value} {v : Value} (S : CallFix p m c cc nL s args BG RX1) (X : Wd E Γ A s H locs w) (he : w[q0]? = some (a, .inr (2, fs))) (hv : fs[4]? = some v) (hdg : decode cc pc = .ok (.getfield 21, 3)) (kk : W p l e R s m args below meth c H locs cells slots Q (F0 m (pc + 3) ls (v :: rest))) : W p l e R s m args below meth c H locs cells slots Q (F0 m pc ls (.ref a :: rest)) := va_get (D := Γ.1) (ci := 2) (C := RX1) (T := TX1) (N := 8) S.1 S.2.1 S.2.2.2.2 inlX1 S.2.2.2.1 X.1 X.2.1 q0 he rfl 4 (by decide) (S.2.2.2.2 _ fl_X1_21) (fun _ h => h) hv hdg kk
theorem pf_X1_21 {q0 a : Nat} {fs : List Value} {v : Value} (S : CallFix p m c cc nL s args BG RX1) (X : Wd E Γ A s H locs w) (he : w[q0]? = some (a, .inr (2, fs))) (hn : narrow (.int) v = v) (hf : fits (.int) v = true) (hl : 4 < fs.length) (hdg : decode cc pc = .ok (.putfield 21, 3)) (kk : ∀ (H1 : Heap) (locs1 : List Loc), Wd E Γ A s H1 locs1 (w.set q0 (a, .inr (2, fs.set 4 v))) → W p l e R s m args below meth c H1 locs1 cells slots Q (F0 m (pc + 3) ls rest)) : W p l e R s m args below meth c H locs cells slots Q (F0 m pc ls (v :: .ref a :: rest)) := va_put (D := Γ.1) (ci := 2) (C := RX1) (T := TX1) (N := 8) S.1 S.2.1 S.2.2.2.2 inlX1 tyX1 tyX1_ok nmX1 S.2.2.2.1 X.1 X.2.1 X.2.2.1 X.2.2.2.1 q0 he rfl 4 (by decide) (S.2.2.2.2 _ fl_X1_21) (fun _ h => h) rfl (ty := .int) (by decide +kernel) hn hf hl hdg (fun H1 locs1 a1 a2 a3 => kk H1 locs1 ⟨X.1, a1, a2, a3, X.2.2.2.2⟩)
theorem fl_X1_24 : Cond.fieldLink RX1 24 "HedgeCourt$LawReader" "token" "I" ∈ BG := by decide +kernel
theorem gf_X1_24 {q0 a : Nat} {fs : List Value} {v : Value} (S : CallFix p m c cc nL s args BG RX1) (X : Wd E Γ A s H locs w) (he : w[q0]? = some (a, .inr (2, fs))) (hv : fs[5]? = some v) (hdg : decode cc pc = .ok (.getfield 24, 3)) (kk : W p l e R s m args below meth c H locs cells slots Q (F0 m (pc + 3) ls (v :: rest))) : W p l e R s m args below meth c H locs cells slots Q (F0 m pc ls (.ref a :: rest)) := va_get (D := Γ.1) (ci := 2) (C := RX1) (T := TX1) (N := 8) S.1 S.2.1 S.2.2.2.2 inlX1 S.2.2.2.1 X.1 X.2.1 q0 he rfl 5 (by decide) (S.2.2.2.2 _ fl_X1_24) (fun _ h => h) hv hdg kk
theorem pf_X1_24 {q0 a : Nat} {fs : List Value} {v : Value} (S : CallFix p m c cc nL s args BG RX1) (X : Wd E Γ A s H locs w) (he : w[q0]? = some (a, .inr (2, fs))) (hn : narrow (.int) v = v) (hf : fits (.int) v = true) (hl : 5 < fs.length) (hdg : decode cc pc = .ok (.putfield 24, 3)) (kk : ∀ (H1 : Heap) (locs1 : List Loc), Wd E Γ A s H1 locs1 (w.set q0 (a, .inr (2, fs.set 5 v))) → W p l e R s m args below meth c H1 locs1 cells slots Q (F0 m (pc + 3) ls rest)) : W p l e R s m args below meth c H locs cells slots Q (F0 m pc ls (v :: .ref a :: rest)) := va_put (D := Γ.1) (ci := 2) (C := RX1) (T := TX1) (N := 8) S.1 S.2.1 S.2.2.2.2 inlX1 tyX1 tyX1_ok nmX1 S.2.2.2.1 X.1 X.2.1 X.2.2.1 X.2.2.2.1 q0 he rfl 5 (by decide) (S.2.2.2.2 _ fl_X1_24) (fun _ h => h) rfl (ty := .int) (by decide +kernel) hn hf hl hdg (fun H1 locs1 a1 a2 a3 => kk H1 locs1 ⟨X.1, a1, a2, a3, X.2.2.2.2⟩)
theorem fl_X1_27 : Cond.fieldLink RX1 27 "HedgeCourt$LawReader" "tokenPlace" "I" ∈ BG := by decide +kernel
theorem gf_X1_27 {q0 a : Nat} {fs : List Value} {v : Value} (S : CallFix p m c cc nL s args BG RX1) (X : Wd E Γ A s H locs w) (he : w[q0]? = some (a, .inr (2, fs))) (hv : fs[6]? = some v) (hdg : decode cc pc = .ok (.getfield 27, 3)) (kk : W p l e R s m args below meth c H locs cells slots Q (F0 m (pc + 3) ls (v :: rest))) : W p l e R s m args below meth c H locs cells slots Q (F0 m pc ls (.ref a :: rest)) := va_get (D := Γ.1) (ci := 2) (C := RX1) (T := TX1) (N := 8) S.1 S.2.1 S.2.2.2.2 inlX1 S.2.2.2.1 X.1 X.2.1 q0 he rfl 6 (by decide) (S.2.2.2.2 _ fl_X1_27) (fun _ h => h) hv hdg kk
theorem pf_X1_27 {q0 a : Nat} {fs : List Value} {v : Value} (S : CallFix p m c cc nL s args BG RX1) (X : Wd E Γ A s H locs w) (he : w[q0]? = some (a, .inr (2, fs))) (hn : narrow (.int) v = v) (hf : fits (.int) v = true) (hl : 6 < fs.length) (hdg : decode cc pc = .ok (.putfield 27, 3)) (kk : ∀ (H1 : Heap) (locs1 : List Loc), Wd E Γ A s H1 locs1 (w.set q0 (a, .inr (2, fs.set 6 v))) → W p l e R s m args below meth c H1 locs1 cells slots Q (F0 m (pc + 3) ls rest)) : W p l e R s m args below meth c H locs cells slots Q (F0 m pc ls (v :: .ref a :: rest)) := va_put (D := Γ.1) (ci := 2) (C := RX1) (T := TX1) (N := 8) S.1 S.2.1 S.2.2.2.2 inlX1 tyX1 tyX1_ok nmX1 S.2.2.2.1 X.1 X.2.1 X.2.2.1 X.2.2.2.1 q0 he rfl 6 (by decide) (S.2.2.2.2 _ fl_X1_27) (fun _ h => h) rfl (ty := .int) (by decide +kernel) hn hf hl hdg (fun H1 locs1 a1 a2 a3 => kk H1 locs1 ⟨X.1, a1, a2, a3, X.2.2.2.2⟩)
theorem fl_X1_30 : Cond.fieldLink RX1 30 "HedgeCourt$LawReader" "tokenValue" "I" ∈ BG := by decide +kernel
theorem gf_X1_30 {q0 a : Nat} {fs : List Value} {v : Value} (S : CallFix p m c cc nL s args BG RX1) (X : Wd E Γ A s H locs w) (he : w[q0]? = some (a, .inr (2, fs))) (hv : fs[7]? = some v) (hdg : decode cc pc = .ok (.getfield 30, 3)) (kk : W p l e R s m args below meth c H locs cells slots Q (F0 m (pc + 3) ls (v :: rest))) : W p l e R s m args below meth c H locs cells slots Q (F0 m pc ls (.ref a :: rest)) := va_get (D := Γ.1) (ci := 2) (C := RX1) (T := TX1) (N := 8) S.1 S.2.1 S.2.2.2.2 inlX1 S.2.2.2.1 X.1 X.2.1 q0 he rfl 7 (by decide) (S.2.2.2.2 _ fl_X1_30) (fun _ h => h) hv hdg kk
theorem pf_X1_30 {q0 a : Nat} {fs : List Value} {v : Value} (S : CallFix p m c cc nL s args BG RX1) (X : Wd E Γ A s H locs w) (he : w[q0]? = some (a, .inr (2, fs))) (hn : narrow (.int) v = v) (hf : fits (.int) v = true) (hl : 7 < fs.length) (hdg : decode cc pc = .ok (.putfield 30, 3)) (kk : ∀ (H1 : Heap) (locs1 : List Loc), Wd E Γ A s H1 locs1 (w.set q0 (a, .inr (2, fs.set 7 v))) → W p l e R s m args below meth c H1 locs1 cells slots Q (F0 m (pc + 3) ls rest)) : W p l e R s m args below meth c H locs cells slots Q (F0 m pc ls (v :: .ref a :: rest)) := va_put (D := Γ.1) (ci := 2) (C := RX1) (T := TX1) (N := 8) S.1 S.2.1 S.2.2.2.2 inlX1 tyX1 tyX1_ok nmX1 S.2.2.2.1 X.1 X.2.1 X.2.2.1 X.2.2.2.1 q0 he rfl 7 (by decide) (S.2.2.2.2 _ fl_X1_30) (fun _ h => h) rfl (ty := .int) (by decide +kernel) hn hf hl hdg (fun H1 locs1 a1 a2 a3 => kk H1 locs1 ⟨X.1, a1, a2, a3, X.2.2.2.2⟩)
theorem fl_X1_33 : Cond.fieldLink RX1 33 "HedgeCourt$LawReader" "tape" "LHedgeCourt$Tape;" ∈ BG := by decide +kernel
theorem gf_X1_33 {q0 a : Nat} {fs : List Value} {v : Value} (S : CallFix p m c cc nL s args BG RX1) (X : Wd E Γ A s H locs w) (he : w[q0]? = some (a, .inr (2, fs))) (hv : fs[3]? = some v) (hdg : decode cc pc = .ok (.getfield 33, 3)) (kk : W p l e R s m args below meth c H locs cells slots Q (F0 m (pc + 3) ls (v :: rest))) : W p l e R s m args below meth c H locs cells slots Q (F0 m pc ls (.ref a :: rest)) := va_get (D := Γ.1) (ci := 2) (C := RX1) (T := TX1) (N := 8) S.1 S.2.1 S.2.2.2.2 inlX1 S.2.2.2.1 X.1 X.2.1 q0 he rfl 3 (by decide) (S.2.2.2.2 _ fl_X1_33) (fun _ h => h) hv hdg kk
theorem pF_X1_33 {q0 a : Nat} {fs : List Value} {v : Value} (S : CallFix p m c cc nL s args BG RX1) (hin : meth.name = "<init>") (X : Wd E Γ A s H locs w) (he : w[q0]? = some (a, .inr (2, fs))) (hn : narrow (.object "HedgeCourt$Tape") v = v) (hf : fits (.object "HedgeCourt$Tape") v = true) (hl : 3 < fs.length) (hdg : decode cc pc = .ok (.putfield 33, 3)) (kk : ∀ (H1 : Heap) (locs1 : List Loc), Wd E Γ A s H1 locs1 (w.set q0 (a, .inr (2, fs.set 3 v))) → W p l e R s m args below meth c H1 locs1 cells slots Q (F0 m (pc + 3) ls rest)) : W p l e R s m args below meth c H locs cells slots Q (F0 m pc ls (v :: .ref a :: rest)) := va_putF (D := Γ.1) (ci := 2) (C := RX1) (T := TX1) (N := 8) S.1 S.2.1 S.2.2.2.2 inlX1 tyX1 tyX1_ok nmX1 S.2.2.2.1 X.1 X.2.1 X.2.2.1 X.2.2.2.1 q0 he rfl 3 (by decide) (S.2.2.2.2 _ fl_X1_33) (fun _ h => h) rfl hin rfl (ty := .object "HedgeCourt$Tape") (by decide +kernel) hn hf hl hdg (fun H1 locs1 a1 a2 a3 => kk H1 locs1 ⟨X.1, a1, a2, a3, X.2.2.2.2⟩)
theorem fl_X1_69 : Cond.fieldLink RX1 69 "HedgeCourt$Law" "weight" "[I" ∈ BG := by decide +kernel
theorem gf_X1_69 {q0 a : Nat} {fs : List Value} {v : Value} (S : CallFix p m c cc nL s args BG RX1) (X : Wd E Γ A s H locs w) (he : w[q0]? = some (a, .inr (1, fs))) (hv : fs[0]? = some v) (hdg : decode cc pc = .ok (.getfield 69, 3)) (kk : W p l e R s m args below meth c H locs cells slots Q (F0 m (pc + 3) ls (v :: rest))) : W p l e R s m args below meth c H locs cells slots Q (F0 m pc ls (.ref a :: rest)) := va_get (D := Γ.1) (ci := 1) (C := RX0) (T := TX0) (N := 5) S.1 S.2.1 S.2.2.2.2 inlX0 S.2.2.2.1 X.1 X.2.1 q0 he rfl 0 (by decide) (S.2.2.2.2 _ fl_X1_69) (fun _ h => h) hv hdg kk
theorem fl_X1_73 : Cond.fieldLink RX1 73 "HedgeCourt$Law" "newerAlone" "[Z" ∈ BG := by decide +kernel
theorem gf_X1_73 {q0 a : Nat} {fs : List Value} {v : Value} (S : CallFix p m c cc nL s args BG RX1) (X : Wd E Γ A s H locs w) (he : w[q0]? = some (a, .inr (1, fs))) (hv : fs[1]? = some v) (hdg : decode cc pc = .ok (.getfield 73, 3)) (kk : W p l e R s m args below meth c H locs cells slots Q (F0 m (pc + 3) ls (v :: rest))) : W p l e R s m args below meth c H locs cells slots Q (F0 m pc ls (.ref a :: rest)) := va_get (D := Γ.1) (ci := 1) (C := RX0) (T := TX0) (N := 5) S.1 S.2.1 S.2.2.2.2 inlX0 S.2.2.2.1 X.1 X.2.1 q0 he rfl 1 (by decide) (S.2.2.2.2 _ fl_X1_73) (fun _ h => h) hv hdg kk
theorem fl_X1_77 : Cond.fieldLink RX1 77 "HedgeCourt$Law" "thrown" "I" ∈ BG := by decide +kernel
theorem gf_X1_77 {q0 a : Nat} {fs : List Value} {v : Value} (S : CallFix p m c cc nL s args BG RX1) (X : Wd E Γ A s H locs w) (he : w[q0]? = some (a, .inr (1, fs))) (hv : fs[2]? = some v) (hdg : decode cc pc = .ok (.getfield 77, 3)) (kk : W p l e R s m args below meth c H locs cells slots Q (F0 m (pc + 3) ls (v :: rest))) : W p l e R s m args below meth c H locs cells slots Q (F0 m pc ls (.ref a :: rest)) := va_get (D := Γ.1) (ci := 1) (C := RX0) (T := TX0) (N := 5) S.1 S.2.1 S.2.2.2.2 inlX0 S.2.2.2.1 X.1 X.2.1 q0 he rfl 2 (by decide) (S.2.2.2.2 _ fl_X1_77) (fun _ h => h) hv hdg kk
theorem pf_X1_77 {q0 a : Nat} {fs : List Value} {v : Value} (S : CallFix p m c cc nL s args BG RX1) (X : Wd E Γ A s H locs w) (he : w[q0]? = some (a, .inr (1, fs))) (hn : narrow (.int) v = v) (hf : fits (.int) v = true) (hl : 2 < fs.length) (hdg : decode cc pc = .ok (.putfield 77, 3)) (kk : ∀ (H1 : Heap) (locs1 : List Loc), Wd E Γ A s H1 locs1 (w.set q0 (a, .inr (1, fs.set 2 v))) → W p l e R s m args below meth c H1 locs1 cells slots Q (F0 m (pc + 3) ls rest)) : W p l e R s m args below meth c H locs cells slots Q (F0 m pc ls (v :: .ref a :: rest)) := va_put (D := Γ.1) (ci := 1) (C := RX0) (T := TX0) (N := 5) S.1 S.2.1 S.2.2.2.2 inlX0 tyX0 tyX0_ok nmX0 S.2.2.2.1 X.1 X.2.1 X.2.2.1 X.2.2.2.1 q0 he rfl 2 (by decide) (S.2.2.2.2 _ fl_X1_77) (fun _ h => h) rfl (ty := .int) (by decide +kernel) hn hf hl hdg (fun H1 locs1 a1 a2 a3 => kk H1 locs1 ⟨X.1, a1, a2, a3, X.2.2.2.2⟩)
theorem fl_X1_80 : Cond.fieldLink RX1 80 "HedgeCourt$Law" "hold" "I" ∈ BG := by decide +kernel
theorem gf_X1_80 {q0 a : Nat} {fs : List Value} {v : Value} (S : CallFix p m c cc nL s args BG RX1) (X : Wd E Γ A s H locs w) (he : w[q0]? = some (a, .inr (1, fs))) (hv : fs[3]? = some v) (hdg : decode cc pc = .ok (.getfield 80, 3)) (kk : W p l e R s m args below meth c H locs cells slots Q (F0 m (pc + 3) ls (v :: rest))) : W p l e R s m args below meth c H locs cells slots Q (F0 m pc ls (.ref a :: rest)) := va_get (D := Γ.1) (ci := 1) (C := RX0) (T := TX0) (N := 5) S.1 S.2.1 S.2.2.2.2 inlX0 S.2.2.2.1 X.1 X.2.1 q0 he rfl 3 (by decide) (S.2.2.2.2 _ fl_X1_80) (fun _ h => h) hv hdg kk
theorem pf_X1_80 {q0 a : Nat} {fs : List Value} {v : Value} (S : CallFix p m c cc nL s args BG RX1) (X : Wd E Γ A s H locs w) (he : w[q0]? = some (a, .inr (1, fs))) (hn : narrow (.int) v = v) (hf : fits (.int) v = true) (hl : 3 < fs.length) (hdg : decode cc pc = .ok (.putfield 80, 3)) (kk : ∀ (H1 : Heap) (locs1 : List Loc), Wd E Γ A s H1 locs1 (w.set q0 (a, .inr (1, fs.set 3 v))) → W p l e R s m args below meth c H1 locs1 cells slots Q (F0 m (pc + 3) ls rest)) : W p l e R s m args below meth c H locs cells slots Q (F0 m pc ls (v :: .ref a :: rest)) := va_put (D := Γ.1) (ci := 1) (C := RX0) (T := TX0) (N := 5) S.1 S.2.1 S.2.2.2.2 inlX0 tyX0 tyX0_ok nmX0 S.2.2.2.1 X.1 X.2.1 X.2.2.1 X.2.2.2.1 q0 he rfl 3 (by decide) (S.2.2.2.2 _ fl_X1_80) (fun _ h => h) rfl (ty := .int) (by decide +kernel) hn hf hl hdg (fun H1 locs1 a1 a2 a3 => kk H1 locs1 ⟨X.1, a1, a2, a3, X.2.2.2.2⟩)
theorem fl_X1_83 : Cond.fieldLink RX1 83 "HedgeCourt$Law" "bend" "I" ∈ BG := by decide +kernel
theorem gf_X1_83 {q0 a : Nat} {fs : List Value} {v : Value} (S : CallFix p m c cc nL s args BG RX1) (X : Wd E Γ A s H locs w) (he : w[q0]? = some (a, .inr (1, fs))) (hv : fs[4]? = some v) (hdg : decode cc pc = .ok (.getfield 83, 3)) (kk : W p l e R s m args below meth c H locs cells slots Q (F0 m (pc + 3) ls (v :: rest))) : W p l e R s m args below meth c H locs cells slots Q (F0 m pc ls (.ref a :: rest)) := va_get (D := Γ.1) (ci := 1) (C := RX0) (T := TX0) (N := 5) S.1 S.2.1 S.2.2.2.2 inlX0 S.2.2.2.1 X.1 X.2.1 q0 he rfl 4 (by decide) (S.2.2.2.2 _ fl_X1_83) (fun _ h => h) hv hdg kk
theorem pf_X1_83 {q0 a : Nat} {fs : List Value} {v : Value} (S : CallFix p m c cc nL s args BG RX1) (X : Wd E Γ A s H locs w) (he : w[q0]? = some (a, .inr (1, fs))) (hn : narrow (.int) v = v) (hf : fits (.int) v = true) (hl : 4 < fs.length) (hdg : decode cc pc = .ok (.putfield 83, 3)) (kk : ∀ (H1 : Heap) (locs1 : List Loc), Wd E Γ A s H1 locs1 (w.set q0 (a, .inr (1, fs.set 4 v))) → W p l e R s m args below meth c H1 locs1 cells slots Q (F0 m (pc + 3) ls rest)) : W p l e R s m args below meth c H locs cells slots Q (F0 m pc ls (v :: .ref a :: rest)) := va_put (D := Γ.1) (ci := 1) (C := RX0) (T := TX0) (N := 5) S.1 S.2.1 S.2.2.2.2 inlX0 tyX0 tyX0_ok nmX0 S.2.2.2.1 X.1 X.2.1 X.2.2.1 X.2.2.2.1 q0 he rfl 4 (by decide) (S.2.2.2.2 _ fl_X1_83) (fun _ h => h) rfl (ty := .int) (by decide +kernel) hn hf hl hdg (fun H1 locs1 a1 a2 a3 => kk H1 locs1 ⟨X.1, a1, a2, a3, X.2.2.2.2⟩)
theorem fl_X1_86 : Cond.fieldLink RX1 86 "HedgeCourt$Tape" "length" "I" ∈ BG := by decide +kernel
theorem gf_X1_86 {q0 a : Nat} {fs : List Value} {v : Value} (S : CallFix p m c cc nL s args BG RX1) (X : Wd E Γ A s H locs w) (he : w[q0]? = some (a, .inr (8, fs))) (hv : fs[1]? = some v) (hdg : decode cc pc = .ok (.getfield 86, 3)) (kk : W p l e R s m args below meth c H locs cells slots Q (F0 m (pc + 3) ls (v :: rest))) : W p l e R s m args below meth c H locs cells slots Q (F0 m pc ls (.ref a :: rest)) := va_get (D := Γ.1) (ci := 8) (C := RX7) (T := TX7) (N := 2) S.1 S.2.1 S.2.2.2.2 inlX7 S.2.2.2.1 X.1 X.2.1 q0 he rfl 1 (by decide) (S.2.2.2.2 _ fl_X1_86) (fun _ h => h) hv hdg kk
theorem pf_X1_86 {q0 a : Nat} {fs : List Value} {v : Value} (S : CallFix p m c cc nL s args BG RX1) (X : Wd E Γ A s H locs w) (he : w[q0]? = some (a, .inr (8, fs))) (hn : narrow (.int) v = v) (hf : fits (.int) v = true) (hl : 1 < fs.length) (hdg : decode cc pc = .ok (.putfield 86, 3)) (kk : ∀ (H1 : Heap) (locs1 : List Loc), Wd E Γ A s H1 locs1 (w.set q0 (a, .inr (8, fs.set 1 v))) → W p l e R s m args below meth c H1 locs1 cells slots Q (F0 m (pc + 3) ls rest)) : W p l e R s m args below meth c H locs cells slots Q (F0 m pc ls (v :: .ref a :: rest)) := va_put (D := Γ.1) (ci := 8) (C := RX7) (T := TX7) (N := 2) S.1 S.2.1 S.2.2.2.2 inlX7 tyX7 tyX7_ok nmX7 S.2.2.2.1 X.1 X.2.1 X.2.2.1 X.2.2.2.1 q0 he rfl 1 (by decide) (S.2.2.2.2 _ fl_X1_86) (fun _ h => h) rfl (ty := .int) (by decide +kernel) hn hf hl hdg (fun H1 locs1 a1 a2 a3 => kk H1 locs1 ⟨X.1, a1, a2, a3, X.2.2.2.2⟩)
theorem fl_X1_91 : Cond.fieldLink RX1 91 "HedgeCourt$Tape" "bytes" "[B" ∈ BG := by decide +kernel
theorem gf_X1_91 {q0 a : Nat} {fs : List Value} {v : Value} (S : CallFix p m c cc nL s args BG RX1) (X : Wd E Γ A s H locs w) (he : w[q0]? = some (a, .inr (8, fs))) (hv : fs[0]? = some v) (hdg : decode cc pc = .ok (.getfield 91, 3)) (kk : W p l e R s m args below meth c H locs cells slots Q (F0 m (pc + 3) ls (v :: rest))) : W p l e R s m args below meth c H locs cells slots Q (F0 m pc ls (.ref a :: rest)) := va_get (D := Γ.1) (ci := 8) (C := RX7) (T := TX7) (N := 2) S.1 S.2.1 S.2.2.2.2 inlX7 S.2.2.2.1 X.1 X.2.1 q0 he rfl 0 (by decide) (S.2.2.2.2 _ fl_X1_91) (fun _ h => h) hv hdg kk
theorem fl_X10_7 : Cond.fieldLink RX10 7 "HedgeCourtModel" "kind" "[I" ∈ BG := by decide +kernel
theorem gf_X10_7 {q0 a : Nat} {fs : List Value} {v : Value} (S : CallFix p m c cc nL s args BG RX10) (X : Wd E Γ A s H locs w) (he : w[q0]? = some (a, .inr (11, fs))) (hv : fs[3]? = some v) (hdg : decode cc pc = .ok (.getfield 7, 3)) (kk : W p l e R s m args below meth c H locs cells slots Q (F0 m (pc + 3) ls (v :: rest))) : W p l e R s m args below meth c H locs cells slots Q (F0 m pc ls (.ref a :: rest)) := va_get (D := Γ.1) (ci := 11) (C := RX10) (T := TX10) (N := 50) S.1 S.2.1 S.2.2.2.2 inlX10 S.2.2.2.1 X.1 X.2.1 q0 he rfl 3 (by decide) (S.2.2.2.2 _ fl_X10_7) (fun _ h => h) hv hdg kk
theorem pF_X10_7 {q0 a : Nat} {fs : List Value} {v : Value} (S : CallFix p m c cc nL s args BG RX10) (hin : meth.name = "<init>") (X : Wd E Γ A s H locs w) (he : w[q0]? = some (a, .inr (11, fs))) (hn : narrow (.array .int) v = v) (hf : fits (.array .int) v = true) (hl : 3 < fs.length) (hdg : decode cc pc = .ok (.putfield 7, 3)) (kk : ∀ (H1 : Heap) (locs1 : List Loc), Wd E Γ A s H1 locs1 (w.set q0 (a, .inr (11, fs.set 3 v))) → W p l e R s m args below meth c H1 locs1 cells slots Q (F0 m (pc + 3) ls rest)) : W p l e R s m args below meth c H locs cells slots Q (F0 m pc ls (v :: .ref a :: rest)) := va_putF (D := Γ.1) (ci := 11) (C := RX10) (T := TX10) (N := 50) S.1 S.2.1 S.2.2.2.2 inlX10 tyX10 tyX10_ok nmX10 S.2.2.2.1 X.1 X.2.1 X.2.2.1 X.2.2.2.1 q0 he rfl 3 (by decide) (S.2.2.2.2 _ fl_X10_7) (fun _ h => h) rfl hin rfl (ty := .array .int) (by decide +kernel) hn hf hl hdg (fun H1 locs1 a1 a2 a3 => kk H1 locs1 ⟨X.1, a1, a2, a3, X.2.2.2.2⟩)
theorem fl_X10_13 : Cond.fieldLink RX10 13 "HedgeCourtModel" "from" "[I" ∈ BG := by decide +kernel
theorem gf_X10_13 {q0 a : Nat} {fs : List Value} {v : Value} (S : CallFix p m c cc nL s args BG RX10) (X : Wd E Γ A s H locs w) (he : w[q0]? = some (a, .inr (11, fs))) (hv : fs[4]? = some v) (hdg : decode cc pc = .ok (.getfield 13, 3)) (kk : W p l e R s m args below meth c H locs cells slots Q (F0 m (pc + 3) ls (v :: rest))) : W p l e R s m args below meth c H locs cells slots Q (F0 m pc ls (.ref a :: rest)) := va_get (D := Γ.1) (ci := 11) (C := RX10) (T := TX10) (N := 50) S.1 S.2.1 S.2.2.2.2 inlX10 S.2.2.2.1 X.1 X.2.1 q0 he rfl 4 (by decide) (S.2.2.2.2 _ fl_X10_13) (fun _ h => h) hv hdg kk
theorem pF_X10_13 {q0 a : Nat} {fs : List Value} {v : Value} (S : CallFix p m c cc nL s args BG RX10) (hin : meth.name = "<init>") (X : Wd E Γ A s H locs w) (he : w[q0]? = some (a, .inr (11, fs))) (hn : narrow (.array .int) v = v) (hf : fits (.array .int) v = true) (hl : 4 < fs.length) (hdg : decode cc pc = .ok (.putfield 13, 3)) (kk : ∀ (H1 : Heap) (locs1 : List Loc), Wd E Γ A s H1 locs1 (w.set q0 (a, .inr (11, fs.set 4 v))) → W p l e R s m args below meth c H1 locs1 cells slots Q (F0 m (pc + 3) ls rest)) : W p l e R s m args below meth c H locs cells slots Q (F0 m pc ls (v :: .ref a :: rest)) := va_putF (D := Γ.1) (ci := 11) (C := RX10) (T := TX10) (N := 50) S.1 S.2.1 S.2.2.2.2 inlX10 tyX10 tyX10_ok nmX10 S.2.2.2.1 X.1 X.2.1 X.2.2.1 X.2.2.2.1 q0 he rfl 4 (by decide) (S.2.2.2.2 _ fl_X10_13) (fun _ h => h) rfl hin rfl (ty := .array .int) (by decide +kernel) hn hf hl hdg (fun H1 locs1 a1 a2 a3 => kk H1 locs1 ⟨X.1, a1, a2, a3, X.2.2.2.2⟩)
theorem fl_X10_16 : Cond.fieldLink RX10 16 "HedgeCourtModel" "to" "[I" ∈ BG := by decide +kernel
theorem gf_X10_16 {q0 a : Nat} {fs : List Value} {v : Value} (S : CallFix p m c cc nL s args BG RX10) (X : Wd E Γ A s H locs w) (he : w[q0]? = some (a, .inr (11, fs))) (hv : fs[5]? = some v) (hdg : decode cc pc = .ok (.getfield 16, 3)) (kk : W p l e R s m args below meth c H locs cells slots Q (F0 m (pc + 3) ls (v :: rest))) : W p l e R s m args below meth c H locs cells slots Q (F0 m pc ls (.ref a :: rest)) := va_get (D := Γ.1) (ci := 11) (C := RX10) (T := TX10) (N := 50) S.1 S.2.1 S.2.2.2.2 inlX10 S.2.2.2.1 X.1 X.2.1 q0 he rfl 5 (by decide) (S.2.2.2.2 _ fl_X10_16) (fun _ h => h) hv hdg kk
theorem pF_X10_16 {q0 a : Nat} {fs : List Value} {v : Value} (S : CallFix p m c cc nL s args BG RX10) (hin : meth.name = "<init>") (X : Wd E Γ A s H locs w) (he : w[q0]? = some (a, .inr (11, fs))) (hn : narrow (.array .int) v = v) (hf : fits (.array .int) v = true) (hl : 5 < fs.length) (hdg : decode cc pc = .ok (.putfield 16, 3)) (kk : ∀ (H1 : Heap) (locs1 : List Loc), Wd E Γ A s H1 locs1 (w.set q0 (a, .inr (11, fs.set 5 v))) → W p l e R s m args below meth c H1 locs1 cells slots Q (F0 m (pc + 3) ls rest)) : W p l e R s m args below meth c H locs cells slots Q (F0 m pc ls (v :: .ref a :: rest)) := va_putF (D := Γ.1) (ci := 11) (C := RX10) (T := TX10) (N := 50) S.1 S.2.1 S.2.2.2.2 inlX10 tyX10 tyX10_ok nmX10 S.2.2.2.1 X.1 X.2.1 X.2.2.1 X.2.2.2.1 q0 he rfl 5 (by decide) (S.2.2.2.2 _ fl_X10_16) (fun _ h => h) rfl hin rfl (ty := .array .int) (by decide +kernel) hn hf hl hdg (fun H1 locs1 a1 a2 a3 => kk H1 locs1 ⟨X.1, a1, a2, a3, X.2.2.2.2⟩)
theorem fl_X10_19 : Cond.fieldLink RX10 19 "HedgeCourtModel" "low" "[I" ∈ BG := by decide +kernel
theorem gf_X10_19 {q0 a : Nat} {fs : List Value} {v : Value} (S : CallFix p m c cc nL s args BG RX10) (X : Wd E Γ A s H locs w) (he : w[q0]? = some (a, .inr (11, fs))) (hv : fs[6]? = some v) (hdg : decode cc pc = .ok (.getfield 19, 3)) (kk : W p l e R s m args below meth c H locs cells slots Q (F0 m (pc + 3) ls (v :: rest))) : W p l e R s m args below meth c H locs cells slots Q (F0 m pc ls (.ref a :: rest)) := va_get (D := Γ.1) (ci := 11) (C := RX10) (T := TX10) (N := 50) S.1 S.2.1 S.2.2.2.2 inlX10 S.2.2.2.1 X.1 X.2.1 q0 he rfl 6 (by decide) (S.2.2.2.2 _ fl_X10_19) (fun _ h => h) hv hdg kk
theorem pF_X10_19 {q0 a : Nat} {fs : List Value} {v : Value} (S : CallFix p m c cc nL s args BG RX10) (hin : meth.name = "<init>") (X : Wd E Γ A s H locs w) (he : w[q0]? = some (a, .inr (11, fs))) (hn : narrow (.array .int) v = v) (hf : fits (.array .int) v = true) (hl : 6 < fs.length) (hdg : decode cc pc = .ok (.putfield 19, 3)) (kk : ∀ (H1 : Heap) (locs1 : List Loc), Wd E Γ A s H1 locs1 (w.set q0 (a, .inr (11, fs.set 6 v))) → W p l e R s m args below meth c H1 locs1 cells slots Q (F0 m (pc + 3) ls rest)) : W p l e R s m args below meth c H locs cells slots Q (F0 m pc ls (v :: .ref a :: rest)) := va_putF (D := Γ.1) (ci := 11) (C := RX10) (T := TX10) (N := 50) S.1 S.2.1 S.2.2.2.2 inlX10 tyX10 tyX10_ok nmX10 S.2.2.2.1 X.1 X.2.1 X.2.2.1 X.2.2.2.1 q0 he rfl 6 (by decide) (S.2.2.2.2 _ fl_X10_19) (fun _ h => h) rfl hin rfl (ty := .array .int) (by decide +kernel) hn hf hl hdg (fun H1 locs1 a1 a2 a3 => kk H1 locs1 ⟨X.1, a1, a2, a3, X.2.2.2.2⟩)
theorem fl_X10_22 : Cond.fieldLink RX10 22 "HedgeCourtModel" "high" "[I" ∈ BG := by decide +kernel
theorem gf_X10_22 {q0 a : Nat} {fs : List Value} {v : Value} (S : CallFix p m c cc nL s args BG RX10) (X : Wd E Γ A s H locs w) (he : w[q0]? = some (a, .inr (11, fs))) (hv : fs[7]? = some v) (hdg : decode cc pc = .ok (.getfield 22, 3)) (kk : W p l e R s m args below meth c H locs cells slots Q (F0 m (pc + 3) ls (v :: rest))) : W p l e R s m args below meth c H locs cells slots Q (F0 m pc ls (.ref a :: rest)) := va_get (D := Γ.1) (ci := 11) (C := RX10) (T := TX10) (N := 50) S.1 S.2.1 S.2.2.2.2 inlX10 S.2.2.2.1 X.1 X.2.1 q0 he rfl 7 (by decide) (S.2.2.2.2 _ fl_X10_22) (fun _ h => h) hv hdg kk
theorem pF_X10_22 {q0 a : Nat} {fs : List Value} {v : Value} (S : CallFix p m c cc nL s args BG RX10) (hin : meth.name = "<init>") (X : Wd E Γ A s H locs w) (he : w[q0]? = some (a, .inr (11, fs))) (hn : narrow (.array .int) v = v) (hf : fits (.array .int) v = true) (hl : 7 < fs.length) (hdg : decode cc pc = .ok (.putfield 22, 3)) (kk : ∀ (H1 : Heap) (locs1 : List Loc), Wd E Γ A s H1 locs1 (w.set q0 (a, .inr (11, fs.set 7 v))) → W p l e R s m args below meth c H1 locs1 cells slots Q (F0 m (pc + 3) ls rest)) : W p l e R s m args below meth c H locs cells slots Q (F0 m pc ls (v :: .ref a :: rest)) := va_putF (D := Γ.1) (ci := 11) (C := RX10) (T := TX10) (N := 50) S.1 S.2.1 S.2.2.2.2 inlX10 tyX10 tyX10_ok nmX10 S.2.2.2.1 X.1 X.2.1 X.2.2.1 X.2.2.2.1 q0 he rfl 7 (by decide) (S.2.2.2.2 _ fl_X10_22) (fun _ h => h) rfl hin rfl (ty := .array .int) (by decide +kernel) hn hf hl hdg (fun H1 locs1 a1 a2 a3 => kk H1 locs1 ⟨X.1, a1, a2, a3, X.2.2.2.2⟩)
theorem fl_X10_25 : Cond.fieldLink RX10 25 "HedgeCourtModel" "year" "[I" ∈ BG := by decide +kernel
theorem gf_X10_25 {q0 a : Nat} {fs : List Value} {v : Value} (S : CallFix p m c cc nL s args BG RX10) (X : Wd E Γ A s H locs w) (he : w[q0]? = some (a, .inr (11, fs))) (hv : fs[8]? = some v) (hdg : decode cc pc = .ok (.getfield 25, 3)) (kk : W p l e R s m args below meth c H locs cells slots Q (F0 m (pc + 3) ls (v :: rest))) : W p l e R s m args below meth c H locs cells slots Q (F0 m pc ls (.ref a :: rest)) := va_get (D := Γ.1) (ci := 11) (C := RX10) (T := TX10) (N := 50) S.1 S.2.1 S.2.2.2.2 inlX10 S.2.2.2.1 X.1 X.2.1 q0 he rfl 8 (by decide) (S.2.2.2.2 _ fl_X10_25) (fun _ h => h) hv hdg kk
theorem pF_X10_25 {q0 a : Nat} {fs : List Value} {v : Value} (S : CallFix p m c cc nL s args BG RX10) (hin : meth.name = "<init>") (X : Wd E Γ A s H locs w) (he : w[q0]? = some (a, .inr (11, fs))) (hn : narrow (.array .int) v = v) (hf : fits (.array .int) v = true) (hl : 8 < fs.length) (hdg : decode cc pc = .ok (.putfield 25, 3)) (kk : ∀ (H1 : Heap) (locs1 : List Loc), Wd E Γ A s H1 locs1 (w.set q0 (a, .inr (11, fs.set 8 v))) → W p l e R s m args below meth c H1 locs1 cells slots Q (F0 m (pc + 3) ls rest)) : W p l e R s m args below meth c H locs cells slots Q (F0 m pc ls (v :: .ref a :: rest)) := va_putF (D := Γ.1) (ci := 11) (C := RX10) (T := TX10) (N := 50) S.1 S.2.1 S.2.2.2.2 inlX10 tyX10 tyX10_ok nmX10 S.2.2.2.1 X.1 X.2.1 X.2.2.1 X.2.2.2.1 q0 he rfl 8 (by decide) (S.2.2.2.2 _ fl_X10_25) (fun _ h => h) rfl hin rfl (ty := .array .int) (by decide +kernel) hn hf hl hdg (fun H1 locs1 a1 a2 a3 => kk H1 locs1 ⟨X.1, a1, a2, a3, X.2.2.2.2⟩)
theorem fl_X10_28 : Cond.fieldLink RX10 28 "HedgeCourtModel" "side" "[I" ∈ BG := by decide +kernel
theorem gf_X10_28 {q0 a : Nat} {fs : List Value} {v : Value} (S : CallFix p m c cc nL s args BG RX10) (X : Wd E Γ A s H locs w) (he : w[q0]? = some (a, .inr (11, fs))) (hv : fs[9]? = some v) (hdg : decode cc pc = .ok (.getfield 28, 3)) (kk : W p l e R s m args below meth c H locs cells slots Q (F0 m (pc + 3) ls (v :: rest))) : W p l e R s m args below meth c H locs cells slots Q (F0 m pc ls (.ref a :: rest)) := va_get (D := Γ.1) (ci := 11) (C := RX10) (T := TX10) (N := 50) S.1 S.2.1 S.2.2.2.2 inlX10 S.2.2.2.1 X.1 X.2.1 q0 he rfl 9 (by decide) (S.2.2.2.2 _ fl_X10_28) (fun _ h => h) hv hdg kk
theorem pF_X10_28 {q0 a : Nat} {fs : List Value} {v : Value} (S : CallFix p m c cc nL s args BG RX10) (hin : meth.name = "<init>") (X : Wd E Γ A s H locs w) (he : w[q0]? = some (a, .inr (11, fs))) (hn : narrow (.array .int) v = v) (hf : fits (.array .int) v = true) (hl : 9 < fs.length) (hdg : decode cc pc = .ok (.putfield 28, 3)) (kk : ∀ (H1 : Heap) (locs1 : List Loc), Wd E Γ A s H1 locs1 (w.set q0 (a, .inr (11, fs.set 9 v))) → W p l e R s m args below meth c H1 locs1 cells slots Q (F0 m (pc + 3) ls rest)) : W p l e R s m args below meth c H locs cells slots Q (F0 m pc ls (v :: .ref a :: rest)) := va_putF (D := Γ.1) (ci := 11) (C := RX10) (T := TX10) (N := 50) S.1 S.2.1 S.2.2.2.2 inlX10 tyX10 tyX10_ok nmX10 S.2.2.2.1 X.1 X.2.1 X.2.2.1 X.2.2.2.1 q0 he rfl 9 (by decide) (S.2.2.2.2 _ fl_X10_28) (fun _ h => h) rfl hin rfl (ty := .array .int) (by decide +kernel) hn hf hl hdg (fun H1 locs1 a1 a2 a3 => kk H1 locs1 ⟨X.1, a1, a2, a3, X.2.2.2.2⟩)
theorem fl_X10_31 : Cond.fieldLink RX10 31 "HedgeCourtModel" "hold" "I" ∈ BG := by decide +kernel
theorem gf_X10_31 {q0 a : Nat} {fs : List Value} {v : Value} (S : CallFix p m c cc nL s args BG RX10) (X : Wd E Γ A s H locs w) (he : w[q0]? = some (a, .inr (11, fs))) (hv : fs[11]? = some v) (hdg : decode cc pc = .ok (.getfield 31, 3)) (kk : W p l e R s m args below meth c H locs cells slots Q (F0 m (pc + 3) ls (v :: rest))) : W p l e R s m args below meth c H locs cells slots Q (F0 m pc ls (.ref a :: rest)) := va_get (D := Γ.1) (ci := 11) (C := RX10) (T := TX10) (N := 50) S.1 S.2.1 S.2.2.2.2 inlX10 S.2.2.2.1 X.1 X.2.1 q0 he rfl 11 (by decide) (S.2.2.2.2 _ fl_X10_31) (fun _ h => h) hv hdg kk
theorem pf_X10_31 {q0 a : Nat} {fs : List Value} {v : Value} (S : CallFix p m c cc nL s args BG RX10) (X : Wd E Γ A s H locs w) (he : w[q0]? = some (a, .inr (11, fs))) (hn : narrow (.int) v = v) (hf : fits (.int) v = true) (hl : 11 < fs.length) (hdg : decode cc pc = .ok (.putfield 31, 3)) (kk : ∀ (H1 : Heap) (locs1 : List Loc), Wd E Γ A s H1 locs1 (w.set q0 (a, .inr (11, fs.set 11 v))) → W p l e R s m args below meth c H1 locs1 cells slots Q (F0 m (pc + 3) ls rest)) : W p l e R s m args below meth c H locs cells slots Q (F0 m pc ls (v :: .ref a :: rest)) := va_put (D := Γ.1) (ci := 11) (C := RX10) (T := TX10) (N := 50) S.1 S.2.1 S.2.2.2.2 inlX10 tyX10 tyX10_ok nmX10 S.2.2.2.1 X.1 X.2.1 X.2.2.1 X.2.2.2.1 q0 he rfl 11 (by decide) (S.2.2.2.2 _ fl_X10_31) (fun _ h => h) rfl (ty := .int) (by decide +kernel) hn hf hl hdg (fun H1 locs1 a1 a2 a3 => kk H1 locs1 ⟨X.1, a1, a2, a3, X.2.2.2.2⟩)
theorem fl_X10_35 : Cond.fieldLink RX10 35 "HedgeCourtModel" "bend" "I" ∈ BG := by decide +kernel
theorem gf_X10_35 {q0 a : Nat} {fs : List Value} {v : Value} (S : CallFix p m c cc nL s args BG RX10) (X : Wd E Γ A s H locs w) (he : w[q0]? = some (a, .inr (11, fs))) (hv : fs[12]? = some v) (hdg : decode cc pc = .ok (.getfield 35, 3)) (kk : W p l e R s m args below meth c H locs cells slots Q (F0 m (pc + 3) ls (v :: rest))) : W p l e R s m args below meth c H locs cells slots Q (F0 m pc ls (.ref a :: rest)) := va_get (D := Γ.1) (ci := 11) (C := RX10) (T := TX10) (N := 50) S.1 S.2.1 S.2.2.2.2 inlX10 S.2.2.2.1 X.1 X.2.1 q0 he rfl 12 (by decide) (S.2.2.2.2 _ fl_X10_35) (fun _ h => h) hv hdg kk
theorem pf_X10_35 {q0 a : Nat} {fs : List Value} {v : Value} (S : CallFix p m c cc nL s args BG RX10) (X : Wd E Γ A s H locs w) (he : w[q0]? = some (a, .inr (11, fs))) (hn : narrow (.int) v = v) (hf : fits (.int) v = true) (hl : 12 < fs.length) (hdg : decode cc pc = .ok (.putfield 35, 3)) (kk : ∀ (H1 : Heap) (locs1 : List Loc), Wd E Γ A s H1 locs1 (w.set q0 (a, .inr (11, fs.set 12 v))) → W p l e R s m args below meth c H1 locs1 cells slots Q (F0 m (pc + 3) ls rest)) : W p l e R s m args below meth c H locs cells slots Q (F0 m pc ls (v :: .ref a :: rest)) := va_put (D := Γ.1) (ci := 11) (C := RX10) (T := TX10) (N := 50) S.1 S.2.1 S.2.2.2.2 inlX10 tyX10 tyX10_ok nmX10 S.2.2.2.1 X.1 X.2.1 X.2.2.1 X.2.2.2.1 q0 he rfl 12 (by decide) (S.2.2.2.2 _ fl_X10_35) (fun _ h => h) rfl (ty := .int) (by decide +kernel) hn hf hl hdg (fun H1 locs1 a1 a2 a3 => kk H1 locs1 ⟨X.1, a1, a2, a3, X.2.2.2.2⟩)
theorem fl_X10_38 : Cond.fieldLink RX10 38 "HedgeCourtModel" "weight" "[I" ∈ BG := by decide +kernel
theorem gf_X10_38 {q0 a : Nat} {fs : List Value} {v : Value} (S : CallFix p m c cc nL s args BG RX10) (X : Wd E Γ A s H locs w) (he : w[q0]? = some (a, .inr (11, fs))) (hv : fs[13]? = some v) (hdg : decode cc pc = .ok (.getfield 38, 3)) (kk : W p l e R s m args below meth c H locs cells slots Q (F0 m (pc + 3) ls (v :: rest))) : W p l e R s m args below meth c H locs cells slots Q (F0 m pc ls (.ref a :: rest)) := va_get (D := Γ.1) (ci := 11) (C := RX10) (T := TX10) (N := 50) S.1 S.2.1 S.2.2.2.2 inlX10 S.2.2.2.1 X.1 X.2.1 q0 he rfl 13 (by decide) (S.2.2.2.2 _ fl_X10_38) (fun _ h => h) hv hdg kk
theorem pF_X10_38 {q0 a : Nat} {fs : List Value} {v : Value} (S : CallFix p m c cc nL s args BG RX10) (hin : meth.name = "<init>") (X : Wd E Γ A s H locs w) (he : w[q0]? = some (a, .inr (11, fs))) (hn : narrow (.array .int) v = v) (hf : fits (.array .int) v = true) (hl : 13 < fs.length) (hdg : decode cc pc = .ok (.putfield 38, 3)) (kk : ∀ (H1 : Heap) (locs1 : List Loc), Wd E Γ A s H1 locs1 (w.set q0 (a, .inr (11, fs.set 13 v))) → W p l e R s m args below meth c H1 locs1 cells slots Q (F0 m (pc + 3) ls rest)) : W p l e R s m args below meth c H locs cells slots Q (F0 m pc ls (v :: .ref a :: rest)) := va_putF (D := Γ.1) (ci := 11) (C := RX10) (T := TX10) (N := 50) S.1 S.2.1 S.2.2.2.2 inlX10 tyX10 tyX10_ok nmX10 S.2.2.2.1 X.1 X.2.1 X.2.2.1 X.2.2.2.1 q0 he rfl 13 (by decide) (S.2.2.2.2 _ fl_X10_38) (fun _ h => h) rfl hin rfl (ty := .array .int) (by decide +kernel) hn hf hl hdg (fun H1 locs1 a1 a2 a3 => kk H1 locs1 ⟨X.1, a1, a2, a3, X.2.2.2.2⟩)
theorem fl_X10_41 : Cond.fieldLink RX10 41 "HedgeCourtModel" "newer" "[Z" ∈ BG := by decide +kernel
theorem gf_X10_41 {q0 a : Nat} {fs : List Value} {v : Value} (S : CallFix p m c cc nL s args BG RX10) (X : Wd E Γ A s H locs w) (he : w[q0]? = some (a, .inr (11, fs))) (hv : fs[14]? = some v) (hdg : decode cc pc = .ok (.getfield 41, 3)) (kk : W p l e R s m args below meth c H locs cells slots Q (F0 m (pc + 3) ls (v :: rest))) : W p l e R s m args below meth c H locs cells slots Q (F0 m pc ls (.ref a :: rest)) := va_get (D := Γ.1) (ci := 11) (C := RX10) (T := TX10) (N := 50) S.1 S.2.1 S.2.2.2.2 inlX10 S.2.2.2.1 X.1 X.2.1 q0 he rfl 14 (by decide) (S.2.2.2.2 _ fl_X10_41) (fun _ h => h) hv hdg kk
theorem pF_X10_41 {q0 a : Nat} {fs : List Value} {v : Value} (S : CallFix p m c cc nL s args BG RX10) (hin : meth.name = "<init>") (X : Wd E Γ A s H locs w) (he : w[q0]? = some (a, .inr (11, fs))) (hn : narrow (.array .boolean) v = v) (hf : fits (.array .boolean) v = true) (hl : 14 < fs.length) (hdg : decode cc pc = .ok (.putfield 41, 3)) (kk : ∀ (H1 : Heap) (locs1 : List Loc), Wd E Γ A s H1 locs1 (w.set q0 (a, .inr (11, fs.set 14 v))) → W p l e R s m args below meth c H1 locs1 cells slots Q (F0 m (pc + 3) ls rest)) : W p l e R s m args below meth c H locs cells slots Q (F0 m pc ls (v :: .ref a :: rest)) := va_putF (D := Γ.1) (ci := 11) (C := RX10) (T := TX10) (N := 50) S.1 S.2.1 S.2.2.2.2 inlX10 tyX10 tyX10_ok nmX10 S.2.2.2.1 X.1 X.2.1 X.2.2.1 X.2.2.2.1 q0 he rfl 14 (by decide) (S.2.2.2.2 _ fl_X10_41) (fun _ h => h) rfl hin rfl (ty := .array .boolean) (by decide +kernel) hn hf hl hdg (fun H1 locs1 a1 a2 a3 => kk H1 locs1 ⟨X.1, a1, a2, a3, X.2.2.2.2⟩)
theorem fl_X10_45 : Cond.fieldLink RX10 45 "HedgeCourtModel" "tape" "[I" ∈ BG := by decide +kernel
theorem gf_X10_45 {q0 a : Nat} {fs : List Value} {v : Value} (S : CallFix p m c cc nL s args BG RX10) (X : Wd E Γ A s H locs w) (he : w[q0]? = some (a, .inr (11, fs))) (hv : fs[15]? = some v) (hdg : decode cc pc = .ok (.getfield 45, 3)) (kk : W p l e R s m args below meth c H locs cells slots Q (F0 m (pc + 3) ls (v :: rest))) : W p l e R s m args below meth c H locs cells slots Q (F0 m pc ls (.ref a :: rest)) := va_get (D := Γ.1) (ci := 11) (C := RX10) (T := TX10) (N := 50) S.1 S.2.1 S.2.2.2.2 inlX10 S.2.2.2.1 X.1 X.2.1 q0 he rfl 15 (by decide) (S.2.2.2.2 _ fl_X10_45) (fun _ h => h) hv hdg kk
theorem pF_X10_45 {q0 a : Nat} {fs : List Value} {v : Value} (S : CallFix p m c cc nL s args BG RX10) (hin : meth.name = "<init>") (X : Wd E Γ A s H locs w) (he : w[q0]? = some (a, .inr (11, fs))) (hn : narrow (.array .int) v = v) (hf : fits (.array .int) v = true) (hl : 15 < fs.length) (hdg : decode cc pc = .ok (.putfield 45, 3)) (kk : ∀ (H1 : Heap) (locs1 : List Loc), Wd E Γ A s H1 locs1 (w.set q0 (a, .inr (11, fs.set 15 v))) → W p l e R s m args below meth c H1 locs1 cells slots Q (F0 m (pc + 3) ls rest)) : W p l e R s m args below meth c H locs cells slots Q (F0 m pc ls (v :: .ref a :: rest)) := va_putF (D := Γ.1) (ci := 11) (C := RX10) (T := TX10) (N := 50) S.1 S.2.1 S.2.2.2.2 inlX10 tyX10 tyX10_ok nmX10 S.2.2.2.1 X.1 X.2.1 X.2.2.1 X.2.2.2.1 q0 he rfl 15 (by decide) (S.2.2.2.2 _ fl_X10_45) (fun _ h => h) rfl hin rfl (ty := .array .int) (by decide +kernel) hn hf hl hdg (fun H1 locs1 a1 a2 a3 => kk H1 locs1 ⟨X.1, a1, a2, a3, X.2.2.2.2⟩)
theorem fl_X10_48 : Cond.fieldLink RX10 48 "HedgeCourtModel" "line" "[I" ∈ BG := by decide +kernel
theorem gf_X10_48 {q0 a : Nat} {fs : List Value} {v : Value} (S : CallFix p m c cc nL s args BG RX10) (X : Wd E Γ A s H locs w) (he : w[q0]? = some (a, .inr (11, fs))) (hv : fs[16]? = some v) (hdg : decode cc pc = .ok (.getfield 48, 3)) (kk : W p l e R s m args below meth c H locs cells slots Q (F0 m (pc + 3) ls (v :: rest))) : W p l e R s m args below meth c H locs cells slots Q (F0 m pc ls (.ref a :: rest)) := va_get (D := Γ.1) (ci := 11) (C := RX10) (T := TX10) (N := 50) S.1 S.2.1 S.2.2.2.2 inlX10 S.2.2.2.1 X.1 X.2.1 q0 he rfl 16 (by decide) (S.2.2.2.2 _ fl_X10_48) (fun _ h => h) hv hdg kk
theorem pF_X10_48 {q0 a : Nat} {fs : List Value} {v : Value} (S : CallFix p m c cc nL s args BG RX10) (hin : meth.name = "<init>") (X : Wd E Γ A s H locs w) (he : w[q0]? = some (a, .inr (11, fs))) (hn : narrow (.array .int) v = v) (hf : fits (.array .int) v = true) (hl : 16 < fs.length) (hdg : decode cc pc = .ok (.putfield 48, 3)) (kk : ∀ (H1 : Heap) (locs1 : List Loc), Wd E Γ A s H1 locs1 (w.set q0 (a, .inr (11, fs.set 16 v))) → W p l e R s m args below meth c H1 locs1 cells slots Q (F0 m (pc + 3) ls rest)) : W p l e R s m args below meth c H locs cells slots Q (F0 m pc ls (v :: .ref a :: rest)) := va_putF (D := Γ.1) (ci := 11) (C := RX10) (T := TX10) (N := 50) S.1 S.2.1 S.2.2.2.2 inlX10 tyX10 tyX10_ok nmX10 S.2.2.2.1 X.1 X.2.1 X.2.2.1 X.2.2.2.1 q0 he rfl 16 (by decide) (S.2.2.2.2 _ fl_X10_48) (fun _ h => h) rfl hin rfl (ty := .array .int) (by decide +kernel) hn hf hl hdg (fun H1 locs1 a1 a2 a3 => kk H1 locs1 ⟨X.1, a1, a2, a3, X.2.2.2.2⟩)
theorem fl_X10_51 : Cond.fieldLink RX10 51 "HedgeCourtModel" "faultPlace" "I" ∈ BG := by decide +kernel
theorem gf_X10_51 {q0 a : Nat} {fs : List Value} {v : Value} (S : CallFix p m c cc nL s args BG RX10) (X : Wd E Γ A s H locs w) (he : w[q0]? = some (a, .inr (11, fs))) (hv : fs[26]? = some v) (hdg : decode cc pc = .ok (.getfield 51, 3)) (kk : W p l e R s m args below meth c H locs cells slots Q (F0 m (pc + 3) ls (v :: rest))) : W p l e R s m args below meth c H locs cells slots Q (F0 m pc ls (.ref a :: rest)) := va_get (D := Γ.1) (ci := 11) (C := RX10) (T := TX10) (N := 50) S.1 S.2.1 S.2.2.2.2 inlX10 S.2.2.2.1 X.1 X.2.1 q0 he rfl 26 (by decide) (S.2.2.2.2 _ fl_X10_51) (fun _ h => h) hv hdg kk
theorem pf_X10_51 {q0 a : Nat} {fs : List Value} {v : Value} (S : CallFix p m c cc nL s args BG RX10) (X : Wd E Γ A s H locs w) (he : w[q0]? = some (a, .inr (11, fs))) (hn : narrow (.int) v = v) (hf : fits (.int) v = true) (hl : 26 < fs.length) (hdg : decode cc pc = .ok (.putfield 51, 3)) (kk : ∀ (H1 : Heap) (locs1 : List Loc), Wd E Γ A s H1 locs1 (w.set q0 (a, .inr (11, fs.set 26 v))) → W p l e R s m args below meth c H1 locs1 cells slots Q (F0 m (pc + 3) ls rest)) : W p l e R s m args below meth c H locs cells slots Q (F0 m pc ls (v :: .ref a :: rest)) := va_put (D := Γ.1) (ci := 11) (C := RX10) (T := TX10) (N := 50) S.1 S.2.1 S.2.2.2.2 inlX10 tyX10 tyX10_ok nmX10 S.2.2.2.1 X.1 X.2.1 X.2.2.1 X.2.2.2.1 q0 he rfl 26 (by decide) (S.2.2.2.2 _ fl_X10_51) (fun _ h => h) rfl (ty := .int) (by decide +kernel) hn hf hl hdg (fun H1 locs1 a1 a2 a3 => kk H1 locs1 ⟨X.1, a1, a2, a3, X.2.2.2.2⟩)
theorem fl_X10_54 : Cond.fieldLink RX10 54 "HedgeCourtModel" "costs" "[I" ∈ BG := by decide +kernel
theorem gf_X10_54 {q0 a : Nat} {fs : List Value} {v : Value} (S : CallFix p m c cc nL s args BG RX10) (X : Wd E Γ A s H locs w) (he : w[q0]? = some (a, .inr (11, fs))) (hv : fs[27]? = some v) (hdg : decode cc pc = .ok (.getfield 54, 3)) (kk : W p l e R s m args below meth c H locs cells slots Q (F0 m (pc + 3) ls (v :: rest))) : W p l e R s m args below meth c H locs cells slots Q (F0 m pc ls (.ref a :: rest)) := va_get (D := Γ.1) (ci := 11) (C := RX10) (T := TX10) (N := 50) S.1 S.2.1 S.2.2.2.2 inlX10 S.2.2.2.1 X.1 X.2.1 q0 he rfl 27 (by decide) (S.2.2.2.2 _ fl_X10_54) (fun _ h => h) hv hdg kk
theorem pF_X10_54 {q0 a : Nat} {fs : List Value} {v : Value} (S : CallFix p m c cc nL s args BG RX10) (hin : meth.name = "<init>") (X : Wd E Γ A s H locs w) (he : w[q0]? = some (a, .inr (11, fs))) (hn : narrow (.array .int) v = v) (hf : fits (.array .int) v = true) (hl : 27 < fs.length) (hdg : decode cc pc = .ok (.putfield 54, 3)) (kk : ∀ (H1 : Heap) (locs1 : List Loc), Wd E Γ A s H1 locs1 (w.set q0 (a, .inr (11, fs.set 27 v))) → W p l e R s m args below meth c H1 locs1 cells slots Q (F0 m (pc + 3) ls rest)) : W p l e R s m args below meth c H locs cells slots Q (F0 m pc ls (v :: .ref a :: rest)) := va_putF (D := Γ.1) (ci := 11) (C := RX10) (T := TX10) (N := 50) S.1 S.2.1 S.2.2.2.2 inlX10 tyX10 tyX10_ok nmX10 S.2.2.2.1 X.1 X.2.1 X.2.2.1 X.2.2.2.1 q0 he rfl 27 (by decide) (S.2.2.2.2 _ fl_X10_54) (fun _ h => h) rfl hin rfl (ty := .array .int) (by decide +kernel) hn hf hl hdg (fun H1 locs1 a1 a2 a3 => kk H1 locs1 ⟨X.1, a1, a2, a3, X.2.2.2.2⟩)
theorem fl_X10_57 : Cond.fieldLink RX10 57 "HedgeCourtModel" "papers" "[I" ∈ BG := by decide +kernel
theorem gf_X10_57 {q0 a : Nat} {fs : List Value} {v : Value} (S : CallFix p m c cc nL s args BG RX10) (X : Wd E Γ A s H locs w) (he : w[q0]? = some (a, .inr (11, fs))) (hv : fs[28]? = some v) (hdg : decode cc pc = .ok (.getfield 57, 3)) (kk : W p l e R s m args below meth c H locs cells slots Q (F0 m (pc + 3) ls (v :: rest))) : W p l e R s m args below meth c H locs cells slots Q (F0 m pc ls (.ref a :: rest)) := va_get (D := Γ.1) (ci := 11) (C := RX10) (T := TX10) (N := 50) S.1 S.2.1 S.2.2.2.2 inlX10 S.2.2.2.1 X.1 X.2.1 q0 he rfl 28 (by decide) (S.2.2.2.2 _ fl_X10_57) (fun _ h => h) hv hdg kk
theorem pF_X10_57 {q0 a : Nat} {fs : List Value} {v : Value} (S : CallFix p m c cc nL s args BG RX10) (hin : meth.name = "<init>") (X : Wd E Γ A s H locs w) (he : w[q0]? = some (a, .inr (11, fs))) (hn : narrow (.array .int) v = v) (hf : fits (.array .int) v = true) (hl : 28 < fs.length) (hdg : decode cc pc = .ok (.putfield 57, 3)) (kk : ∀ (H1 : Heap) (locs1 : List Loc), Wd E Γ A s H1 locs1 (w.set q0 (a, .inr (11, fs.set 28 v))) → W p l e R s m args below meth c H1 locs1 cells slots Q (F0 m (pc + 3) ls rest)) : W p l e R s m args below meth c H locs cells slots Q (F0 m pc ls (v :: .ref a :: rest)) := va_putF (D := Γ.1) (ci := 11) (C := RX10) (T := TX10) (N := 50) S.1 S.2.1 S.2.2.2.2 inlX10 tyX10 tyX10_ok nmX10 S.2.2.2.1 X.1 X.2.1 X.2.2.1 X.2.2.2.1 q0 he rfl 28 (by decide) (S.2.2.2.2 _ fl_X10_57) (fun _ h => h) rfl hin rfl (ty := .array .int) (by decide +kernel) hn hf hl hdg (fun H1 locs1 a1 a2 a3 => kk H1 locs1 ⟨X.1, a1, a2, a3, X.2.2.2.2⟩)
theorem fl_X10_60 : Cond.fieldLink RX10 60 "HedgeCourtModel" "mower" "[I" ∈ BG := by decide +kernel
theorem gf_X10_60 {q0 a : Nat} {fs : List Value} {v : Value} (S : CallFix p m c cc nL s args BG RX10) (X : Wd E Γ A s H locs w) (he : w[q0]? = some (a, .inr (11, fs))) (hv : fs[29]? = some v) (hdg : decode cc pc = .ok (.getfield 60, 3)) (kk : W p l e R s m args below meth c H locs cells slots Q (F0 m (pc + 3) ls (v :: rest))) : W p l e R s m args below meth c H locs cells slots Q (F0 m pc ls (.ref a :: rest)) := va_get (D := Γ.1) (ci := 11) (C := RX10) (T := TX10) (N := 50) S.1 S.2.1 S.2.2.2.2 inlX10 S.2.2.2.1 X.1 X.2.1 q0 he rfl 29 (by decide) (S.2.2.2.2 _ fl_X10_60) (fun _ h => h) hv hdg kk
theorem pF_X10_60 {q0 a : Nat} {fs : List Value} {v : Value} (S : CallFix p m c cc nL s args BG RX10) (hin : meth.name = "<init>") (X : Wd E Γ A s H locs w) (he : w[q0]? = some (a, .inr (11, fs))) (hn : narrow (.array .int) v = v) (hf : fits (.array .int) v = true) (hl : 29 < fs.length) (hdg : decode cc pc = .ok (.putfield 60, 3)) (kk : ∀ (H1 : Heap) (locs1 : List Loc), Wd E Γ A s H1 locs1 (w.set q0 (a, .inr (11, fs.set 29 v))) → W p l e R s m args below meth c H1 locs1 cells slots Q (F0 m (pc + 3) ls rest)) : W p l e R s m args below meth c H locs cells slots Q (F0 m pc ls (v :: .ref a :: rest)) := va_putF (D := Γ.1) (ci := 11) (C := RX10) (T := TX10) (N := 50) S.1 S.2.1 S.2.2.2.2 inlX10 tyX10 tyX10_ok nmX10 S.2.2.2.1 X.1 X.2.1 X.2.2.1 X.2.2.2.1 q0 he rfl 29 (by decide) (S.2.2.2.2 _ fl_X10_60) (fun _ h => h) rfl hin rfl (ty := .array .int) (by decide +kernel) hn hf hl hdg (fun H1 locs1 a1 a2 a3 => kk H1 locs1 ⟨X.1, a1, a2, a3, X.2.2.2.2⟩)
theorem fl_X10_63 : Cond.fieldLink RX10 63 "HedgeCourtModel" "mowFrom" "[I" ∈ BG := by decide +kernel
theorem gf_X10_63 {q0 a : Nat} {fs : List Value} {v : Value} (S : CallFix p m c cc nL s args BG RX10) (X : Wd E Γ A s H locs w) (he : w[q0]? = some (a, .inr (11, fs))) (hv : fs[30]? = some v) (hdg : decode cc pc = .ok (.getfield 63, 3)) (kk : W p l e R s m args below meth c H locs cells slots Q (F0 m (pc + 3) ls (v :: rest))) : W p l e R s m args below meth c H locs cells slots Q (F0 m pc ls (.ref a :: rest)) := va_get (D := Γ.1) (ci := 11) (C := RX10) (T := TX10) (N := 50) S.1 S.2.1 S.2.2.2.2 inlX10 S.2.2.2.1 X.1 X.2.1 q0 he rfl 30 (by decide) (S.2.2.2.2 _ fl_X10_63) (fun _ h => h) hv hdg kk
theorem pF_X10_63 {q0 a : Nat} {fs : List Value} {v : Value} (S : CallFix p m c cc nL s args BG RX10) (hin : meth.name = "<init>") (X : Wd E Γ A s H locs w) (he : w[q0]? = some (a, .inr (11, fs))) (hn : narrow (.array .int) v = v) (hf : fits (.array .int) v = true) (hl : 30 < fs.length) (hdg : decode cc pc = .ok (.putfield 63, 3)) (kk : ∀ (H1 : Heap) (locs1 : List Loc), Wd E Γ A s H1 locs1 (w.set q0 (a, .inr (11, fs.set 30 v))) → W p l e R s m args below meth c H1 locs1 cells slots Q (F0 m (pc + 3) ls rest)) : W p l e R s m args below meth c H locs cells slots Q (F0 m pc ls (v :: .ref a :: rest)) := va_putF (D := Γ.1) (ci := 11) (C := RX10) (T := TX10) (N := 50) S.1 S.2.1 S.2.2.2.2 inlX10 tyX10 tyX10_ok nmX10 S.2.2.2.1 X.1 X.2.1 X.2.2.1 X.2.2.2.1 q0 he rfl 30 (by decide) (S.2.2.2.2 _ fl_X10_63) (fun _ h => h) rfl hin rfl (ty := .array .int) (by decide +kernel) hn hf hl hdg (fun H1 locs1 a1 a2 a3 => kk H1 locs1 ⟨X.1, a1, a2, a3, X.2.2.2.2⟩)
theorem fl_X10_66 : Cond.fieldLink RX10 66 "HedgeCourtModel" "mowTo" "[I" ∈ BG := by decide +kernel
theorem gf_X10_66 {q0 a : Nat} {fs : List Value} {v : Value} (S : CallFix p m c cc nL s args BG RX10) (X : Wd E Γ A s H locs w) (he : w[q0]? = some (a, .inr (11, fs))) (hv : fs[31]? = some v) (hdg : decode cc pc = .ok (.getfield 66, 3)) (kk : W p l e R s m args below meth c H locs cells slots Q (F0 m (pc + 3) ls (v :: rest))) : W p l e R s m args below meth c H locs cells slots Q (F0 m pc ls (.ref a :: rest)) := va_get (D := Γ.1) (ci := 11) (C := RX10) (T := TX10) (N := 50) S.1 S.2.1 S.2.2.2.2 inlX10 S.2.2.2.1 X.1 X.2.1 q0 he rfl 31 (by decide) (S.2.2.2.2 _ fl_X10_66) (fun _ h => h) hv hdg kk
theorem pF_X10_66 {q0 a : Nat} {fs : List Value} {v : Value} (S : CallFix p m c cc nL s args BG RX10) (hin : meth.name = "<init>") (X : Wd E Γ A s H locs w) (he : w[q0]? = some (a, .inr (11, fs))) (hn : narrow (.array .int) v = v) (hf : fits (.array .int) v = true) (hl : 31 < fs.length) (hdg : decode cc pc = .ok (.putfield 66, 3)) (kk : ∀ (H1 : Heap) (locs1 : List Loc), Wd E Γ A s H1 locs1 (w.set q0 (a, .inr (11, fs.set 31 v))) → W p l e R s m args below meth c H1 locs1 cells slots Q (F0 m (pc + 3) ls rest)) : W p l e R s m args below meth c H locs cells slots Q (F0 m pc ls (v :: .ref a :: rest)) := va_putF (D := Γ.1) (ci := 11) (C := RX10) (T := TX10) (N := 50) S.1 S.2.1 S.2.2.2.2 inlX10 tyX10 tyX10_ok nmX10 S.2.2.2.1 X.1 X.2.1 X.2.2.1 X.2.2.2.1 q0 he rfl 31 (by decide) (S.2.2.2.2 _ fl_X10_66) (fun _ h => h) rfl hin rfl (ty := .array .int) (by decide +kernel) hn hf hl hdg (fun H1 locs1 a1 a2 a3 => kk H1 locs1 ⟨X.1, a1, a2, a3, X.2.2.2.2⟩)
theorem fl_X10_69 : Cond.fieldLink RX10 69 "HedgeCourtModel" "mowFoot" "[I" ∈ BG := by decide +kernel
theorem gf_X10_69 {q0 a : Nat} {fs : List Value} {v : Value} (S : CallFix p m c cc nL s args BG RX10) (X : Wd E Γ A s H locs w) (he : w[q0]? = some (a, .inr (11, fs))) (hv : fs[32]? = some v) (hdg : decode cc pc = .ok (.getfield 69, 3)) (kk : W p l e R s m args below meth c H locs cells slots Q (F0 m (pc + 3) ls (v :: rest))) : W p l e R s m args below meth c H locs cells slots Q (F0 m pc ls (.ref a :: rest)) := va_get (D := Γ.1) (ci := 11) (C := RX10) (T := TX10) (N := 50) S.1 S.2.1 S.2.2.2.2 inlX10 S.2.2.2.1 X.1 X.2.1 q0 he rfl 32 (by decide) (S.2.2.2.2 _ fl_X10_69) (fun _ h => h) hv hdg kk
theorem pF_X10_69 {q0 a : Nat} {fs : List Value} {v : Value} (S : CallFix p m c cc nL s args BG RX10) (hin : meth.name = "<init>") (X : Wd E Γ A s H locs w) (he : w[q0]? = some (a, .inr (11, fs))) (hn : narrow (.array .int) v = v) (hf : fits (.array .int) v = true) (hl : 32 < fs.length) (hdg : decode cc pc = .ok (.putfield 69, 3)) (kk : ∀ (H1 : Heap) (locs1 : List Loc), Wd E Γ A s H1 locs1 (w.set q0 (a, .inr (11, fs.set 32 v))) → W p l e R s m args below meth c H1 locs1 cells slots Q (F0 m (pc + 3) ls rest)) : W p l e R s m args below meth c H locs cells slots Q (F0 m pc ls (v :: .ref a :: rest)) := va_putF (D := Γ.1) (ci := 11) (C := RX10) (T := TX10) (N := 50) S.1 S.2.1 S.2.2.2.2 inlX10 tyX10 tyX10_ok nmX10 S.2.2.2.1 X.1 X.2.1 X.2.2.1 X.2.2.2.1 q0 he rfl 32 (by decide) (S.2.2.2.2 _ fl_X10_69) (fun _ h => h) rfl hin rfl (ty := .array .int) (by decide +kernel) hn hf hl hdg (fun H1 locs1 a1 a2 a3 => kk H1 locs1 ⟨X.1, a1, a2, a3, X.2.2.2.2⟩)
theorem fl_X10_72 : Cond.fieldLink RX10 72 "HedgeCourtModel" "mowYear" "[I" ∈ BG := by decide +kernel
theorem gf_X10_72 {q0 a : Nat} {fs : List Value} {v : Value} (S : CallFix p m c cc nL s args BG RX10) (X : Wd E Γ A s H locs w) (he : w[q0]? = some (a, .inr (11, fs))) (hv : fs[33]? = some v) (hdg : decode cc pc = .ok (.getfield 72, 3)) (kk : W p l e R s m args below meth c H locs cells slots Q (F0 m (pc + 3) ls (v :: rest))) : W p l e R s m args below meth c H locs cells slots Q (F0 m pc ls (.ref a :: rest)) := va_get (D := Γ.1) (ci := 11) (C := RX10) (T := TX10) (N := 50) S.1 S.2.1 S.2.2.2.2 inlX10 S.2.2.2.1 X.1 X.2.1 q0 he rfl 33 (by decide) (S.2.2.2.2 _ fl_X10_72) (fun _ h => h) hv hdg kk
theorem pF_X10_72 {q0 a : Nat} {fs : List Value} {v : Value} (S : CallFix p m c cc nL s args BG RX10) (hin : meth.name = "<init>") (X : Wd E Γ A s H locs w) (he : w[q0]? = some (a, .inr (11, fs))) (hn : narrow (.array .int) v = v) (hf : fits (.array .int) v = true) (hl : 33 < fs.length) (hdg : decode cc pc = .ok (.putfield 72, 3)) (kk : ∀ (H1 : Heap) (locs1 : List Loc), Wd E Γ A s H1 locs1 (w.set q0 (a, .inr (11, fs.set 33 v))) → W p l e R s m args below meth c H1 locs1 cells slots Q (F0 m (pc + 3) ls rest)) : W p l e R s m args below meth c H locs cells slots Q (F0 m pc ls (v :: .ref a :: rest)) := va_putF (D := Γ.1) (ci := 11) (C := RX10) (T := TX10) (N := 50) S.1 S.2.1 S.2.2.2.2 inlX10 tyX10 tyX10_ok nmX10 S.2.2.2.1 X.1 X.2.1 X.2.2.1 X.2.2.2.1 q0 he rfl 33 (by decide) (S.2.2.2.2 _ fl_X10_72) (fun _ h => h) rfl hin rfl (ty := .array .int) (by decide +kernel) hn hf hl hdg (fun H1 locs1 a1 a2 a3 => kk H1 locs1 ⟨X.1, a1, a2, a3, X.2.2.2.2⟩)
theorem fl_X10_75 : Cond.fieldLink RX10 75 "HedgeCourtModel" "protestAt" "[I" ∈ BG := by decide +kernel
theorem gf_X10_75 {q0 a : Nat} {fs : List Value} {v : Value} (S : CallFix p m c cc nL s args BG RX10) (X : Wd E Γ A s H locs w) (he : w[q0]? = some (a, .inr (11, fs))) (hv : fs[34]? = some v) (hdg : decode cc pc = .ok (.getfield 75, 3)) (kk : W p l e R s m args below meth c H locs cells slots Q (F0 m (pc + 3) ls (v :: rest))) : W p l e R s m args below meth c H locs cells slots Q (F0 m pc ls (.ref a :: rest)) := va_get (D := Γ.1) (ci := 11) (C := RX10) (T := TX10) (N := 50) S.1 S.2.1 S.2.2.2.2 inlX10 S.2.2.2.1 X.1 X.2.1 q0 he rfl 34 (by decide) (S.2.2.2.2 _ fl_X10_75) (fun _ h => h) hv hdg kk
theorem pF_X10_75 {q0 a : Nat} {fs : List Value} {v : Value} (S : CallFix p m c cc nL s args BG RX10) (hin : meth.name = "<init>") (X : Wd E Γ A s H locs w) (he : w[q0]? = some (a, .inr (11, fs))) (hn : narrow (.array .int) v = v) (hf : fits (.array .int) v = true) (hl : 34 < fs.length) (hdg : decode cc pc = .ok (.putfield 75, 3)) (kk : ∀ (H1 : Heap) (locs1 : List Loc), Wd E Γ A s H1 locs1 (w.set q0 (a, .inr (11, fs.set 34 v))) → W p l e R s m args below meth c H1 locs1 cells slots Q (F0 m (pc + 3) ls rest)) : W p l e R s m args below meth c H locs cells slots Q (F0 m pc ls (v :: .ref a :: rest)) := va_putF (D := Γ.1) (ci := 11) (C := RX10) (T := TX10) (N := 50) S.1 S.2.1 S.2.2.2.2 inlX10 tyX10 tyX10_ok nmX10 S.2.2.2.1 X.1 X.2.1 X.2.2.1 X.2.2.2.1 q0 he rfl 34 (by decide) (S.2.2.2.2 _ fl_X10_75) (fun _ h => h) rfl hin rfl (ty := .array .int) (by decide +kernel) hn hf hl hdg (fun H1 locs1 a1 a2 a3 => kk H1 locs1 ⟨X.1, a1, a2, a3, X.2.2.2.2⟩)
theorem fl_X10_78 : Cond.fieldLink RX10 78 "HedgeCourtModel" "protestIn" "[I" ∈ BG := by decide +kernel
theorem gf_X10_78 {q0 a : Nat} {fs : List Value} {v : Value} (S : CallFix p m c cc nL s args BG RX10) (X : Wd E Γ A s H locs w) (he : w[q0]? = some (a, .inr (11, fs))) (hv : fs[35]? = some v) (hdg : decode cc pc = .ok (.getfield 78, 3)) (kk : W p l e R s m args below meth c H locs cells slots Q (F0 m (pc + 3) ls (v :: rest))) : W p l e R s m args below meth c H locs cells slots Q (F0 m pc ls (.ref a :: rest)) := va_get (D := Γ.1) (ci := 11) (C := RX10) (T := TX10) (N := 50) S.1 S.2.1 S.2.2.2.2 inlX10 S.2.2.2.1 X.1 X.2.1 q0 he rfl 35 (by decide) (S.2.2.2.2 _ fl_X10_78) (fun _ h => h) hv hdg kk
theorem pF_X10_78 {q0 a : Nat} {fs : List Value} {v : Value} (S : CallFix p m c cc nL s args BG RX10) (hin : meth.name = "<init>") (X : Wd E Γ A s H locs w) (he : w[q0]? = some (a, .inr (11, fs))) (hn : narrow (.array .int) v = v) (hf : fits (.array .int) v = true) (hl : 35 < fs.length) (hdg : decode cc pc = .ok (.putfield 78, 3)) (kk : ∀ (H1 : Heap) (locs1 : List Loc), Wd E Γ A s H1 locs1 (w.set q0 (a, .inr (11, fs.set 35 v))) → W p l e R s m args below meth c H1 locs1 cells slots Q (F0 m (pc + 3) ls rest)) : W p l e R s m args below meth c H locs cells slots Q (F0 m pc ls (v :: .ref a :: rest)) := va_putF (D := Γ.1) (ci := 11) (C := RX10) (T := TX10) (N := 50) S.1 S.2.1 S.2.2.2.2 inlX10 tyX10 tyX10_ok nmX10 S.2.2.2.1 X.1 X.2.1 X.2.2.1 X.2.2.2.1 q0 he rfl 35 (by decide) (S.2.2.2.2 _ fl_X10_78) (fun _ h => h) rfl hin rfl (ty := .array .int) (by decide +kernel) hn hf hl hdg (fun H1 locs1 a1 a2 a3 => kk H1 locs1 ⟨X.1, a1, a2, a3, X.2.2.2.2⟩)
theorem fl_X10_81 : Cond.fieldLink RX10 81 "HedgeCourtModel" "many" "[I" ∈ BG := by decide +kernel
theorem gf_X10_81 {q0 a : Nat} {fs : List Value} {v : Value} (S : CallFix p m c cc nL s args BG RX10) (X : Wd E Γ A s H locs w) (he : w[q0]? = some (a, .inr (11, fs))) (hv : fs[36]? = some v) (hdg : decode cc pc = .ok (.getfield 81, 3)) (kk : W p l e R s m args below meth c H locs cells slots Q (F0 m (pc + 3) ls (v :: rest))) : W p l e R s m args below meth c H locs cells slots Q (F0 m pc ls (.ref a :: rest)) := va_get (D := Γ.1) (ci := 11) (C := RX10) (T := TX10) (N := 50) S.1 S.2.1 S.2.2.2.2 inlX10 S.2.2.2.1 X.1 X.2.1 q0 he rfl 36 (by decide) (S.2.2.2.2 _ fl_X10_81) (fun _ h => h) hv hdg kk
theorem pF_X10_81 {q0 a : Nat} {fs : List Value} {v : Value} (S : CallFix p m c cc nL s args BG RX10) (hin : meth.name = "<init>") (X : Wd E Γ A s H locs w) (he : w[q0]? = some (a, .inr (11, fs))) (hn : narrow (.array .int) v = v) (hf : fits (.array .int) v = true) (hl : 36 < fs.length) (hdg : decode cc pc = .ok (.putfield 81, 3)) (kk : ∀ (H1 : Heap) (locs1 : List Loc), Wd E Γ A s H1 locs1 (w.set q0 (a, .inr (11, fs.set 36 v))) → W p l e R s m args below meth c H1 locs1 cells slots Q (F0 m (pc + 3) ls rest)) : W p l e R s m args below meth c H locs cells slots Q (F0 m pc ls (v :: .ref a :: rest)) := va_putF (D := Γ.1) (ci := 11) (C := RX10) (T := TX10) (N := 50) S.1 S.2.1 S.2.2.2.2 inlX10 tyX10 tyX10_ok nmX10 S.2.2.2.1 X.1 X.2.1 X.2.2.1 X.2.2.2.1 q0 he rfl 36 (by decide) (S.2.2.2.2 _ fl_X10_81) (fun _ h => h) rfl hin rfl (ty := .array .int) (by decide +kernel) hn hf hl hdg (fun H1 locs1 a1 a2 a3 => kk H1 locs1 ⟨X.1, a1, a2, a3, X.2.2.2.2⟩)
theorem fl_X10_84 : Cond.fieldLink RX10 84 "HedgeCourtModel" "run" "[I" ∈ BG := by decide +kernel
theorem gf_X10_84 {q0 a : Nat} {fs : List Value} {v : Value} (S : CallFix p m c cc nL s args BG RX10) (X : Wd E Γ A s H locs w) (he : w[q0]? = some (a, .inr (11, fs))) (hv : fs[37]? = some v) (hdg : decode cc pc = .ok (.getfield 84, 3)) (kk : W p l e R s m args below meth c H locs cells slots Q (F0 m (pc + 3) ls (v :: rest))) : W p l e R s m args below meth c H locs cells slots Q (F0 m pc ls (.ref a :: rest)) := va_get (D := Γ.1) (ci := 11) (C := RX10) (T := TX10) (N := 50) S.1 S.2.1 S.2.2.2.2 inlX10 S.2.2.2.1 X.1 X.2.1 q0 he rfl 37 (by decide) (S.2.2.2.2 _ fl_X10_84) (fun _ h => h) hv hdg kk
theorem pF_X10_84 {q0 a : Nat} {fs : List Value} {v : Value} (S : CallFix p m c cc nL s args BG RX10) (hin : meth.name = "<init>") (X : Wd E Γ A s H locs w) (he : w[q0]? = some (a, .inr (11, fs))) (hn : narrow (.array .int) v = v) (hf : fits (.array .int) v = true) (hl : 37 < fs.length) (hdg : decode cc pc = .ok (.putfield 84, 3)) (kk : ∀ (H1 : Heap) (locs1 : List Loc), Wd E Γ A s H1 locs1 (w.set q0 (a, .inr (11, fs.set 37 v))) → W p l e R s m args below meth c H1 locs1 cells slots Q (F0 m (pc + 3) ls rest)) : W p l e R s m args below meth c H locs cells slots Q (F0 m pc ls (v :: .ref a :: rest)) := va_putF (D := Γ.1) (ci := 11) (C := RX10) (T := TX10) (N := 50) S.1 S.2.1 S.2.2.2.2 inlX10 tyX10 tyX10_ok nmX10 S.2.2.2.1 X.1 X.2.1 X.2.2.1 X.2.2.2.1 q0 he rfl 37 (by decide) (S.2.2.2.2 _ fl_X10_84) (fun _ h => h) rfl hin rfl (ty := .array .int) (by decide +kernel) hn hf hl hdg (fun H1 locs1 a1 a2 a3 => kk H1 locs1 ⟨X.1, a1, a2, a3, X.2.2.2.2⟩)
theorem fl_X10_87 : Cond.fieldLink RX10 87 "HedgeCourtModel" "feet" "[I" ∈ BG := by decide +kernel
theorem gf_X10_87 {q0 a : Nat} {fs : List Value} {v : Value} (S : CallFix p m c cc nL s args BG RX10) (X : Wd E Γ A s H locs w) (he : w[q0]? = some (a, .inr (11, fs))) (hv : fs[38]? = some v) (hdg : decode cc pc = .ok (.getfield 87, 3)) (kk : W p l e R s m args below meth c H locs cells slots Q (F0 m (pc + 3) ls (v :: rest))) : W p l e R s m args below meth c H locs cells slots Q (F0 m pc ls (.ref a :: rest)) := va_get (D := Γ.1) (ci := 11) (C := RX10) (T := TX10) (N := 50) S.1 S.2.1 S.2.2.2.2 inlX10 S.2.2.2.1 X.1 X.2.1 q0 he rfl 38 (by decide) (S.2.2.2.2 _ fl_X10_87) (fun _ h => h) hv hdg kk
theorem pF_X10_87 {q0 a : Nat} {fs : List Value} {v : Value} (S : CallFix p m c cc nL s args BG RX10) (hin : meth.name = "<init>") (X : Wd E Γ A s H locs w) (he : w[q0]? = some (a, .inr (11, fs))) (hn : narrow (.array .int) v = v) (hf : fits (.array .int) v = true) (hl : 38 < fs.length) (hdg : decode cc pc = .ok (.putfield 87, 3)) (kk : ∀ (H1 : Heap) (locs1 : List Loc), Wd E Γ A s H1 locs1 (w.set q0 (a, .inr (11, fs.set 38 v))) → W p l e R s m args below meth c H1 locs1 cells slots Q (F0 m (pc + 3) ls rest)) : W p l e R s m args below meth c H locs cells slots Q (F0 m pc ls (v :: .ref a :: rest)) := va_putF (D := Γ.1) (ci := 11) (C := RX10) (T := TX10) (N := 50) S.1 S.2.1 S.2.2.2.2 inlX10 tyX10 tyX10_ok nmX10 S.2.2.2.1 X.1 X.2.1 X.2.2.1 X.2.2.2.1 q0 he rfl 38 (by decide) (S.2.2.2.2 _ fl_X10_87) (fun _ h => h) rfl hin rfl (ty := .array .int) (by decide +kernel) hn hf hl hdg (fun H1 locs1 a1 a2 a3 => kk H1 locs1 ⟨X.1, a1, a2, a3, X.2.2.2.2⟩)
theorem fl_X10_108 : Cond.fieldLink RX10 108 "HedgeCourtModel" "sayings" "I" ∈ BG := by decide +kernel
theorem gf_X10_108 {q0 a : Nat} {fs : List Value} {v : Value} (S : CallFix p m c cc nL s args BG RX10) (X : Wd E Γ A s H locs w) (he : w[q0]? = some (a, .inr (11, fs))) (hv : fs[0]? = some v) (hdg : decode cc pc = .ok (.getfield 108, 3)) (kk : W p l e R s m args below meth c H locs cells slots Q (F0 m (pc + 3) ls (v :: rest))) : W p l e R s m args below meth c H locs cells slots Q (F0 m pc ls (.ref a :: rest)) := va_get (D := Γ.1) (ci := 11) (C := RX10) (T := TX10) (N := 50) S.1 S.2.1 S.2.2.2.2 inlX10 S.2.2.2.1 X.1 X.2.1 q0 he rfl 0 (by decide) (S.2.2.2.2 _ fl_X10_108) (fun _ h => h) hv hdg kk
theorem pf_X10_108 {q0 a : Nat} {fs : List Value} {v : Value} (S : CallFix p m c cc nL s args BG RX10) (X : Wd E Γ A s H locs w) (he : w[q0]? = some (a, .inr (11, fs))) (hn : narrow (.int) v = v) (hf : fits (.int) v = true) (hl : 0 < fs.length) (hdg : decode cc pc = .ok (.putfield 108, 3)) (kk : ∀ (H1 : Heap) (locs1 : List Loc), Wd E Γ A s H1 locs1 (w.set q0 (a, .inr (11, fs.set 0 v))) → W p l e R s m args below meth c H1 locs1 cells slots Q (F0 m (pc + 3) ls rest)) : W p l e R s m args below meth c H locs cells slots Q (F0 m pc ls (v :: .ref a :: rest)) := va_put (D := Γ.1) (ci := 11) (C := RX10) (T := TX10) (N := 50) S.1 S.2.1 S.2.2.2.2 inlX10 tyX10 tyX10_ok nmX10 S.2.2.2.1 X.1 X.2.1 X.2.2.1 X.2.2.2.1 q0 he rfl 0 (by decide) (S.2.2.2.2 _ fl_X10_108) (fun _ h => h) rfl (ty := .int) (by decide +kernel) hn hf hl hdg (fun H1 locs1 a1 a2 a3 => kk H1 locs1 ⟨X.1, a1, a2, a3, X.2.2.2.2⟩)
theorem fl_X10_111 : Cond.fieldLink RX10 111 "HedgeCourtModel" "taped" "I" ∈ BG := by decide +kernel
theorem gf_X10_111 {q0 a : Nat} {fs : List Value} {v : Value} (S : CallFix p m c cc nL s args BG RX10) (X : Wd E Γ A s H locs w) (he : w[q0]? = some (a, .inr (11, fs))) (hv : fs[17]? = some v) (hdg : decode cc pc = .ok (.getfield 111, 3)) (kk : W p l e R s m args below meth c H locs cells slots Q (F0 m (pc + 3) ls (v :: rest))) : W p l e R s m args below meth c H locs cells slots Q (F0 m pc ls (.ref a :: rest)) := va_get (D := Γ.1) (ci := 11) (C := RX10) (T := TX10) (N := 50) S.1 S.2.1 S.2.2.2.2 inlX10 S.2.2.2.1 X.1 X.2.1 q0 he rfl 17 (by decide) (S.2.2.2.2 _ fl_X10_111) (fun _ h => h) hv hdg kk
theorem pf_X10_111 {q0 a : Nat} {fs : List Value} {v : Value} (S : CallFix p m c cc nL s args BG RX10) (X : Wd E Γ A s H locs w) (he : w[q0]? = some (a, .inr (11, fs))) (hn : narrow (.int) v = v) (hf : fits (.int) v = true) (hl : 17 < fs.length) (hdg : decode cc pc = .ok (.putfield 111, 3)) (kk : ∀ (H1 : Heap) (locs1 : List Loc), Wd E Γ A s H1 locs1 (w.set q0 (a, .inr (11, fs.set 17 v))) → W p l e R s m args below meth c H1 locs1 cells slots Q (F0 m (pc + 3) ls rest)) : W p l e R s m args below meth c H locs cells slots Q (F0 m pc ls (v :: .ref a :: rest)) := va_put (D := Γ.1) (ci := 11) (C := RX10) (T := TX10) (N := 50) S.1 S.2.1 S.2.2.2.2 inlX10 tyX10 tyX10_ok nmX10 S.2.2.2.1 X.1 X.2.1 X.2.2.1 X.2.2.2.1 q0 he rfl 17 (by decide) (S.2.2.2.2 _ fl_X10_111) (fun _ h => h) rfl (ty := .int) (by decide +kernel) hn hf hl hdg (fun H1 locs1 a1 a2 a3 => kk H1 locs1 ⟨X.1, a1, a2, a3, X.2.2.2.2⟩)
theorem fl_X10_136 : Cond.fieldLink RX10 136 "HedgeCourtModel" "at" "I" ∈ BG := by decide +kernel
theorem gf_X10_136 {q0 a : Nat} {fs : List Value} {v : Value} (S : CallFix p m c cc nL s args BG RX10) (X : Wd E Γ A s H locs w) (he : w[q0]? = some (a, .inr (11, fs))) (hv : fs[18]? = some v) (hdg : decode cc pc = .ok (.getfield 136, 3)) (kk : W p l e R s m args below meth c H locs cells slots Q (F0 m (pc + 3) ls (v :: rest))) : W p l e R s m args below meth c H locs cells slots Q (F0 m pc ls (.ref a :: rest)) := va_get (D := Γ.1) (ci := 11) (C := RX10) (T := TX10) (N := 50) S.1 S.2.1 S.2.2.2.2 inlX10 S.2.2.2.1 X.1 X.2.1 q0 he rfl 18 (by decide) (S.2.2.2.2 _ fl_X10_136) (fun _ h => h) hv hdg kk
theorem pf_X10_136 {q0 a : Nat} {fs : List Value} {v : Value} (S : CallFix p m c cc nL s args BG RX10) (X : Wd E Γ A s H locs w) (he : w[q0]? = some (a, .inr (11, fs))) (hn : narrow (.int) v = v) (hf : fits (.int) v = true) (hl : 18 < fs.length) (hdg : decode cc pc = .ok (.putfield 136, 3)) (kk : ∀ (H1 : Heap) (locs1 : List Loc), Wd E Γ A s H1 locs1 (w.set q0 (a, .inr (11, fs.set 18 v))) → W p l e R s m args below meth c H1 locs1 cells slots Q (F0 m (pc + 3) ls rest)) : W p l e R s m args below meth c H locs cells slots Q (F0 m pc ls (v :: .ref a :: rest)) := va_put (D := Γ.1) (ci := 11) (C := RX10) (T := TX10) (N := 50) S.1 S.2.1 S.2.2.2.2 inlX10 tyX10 tyX10_ok nmX10 S.2.2.2.1 X.1 X.2.1 X.2.2.1 X.2.2.2.1 q0 he rfl 18 (by decide) (S.2.2.2.2 _ fl_X10_136) (fun _ h => h) rfl (ty := .int) (by decide +kernel) hn hf hl hdg (fun H1 locs1 a1 a2 a3 => kk H1 locs1 ⟨X.1, a1, a2, a3, X.2.2.2.2⟩)
theorem fl_X10_143 : Cond.fieldLink RX10 143 "HedgeCourtModel" "tokenAt" "I" ∈ BG := by decide +kernel
theorem gf_X10_143 {q0 a : Nat} {fs : List Value} {v : Value} (S : CallFix p m c cc nL s args BG RX10) (X : Wd E Γ A s H locs w) (he : w[q0]? = some (a, .inr (11, fs))) (hv : fs[20]? = some v) (hdg : decode cc pc = .ok (.getfield 143, 3)) (kk : W p l e R s m args below meth c H locs cells slots Q (F0 m (pc + 3) ls (v :: rest))) : W p l e R s m args below meth c H locs cells slots Q (F0 m pc ls (.ref a :: rest)) := va_get (D := Γ.1) (ci := 11) (C := RX10) (T := TX10) (N := 50) S.1 S.2.1 S.2.2.2.2 inlX10 S.2.2.2.1 X.1 X.2.1 q0 he rfl 20 (by decide) (S.2.2.2.2 _ fl_X10_143) (fun _ h => h) hv hdg kk
theorem pf_X10_143 {q0 a : Nat} {fs : List Value} {v : Value} (S : CallFix p m c cc nL s args BG RX10) (X : Wd E Γ A s H locs w) (he : w[q0]? = some (a, .inr (11, fs))) (hn : narrow (.int) v = v) (hf : fits (.int) v = true) (hl : 20 < fs.length) (hdg : decode cc pc = .ok (.putfield 143, 3)) (kk : ∀ (H1 : Heap) (locs1 : List Loc), Wd E Γ A s H1 locs1 (w.set q0 (a, .inr (11, fs.set 20 v))) → W p l e R s m args below meth c H1 locs1 cells slots Q (F0 m (pc + 3) ls rest)) : W p l e R s m args below meth c H locs cells slots Q (F0 m pc ls (v :: .ref a :: rest)) := va_put (D := Γ.1) (ci := 11) (C := RX10) (T := TX10) (N := 50) S.1 S.2.1 S.2.2.2.2 inlX10 tyX10 tyX10_ok nmX10 S.2.2.2.1 X.1 X.2.1 X.2.2.1 X.2.2.2.1 q0 he rfl 20 (by decide) (S.2.2.2.2 _ fl_X10_143) (fun _ h => h) rfl (ty := .int) (by decide +kernel) hn hf hl hdg (fun H1 locs1 a1 a2 a3 => kk H1 locs1 ⟨X.1, a1, a2, a3, X.2.2.2.2⟩)
theorem fl_X10_146 : Cond.fieldLink RX10 146 "HedgeCourtModel" "token" "I" ∈ BG := by decide +kernel
theorem gf_X10_146 {q0 a : Nat} {fs : List Value} {v : Value} (S : CallFix p m c cc nL s args BG RX10) (X : Wd E Γ A s H locs w) (he : w[q0]? = some (a, .inr (11, fs))) (hv : fs[19]? = some v) (hdg : decode cc pc = .ok (.getfield 146, 3)) (kk : W p l e R s m args below meth c H locs cells slots Q (F0 m (pc + 3) ls (v :: rest))) : W p l e R s m args below meth c H locs cells slots Q (F0 m pc ls (.ref a :: rest)) := va_get (D := Γ.1) (ci := 11) (C := RX10) (T := TX10) (N := 50) S.1 S.2.1 S.2.2.2.2 inlX10 S.2.2.2.1 X.1 X.2.1 q0 he rfl 19 (by decide) (S.2.2.2.2 _ fl_X10_146) (fun _ h => h) hv hdg kk
theorem pf_X10_146 {q0 a : Nat} {fs : List Value} {v : Value} (S : CallFix p m c cc nL s args BG RX10) (X : Wd E Γ A s H locs w) (he : w[q0]? = some (a, .inr (11, fs))) (hn : narrow (.int) v = v) (hf : fits (.int) v = true) (hl : 19 < fs.length) (hdg : decode cc pc = .ok (.putfield 146, 3)) (kk : ∀ (H1 : Heap) (locs1 : List Loc), Wd E Γ A s H1 locs1 (w.set q0 (a, .inr (11, fs.set 19 v))) → W p l e R s m args below meth c H1 locs1 cells slots Q (F0 m (pc + 3) ls rest)) : W p l e R s m args below meth c H locs cells slots Q (F0 m pc ls (v :: .ref a :: rest)) := va_put (D := Γ.1) (ci := 11) (C := RX10) (T := TX10) (N := 50) S.1 S.2.1 S.2.2.2.2 inlX10 tyX10 tyX10_ok nmX10 S.2.2.2.1 X.1 X.2.1 X.2.2.1 X.2.2.2.1 q0 he rfl 19 (by decide) (S.2.2.2.2 _ fl_X10_146) (fun _ h => h) rfl (ty := .int) (by decide +kernel) hn hf hl hdg (fun H1 locs1 a1 a2 a3 => kk H1 locs1 ⟨X.1, a1, a2, a3, X.2.2.2.2⟩)
theorem fl_X10_159 : Cond.fieldLink RX10 159 "HedgeCourtModel" "value" "I" ∈ BG := by decide +kernel
theorem gf_X10_159 {q0 a : Nat} {fs : List Value} {v : Value} (S : CallFix p m c cc nL s args BG RX10) (X : Wd E Γ A s H locs w) (he : w[q0]? = some (a, .inr (11, fs))) (hv : fs[21]? = some v) (hdg : decode cc pc = .ok (.getfield 159, 3)) (kk : W p l e R s m args below meth c H locs cells slots Q (F0 m (pc + 3) ls (v :: rest))) : W p l e R s m args below meth c H locs cells slots Q (F0 m pc ls (.ref a :: rest)) := va_get (D := Γ.1) (ci := 11) (C := RX10) (T := TX10) (N := 50) S.1 S.2.1 S.2.2.2.2 inlX10 S.2.2.2.1 X.1 X.2.1 q0 he rfl 21 (by decide) (S.2.2.2.2 _ fl_X10_159) (fun _ h => h) hv hdg kk
theorem pf_X10_159 {q0 a : Nat} {fs : List Value} {v : Value} (S : CallFix p m c cc nL s args BG RX10) (X : Wd E Γ A s H locs w) (he : w[q0]? = some (a, .inr (11, fs))) (hn : narrow (.int) v = v) (hf : fits (.int) v = true) (hl : 21 < fs.length) (hdg : decode cc pc = .ok (.putfield 159, 3)) (kk : ∀ (H1 : Heap) (locs1 : List Loc), Wd E Γ A s H1 locs1 (w.set q0 (a, .inr (11, fs.set 21 v))) → W p l e R s m args below meth c H1 locs1 cells slots Q (F0 m (pc + 3) ls rest)) : W p l e R s m args below meth c H locs cells slots Q (F0 m pc ls (v :: .ref a :: rest)) := va_put (D := Γ.1) (ci := 11) (C := RX10) (T := TX10) (N := 50) S.1 S.2.1 S.2.2.2.2 inlX10 tyX10 tyX10_ok nmX10 S.2.2.2.1 X.1 X.2.1 X.2.2.1 X.2.2.2.1 q0 he rfl 21 (by decide) (S.2.2.2.2 _ fl_X10_159) (fun _ h => h) rfl (ty := .int) (by decide +kernel) hn hf hl hdg (fun H1 locs1 a1 a2 a3 => kk H1 locs1 ⟨X.1, a1, a2, a3, X.2.2.2.2⟩)
theorem fl_X10_162 : Cond.fieldLink RX10 162 "HedgeCourtModel" "wrong" "I" ∈ BG := by decide +kernel
theorem gf_X10_162 {q0 a : Nat} {fs : List Value} {v : Value} (S : CallFix p m c cc nL s args BG RX10) (X : Wd E Γ A s H locs w) (he : w[q0]? = some (a, .inr (11, fs))) (hv : fs[22]? = some v) (hdg : decode cc pc = .ok (.getfield 162, 3)) (kk : W p l e R s m args below meth c H locs cells slots Q (F0 m (pc + 3) ls (v :: rest))) : W p l e R s m args below meth c H locs cells slots Q (F0 m pc ls (.ref a :: rest)) := va_get (D := Γ.1) (ci := 11) (C := RX10) (T := TX10) (N := 50) S.1 S.2.1 S.2.2.2.2 inlX10 S.2.2.2.1 X.1 X.2.1 q0 he rfl 22 (by decide) (S.2.2.2.2 _ fl_X10_162) (fun _ h => h) hv hdg kk
theorem pf_X10_162 {q0 a : Nat} {fs : List Value} {v : Value} (S : CallFix p m c cc nL s args BG RX10) (X : Wd E Γ A s H locs w) (he : w[q0]? = some (a, .inr (11, fs))) (hn : narrow (.int) v = v) (hf : fits (.int) v = true) (hl : 22 < fs.length) (hdg : decode cc pc = .ok (.putfield 162, 3)) (kk : ∀ (H1 : Heap) (locs1 : List Loc), Wd E Γ A s H1 locs1 (w.set q0 (a, .inr (11, fs.set 22 v))) → W p l e R s m args below meth c H1 locs1 cells slots Q (F0 m (pc + 3) ls rest)) : W p l e R s m args below meth c H locs cells slots Q (F0 m pc ls (v :: .ref a :: rest)) := va_put (D := Γ.1) (ci := 11) (C := RX10) (T := TX10) (N := 50) S.1 S.2.1 S.2.2.2.2 inlX10 tyX10 tyX10_ok nmX10 S.2.2.2.1 X.1 X.2.1 X.2.2.1 X.2.2.2.1 q0 he rfl 22 (by decide) (S.2.2.2.2 _ fl_X10_162) (fun _ h => h) rfl (ty := .int) (by decide +kernel) hn hf hl hdg (fun H1 locs1 a1 a2 a3 => kk H1 locs1 ⟨X.1, a1, a2, a3, X.2.2.2.2⟩)
theorem fl_X10_165 : Cond.fieldLink RX10 165 "HedgeCourtModel" "wrongAt" "I" ∈ BG := by decide +kernel
theorem gf_X10_165 {q0 a : Nat} {fs : List Value} {v : Value} (S : CallFix p m c cc nL s args BG RX10) (X : Wd E Γ A s H locs w) (he : w[q0]? = some (a, .inr (11, fs))) (hv : fs[23]? = some v) (hdg : decode cc pc = .ok (.getfield 165, 3)) (kk : W p l e R s m args below meth c H locs cells slots Q (F0 m (pc + 3) ls (v :: rest))) : W p l e R s m args below meth c H locs cells slots Q (F0 m pc ls (.ref a :: rest)) := va_get (D := Γ.1) (ci := 11) (C := RX10) (T := TX10) (N := 50) S.1 S.2.1 S.2.2.2.2 inlX10 S.2.2.2.1 X.1 X.2.1 q0 he rfl 23 (by decide) (S.2.2.2.2 _ fl_X10_165) (fun _ h => h) hv hdg kk
theorem pf_X10_165 {q0 a : Nat} {fs : List Value} {v : Value} (S : CallFix p m c cc nL s args BG RX10) (X : Wd E Γ A s H locs w) (he : w[q0]? = some (a, .inr (11, fs))) (hn : narrow (.int) v = v) (hf : fits (.int) v = true) (hl : 23 < fs.length) (hdg : decode cc pc = .ok (.putfield 165, 3)) (kk : ∀ (H1 : Heap) (locs1 : List Loc), Wd E Γ A s H1 locs1 (w.set q0 (a, .inr (11, fs.set 23 v))) → W p l e R s m args below meth c H1 locs1 cells slots Q (F0 m (pc + 3) ls rest)) : W p l e R s m args below meth c H locs cells slots Q (F0 m pc ls (v :: .ref a :: rest)) := va_put (D := Γ.1) (ci := 11) (C := RX10) (T := TX10) (N := 50) S.1 S.2.1 S.2.2.2.2 inlX10 tyX10 tyX10_ok nmX10 S.2.2.2.1 X.1 X.2.1 X.2.2.1 X.2.2.2.1 q0 he rfl 23 (by decide) (S.2.2.2.2 _ fl_X10_165) (fun _ h => h) rfl (ty := .int) (by decide +kernel) hn hf hl hdg (fun H1 locs1 a1 a2 a3 => kk H1 locs1 ⟨X.1, a1, a2, a3, X.2.2.2.2⟩)
theorem fl_X10_171 : Cond.fieldLink RX10 171 "HedgeCourtModel" "lines" "I" ∈ BG := by decide +kernel
theorem gf_X10_171 {q0 a : Nat} {fs : List Value} {v : Value} (S : CallFix p m c cc nL s args BG RX10) (X : Wd E Γ A s H locs w) (he : w[q0]? = some (a, .inr (11, fs))) (hv : fs[25]? = some v) (hdg : decode cc pc = .ok (.getfield 171, 3)) (kk : W p l e R s m args below meth c H locs cells slots Q (F0 m (pc + 3) ls (v :: rest))) : W p l e R s m args below meth c H locs cells slots Q (F0 m pc ls (.ref a :: rest)) := va_get (D := Γ.1) (ci := 11) (C := RX10) (T := TX10) (N := 50) S.1 S.2.1 S.2.2.2.2 inlX10 S.2.2.2.1 X.1 X.2.1 q0 he rfl 25 (by decide) (S.2.2.2.2 _ fl_X10_171) (fun _ h => h) hv hdg kk
theorem pf_X10_171 {q0 a : Nat} {fs : List Value} {v : Value} (S : CallFix p m c cc nL s args BG RX10) (X : Wd E Γ A s H locs w) (he : w[q0]? = some (a, .inr (11, fs))) (hn : narrow (.int) v = v) (hf : fits (.int) v = true) (hl : 25 < fs.length) (hdg : decode cc pc = .ok (.putfield 171, 3)) (kk : ∀ (H1 : Heap) (locs1 : List Loc), Wd E Γ A s H1 locs1 (w.set q0 (a, .inr (11, fs.set 25 v))) → W p l e R s m args below meth c H1 locs1 cells slots Q (F0 m (pc + 3) ls rest)) : W p l e R s m args below meth c H locs cells slots Q (F0 m pc ls (v :: .ref a :: rest)) := va_put (D := Γ.1) (ci := 11) (C := RX10) (T := TX10) (N := 50) S.1 S.2.1 S.2.2.2.2 inlX10 tyX10 tyX10_ok nmX10 S.2.2.2.1 X.1 X.2.1 X.2.2.1 X.2.2.2.1 q0 he rfl 25 (by decide) (S.2.2.2.2 _ fl_X10_171) (fun _ h => h) rfl (ty := .int) (by decide +kernel) hn hf hl hdg (fun H1 locs1 a1 a2 a3 => kk H1 locs1 ⟨X.1, a1, a2, a3, X.2.2.2.2⟩)
theorem fl_X10_187 : Cond.fieldLink RX10 187 "HedgeCourtModel" "faultKind" "I" ∈ BG := by decide +kernel
theorem gf_X10_187 {q0 a : Nat} {fs : List Value} {v : Value} (S : CallFix p m c cc nL s args BG RX10) (X : Wd E Γ A s H locs w) (he : w[q0]? = some (a, .inr (11, fs))) (hv : fs[24]? = some v) (hdg : decode cc pc = .ok (.getfield 187, 3)) (kk : W p l e R s m args below meth c H locs cells slots Q (F0 m (pc + 3) ls (v :: rest))) : W p l e R s m args below meth c H locs cells slots Q (F0 m pc ls (.ref a :: rest)) := va_get (D := Γ.1) (ci := 11) (C := RX10) (T := TX10) (N := 50) S.1 S.2.1 S.2.2.2.2 inlX10 S.2.2.2.1 X.1 X.2.1 q0 he rfl 24 (by decide) (S.2.2.2.2 _ fl_X10_187) (fun _ h => h) hv hdg kk
theorem pf_X10_187 {q0 a : Nat} {fs : List Value} {v : Value} (S : CallFix p m c cc nL s args BG RX10) (X : Wd E Γ A s H locs w) (he : w[q0]? = some (a, .inr (11, fs))) (hn : narrow (.int) v = v) (hf : fits (.int) v = true) (hl : 24 < fs.length) (hdg : decode cc pc = .ok (.putfield 187, 3)) (kk : ∀ (H1 : Heap) (locs1 : List Loc), Wd E Γ A s H1 locs1 (w.set q0 (a, .inr (11, fs.set 24 v))) → W p l e R s m args below meth c H1 locs1 cells slots Q (F0 m (pc + 3) ls rest)) : W p l e R s m args below meth c H locs cells slots Q (F0 m pc ls (v :: .ref a :: rest)) := va_put (D := Γ.1) (ci := 11) (C := RX10) (T := TX10) (N := 50) S.1 S.2.1 S.2.2.2.2 inlX10 tyX10 tyX10_ok nmX10 S.2.2.2.1 X.1 X.2.1 X.2.2.1 X.2.2.2.1 q0 he rfl 24 (by decide) (S.2.2.2.2 _ fl_X10_187) (fun _ h => h) rfl (ty := .int) (by decide +kernel) hn hf hl hdg (fun H1 locs1 a1 a2 a3 => kk H1 locs1 ⟨X.1, a1, a2, a3, X.2.2.2.2⟩)
theorem fl_X10_190 : Cond.fieldLink RX10 190 "HedgeCourtModel" "thrown" "I" ∈ BG := by decide +kernel
theorem gf_X10_190 {q0 a : Nat} {fs : List Value} {v : Value} (S : CallFix p m c cc nL s args BG RX10) (X : Wd E Γ A s H locs w) (he : w[q0]? = some (a, .inr (11, fs))) (hv : fs[10]? = some v) (hdg : decode cc pc = .ok (.getfield 190, 3)) (kk : W p l e R s m args below meth c H locs cells slots Q (F0 m (pc + 3) ls (v :: rest))) : W p l e R s m args below meth c H locs cells slots Q (F0 m pc ls (.ref a :: rest)) := va_get (D := Γ.1) (ci := 11) (C := RX10) (T := TX10) (N := 50) S.1 S.2.1 S.2.2.2.2 inlX10 S.2.2.2.1 X.1 X.2.1 q0 he rfl 10 (by decide) (S.2.2.2.2 _ fl_X10_190) (fun _ h => h) hv hdg kk
theorem pf_X10_190 {q0 a : Nat} {fs : List Value} {v : Value} (S : CallFix p m c cc nL s args BG RX10) (X : Wd E Γ A s H locs w) (he : w[q0]? = some (a, .inr (11, fs))) (hn : narrow (.int) v = v) (hf : fits (.int) v = true) (hl : 10 < fs.length) (hdg : decode cc pc = .ok (.putfield 190, 3)) (kk : ∀ (H1 : Heap) (locs1 : List Loc), Wd E Γ A s H1 locs1 (w.set q0 (a, .inr (11, fs.set 10 v))) → W p l e R s m args below meth c H1 locs1 cells slots Q (F0 m (pc + 3) ls rest)) : W p l e R s m args below meth c H locs cells slots Q (F0 m pc ls (v :: .ref a :: rest)) := va_put (D := Γ.1) (ci := 11) (C := RX10) (T := TX10) (N := 50) S.1 S.2.1 S.2.2.2.2 inlX10 tyX10 tyX10_ok nmX10 S.2.2.2.1 X.1 X.2.1 X.2.2.1 X.2.2.2.1 q0 he rfl 10 (by decide) (S.2.2.2.2 _ fl_X10_190) (fun _ h => h) rfl (ty := .int) (by decide +kernel) hn hf hl hdg (fun H1 locs1 a1 a2 a3 => kk H1 locs1 ⟨X.1, a1, a2, a3, X.2.2.2.2⟩)
theorem fl_X10_197 : Cond.fieldLink RX10 197 "HedgeCourtModel" "mows" "I" ∈ BG := by decide +kernel
theorem gf_X10_197 {q0 a : Nat} {fs : List Value} {v : Value} (S : CallFix p m c cc nL s args BG RX10) (X : Wd E Γ A s H locs w) (he : w[q0]? = some (a, .inr (11, fs))) (hv : fs[1]? = some v) (hdg : decode cc pc = .ok (.getfield 197, 3)) (kk : W p l e R s m args below meth c H locs cells slots Q (F0 m (pc + 3) ls (v :: rest))) : W p l e R s m args below meth c H locs cells slots Q (F0 m pc ls (.ref a :: rest)) := va_get (D := Γ.1) (ci := 11) (C := RX10) (T := TX10) (N := 50) S.1 S.2.1 S.2.2.2.2 inlX10 S.2.2.2.1 X.1 X.2.1 q0 he rfl 1 (by decide) (S.2.2.2.2 _ fl_X10_197) (fun _ h => h) hv hdg kk
theorem pf_X10_197 {q0 a : Nat} {fs : List Value} {v : Value} (S : CallFix p m c cc nL s args BG RX10) (X : Wd E Γ A s H locs w) (he : w[q0]? = some (a, .inr (11, fs))) (hn : narrow (.int) v = v) (hf : fits (.int) v = true) (hl : 1 < fs.length) (hdg : decode cc pc = .ok (.putfield 197, 3)) (kk : ∀ (H1 : Heap) (locs1 : List Loc), Wd E Γ A s H1 locs1 (w.set q0 (a, .inr (11, fs.set 1 v))) → W p l e R s m args below meth c H1 locs1 cells slots Q (F0 m (pc + 3) ls rest)) : W p l e R s m args below meth c H locs cells slots Q (F0 m pc ls (v :: .ref a :: rest)) := va_put (D := Γ.1) (ci := 11) (C := RX10) (T := TX10) (N := 50) S.1 S.2.1 S.2.2.2.2 inlX10 tyX10 tyX10_ok nmX10 S.2.2.2.1 X.1 X.2.1 X.2.2.1 X.2.2.2.1 q0 he rfl 1 (by decide) (S.2.2.2.2 _ fl_X10_197) (fun _ h => h) rfl (ty := .int) (by decide +kernel) hn hf hl hdg (fun H1 locs1 a1 a2 a3 => kk H1 locs1 ⟨X.1, a1, a2, a3, X.2.2.2.2⟩)
theorem fl_X10_218 : Cond.fieldLink RX10 218 "HedgeCourtModel" "protests" "I" ∈ BG := by decide +kernel
theorem gf_X10_218 {q0 a : Nat} {fs : List Value} {v : Value} (S : CallFix p m c cc nL s args BG RX10) (X : Wd E Γ A s H locs w) (he : w[q0]? = some (a, .inr (11, fs))) (hv : fs[2]? = some v) (hdg : decode cc pc = .ok (.getfield 218, 3)) (kk : W p l e R s m args below meth c H locs cells slots Q (F0 m (pc + 3) ls (v :: rest))) : W p l e R s m args below meth c H locs cells slots Q (F0 m pc ls (.ref a :: rest)) := va_get (D := Γ.1) (ci := 11) (C := RX10) (T := TX10) (N := 50) S.1 S.2.1 S.2.2.2.2 inlX10 S.2.2.2.1 X.1 X.2.1 q0 he rfl 2 (by decide) (S.2.2.2.2 _ fl_X10_218) (fun _ h => h) hv hdg kk
theorem pf_X10_218 {q0 a : Nat} {fs : List Value} {v : Value} (S : CallFix p m c cc nL s args BG RX10) (X : Wd E Γ A s H locs w) (he : w[q0]? = some (a, .inr (11, fs))) (hn : narrow (.int) v = v) (hf : fits (.int) v = true) (hl : 2 < fs.length) (hdg : decode cc pc = .ok (.putfield 218, 3)) (kk : ∀ (H1 : Heap) (locs1 : List Loc), Wd E Γ A s H1 locs1 (w.set q0 (a, .inr (11, fs.set 2 v))) → W p l e R s m args below meth c H1 locs1 cells slots Q (F0 m (pc + 3) ls rest)) : W p l e R s m args below meth c H locs cells slots Q (F0 m pc ls (v :: .ref a :: rest)) := va_put (D := Γ.1) (ci := 11) (C := RX10) (T := TX10) (N := 50) S.1 S.2.1 S.2.2.2.2 inlX10 tyX10 tyX10_ok nmX10 S.2.2.2.1 X.1 X.2.1 X.2.2.1 X.2.2.2.1 q0 he rfl 2 (by decide) (S.2.2.2.2 _ fl_X10_218) (fun _ h => h) rfl (ty := .int) (by decide +kernel) hn hf hl hdg (fun H1 locs1 a1 a2 a3 => kk H1 locs1 ⟨X.1, a1, a2, a3, X.2.2.2.2⟩)
theorem fl_X10_228 : Cond.fieldLink RX10 228 "HedgeCourtModel" "trueLine" "I" ∈ BG := by decide +kernel
theorem gf_X10_228 {q0 a : Nat} {fs : List Value} {v : Value} (S : CallFix p m c cc nL s args BG RX10) (X : Wd E Γ A s H locs w) (he : w[q0]? = some (a, .inr (11, fs))) (hv : fs[39]? = some v) (hdg : decode cc pc = .ok (.getfield 228, 3)) (kk : W p l e R s m args below meth c H locs cells slots Q (F0 m (pc + 3) ls (v :: rest))) : W p l e R s m args below meth c H locs cells slots Q (F0 m pc ls (.ref a :: rest)) := va_get (D := Γ.1) (ci := 11) (C := RX10) (T := TX10) (N := 50) S.1 S.2.1 S.2.2.2.2 inlX10 S.2.2.2.1 X.1 X.2.1 q0 he rfl 39 (by decide) (S.2.2.2.2 _ fl_X10_228) (fun _ h => h) hv hdg kk
theorem pf_X10_228 {q0 a : Nat} {fs : List Value} {v : Value} (S : CallFix p m c cc nL s args BG RX10) (X : Wd E Γ A s H locs w) (he : w[q0]? = some (a, .inr (11, fs))) (hn : narrow (.int) v = v) (hf : fits (.int) v = true) (hl : 39 < fs.length) (hdg : decode cc pc = .ok (.putfield 228, 3)) (kk : ∀ (H1 : Heap) (locs1 : List Loc), Wd E Γ A s H1 locs1 (w.set q0 (a, .inr (11, fs.set 39 v))) → W p l e R s m args below meth c H1 locs1 cells slots Q (F0 m (pc + 3) ls rest)) : W p l e R s m args below meth c H locs cells slots Q (F0 m pc ls (v :: .ref a :: rest)) := va_put (D := Γ.1) (ci := 11) (C := RX10) (T := TX10) (N := 50) S.1 S.2.1 S.2.2.2.2 inlX10 tyX10 tyX10_ok nmX10 S.2.2.2.1 X.1 X.2.1 X.2.2.1 X.2.2.2.1 q0 he rfl 39 (by decide) (S.2.2.2.2 _ fl_X10_228) (fun _ h => h) rfl (ty := .int) (by decide +kernel) hn hf hl hdg (fun H1 locs1 a1 a2 a3 => kk H1 locs1 ⟨X.1, a1, a2, a3, X.2.2.2.2⟩)
theorem fl_X10_231 : Cond.fieldLink RX10 231 "HedgeCourtModel" "lastYear" "I" ∈ BG := by decide +kernel
theorem gf_X10_231 {q0 a : Nat} {fs : List Value} {v : Value} (S : CallFix p m c cc nL s args BG RX10) (X : Wd E Γ A s H locs w) (he : w[q0]? = some (a, .inr (11, fs))) (hv : fs[40]? = some v) (hdg : decode cc pc = .ok (.getfield 231, 3)) (kk : W p l e R s m args below meth c H locs cells slots Q (F0 m (pc + 3) ls (v :: rest))) : W p l e R s m args below meth c H locs cells slots Q (F0 m pc ls (.ref a :: rest)) := va_get (D := Γ.1) (ci := 11) (C := RX10) (T := TX10) (N := 50) S.1 S.2.1 S.2.2.2.2 inlX10 S.2.2.2.1 X.1 X.2.1 q0 he rfl 40 (by decide) (S.2.2.2.2 _ fl_X10_231) (fun _ h => h) hv hdg kk
theorem pf_X10_231 {q0 a : Nat} {fs : List Value} {v : Value} (S : CallFix p m c cc nL s args BG RX10) (X : Wd E Γ A s H locs w) (he : w[q0]? = some (a, .inr (11, fs))) (hn : narrow (.int) v = v) (hf : fits (.int) v = true) (hl : 40 < fs.length) (hdg : decode cc pc = .ok (.putfield 231, 3)) (kk : ∀ (H1 : Heap) (locs1 : List Loc), Wd E Γ A s H1 locs1 (w.set q0 (a, .inr (11, fs.set 40 v))) → W p l e R s m args below meth c H1 locs1 cells slots Q (F0 m (pc + 3) ls rest)) : W p l e R s m args below meth c H locs cells slots Q (F0 m pc ls (v :: .ref a :: rest)) := va_put (D := Γ.1) (ci := 11) (C := RX10) (T := TX10) (N := 50) S.1 S.2.1 S.2.2.2.2 inlX10 tyX10 tyX10_ok nmX10 S.2.2.2.1 X.1 X.2.1 X.2.2.1 X.2.2.2.1 q0 he rfl 40 (by decide) (S.2.2.2.2 _ fl_X10_231) (fun _ h => h) rfl (ty := .int) (by decide +kernel) hn hf hl hdg (fun H1 locs1 a1 a2 a3 => kk H1 locs1 ⟨X.1, a1, a2, a3, X.2.2.2.2⟩)
theorem fl_X10_241 : Cond.fieldLink RX10 241 "HedgeCourtModel" "isQuarrel" "Z" ∈ BG := by decide +kernel
theorem gf_X10_241 {q0 a : Nat} {fs : List Value} {v : Value} (S : CallFix p m c cc nL s args BG RX10) (X : Wd E Γ A s H locs w) (he : w[q0]? = some (a, .inr (11, fs))) (hv : fs[41]? = some v) (hdg : decode cc pc = .ok (.getfield 241, 3)) (kk : W p l e R s m args below meth c H locs cells slots Q (F0 m (pc + 3) ls (v :: rest))) : W p l e R s m args below meth c H locs cells slots Q (F0 m pc ls (.ref a :: rest)) := va_get (D := Γ.1) (ci := 11) (C := RX10) (T := TX10) (N := 50) S.1 S.2.1 S.2.2.2.2 inlX10 S.2.2.2.1 X.1 X.2.1 q0 he rfl 41 (by decide) (S.2.2.2.2 _ fl_X10_241) (fun _ h => h) hv hdg kk
theorem pf_X10_241 {q0 a : Nat} {fs : List Value} {v : Value} (S : CallFix p m c cc nL s args BG RX10) (X : Wd E Γ A s H locs w) (he : w[q0]? = some (a, .inr (11, fs))) (hn : narrow (.boolean) v = v) (hf : fits (.boolean) v = true) (hl : 41 < fs.length) (hdg : decode cc pc = .ok (.putfield 241, 3)) (kk : ∀ (H1 : Heap) (locs1 : List Loc), Wd E Γ A s H1 locs1 (w.set q0 (a, .inr (11, fs.set 41 v))) → W p l e R s m args below meth c H1 locs1 cells slots Q (F0 m (pc + 3) ls rest)) : W p l e R s m args below meth c H locs cells slots Q (F0 m pc ls (v :: .ref a :: rest)) := va_put (D := Γ.1) (ci := 11) (C := RX10) (T := TX10) (N := 50) S.1 S.2.1 S.2.2.2.2 inlX10 tyX10 tyX10_ok nmX10 S.2.2.2.1 X.1 X.2.1 X.2.2.1 X.2.2.2.1 q0 he rfl 41 (by decide) (S.2.2.2.2 _ fl_X10_241) (fun _ h => h) rfl (ty := .boolean) (by decide +kernel) hn hf hl hdg (fun H1 locs1 a1 a2 a3 => kk H1 locs1 ⟨X.1, a1, a2, a3, X.2.2.2.2⟩)
theorem fl_X10_245 : Cond.fieldLink RX10 245 "HedgeCourtModel" "claim0" "I" ∈ BG := by decide +kernel
theorem gf_X10_245 {q0 a : Nat} {fs : List Value} {v : Value} (S : CallFix p m c cc nL s args BG RX10) (X : Wd E Γ A s H locs w) (he : w[q0]? = some (a, .inr (11, fs))) (hv : fs[42]? = some v) (hdg : decode cc pc = .ok (.getfield 245, 3)) (kk : W p l e R s m args below meth c H locs cells slots Q (F0 m (pc + 3) ls (v :: rest))) : W p l e R s m args below meth c H locs cells slots Q (F0 m pc ls (.ref a :: rest)) := va_get (D := Γ.1) (ci := 11) (C := RX10) (T := TX10) (N := 50) S.1 S.2.1 S.2.2.2.2 inlX10 S.2.2.2.1 X.1 X.2.1 q0 he rfl 42 (by decide) (S.2.2.2.2 _ fl_X10_245) (fun _ h => h) hv hdg kk
theorem pf_X10_245 {q0 a : Nat} {fs : List Value} {v : Value} (S : CallFix p m c cc nL s args BG RX10) (X : Wd E Γ A s H locs w) (he : w[q0]? = some (a, .inr (11, fs))) (hn : narrow (.int) v = v) (hf : fits (.int) v = true) (hl : 42 < fs.length) (hdg : decode cc pc = .ok (.putfield 245, 3)) (kk : ∀ (H1 : Heap) (locs1 : List Loc), Wd E Γ A s H1 locs1 (w.set q0 (a, .inr (11, fs.set 42 v))) → W p l e R s m args below meth c H1 locs1 cells slots Q (F0 m (pc + 3) ls rest)) : W p l e R s m args below meth c H locs cells slots Q (F0 m pc ls (v :: .ref a :: rest)) := va_put (D := Γ.1) (ci := 11) (C := RX10) (T := TX10) (N := 50) S.1 S.2.1 S.2.2.2.2 inlX10 tyX10 tyX10_ok nmX10 S.2.2.2.1 X.1 X.2.1 X.2.2.1 X.2.2.2.1 q0 he rfl 42 (by decide) (S.2.2.2.2 _ fl_X10_245) (fun _ h => h) rfl (ty := .int) (by decide +kernel) hn hf hl hdg (fun H1 locs1 a1 a2 a3 => kk H1 locs1 ⟨X.1, a1, a2, a3, X.2.2.2.2⟩)
theorem fl_X10_248 : Cond.fieldLink RX10 248 "HedgeCourtModel" "claim1" "I" ∈ BG := by decide +kernel
theorem gf_X10_248 {q0 a : Nat} {fs : List Value} {v : Value} (S : CallFix p m c cc nL s args BG RX10) (X : Wd E Γ A s H locs w) (he : w[q0]? = some (a, .inr (11, fs))) (hv : fs[43]? = some v) (hdg : decode cc pc = .ok (.getfield 248, 3)) (kk : W p l e R s m args below meth c H locs cells slots Q (F0 m (pc + 3) ls (v :: rest))) : W p l e R s m args below meth c H locs cells slots Q (F0 m pc ls (.ref a :: rest)) := va_get (D := Γ.1) (ci := 11) (C := RX10) (T := TX10) (N := 50) S.1 S.2.1 S.2.2.2.2 inlX10 S.2.2.2.1 X.1 X.2.1 q0 he rfl 43 (by decide) (S.2.2.2.2 _ fl_X10_248) (fun _ h => h) hv hdg kk
theorem pf_X10_248 {q0 a : Nat} {fs : List Value} {v : Value} (S : CallFix p m c cc nL s args BG RX10) (X : Wd E Γ A s H locs w) (he : w[q0]? = some (a, .inr (11, fs))) (hn : narrow (.int) v = v) (hf : fits (.int) v = true) (hl : 43 < fs.length) (hdg : decode cc pc = .ok (.putfield 248, 3)) (kk : ∀ (H1 : Heap) (locs1 : List Loc), Wd E Γ A s H1 locs1 (w.set q0 (a, .inr (11, fs.set 43 v))) → W p l e R s m args below meth c H1 locs1 cells slots Q (F0 m (pc + 3) ls rest)) : W p l e R s m args below meth c H locs cells slots Q (F0 m pc ls (v :: .ref a :: rest)) := va_put (D := Γ.1) (ci := 11) (C := RX10) (T := TX10) (N := 50) S.1 S.2.1 S.2.2.2.2 inlX10 tyX10 tyX10_ok nmX10 S.2.2.2.1 X.1 X.2.1 X.2.2.1 X.2.2.2.1 q0 he rfl 43 (by decide) (S.2.2.2.2 _ fl_X10_248) (fun _ h => h) rfl (ty := .int) (by decide +kernel) hn hf hl hdg (fun H1 locs1 a1 a2 a3 => kk H1 locs1 ⟨X.1, a1, a2, a3, X.2.2.2.2⟩)
theorem fl_X10_251 : Cond.fieldLink RX10 251 "HedgeCourtModel" "worth0" "I" ∈ BG := by decide +kernel
theorem gf_X10_251 {q0 a : Nat} {fs : List Value} {v : Value} (S : CallFix p m c cc nL s args BG RX10) (X : Wd E Γ A s H locs w) (he : w[q0]? = some (a, .inr (11, fs))) (hv : fs[44]? = some v) (hdg : decode cc pc = .ok (.getfield 251, 3)) (kk : W p l e R s m args below meth c H locs cells slots Q (F0 m (pc + 3) ls (v :: rest))) : W p l e R s m args below meth c H locs cells slots Q (F0 m pc ls (.ref a :: rest)) := va_get (D := Γ.1) (ci := 11) (C := RX10) (T := TX10) (N := 50) S.1 S.2.1 S.2.2.2.2 inlX10 S.2.2.2.1 X.1 X.2.1 q0 he rfl 44 (by decide) (S.2.2.2.2 _ fl_X10_251) (fun _ h => h) hv hdg kk
theorem pf_X10_251 {q0 a : Nat} {fs : List Value} {v : Value} (S : CallFix p m c cc nL s args BG RX10) (X : Wd E Γ A s H locs w) (he : w[q0]? = some (a, .inr (11, fs))) (hn : narrow (.int) v = v) (hf : fits (.int) v = true) (hl : 44 < fs.length) (hdg : decode cc pc = .ok (.putfield 251, 3)) (kk : ∀ (H1 : Heap) (locs1 : List Loc), Wd E Γ A s H1 locs1 (w.set q0 (a, .inr (11, fs.set 44 v))) → W p l e R s m args below meth c H1 locs1 cells slots Q (F0 m (pc + 3) ls rest)) : W p l e R s m args below meth c H locs cells slots Q (F0 m pc ls (v :: .ref a :: rest)) := va_put (D := Γ.1) (ci := 11) (C := RX10) (T := TX10) (N := 50) S.1 S.2.1 S.2.2.2.2 inlX10 tyX10 tyX10_ok nmX10 S.2.2.2.1 X.1 X.2.1 X.2.2.1 X.2.2.2.1 q0 he rfl 44 (by decide) (S.2.2.2.2 _ fl_X10_251) (fun _ h => h) rfl (ty := .int) (by decide +kernel) hn hf hl hdg (fun H1 locs1 a1 a2 a3 => kk H1 locs1 ⟨X.1, a1, a2, a3, X.2.2.2.2⟩)
theorem fl_X10_254 : Cond.fieldLink RX10 254 "HedgeCourtModel" "worth1" "I" ∈ BG := by decide +kernel
theorem gf_X10_254 {q0 a : Nat} {fs : List Value} {v : Value} (S : CallFix p m c cc nL s args BG RX10) (X : Wd E Γ A s H locs w) (he : w[q0]? = some (a, .inr (11, fs))) (hv : fs[45]? = some v) (hdg : decode cc pc = .ok (.getfield 254, 3)) (kk : W p l e R s m args below meth c H locs cells slots Q (F0 m (pc + 3) ls (v :: rest))) : W p l e R s m args below meth c H locs cells slots Q (F0 m pc ls (.ref a :: rest)) := va_get (D := Γ.1) (ci := 11) (C := RX10) (T := TX10) (N := 50) S.1 S.2.1 S.2.2.2.2 inlX10 S.2.2.2.1 X.1 X.2.1 q0 he rfl 45 (by decide) (S.2.2.2.2 _ fl_X10_254) (fun _ h => h) hv hdg kk
theorem pf_X10_254 {q0 a : Nat} {fs : List Value} {v : Value} (S : CallFix p m c cc nL s args BG RX10) (X : Wd E Γ A s H locs w) (he : w[q0]? = some (a, .inr (11, fs))) (hn : narrow (.int) v = v) (hf : fits (.int) v = true) (hl : 45 < fs.length) (hdg : decode cc pc = .ok (.putfield 254, 3)) (kk : ∀ (H1 : Heap) (locs1 : List Loc), Wd E Γ A s H1 locs1 (w.set q0 (a, .inr (11, fs.set 45 v))) → W p l e R s m args below meth c H1 locs1 cells slots Q (F0 m (pc + 3) ls rest)) : W p l e R s m args below meth c H locs cells slots Q (F0 m pc ls (v :: .ref a :: rest)) := va_put (D := Γ.1) (ci := 11) (C := RX10) (T := TX10) (N := 50) S.1 S.2.1 S.2.2.2.2 inlX10 tyX10 tyX10_ok nmX10 S.2.2.2.1 X.1 X.2.1 X.2.2.1 X.2.2.2.1 q0 he rfl 45 (by decide) (S.2.2.2.2 _ fl_X10_254) (fun _ h => h) rfl (ty := .int) (by decide +kernel) hn hf hl hdg (fun H1 locs1 a1 a2 a3 => kk H1 locs1 ⟨X.1, a1, a2, a3, X.2.2.2.2⟩)
theorem fl_X10_257 : Cond.fieldLink RX10 257 "HedgeCourtModel" "cost0" "I" ∈ BG := by decide +kernel
theorem gf_X10_257 {q0 a : Nat} {fs : List Value} {v : Value} (S : CallFix p m c cc nL s args BG RX10) (X : Wd E Γ A s H locs w) (he : w[q0]? = some (a, .inr (11, fs))) (hv : fs[46]? = some v) (hdg : decode cc pc = .ok (.getfield 257, 3)) (kk : W p l e R s m args below meth c H locs cells slots Q (F0 m (pc + 3) ls (v :: rest))) : W p l e R s m args below meth c H locs cells slots Q (F0 m pc ls (.ref a :: rest)) := va_get (D := Γ.1) (ci := 11) (C := RX10) (T := TX10) (N := 50) S.1 S.2.1 S.2.2.2.2 inlX10 S.2.2.2.1 X.1 X.2.1 q0 he rfl 46 (by decide) (S.2.2.2.2 _ fl_X10_257) (fun _ h => h) hv hdg kk
theorem pf_X10_257 {q0 a : Nat} {fs : List Value} {v : Value} (S : CallFix p m c cc nL s args BG RX10) (X : Wd E Γ A s H locs w) (he : w[q0]? = some (a, .inr (11, fs))) (hn : narrow (.int) v = v) (hf : fits (.int) v = true) (hl : 46 < fs.length) (hdg : decode cc pc = .ok (.putfield 257, 3)) (kk : ∀ (H1 : Heap) (locs1 : List Loc), Wd E Γ A s H1 locs1 (w.set q0 (a, .inr (11, fs.set 46 v))) → W p l e R s m args below meth c H1 locs1 cells slots Q (F0 m (pc + 3) ls rest)) : W p l e R s m args below meth c H locs cells slots Q (F0 m pc ls (v :: .ref a :: rest)) := va_put (D := Γ.1) (ci := 11) (C := RX10) (T := TX10) (N := 50) S.1 S.2.1 S.2.2.2.2 inlX10 tyX10 tyX10_ok nmX10 S.2.2.2.1 X.1 X.2.1 X.2.2.1 X.2.2.2.1 q0 he rfl 46 (by decide) (S.2.2.2.2 _ fl_X10_257) (fun _ h => h) rfl (ty := .int) (by decide +kernel) hn hf hl hdg (fun H1 locs1 a1 a2 a3 => kk H1 locs1 ⟨X.1, a1, a2, a3, X.2.2.2.2⟩)
theorem fl_X10_260 : Cond.fieldLink RX10 260 "HedgeCourtModel" "cost1" "I" ∈ BG := by decide +kernel
theorem gf_X10_260 {q0 a : Nat} {fs : List Value} {v : Value} (S : CallFix p m c cc nL s args BG RX10) (X : Wd E Γ A s H locs w) (he : w[q0]? = some (a, .inr (11, fs))) (hv : fs[47]? = some v) (hdg : decode cc pc = .ok (.getfield 260, 3)) (kk : W p l e R s m args below meth c H locs cells slots Q (F0 m (pc + 3) ls (v :: rest))) : W p l e R s m args below meth c H locs cells slots Q (F0 m pc ls (.ref a :: rest)) := va_get (D := Γ.1) (ci := 11) (C := RX10) (T := TX10) (N := 50) S.1 S.2.1 S.2.2.2.2 inlX10 S.2.2.2.1 X.1 X.2.1 q0 he rfl 47 (by decide) (S.2.2.2.2 _ fl_X10_260) (fun _ h => h) hv hdg kk
theorem pf_X10_260 {q0 a : Nat} {fs : List Value} {v : Value} (S : CallFix p m c cc nL s args BG RX10) (X : Wd E Γ A s H locs w) (he : w[q0]? = some (a, .inr (11, fs))) (hn : narrow (.int) v = v) (hf : fits (.int) v = true) (hl : 47 < fs.length) (hdg : decode cc pc = .ok (.putfield 260, 3)) (kk : ∀ (H1 : Heap) (locs1 : List Loc), Wd E Γ A s H1 locs1 (w.set q0 (a, .inr (11, fs.set 47 v))) → W p l e R s m args below meth c H1 locs1 cells slots Q (F0 m (pc + 3) ls rest)) : W p l e R s m args below meth c H locs cells slots Q (F0 m pc ls (v :: .ref a :: rest)) := va_put (D := Γ.1) (ci := 11) (C := RX10) (T := TX10) (N := 50) S.1 S.2.1 S.2.2.2.2 inlX10 tyX10 tyX10_ok nmX10 S.2.2.2.1 X.1 X.2.1 X.2.2.1 X.2.2.2.1 q0 he rfl 47 (by decide) (S.2.2.2.2 _ fl_X10_260) (fun _ h => h) rfl (ty := .int) (by decide +kernel) hn hf hl hdg (fun H1 locs1 a1 a2 a3 => kk H1 locs1 ⟨X.1, a1, a2, a3, X.2.2.2.2⟩)
theorem fl_X10_263 : Cond.fieldLink RX10 263 "HedgeCourtModel" "p" "I" ∈ BG := by decide +kernel
theorem gf_X10_263 {q0 a : Nat} {fs : List Value} {v : Value} (S : CallFix p m c cc nL s args BG RX10) (X : Wd E Γ A s H locs w) (he : w[q0]? = some (a, .inr (11, fs))) (hv : fs[48]? = some v) (hdg : decode cc pc = .ok (.getfield 263, 3)) (kk : W p l e R s m args below meth c H locs cells slots Q (F0 m (pc + 3) ls (v :: rest))) : W p l e R s m args below meth c H locs cells slots Q (F0 m pc ls (.ref a :: rest)) := va_get (D := Γ.1) (ci := 11) (C := RX10) (T := TX10) (N := 50) S.1 S.2.1 S.2.2.2.2 inlX10 S.2.2.2.1 X.1 X.2.1 q0 he rfl 48 (by decide) (S.2.2.2.2 _ fl_X10_263) (fun _ h => h) hv hdg kk
theorem pf_X10_263 {q0 a : Nat} {fs : List Value} {v : Value} (S : CallFix p m c cc nL s args BG RX10) (X : Wd E Γ A s H locs w) (he : w[q0]? = some (a, .inr (11, fs))) (hn : narrow (.int) v = v) (hf : fits (.int) v = true) (hl : 48 < fs.length) (hdg : decode cc pc = .ok (.putfield 263, 3)) (kk : ∀ (H1 : Heap) (locs1 : List Loc), Wd E Γ A s H1 locs1 (w.set q0 (a, .inr (11, fs.set 48 v))) → W p l e R s m args below meth c H1 locs1 cells slots Q (F0 m (pc + 3) ls rest)) : W p l e R s m args below meth c H locs cells slots Q (F0 m pc ls (v :: .ref a :: rest)) := va_put (D := Γ.1) (ci := 11) (C := RX10) (T := TX10) (N := 50) S.1 S.2.1 S.2.2.2.2 inlX10 tyX10 tyX10_ok nmX10 S.2.2.2.1 X.1 X.2.1 X.2.2.1 X.2.2.2.1 q0 he rfl 48 (by decide) (S.2.2.2.2 _ fl_X10_263) (fun _ h => h) rfl (ty := .int) (by decide +kernel) hn hf hl hdg (fun H1 locs1 a1 a2 a3 => kk H1 locs1 ⟨X.1, a1, a2, a3, X.2.2.2.2⟩)
theorem fl_X10_266 : Cond.fieldLink RX10 266 "HedgeCourtModel" "q" "I" ∈ BG := by decide +kernel
theorem gf_X10_266 {q0 a : Nat} {fs : List Value} {v : Value} (S : CallFix p m c cc nL s args BG RX10) (X : Wd E Γ A s H locs w) (he : w[q0]? = some (a, .inr (11, fs))) (hv : fs[49]? = some v) (hdg : decode cc pc = .ok (.getfield 266, 3)) (kk : W p l e R s m args below meth c H locs cells slots Q (F0 m (pc + 3) ls (v :: rest))) : W p l e R s m args below meth c H locs cells slots Q (F0 m pc ls (.ref a :: rest)) := va_get (D := Γ.1) (ci := 11) (C := RX10) (T := TX10) (N := 50) S.1 S.2.1 S.2.2.2.2 inlX10 S.2.2.2.1 X.1 X.2.1 q0 he rfl 49 (by decide) (S.2.2.2.2 _ fl_X10_266) (fun _ h => h) hv hdg kk
theorem pf_X10_266 {q0 a : Nat} {fs : List Value} {v : Value} (S : CallFix p m c cc nL s args BG RX10) (X : Wd E Γ A s H locs w) (he : w[q0]? = some (a, .inr (11, fs))) (hn : narrow (.int) v = v) (hf : fits (.int) v = true) (hl : 49 < fs.length) (hdg : decode cc pc = .ok (.putfield 266, 3)) (kk : ∀ (H1 : Heap) (locs1 : List Loc), Wd E Γ A s H1 locs1 (w.set q0 (a, .inr (11, fs.set 49 v))) → W p l e R s m args below meth c H1 locs1 cells slots Q (F0 m (pc + 3) ls rest)) : W p l e R s m args below meth c H locs cells slots Q (F0 m pc ls (v :: .ref a :: rest)) := va_put (D := Γ.1) (ci := 11) (C := RX10) (T := TX10) (N := 50) S.1 S.2.1 S.2.2.2.2 inlX10 tyX10 tyX10_ok nmX10 S.2.2.2.1 X.1 X.2.1 X.2.2.1 X.2.2.2.1 q0 he rfl 49 (by decide) (S.2.2.2.2 _ fl_X10_266) (fun _ h => h) rfl (ty := .int) (by decide +kernel) hn hf hl hdg (fun H1 locs1 a1 a2 a3 => kk H1 locs1 ⟨X.1, a1, a2, a3, X.2.2.2.2⟩)
theorem fl_X2_9 : Cond.fieldLink RX2 9 "HedgeCourt$Mowings" "count" "I" ∈ BG := by decide +kernel
theorem gf_X2_9 {q0 a : Nat} {fs : List Value} {v : Value} (S : CallFix p m c cc nL s args BG RX2) (X : Wd E Γ A s H locs w) (he : w[q0]? = some (a, .inr (3, fs))) (hv : fs[0]? = some v) (hdg : decode cc pc = .ok (.getfield 9, 3)) (kk : W p l e R s m args below meth c H locs cells slots Q (F0 m (pc + 3) ls (v :: rest))) : W p l e R s m args below meth c H locs cells slots Q (F0 m pc ls (.ref a :: rest)) := va_get (D := Γ.1) (ci := 3) (C := RX2) (T := TX2) (N := 8) S.1 S.2.1 S.2.2.2.2 inlX2 S.2.2.2.1 X.1 X.2.1 q0 he rfl 0 (by decide) (S.2.2.2.2 _ fl_X2_9) (fun _ h => h) hv hdg kk
theorem pf_X2_9 {q0 a : Nat} {fs : List Value} {v : Value} (S : CallFix p m c cc nL s args BG RX2) (X : Wd E Γ A s H locs w) (he : w[q0]? = some (a, .inr (3, fs))) (hn : narrow (.int) v = v) (hf : fits (.int) v = true) (hl : 0 < fs.length) (hdg : decode cc pc = .ok (.putfield 9, 3)) (kk : ∀ (H1 : Heap) (locs1 : List Loc), Wd E Γ A s H1 locs1 (w.set q0 (a, .inr (3, fs.set 0 v))) → W p l e R s m args below meth c H1 locs1 cells slots Q (F0 m (pc + 3) ls rest)) : W p l e R s m args below meth c H locs cells slots Q (F0 m pc ls (v :: .ref a :: rest)) := va_put (D := Γ.1) (ci := 3) (C := RX2) (T := TX2) (N := 8) S.1 S.2.1 S.2.2.2.2 inlX2 tyX2 tyX2_ok nmX2 S.2.2.2.1 X.1 X.2.1 X.2.2.1 X.2.2.2.1 q0 he rfl 0 (by decide) (S.2.2.2.2 _ fl_X2_9) (fun _ h => h) rfl (ty := .int) (by decide +kernel) hn hf hl hdg (fun H1 locs1 a1 a2 a3 => kk H1 locs1 ⟨X.1, a1, a2, a3, X.2.2.2.2⟩)
theorem fl_X2_15 : Cond.fieldLink RX2 15 "HedgeCourt$Mowings" "years" "[I" ∈ BG := by decide +kernel
theorem gf_X2_15 {q0 a : Nat} {fs : List Value} {v : Value} (S : CallFix p m c cc nL s args BG RX2) (X : Wd E Γ A s H locs w) (he : w[q0]? = some (a, .inr (3, fs))) (hv : fs[1]? = some v) (hdg : decode cc pc = .ok (.getfield 15, 3)) (kk : W p l e R s m args below meth c H locs cells slots Q (F0 m (pc + 3) ls (v :: rest))) : W p l e R s m args below meth c H locs cells slots Q (F0 m pc ls (.ref a :: rest)) := va_get (D := Γ.1) (ci := 3) (C := RX2) (T := TX2) (N := 8) S.1 S.2.1 S.2.2.2.2 inlX2 S.2.2.2.1 X.1 X.2.1 q0 he rfl 1 (by decide) (S.2.2.2.2 _ fl_X2_15) (fun _ h => h) hv hdg kk
theorem pF_X2_15 {q0 a : Nat} {fs : List Value} {v : Value} (S : CallFix p m c cc nL s args BG RX2) (hin : meth.name = "<init>") (X : Wd E Γ A s H locs w) (he : w[q0]? = some (a, .inr (3, fs))) (hn : narrow (.array .int) v = v) (hf : fits (.array .int) v = true) (hl : 1 < fs.length) (hdg : decode cc pc = .ok (.putfield 15, 3)) (kk : ∀ (H1 : Heap) (locs1 : List Loc), Wd E Γ A s H1 locs1 (w.set q0 (a, .inr (3, fs.set 1 v))) → W p l e R s m args below meth c H1 locs1 cells slots Q (F0 m (pc + 3) ls rest)) : W p l e R s m args below meth c H locs cells slots Q (F0 m pc ls (v :: .ref a :: rest)) := va_putF (D := Γ.1) (ci := 3) (C := RX2) (T := TX2) (N := 8) S.1 S.2.1 S.2.2.2.2 inlX2 tyX2 tyX2_ok nmX2 S.2.2.2.1 X.1 X.2.1 X.2.2.1 X.2.2.2.1 q0 he rfl 1 (by decide) (S.2.2.2.2 _ fl_X2_15) (fun _ h => h) rfl hin rfl (ty := .array .int) (by decide +kernel) hn hf hl hdg (fun H1 locs1 a1 a2 a3 => kk H1 locs1 ⟨X.1, a1, a2, a3, X.2.2.2.2⟩)
theorem fl_X2_19 : Cond.fieldLink RX2 19 "HedgeCourt$Mowings" "yearCount" "I" ∈ BG := by decide +kernel
theorem gf_X2_19 {q0 a : Nat} {fs : List Value} {v : Value} (S : CallFix p m c cc nL s args BG RX2) (X : Wd E Γ A s H locs w) (he : w[q0]? = some (a, .inr (3, fs))) (hv : fs[2]? = some v) (hdg : decode cc pc = .ok (.getfield 19, 3)) (kk : W p l e R s m args below meth c H locs cells slots Q (F0 m (pc + 3) ls (v :: rest))) : W p l e R s m args below meth c H locs cells slots Q (F0 m pc ls (.ref a :: rest)) := va_get (D := Γ.1) (ci := 3) (C := RX2) (T := TX2) (N := 8) S.1 S.2.1 S.2.2.2.2 inlX2 S.2.2.2.1 X.1 X.2.1 q0 he rfl 2 (by decide) (S.2.2.2.2 _ fl_X2_19) (fun _ h => h) hv hdg kk
theorem pf_X2_19 {q0 a : Nat} {fs : List Value} {v : Value} (S : CallFix p m c cc nL s args BG RX2) (X : Wd E Γ A s H locs w) (he : w[q0]? = some (a, .inr (3, fs))) (hn : narrow (.int) v = v) (hf : fits (.int) v = true) (hl : 2 < fs.length) (hdg : decode cc pc = .ok (.putfield 19, 3)) (kk : ∀ (H1 : Heap) (locs1 : List Loc), Wd E Γ A s H1 locs1 (w.set q0 (a, .inr (3, fs.set 2 v))) → W p l e R s m args below meth c H1 locs1 cells slots Q (F0 m (pc + 3) ls rest)) : W p l e R s m args below meth c H locs cells slots Q (F0 m pc ls (v :: .ref a :: rest)) := va_put (D := Γ.1) (ci := 3) (C := RX2) (T := TX2) (N := 8) S.1 S.2.1 S.2.2.2.2 inlX2 tyX2 tyX2_ok nmX2 S.2.2.2.1 X.1 X.2.1 X.2.2.1 X.2.2.2.1 q0 he rfl 2 (by decide) (S.2.2.2.2 _ fl_X2_19) (fun _ h => h) rfl (ty := .int) (by decide +kernel) hn hf hl hdg (fun H1 locs1 a1 a2 a3 => kk H1 locs1 ⟨X.1, a1, a2, a3, X.2.2.2.2⟩)
theorem fl_X2_22 : Cond.fieldLink RX2 22 "HedgeCourt$Mowings" "who" "[I" ∈ BG := by decide +kernel
theorem gf_X2_22 {q0 a : Nat} {fs : List Value} {v : Value} (S : CallFix p m c cc nL s args BG RX2) (X : Wd E Γ A s H locs w) (he : w[q0]? = some (a, .inr (3, fs))) (hv : fs[3]? = some v) (hdg : decode cc pc = .ok (.getfield 22, 3)) (kk : W p l e R s m args below meth c H locs cells slots Q (F0 m (pc + 3) ls (v :: rest))) : W p l e R s m args below meth c H locs cells slots Q (F0 m pc ls (.ref a :: rest)) := va_get (D := Γ.1) (ci := 3) (C := RX2) (T := TX2) (N := 8) S.1 S.2.1 S.2.2.2.2 inlX2 S.2.2.2.1 X.1 X.2.1 q0 he rfl 3 (by decide) (S.2.2.2.2 _ fl_X2_22) (fun _ h => h) hv hdg kk
theorem pF_X2_22 {q0 a : Nat} {fs : List Value} {v : Value} (S : CallFix p m c cc nL s args BG RX2) (hin : meth.name = "<init>") (X : Wd E Γ A s H locs w) (he : w[q0]? = some (a, .inr (3, fs))) (hn : narrow (.array .int) v = v) (hf : fits (.array .int) v = true) (hl : 3 < fs.length) (hdg : decode cc pc = .ok (.putfield 22, 3)) (kk : ∀ (H1 : Heap) (locs1 : List Loc), Wd E Γ A s H1 locs1 (w.set q0 (a, .inr (3, fs.set 3 v))) → W p l e R s m args below meth c H1 locs1 cells slots Q (F0 m (pc + 3) ls rest)) : W p l e R s m args below meth c H locs cells slots Q (F0 m pc ls (v :: .ref a :: rest)) := va_putF (D := Γ.1) (ci := 3) (C := RX2) (T := TX2) (N := 8) S.1 S.2.1 S.2.2.2.2 inlX2 tyX2 tyX2_ok nmX2 S.2.2.2.1 X.1 X.2.1 X.2.2.1 X.2.2.2.1 q0 he rfl 3 (by decide) (S.2.2.2.2 _ fl_X2_22) (fun _ h => h) rfl hin rfl (ty := .array .int) (by decide +kernel) hn hf hl hdg (fun H1 locs1 a1 a2 a3 => kk H1 locs1 ⟨X.1, a1, a2, a3, X.2.2.2.2⟩)
theorem fl_X2_25 : Cond.fieldLink RX2 25 "HedgeCourt$Mowings" "from" "[I" ∈ BG := by decide +kernel
theorem gf_X2_25 {q0 a : Nat} {fs : List Value} {v : Value} (S : CallFix p m c cc nL s args BG RX2) (X : Wd E Γ A s H locs w) (he : w[q0]? = some (a, .inr (3, fs))) (hv : fs[4]? = some v) (hdg : decode cc pc = .ok (.getfield 25, 3)) (kk : W p l e R s m args below meth c H locs cells slots Q (F0 m (pc + 3) ls (v :: rest))) : W p l e R s m args below meth c H locs cells slots Q (F0 m pc ls (.ref a :: rest)) := va_get (D := Γ.1) (ci := 3) (C := RX2) (T := TX2) (N := 8) S.1 S.2.1 S.2.2.2.2 inlX2 S.2.2.2.1 X.1 X.2.1 q0 he rfl 4 (by decide) (S.2.2.2.2 _ fl_X2_25) (fun _ h => h) hv hdg kk
theorem pF_X2_25 {q0 a : Nat} {fs : List Value} {v : Value} (S : CallFix p m c cc nL s args BG RX2) (hin : meth.name = "<init>") (X : Wd E Γ A s H locs w) (he : w[q0]? = some (a, .inr (3, fs))) (hn : narrow (.array .int) v = v) (hf : fits (.array .int) v = true) (hl : 4 < fs.length) (hdg : decode cc pc = .ok (.putfield 25, 3)) (kk : ∀ (H1 : Heap) (locs1 : List Loc), Wd E Γ A s H1 locs1 (w.set q0 (a, .inr (3, fs.set 4 v))) → W p l e R s m args below meth c H1 locs1 cells slots Q (F0 m (pc + 3) ls rest)) : W p l e R s m args below meth c H locs cells slots Q (F0 m pc ls (v :: .ref a :: rest)) := va_putF (D := Γ.1) (ci := 3) (C := RX2) (T := TX2) (N := 8) S.1 S.2.1 S.2.2.2.2 inlX2 tyX2 tyX2_ok nmX2 S.2.2.2.1 X.1 X.2.1 X.2.2.1 X.2.2.2.1 q0 he rfl 4 (by decide) (S.2.2.2.2 _ fl_X2_25) (fun _ h => h) rfl hin rfl (ty := .array .int) (by decide +kernel) hn hf hl hdg (fun H1 locs1 a1 a2 a3 => kk H1 locs1 ⟨X.1, a1, a2, a3, X.2.2.2.2⟩)
theorem fl_X2_28 : Cond.fieldLink RX2 28 "HedgeCourt$Mowings" "to" "[I" ∈ BG := by decide +kernel
theorem gf_X2_28 {q0 a : Nat} {fs : List Value} {v : Value} (S : CallFix p m c cc nL s args BG RX2) (X : Wd E Γ A s H locs w) (he : w[q0]? = some (a, .inr (3, fs))) (hv : fs[5]? = some v) (hdg : decode cc pc = .ok (.getfield 28, 3)) (kk : W p l e R s m args below meth c H locs cells slots Q (F0 m (pc + 3) ls (v :: rest))) : W p l e R s m args below meth c H locs cells slots Q (F0 m pc ls (.ref a :: rest)) := va_get (D := Γ.1) (ci := 3) (C := RX2) (T := TX2) (N := 8) S.1 S.2.1 S.2.2.2.2 inlX2 S.2.2.2.1 X.1 X.2.1 q0 he rfl 5 (by decide) (S.2.2.2.2 _ fl_X2_28) (fun _ h => h) hv hdg kk
theorem pF_X2_28 {q0 a : Nat} {fs : List Value} {v : Value} (S : CallFix p m c cc nL s args BG RX2) (hin : meth.name = "<init>") (X : Wd E Γ A s H locs w) (he : w[q0]? = some (a, .inr (3, fs))) (hn : narrow (.array .int) v = v) (hf : fits (.array .int) v = true) (hl : 5 < fs.length) (hdg : decode cc pc = .ok (.putfield 28, 3)) (kk : ∀ (H1 : Heap) (locs1 : List Loc), Wd E Γ A s H1 locs1 (w.set q0 (a, .inr (3, fs.set 5 v))) → W p l e R s m args below meth c H1 locs1 cells slots Q (F0 m (pc + 3) ls rest)) : W p l e R s m args below meth c H locs cells slots Q (F0 m pc ls (v :: .ref a :: rest)) := va_putF (D := Γ.1) (ci := 3) (C := RX2) (T := TX2) (N := 8) S.1 S.2.1 S.2.2.2.2 inlX2 tyX2 tyX2_ok nmX2 S.2.2.2.1 X.1 X.2.1 X.2.2.1 X.2.2.2.1 q0 he rfl 5 (by decide) (S.2.2.2.2 _ fl_X2_28) (fun _ h => h) rfl hin rfl (ty := .array .int) (by decide +kernel) hn hf hl hdg (fun H1 locs1 a1 a2 a3 => kk H1 locs1 ⟨X.1, a1, a2, a3, X.2.2.2.2⟩)
theorem fl_X2_31 : Cond.fieldLink RX2 31 "HedgeCourt$Mowings" "reach" "[I" ∈ BG := by decide +kernel
theorem gf_X2_31 {q0 a : Nat} {fs : List Value} {v : Value} (S : CallFix p m c cc nL s args BG RX2) (X : Wd E Γ A s H locs w) (he : w[q0]? = some (a, .inr (3, fs))) (hv : fs[6]? = some v) (hdg : decode cc pc = .ok (.getfield 31, 3)) (kk : W p l e R s m args below meth c H locs cells slots Q (F0 m (pc + 3) ls (v :: rest))) : W p l e R s m args below meth c H locs cells slots Q (F0 m pc ls (.ref a :: rest)) := va_get (D := Γ.1) (ci := 3) (C := RX2) (T := TX2) (N := 8) S.1 S.2.1 S.2.2.2.2 inlX2 S.2.2.2.1 X.1 X.2.1 q0 he rfl 6 (by decide) (S.2.2.2.2 _ fl_X2_31) (fun _ h => h) hv hdg kk
theorem pF_X2_31 {q0 a : Nat} {fs : List Value} {v : Value} (S : CallFix p m c cc nL s args BG RX2) (hin : meth.name = "<init>") (X : Wd E Γ A s H locs w) (he : w[q0]? = some (a, .inr (3, fs))) (hn : narrow (.array .int) v = v) (hf : fits (.array .int) v = true) (hl : 6 < fs.length) (hdg : decode cc pc = .ok (.putfield 31, 3)) (kk : ∀ (H1 : Heap) (locs1 : List Loc), Wd E Γ A s H1 locs1 (w.set q0 (a, .inr (3, fs.set 6 v))) → W p l e R s m args below meth c H1 locs1 cells slots Q (F0 m (pc + 3) ls rest)) : W p l e R s m args below meth c H locs cells slots Q (F0 m pc ls (v :: .ref a :: rest)) := va_putF (D := Γ.1) (ci := 3) (C := RX2) (T := TX2) (N := 8) S.1 S.2.1 S.2.2.2.2 inlX2 tyX2 tyX2_ok nmX2 S.2.2.2.1 X.1 X.2.1 X.2.2.1 X.2.2.2.1 q0 he rfl 6 (by decide) (S.2.2.2.2 _ fl_X2_31) (fun _ h => h) rfl hin rfl (ty := .array .int) (by decide +kernel) hn hf hl hdg (fun H1 locs1 a1 a2 a3 => kk H1 locs1 ⟨X.1, a1, a2, a3, X.2.2.2.2⟩)
theorem fl_X2_34 : Cond.fieldLink RX2 34 "HedgeCourt$Mowings" "when" "[I" ∈ BG := by decide +kernel
theorem gf_X2_34 {q0 a : Nat} {fs : List Value} {v : Value} (S : CallFix p m c cc nL s args BG RX2) (X : Wd E Γ A s H locs w) (he : w[q0]? = some (a, .inr (3, fs))) (hv : fs[7]? = some v) (hdg : decode cc pc = .ok (.getfield 34, 3)) (kk : W p l e R s m args below meth c H locs cells slots Q (F0 m (pc + 3) ls (v :: rest))) : W p l e R s m args below meth c H locs cells slots Q (F0 m pc ls (.ref a :: rest)) := va_get (D := Γ.1) (ci := 3) (C := RX2) (T := TX2) (N := 8) S.1 S.2.1 S.2.2.2.2 inlX2 S.2.2.2.1 X.1 X.2.1 q0 he rfl 7 (by decide) (S.2.2.2.2 _ fl_X2_34) (fun _ h => h) hv hdg kk
theorem pF_X2_34 {q0 a : Nat} {fs : List Value} {v : Value} (S : CallFix p m c cc nL s args BG RX2) (hin : meth.name = "<init>") (X : Wd E Γ A s H locs w) (he : w[q0]? = some (a, .inr (3, fs))) (hn : narrow (.array .int) v = v) (hf : fits (.array .int) v = true) (hl : 7 < fs.length) (hdg : decode cc pc = .ok (.putfield 34, 3)) (kk : ∀ (H1 : Heap) (locs1 : List Loc), Wd E Γ A s H1 locs1 (w.set q0 (a, .inr (3, fs.set 7 v))) → W p l e R s m args below meth c H1 locs1 cells slots Q (F0 m (pc + 3) ls rest)) : W p l e R s m args below meth c H locs cells slots Q (F0 m pc ls (v :: .ref a :: rest)) := va_putF (D := Γ.1) (ci := 3) (C := RX2) (T := TX2) (N := 8) S.1 S.2.1 S.2.2.2.2 inlX2 tyX2 tyX2_ok nmX2 S.2.2.2.1 X.1 X.2.1 X.2.2.1 X.2.2.2.1 q0 he rfl 7 (by decide) (S.2.2.2.2 _ fl_X2_34) (fun _ h => h) rfl hin rfl (ty := .array .int) (by decide +kernel) hn hf hl hdg (fun H1 locs1 a1 a2 a3 => kk H1 locs1 ⟨X.1, a1, a2, a3, X.2.2.2.2⟩)
theorem fl_X3_9 : Cond.fieldLink RX3 9 "HedgeCourt$PaperLine" "feet" "[I" ∈ BG := by decide +kernel
theorem gf_X3_9 {q0 a : Nat} {fs : List Value} {v : Value} (S : CallFix p m c cc nL s args BG RX3) (X : Wd E Γ A s H locs w) (he : w[q0]? = some (a, .inr (4, fs))) (hv : fs[0]? = some v) (hdg : decode cc pc = .ok (.getfield 9, 3)) (kk : W p l e R s m args below meth c H locs cells slots Q (F0 m (pc + 3) ls (v :: rest))) : W p l e R s m args below meth c H locs cells slots Q (F0 m pc ls (.ref a :: rest)) := va_get (D := Γ.1) (ci := 4) (C := RX3) (T := TX3) (N := 3) S.1 S.2.1 S.2.2.2.2 inlX3 S.2.2.2.1 X.1 X.2.1 q0 he rfl 0 (by decide) (S.2.2.2.2 _ fl_X3_9) (fun _ h => h) hv hdg kk
theorem pF_X3_9 {q0 a : Nat} {fs : List Value} {v : Value} (S : CallFix p m c cc nL s args BG RX3) (hin : meth.name = "<init>") (X : Wd E Γ A s H locs w) (he : w[q0]? = some (a, .inr (4, fs))) (hn : narrow (.array .int) v = v) (hf : fits (.array .int) v = true) (hl : 0 < fs.length) (hdg : decode cc pc = .ok (.putfield 9, 3)) (kk : ∀ (H1 : Heap) (locs1 : List Loc), Wd E Γ A s H1 locs1 (w.set q0 (a, .inr (4, fs.set 0 v))) → W p l e R s m args below meth c H1 locs1 cells slots Q (F0 m (pc + 3) ls rest)) : W p l e R s m args below meth c H locs cells slots Q (F0 m pc ls (v :: .ref a :: rest)) := va_putF (D := Γ.1) (ci := 4) (C := RX3) (T := TX3) (N := 3) S.1 S.2.1 S.2.2.2.2 inlX3 tyX3 tyX3_ok nmX3 S.2.2.2.1 X.1 X.2.1 X.2.2.1 X.2.2.2.1 q0 he rfl 0 (by decide) (S.2.2.2.2 _ fl_X3_9) (fun _ h => h) rfl hin rfl (ty := .array .int) (by decide +kernel) hn hf hl hdg (fun H1 locs1 a1 a2 a3 => kk H1 locs1 ⟨X.1, a1, a2, a3, X.2.2.2.2⟩)
theorem fl_X3_15 : Cond.fieldLink RX3 15 "HedgeCourt$PaperLine" "cost" "I" ∈ BG := by decide +kernel
theorem gf_X3_15 {q0 a : Nat} {fs : List Value} {v : Value} (S : CallFix p m c cc nL s args BG RX3) (X : Wd E Γ A s H locs w) (he : w[q0]? = some (a, .inr (4, fs))) (hv : fs[1]? = some v) (hdg : decode cc pc = .ok (.getfield 15, 3)) (kk : W p l e R s m args below meth c H locs cells slots Q (F0 m (pc + 3) ls (v :: rest))) : W p l e R s m args below meth c H locs cells slots Q (F0 m pc ls (.ref a :: rest)) := va_get (D := Γ.1) (ci := 4) (C := RX3) (T := TX3) (N := 3) S.1 S.2.1 S.2.2.2.2 inlX3 S.2.2.2.1 X.1 X.2.1 q0 he rfl 1 (by decide) (S.2.2.2.2 _ fl_X3_15) (fun _ h => h) hv hdg kk
theorem pf_X3_15 {q0 a : Nat} {fs : List Value} {v : Value} (S : CallFix p m c cc nL s args BG RX3) (X : Wd E Γ A s H locs w) (he : w[q0]? = some (a, .inr (4, fs))) (hn : narrow (.int) v = v) (hf : fits (.int) v = true) (hl : 1 < fs.length) (hdg : decode cc pc = .ok (.putfield 15, 3)) (kk : ∀ (H1 : Heap) (locs1 : List Loc), Wd E Γ A s H1 locs1 (w.set q0 (a, .inr (4, fs.set 1 v))) → W p l e R s m args below meth c H1 locs1 cells slots Q (F0 m (pc + 3) ls rest)) : W p l e R s m args below meth c H locs cells slots Q (F0 m pc ls (v :: .ref a :: rest)) := va_put (D := Γ.1) (ci := 4) (C := RX3) (T := TX3) (N := 3) S.1 S.2.1 S.2.2.2.2 inlX3 tyX3 tyX3_ok nmX3 S.2.2.2.1 X.1 X.2.1 X.2.2.1 X.2.2.2.1 q0 he rfl 1 (by decide) (S.2.2.2.2 _ fl_X3_15) (fun _ h => h) rfl (ty := .int) (by decide +kernel) hn hf hl hdg (fun H1 locs1 a1 a2 a3 => kk H1 locs1 ⟨X.1, a1, a2, a3, X.2.2.2.2⟩)
theorem fl_X3_21 : Cond.fieldLink RX3 21 "HedgeCourt$PaperLine" "onward" "[[I" ∈ BG := by decide +kernel
theorem gf_X3_21 {q0 a : Nat} {fs : List Value} {v : Value} (S : CallFix p m c cc nL s args BG RX3) (X : Wd E Γ A s H locs w) (he : w[q0]? = some (a, .inr (4, fs))) (hv : fs[2]? = some v) (hdg : decode cc pc = .ok (.getfield 21, 3)) (kk : W p l e R s m args below meth c H locs cells slots Q (F0 m (pc + 3) ls (v :: rest))) : W p l e R s m args below meth c H locs cells slots Q (F0 m pc ls (.ref a :: rest)) := va_get (D := Γ.1) (ci := 4) (C := RX3) (T := TX3) (N := 3) S.1 S.2.1 S.2.2.2.2 inlX3 S.2.2.2.1 X.1 X.2.1 q0 he rfl 2 (by decide) (S.2.2.2.2 _ fl_X3_21) (fun _ h => h) hv hdg kk
theorem pF_X3_21 {q0 a : Nat} {fs : List Value} {v : Value} (S : CallFix p m c cc nL s args BG RX3) (hin : meth.name = "<init>") (X : Wd E Γ A s H locs w) (he : w[q0]? = some (a, .inr (4, fs))) (hn : narrow (.array (.array .int)) v = v) (hf : fits (.array (.array .int)) v = true) (hl : 2 < fs.length) (hdg : decode cc pc = .ok (.putfield 21, 3)) (kk : ∀ (H1 : Heap) (locs1 : List Loc), Wd E Γ A s H1 locs1 (w.set q0 (a, .inr (4, fs.set 2 v))) → W p l e R s m args below meth c H1 locs1 cells slots Q (F0 m (pc + 3) ls rest)) : W p l e R s m args below meth c H locs cells slots Q (F0 m pc ls (v :: .ref a :: rest)) := va_putF (D := Γ.1) (ci := 4) (C := RX3) (T := TX3) (N := 3) S.1 S.2.1 S.2.2.2.2 inlX3 tyX3 tyX3_ok nmX3 S.2.2.2.1 X.1 X.2.1 X.2.2.1 X.2.2.2.1 q0 he rfl 2 (by decide) (S.2.2.2.2 _ fl_X3_21) (fun _ h => h) rfl hin rfl (ty := .array (.array .int)) (by decide +kernel) hn hf hl hdg (fun H1 locs1 a1 a2 a3 => kk H1 locs1 ⟨X.1, a1, a2, a3, X.2.2.2.2⟩)
theorem fl_X3_30 : Cond.fieldLink RX3 30 "HedgeCourt$Law" "bend" "I" ∈ BG := by decide +kernel
theorem gf_X3_30 {q0 a : Nat} {fs : List Value} {v : Value} (S : CallFix p m c cc nL s args BG RX3) (X : Wd E Γ A s H locs w) (he : w[q0]? = some (a, .inr (1, fs))) (hv : fs[4]? = some v) (hdg : decode cc pc = .ok (.getfield 30, 3)) (kk : W p l e R s m args below meth c H locs cells slots Q (F0 m (pc + 3) ls (v :: rest))) : W p l e R s m args below meth c H locs cells slots Q (F0 m pc ls (.ref a :: rest)) := va_get (D := Γ.1) (ci := 1) (C := RX0) (T := TX0) (N := 5) S.1 S.2.1 S.2.2.2.2 inlX0 S.2.2.2.1 X.1 X.2.1 q0 he rfl 4 (by decide) (S.2.2.2.2 _ fl_X3_30) (fun _ h => h) hv hdg kk
theorem pf_X3_30 {q0 a : Nat} {fs : List Value} {v : Value} (S : CallFix p m c cc nL s args BG RX3) (X : Wd E Γ A s H locs w) (he : w[q0]? = some (a, .inr (1, fs))) (hn : narrow (.int) v = v) (hf : fits (.int) v = true) (hl : 4 < fs.length) (hdg : decode cc pc = .ok (.putfield 30, 3)) (kk : ∀ (H1 : Heap) (locs1 : List Loc), Wd E Γ A s H1 locs1 (w.set q0 (a, .inr (1, fs.set 4 v))) → W p l e R s m args below meth c H1 locs1 cells slots Q (F0 m (pc + 3) ls rest)) : W p l e R s m args below meth c H locs cells slots Q (F0 m pc ls (v :: .ref a :: rest)) := va_put (D := Γ.1) (ci := 1) (C := RX0) (T := TX0) (N := 5) S.1 S.2.1 S.2.2.2.2 inlX0 tyX0 tyX0_ok nmX0 S.2.2.2.1 X.1 X.2.1 X.2.2.1 X.2.2.2.1 q0 he rfl 4 (by decide) (S.2.2.2.2 _ fl_X3_30) (fun _ h => h) rfl (ty := .int) (by decide +kernel) hn hf hl hdg (fun H1 locs1 a1 a2 a3 => kk H1 locs1 ⟨X.1, a1, a2, a3, X.2.2.2.2⟩)
theorem fl_X3_75 : Cond.fieldLink RX3 75 "HedgeCourt$Law" "weight" "[I" ∈ BG := by decide +kernel
theorem gf_X3_75 {q0 a : Nat} {fs : List Value} {v : Value} (S : CallFix p m c cc nL s args BG RX3) (X : Wd E Γ A s H locs w) (he : w[q0]? = some (a, .inr (1, fs))) (hv : fs[0]? = some v) (hdg : decode cc pc = .ok (.getfield 75, 3)) (kk : W p l e R s m args below meth c H locs cells slots Q (F0 m (pc + 3) ls (v :: rest))) : W p l e R s m args below meth c H locs cells slots Q (F0 m pc ls (.ref a :: rest)) := va_get (D := Γ.1) (ci := 1) (C := RX0) (T := TX0) (N := 5) S.1 S.2.1 S.2.2.2.2 inlX0 S.2.2.2.1 X.1 X.2.1 q0 he rfl 0 (by decide) (S.2.2.2.2 _ fl_X3_75) (fun _ h => h) hv hdg kk
theorem fl_X3_78 : Cond.fieldLink RX3 78 "HedgeCourt$Saying" "kind" "I" ∈ BG := by decide +kernel
theorem gf_X3_78 {q0 a : Nat} {fs : List Value} {v : Value} (S : CallFix p m c cc nL s args BG RX3) (X : Wd E Γ A s H locs w) (he : w[q0]? = some (a, .inr (7, fs))) (hv : fs[0]? = some v) (hdg : decode cc pc = .ok (.getfield 78, 3)) (kk : W p l e R s m args below meth c H locs cells slots Q (F0 m (pc + 3) ls (v :: rest))) : W p l e R s m args below meth c H locs cells slots Q (F0 m pc ls (.ref a :: rest)) := va_get (D := Γ.1) (ci := 7) (C := RX6) (T := TX6) (N := 7) S.1 S.2.1 S.2.2.2.2 inlX6 S.2.2.2.1 X.1 X.2.1 q0 he rfl 0 (by decide) (S.2.2.2.2 _ fl_X3_78) (fun _ h => h) hv hdg kk
theorem fl_X3_81 : Cond.fieldLink RX3 81 "HedgeCourt$Saying" "low" "I" ∈ BG := by decide +kernel
theorem gf_X3_81 {q0 a : Nat} {fs : List Value} {v : Value} (S : CallFix p m c cc nL s args BG RX3) (X : Wd E Γ A s H locs w) (he : w[q0]? = some (a, .inr (7, fs))) (hv : fs[3]? = some v) (hdg : decode cc pc = .ok (.getfield 81, 3)) (kk : W p l e R s m args below meth c H locs cells slots Q (F0 m (pc + 3) ls (v :: rest))) : W p l e R s m args below meth c H locs cells slots Q (F0 m pc ls (.ref a :: rest)) := va_get (D := Γ.1) (ci := 7) (C := RX6) (T := TX6) (N := 7) S.1 S.2.1 S.2.2.2.2 inlX6 S.2.2.2.1 X.1 X.2.1 q0 he rfl 3 (by decide) (S.2.2.2.2 _ fl_X3_81) (fun _ h => h) hv hdg kk
theorem fl_X3_88 : Cond.fieldLink RX3 88 "HedgeCourt$Saying" "high" "I" ∈ BG := by decide +kernel
theorem gf_X3_88 {q0 a : Nat} {fs : List Value} {v : Value} (S : CallFix p m c cc nL s args BG RX3) (X : Wd E Γ A s H locs w) (he : w[q0]? = some (a, .inr (7, fs))) (hv : fs[4]? = some v) (hdg : decode cc pc = .ok (.getfield 88, 3)) (kk : W p l e R s m args below meth c H locs cells slots Q (F0 m (pc + 3) ls (v :: rest))) : W p l e R s m args below meth c H locs cells slots Q (F0 m pc ls (.ref a :: rest)) := va_get (D := Γ.1) (ci := 7) (C := RX6) (T := TX6) (N := 7) S.1 S.2.1 S.2.2.2.2 inlX6 S.2.2.2.1 X.1 X.2.1 q0 he rfl 4 (by decide) (S.2.2.2.2 _ fl_X3_88) (fun _ h => h) hv hdg kk
theorem fl_X4_9 : Cond.fieldLink RX4 9 "HedgeCourt$Protests" "station" "[I" ∈ BG := by decide +kernel
theorem gf_X4_9 {q0 a : Nat} {fs : List Value} {v : Value} (S : CallFix p m c cc nL s args BG RX4) (X : Wd E Γ A s H locs w) (he : w[q0]? = some (a, .inr (5, fs))) (hv : fs[0]? = some v) (hdg : decode cc pc = .ok (.getfield 9, 3)) (kk : W p l e R s m args below meth c H locs cells slots Q (F0 m (pc + 3) ls (v :: rest))) : W p l e R s m args below meth c H locs cells slots Q (F0 m pc ls (.ref a :: rest)) := va_get (D := Γ.1) (ci := 5) (C := RX4) (T := TX4) (N := 3) S.1 S.2.1 S.2.2.2.2 inlX4 S.2.2.2.1 X.1 X.2.1 q0 he rfl 0 (by decide) (S.2.2.2.2 _ fl_X4_9) (fun _ h => h) hv hdg kk
theorem pF_X4_9 {q0 a : Nat} {fs : List Value} {v : Value} (S : CallFix p m c cc nL s args BG RX4) (hin : meth.name = "<init>") (X : Wd E Γ A s H locs w) (he : w[q0]? = some (a, .inr (5, fs))) (hn : narrow (.array .int) v = v) (hf : fits (.array .int) v = true) (hl : 0 < fs.length) (hdg : decode cc pc = .ok (.putfield 9, 3)) (kk : ∀ (H1 : Heap) (locs1 : List Loc), Wd E Γ A s H1 locs1 (w.set q0 (a, .inr (5, fs.set 0 v))) → W p l e R s m args below meth c H1 locs1 cells slots Q (F0 m (pc + 3) ls rest)) : W p l e R s m args below meth c H locs cells slots Q (F0 m pc ls (v :: .ref a :: rest)) := va_putF (D := Γ.1) (ci := 5) (C := RX4) (T := TX4) (N := 3) S.1 S.2.1 S.2.2.2.2 inlX4 tyX4 tyX4_ok nmX4 S.2.2.2.1 X.1 X.2.1 X.2.2.1 X.2.2.2.1 q0 he rfl 0 (by decide) (S.2.2.2.2 _ fl_X4_9) (fun _ h => h) rfl hin rfl (ty := .array .int) (by decide +kernel) hn hf hl hdg (fun H1 locs1 a1 a2 a3 => kk H1 locs1 ⟨X.1, a1, a2, a3, X.2.2.2.2⟩)
theorem fl_X4_15 : Cond.fieldLink RX4 15 "HedgeCourt$Protests" "when" "[I" ∈ BG := by decide +kernel
theorem gf_X4_15 {q0 a : Nat} {fs : List Value} {v : Value} (S : CallFix p m c cc nL s args BG RX4) (X : Wd E Γ A s H locs w) (he : w[q0]? = some (a, .inr (5, fs))) (hv : fs[1]? = some v) (hdg : decode cc pc = .ok (.getfield 15, 3)) (kk : W p l e R s m args below meth c H locs cells slots Q (F0 m (pc + 3) ls (v :: rest))) : W p l e R s m args below meth c H locs cells slots Q (F0 m pc ls (.ref a :: rest)) := va_get (D := Γ.1) (ci := 5) (C := RX4) (T := TX4) (N := 3) S.1 S.2.1 S.2.2.2.2 inlX4 S.2.2.2.1 X.1 X.2.1 q0 he rfl 1 (by decide) (S.2.2.2.2 _ fl_X4_15) (fun _ h => h) hv hdg kk
theorem pF_X4_15 {q0 a : Nat} {fs : List Value} {v : Value} (S : CallFix p m c cc nL s args BG RX4) (hin : meth.name = "<init>") (X : Wd E Γ A s H locs w) (he : w[q0]? = some (a, .inr (5, fs))) (hn : narrow (.array .int) v = v) (hf : fits (.array .int) v = true) (hl : 1 < fs.length) (hdg : decode cc pc = .ok (.putfield 15, 3)) (kk : ∀ (H1 : Heap) (locs1 : List Loc), Wd E Γ A s H1 locs1 (w.set q0 (a, .inr (5, fs.set 1 v))) → W p l e R s m args below meth c H1 locs1 cells slots Q (F0 m (pc + 3) ls rest)) : W p l e R s m args below meth c H locs cells slots Q (F0 m pc ls (v :: .ref a :: rest)) := va_putF (D := Γ.1) (ci := 5) (C := RX4) (T := TX4) (N := 3) S.1 S.2.1 S.2.2.2.2 inlX4 tyX4 tyX4_ok nmX4 S.2.2.2.1 X.1 X.2.1 X.2.2.1 X.2.2.2.1 q0 he rfl 1 (by decide) (S.2.2.2.2 _ fl_X4_15) (fun _ h => h) rfl hin rfl (ty := .array .int) (by decide +kernel) hn hf hl hdg (fun H1 locs1 a1 a2 a3 => kk H1 locs1 ⟨X.1, a1, a2, a3, X.2.2.2.2⟩)
theorem fl_X4_18 : Cond.fieldLink RX4 18 "HedgeCourt$Protests" "count" "I" ∈ BG := by decide +kernel
theorem gf_X4_18 {q0 a : Nat} {fs : List Value} {v : Value} (S : CallFix p m c cc nL s args BG RX4) (X : Wd E Γ A s H locs w) (he : w[q0]? = some (a, .inr (5, fs))) (hv : fs[2]? = some v) (hdg : decode cc pc = .ok (.getfield 18, 3)) (kk : W p l e R s m args below meth c H locs cells slots Q (F0 m (pc + 3) ls (v :: rest))) : W p l e R s m args below meth c H locs cells slots Q (F0 m pc ls (.ref a :: rest)) := va_get (D := Γ.1) (ci := 5) (C := RX4) (T := TX4) (N := 3) S.1 S.2.1 S.2.2.2.2 inlX4 S.2.2.2.1 X.1 X.2.1 q0 he rfl 2 (by decide) (S.2.2.2.2 _ fl_X4_18) (fun _ h => h) hv hdg kk
theorem pf_X4_18 {q0 a : Nat} {fs : List Value} {v : Value} (S : CallFix p m c cc nL s args BG RX4) (X : Wd E Γ A s H locs w) (he : w[q0]? = some (a, .inr (5, fs))) (hn : narrow (.int) v = v) (hf : fits (.int) v = true) (hl : 2 < fs.length) (hdg : decode cc pc = .ok (.putfield 18, 3)) (kk : ∀ (H1 : Heap) (locs1 : List Loc), Wd E Γ A s H1 locs1 (w.set q0 (a, .inr (5, fs.set 2 v))) → W p l e R s m args below meth c H1 locs1 cells slots Q (F0 m (pc + 3) ls rest)) : W p l e R s m args below meth c H locs cells slots Q (F0 m pc ls (v :: .ref a :: rest)) := va_put (D := Γ.1) (ci := 5) (C := RX4) (T := TX4) (N := 3) S.1 S.2.1 S.2.2.2.2 inlX4 tyX4 tyX4_ok nmX4 S.2.2.2.1 X.1 X.2.1 X.2.2.1 X.2.2.2.1 q0 he rfl 2 (by decide) (S.2.2.2.2 _ fl_X4_18) (fun _ h => h) rfl (ty := .int) (by decide +kernel) hn hf hl hdg (fun H1 locs1 a1 a2 a3 => kk H1 locs1 ⟨X.1, a1, a2, a3, X.2.2.2.2⟩)
theorem fl_X5_9 : Cond.fieldLink RX5 9 "HedgeCourt$Quarrel" "opened" "Z" ∈ BG := by decide +kernel
theorem gf_X5_9 {q0 a : Nat} {fs : List Value} {v : Value} (S : CallFix p m c cc nL s args BG RX5) (X : Wd E Γ A s H locs w) (he : w[q0]? = some (a, .inr (6, fs))) (hv : fs[0]? = some v) (hdg : decode cc pc = .ok (.getfield 9, 3)) (kk : W p l e R s m args below meth c H locs cells slots Q (F0 m (pc + 3) ls (v :: rest))) : W p l e R s m args below meth c H locs cells slots Q (F0 m pc ls (.ref a :: rest)) := va_get (D := Γ.1) (ci := 6) (C := RX5) (T := TX5) (N := 10) S.1 S.2.1 S.2.2.2.2 inlX5 S.2.2.2.1 X.1 X.2.1 q0 he rfl 0 (by decide) (S.2.2.2.2 _ fl_X5_9) (fun _ h => h) hv hdg kk
theorem pf_X5_9 {q0 a : Nat} {fs : List Value} {v : Value} (S : CallFix p m c cc nL s args BG RX5) (X : Wd E Γ A s H locs w) (he : w[q0]? = some (a, .inr (6, fs))) (hn : narrow (.boolean) v = v) (hf : fits (.boolean) v = true) (hl : 0 < fs.length) (hdg : decode cc pc = .ok (.putfield 9, 3)) (kk : ∀ (H1 : Heap) (locs1 : List Loc), Wd E Γ A s H1 locs1 (w.set q0 (a, .inr (6, fs.set 0 v))) → W p l e R s m args below meth c H1 locs1 cells slots Q (F0 m (pc + 3) ls rest)) : W p l e R s m args below meth c H locs cells slots Q (F0 m pc ls (v :: .ref a :: rest)) := va_put (D := Γ.1) (ci := 6) (C := RX5) (T := TX5) (N := 10) S.1 S.2.1 S.2.2.2.2 inlX5 tyX5 tyX5_ok nmX5 S.2.2.2.1 X.1 X.2.1 X.2.2.1 X.2.2.2.1 q0 he rfl 0 (by decide) (S.2.2.2.2 _ fl_X5_9) (fun _ h => h) rfl (ty := .boolean) (by decide +kernel) hn hf hl hdg (fun H1 locs1 a1 a2 a3 => kk H1 locs1 ⟨X.1, a1, a2, a3, X.2.2.2.2⟩)
theorem fl_X5_15 : Cond.fieldLink RX5 15 "HedgeCourt$Quarrel" "fair" "I" ∈ BG := by decide +kernel
theorem gf_X5_15 {q0 a : Nat} {fs : List Value} {v : Value} (S : CallFix p m c cc nL s args BG RX5) (X : Wd E Γ A s H locs w) (he : w[q0]? = some (a, .inr (6, fs))) (hv : fs[1]? = some v) (hdg : decode cc pc = .ok (.getfield 15, 3)) (kk : W p l e R s m args below meth c H locs cells slots Q (F0 m (pc + 3) ls (v :: rest))) : W p l e R s m args below meth c H locs cells slots Q (F0 m pc ls (.ref a :: rest)) := va_get (D := Γ.1) (ci := 6) (C := RX5) (T := TX5) (N := 10) S.1 S.2.1 S.2.2.2.2 inlX5 S.2.2.2.1 X.1 X.2.1 q0 he rfl 1 (by decide) (S.2.2.2.2 _ fl_X5_15) (fun _ h => h) hv hdg kk
theorem pf_X5_15 {q0 a : Nat} {fs : List Value} {v : Value} (S : CallFix p m c cc nL s args BG RX5) (X : Wd E Γ A s H locs w) (he : w[q0]? = some (a, .inr (6, fs))) (hn : narrow (.int) v = v) (hf : fits (.int) v = true) (hl : 1 < fs.length) (hdg : decode cc pc = .ok (.putfield 15, 3)) (kk : ∀ (H1 : Heap) (locs1 : List Loc), Wd E Γ A s H1 locs1 (w.set q0 (a, .inr (6, fs.set 1 v))) → W p l e R s m args below meth c H1 locs1 cells slots Q (F0 m (pc + 3) ls rest)) : W p l e R s m args below meth c H locs cells slots Q (F0 m pc ls (v :: .ref a :: rest)) := va_put (D := Γ.1) (ci := 6) (C := RX5) (T := TX5) (N := 10) S.1 S.2.1 S.2.2.2.2 inlX5 tyX5 tyX5_ok nmX5 S.2.2.2.1 X.1 X.2.1 X.2.2.1 X.2.2.2.1 q0 he rfl 1 (by decide) (S.2.2.2.2 _ fl_X5_15) (fun _ h => h) rfl (ty := .int) (by decide +kernel) hn hf hl hdg (fun H1 locs1 a1 a2 a3 => kk H1 locs1 ⟨X.1, a1, a2, a3, X.2.2.2.2⟩)
theorem fl_X5_19 : Cond.fieldLink RX5 19 "HedgeCourt$Quarrel" "leastFair" "I" ∈ BG := by decide +kernel
theorem gf_X5_19 {q0 a : Nat} {fs : List Value} {v : Value} (S : CallFix p m c cc nL s args BG RX5) (X : Wd E Γ A s H locs w) (he : w[q0]? = some (a, .inr (6, fs))) (hv : fs[2]? = some v) (hdg : decode cc pc = .ok (.getfield 19, 3)) (kk : W p l e R s m args below meth c H locs cells slots Q (F0 m (pc + 3) ls (v :: rest))) : W p l e R s m args below meth c H locs cells slots Q (F0 m pc ls (.ref a :: rest)) := va_get (D := Γ.1) (ci := 6) (C := RX5) (T := TX5) (N := 10) S.1 S.2.1 S.2.2.2.2 inlX5 S.2.2.2.1 X.1 X.2.1 q0 he rfl 2 (by decide) (S.2.2.2.2 _ fl_X5_19) (fun _ h => h) hv hdg kk
theorem pf_X5_19 {q0 a : Nat} {fs : List Value} {v : Value} (S : CallFix p m c cc nL s args BG RX5) (X : Wd E Γ A s H locs w) (he : w[q0]? = some (a, .inr (6, fs))) (hn : narrow (.int) v = v) (hf : fits (.int) v = true) (hl : 2 < fs.length) (hdg : decode cc pc = .ok (.putfield 19, 3)) (kk : ∀ (H1 : Heap) (locs1 : List Loc), Wd E Γ A s H1 locs1 (w.set q0 (a, .inr (6, fs.set 2 v))) → W p l e R s m args below meth c H1 locs1 cells slots Q (F0 m (pc + 3) ls rest)) : W p l e R s m args below meth c H locs cells slots Q (F0 m pc ls (v :: .ref a :: rest)) := va_put (D := Γ.1) (ci := 6) (C := RX5) (T := TX5) (N := 10) S.1 S.2.1 S.2.2.2.2 inlX5 tyX5 tyX5_ok nmX5 S.2.2.2.1 X.1 X.2.1 X.2.2.1 X.2.2.2.1 q0 he rfl 2 (by decide) (S.2.2.2.2 _ fl_X5_19) (fun _ h => h) rfl (ty := .int) (by decide +kernel) hn hf hl hdg (fun H1 locs1 a1 a2 a3 => kk H1 locs1 ⟨X.1, a1, a2, a3, X.2.2.2.2⟩)
theorem fl_X5_22 : Cond.fieldLink RX5 22 "HedgeCourt$Quarrel" "greatestFair" "I" ∈ BG := by decide +kernel
theorem gf_X5_22 {q0 a : Nat} {fs : List Value} {v : Value} (S : CallFix p m c cc nL s args BG RX5) (X : Wd E Γ A s H locs w) (he : w[q0]? = some (a, .inr (6, fs))) (hv : fs[3]? = some v) (hdg : decode cc pc = .ok (.getfield 22, 3)) (kk : W p l e R s m args below meth c H locs cells slots Q (F0 m (pc + 3) ls (v :: rest))) : W p l e R s m args below meth c H locs cells slots Q (F0 m pc ls (.ref a :: rest)) := va_get (D := Γ.1) (ci := 6) (C := RX5) (T := TX5) (N := 10) S.1 S.2.1 S.2.2.2.2 inlX5 S.2.2.2.1 X.1 X.2.1 q0 he rfl 3 (by decide) (S.2.2.2.2 _ fl_X5_22) (fun _ h => h) hv hdg kk
theorem pf_X5_22 {q0 a : Nat} {fs : List Value} {v : Value} (S : CallFix p m c cc nL s args BG RX5) (X : Wd E Γ A s H locs w) (he : w[q0]? = some (a, .inr (6, fs))) (hn : narrow (.int) v = v) (hf : fits (.int) v = true) (hl : 3 < fs.length) (hdg : decode cc pc = .ok (.putfield 22, 3)) (kk : ∀ (H1 : Heap) (locs1 : List Loc), Wd E Γ A s H1 locs1 (w.set q0 (a, .inr (6, fs.set 3 v))) → W p l e R s m args below meth c H1 locs1 cells slots Q (F0 m (pc + 3) ls rest)) : W p l e R s m args below meth c H locs cells slots Q (F0 m pc ls (v :: .ref a :: rest)) := va_put (D := Γ.1) (ci := 6) (C := RX5) (T := TX5) (N := 10) S.1 S.2.1 S.2.2.2.2 inlX5 tyX5 tyX5_ok nmX5 S.2.2.2.1 X.1 X.2.1 X.2.2.1 X.2.2.2.1 q0 he rfl 3 (by decide) (S.2.2.2.2 _ fl_X5_22) (fun _ h => h) rfl (ty := .int) (by decide +kernel) hn hf hl hdg (fun H1 locs1 a1 a2 a3 => kk H1 locs1 ⟨X.1, a1, a2, a3, X.2.2.2.2⟩)
theorem fl_X5_25 : Cond.fieldLink RX5 25 "HedgeCourt$Quarrel" "fairest" "I" ∈ BG := by decide +kernel
theorem gf_X5_25 {q0 a : Nat} {fs : List Value} {v : Value} (S : CallFix p m c cc nL s args BG RX5) (X : Wd E Γ A s H locs w) (he : w[q0]? = some (a, .inr (6, fs))) (hv : fs[4]? = some v) (hdg : decode cc pc = .ok (.getfield 25, 3)) (kk : W p l e R s m args below meth c H locs cells slots Q (F0 m (pc + 3) ls (v :: rest))) : W p l e R s m args below meth c H locs cells slots Q (F0 m pc ls (.ref a :: rest)) := va_get (D := Γ.1) (ci := 6) (C := RX5) (T := TX5) (N := 10) S.1 S.2.1 S.2.2.2.2 inlX5 S.2.2.2.1 X.1 X.2.1 q0 he rfl 4 (by decide) (S.2.2.2.2 _ fl_X5_25) (fun _ h => h) hv hdg kk
theorem pf_X5_25 {q0 a : Nat} {fs : List Value} {v : Value} (S : CallFix p m c cc nL s args BG RX5) (X : Wd E Γ A s H locs w) (he : w[q0]? = some (a, .inr (6, fs))) (hn : narrow (.int) v = v) (hf : fits (.int) v = true) (hl : 4 < fs.length) (hdg : decode cc pc = .ok (.putfield 25, 3)) (kk : ∀ (H1 : Heap) (locs1 : List Loc), Wd E Γ A s H1 locs1 (w.set q0 (a, .inr (6, fs.set 4 v))) → W p l e R s m args below meth c H1 locs1 cells slots Q (F0 m (pc + 3) ls rest)) : W p l e R s m args below meth c H locs cells slots Q (F0 m pc ls (v :: .ref a :: rest)) := va_put (D := Γ.1) (ci := 6) (C := RX5) (T := TX5) (N := 10) S.1 S.2.1 S.2.2.2.2 inlX5 tyX5 tyX5_ok nmX5 S.2.2.2.1 X.1 X.2.1 X.2.2.1 X.2.2.2.1 q0 he rfl 4 (by decide) (S.2.2.2.2 _ fl_X5_25) (fun _ h => h) rfl (ty := .int) (by decide +kernel) hn hf hl hdg (fun H1 locs1 a1 a2 a3 => kk H1 locs1 ⟨X.1, a1, a2, a3, X.2.2.2.2⟩)
theorem fl_X5_28 : Cond.fieldLink RX5 28 "HedgeCourt$Quarrel" "greater" "I" ∈ BG := by decide +kernel
theorem gf_X5_28 {q0 a : Nat} {fs : List Value} {v : Value} (S : CallFix p m c cc nL s args BG RX5) (X : Wd E Γ A s H locs w) (he : w[q0]? = some (a, .inr (6, fs))) (hv : fs[5]? = some v) (hdg : decode cc pc = .ok (.getfield 28, 3)) (kk : W p l e R s m args below meth c H locs cells slots Q (F0 m (pc + 3) ls (v :: rest))) : W p l e R s m args below meth c H locs cells slots Q (F0 m pc ls (.ref a :: rest)) := va_get (D := Γ.1) (ci := 6) (C := RX5) (T := TX5) (N := 10) S.1 S.2.1 S.2.2.2.2 inlX5 S.2.2.2.1 X.1 X.2.1 q0 he rfl 5 (by decide) (S.2.2.2.2 _ fl_X5_28) (fun _ h => h) hv hdg kk
theorem pf_X5_28 {q0 a : Nat} {fs : List Value} {v : Value} (S : CallFix p m c cc nL s args BG RX5) (X : Wd E Γ A s H locs w) (he : w[q0]? = some (a, .inr (6, fs))) (hn : narrow (.int) v = v) (hf : fits (.int) v = true) (hl : 5 < fs.length) (hdg : decode cc pc = .ok (.putfield 28, 3)) (kk : ∀ (H1 : Heap) (locs1 : List Loc), Wd E Γ A s H1 locs1 (w.set q0 (a, .inr (6, fs.set 5 v))) → W p l e R s m args below meth c H1 locs1 cells slots Q (F0 m (pc + 3) ls rest)) : W p l e R s m args below meth c H locs cells slots Q (F0 m pc ls (v :: .ref a :: rest)) := va_put (D := Γ.1) (ci := 6) (C := RX5) (T := TX5) (N := 10) S.1 S.2.1 S.2.2.2.2 inlX5 tyX5 tyX5_ok nmX5 S.2.2.2.1 X.1 X.2.1 X.2.2.1 X.2.2.2.1 q0 he rfl 5 (by decide) (S.2.2.2.2 _ fl_X5_28) (fun _ h => h) rfl (ty := .int) (by decide +kernel) hn hf hl hdg (fun H1 locs1 a1 a2 a3 => kk H1 locs1 ⟨X.1, a1, a2, a3, X.2.2.2.2⟩)
theorem fl_X5_31 : Cond.fieldLink RX5 31 "HedgeCourt$Quarrel" "lesser" "I" ∈ BG := by decide +kernel
theorem gf_X5_31 {q0 a : Nat} {fs : List Value} {v : Value} (S : CallFix p m c cc nL s args BG RX5) (X : Wd E Γ A s H locs w) (he : w[q0]? = some (a, .inr (6, fs))) (hv : fs[6]? = some v) (hdg : decode cc pc = .ok (.getfield 31, 3)) (kk : W p l e R s m args below meth c H locs cells slots Q (F0 m (pc + 3) ls (v :: rest))) : W p l e R s m args below meth c H locs cells slots Q (F0 m pc ls (.ref a :: rest)) := va_get (D := Γ.1) (ci := 6) (C := RX5) (T := TX5) (N := 10) S.1 S.2.1 S.2.2.2.2 inlX5 S.2.2.2.1 X.1 X.2.1 q0 he rfl 6 (by decide) (S.2.2.2.2 _ fl_X5_31) (fun _ h => h) hv hdg kk
theorem pf_X5_31 {q0 a : Nat} {fs : List Value} {v : Value} (S : CallFix p m c cc nL s args BG RX5) (X : Wd E Γ A s H locs w) (he : w[q0]? = some (a, .inr (6, fs))) (hn : narrow (.int) v = v) (hf : fits (.int) v = true) (hl : 6 < fs.length) (hdg : decode cc pc = .ok (.putfield 31, 3)) (kk : ∀ (H1 : Heap) (locs1 : List Loc), Wd E Γ A s H1 locs1 (w.set q0 (a, .inr (6, fs.set 6 v))) → W p l e R s m args below meth c H1 locs1 cells slots Q (F0 m (pc + 3) ls rest)) : W p l e R s m args below meth c H locs cells slots Q (F0 m pc ls (v :: .ref a :: rest)) := va_put (D := Γ.1) (ci := 6) (C := RX5) (T := TX5) (N := 10) S.1 S.2.1 S.2.2.2.2 inlX5 tyX5 tyX5_ok nmX5 S.2.2.2.1 X.1 X.2.1 X.2.2.1 X.2.2.2.1 q0 he rfl 6 (by decide) (S.2.2.2.2 _ fl_X5_31) (fun _ h => h) rfl (ty := .int) (by decide +kernel) hn hf hl hdg (fun H1 locs1 a1 a2 a3 => kk H1 locs1 ⟨X.1, a1, a2, a3, X.2.2.2.2⟩)
theorem fl_X5_34 : Cond.fieldLink RX5 34 "HedgeCourt$Quarrel" "worth" "[I" ∈ BG := by decide +kernel
theorem gf_X5_34 {q0 a : Nat} {fs : List Value} {v : Value} (S : CallFix p m c cc nL s args BG RX5) (X : Wd E Γ A s H locs w) (he : w[q0]? = some (a, .inr (6, fs))) (hv : fs[7]? = some v) (hdg : decode cc pc = .ok (.getfield 34, 3)) (kk : W p l e R s m args below meth c H locs cells slots Q (F0 m (pc + 3) ls (v :: rest))) : W p l e R s m args below meth c H locs cells slots Q (F0 m pc ls (.ref a :: rest)) := va_get (D := Γ.1) (ci := 6) (C := RX5) (T := TX5) (N := 10) S.1 S.2.1 S.2.2.2.2 inlX5 S.2.2.2.1 X.1 X.2.1 q0 he rfl 7 (by decide) (S.2.2.2.2 _ fl_X5_34) (fun _ h => h) hv hdg kk
theorem pF_X5_34 {q0 a : Nat} {fs : List Value} {v : Value} (S : CallFix p m c cc nL s args BG RX5) (hin : meth.name = "<init>") (X : Wd E Γ A s H locs w) (he : w[q0]? = some (a, .inr (6, fs))) (hn : narrow (.array .int) v = v) (hf : fits (.array .int) v = true) (hl : 7 < fs.length) (hdg : decode cc pc = .ok (.putfield 34, 3)) (kk : ∀ (H1 : Heap) (locs1 : List Loc), Wd E Γ A s H1 locs1 (w.set q0 (a, .inr (6, fs.set 7 v))) → W p l e R s m args below meth c H1 locs1 cells slots Q (F0 m (pc + 3) ls rest)) : W p l e R s m args below meth c H locs cells slots Q (F0 m pc ls (v :: .ref a :: rest)) := va_putF (D := Γ.1) (ci := 6) (C := RX5) (T := TX5) (N := 10) S.1 S.2.1 S.2.2.2.2 inlX5 tyX5 tyX5_ok nmX5 S.2.2.2.1 X.1 X.2.1 X.2.2.1 X.2.2.2.1 q0 he rfl 7 (by decide) (S.2.2.2.2 _ fl_X5_34) (fun _ h => h) rfl hin rfl (ty := .array .int) (by decide +kernel) hn hf hl hdg (fun H1 locs1 a1 a2 a3 => kk H1 locs1 ⟨X.1, a1, a2, a3, X.2.2.2.2⟩)
theorem fl_X5_38 : Cond.fieldLink RX5 38 "HedgeCourt$Quarrel" "cost" "[I" ∈ BG := by decide +kernel
theorem gf_X5_38 {q0 a : Nat} {fs : List Value} {v : Value} (S : CallFix p m c cc nL s args BG RX5) (X : Wd E Γ A s H locs w) (he : w[q0]? = some (a, .inr (6, fs))) (hv : fs[8]? = some v) (hdg : decode cc pc = .ok (.getfield 38, 3)) (kk : W p l e R s m args below meth c H locs cells slots Q (F0 m (pc + 3) ls (v :: rest))) : W p l e R s m args below meth c H locs cells slots Q (F0 m pc ls (.ref a :: rest)) := va_get (D := Γ.1) (ci := 6) (C := RX5) (T := TX5) (N := 10) S.1 S.2.1 S.2.2.2.2 inlX5 S.2.2.2.1 X.1 X.2.1 q0 he rfl 8 (by decide) (S.2.2.2.2 _ fl_X5_38) (fun _ h => h) hv hdg kk
theorem pF_X5_38 {q0 a : Nat} {fs : List Value} {v : Value} (S : CallFix p m c cc nL s args BG RX5) (hin : meth.name = "<init>") (X : Wd E Γ A s H locs w) (he : w[q0]? = some (a, .inr (6, fs))) (hn : narrow (.array .int) v = v) (hf : fits (.array .int) v = true) (hl : 8 < fs.length) (hdg : decode cc pc = .ok (.putfield 38, 3)) (kk : ∀ (H1 : Heap) (locs1 : List Loc), Wd E Γ A s H1 locs1 (w.set q0 (a, .inr (6, fs.set 8 v))) → W p l e R s m args below meth c H1 locs1 cells slots Q (F0 m (pc + 3) ls rest)) : W p l e R s m args below meth c H locs cells slots Q (F0 m pc ls (v :: .ref a :: rest)) := va_putF (D := Γ.1) (ci := 6) (C := RX5) (T := TX5) (N := 10) S.1 S.2.1 S.2.2.2.2 inlX5 tyX5 tyX5_ok nmX5 S.2.2.2.1 X.1 X.2.1 X.2.2.1 X.2.2.2.1 q0 he rfl 8 (by decide) (S.2.2.2.2 _ fl_X5_38) (fun _ h => h) rfl hin rfl (ty := .array .int) (by decide +kernel) hn hf hl hdg (fun H1 locs1 a1 a2 a3 => kk H1 locs1 ⟨X.1, a1, a2, a3, X.2.2.2.2⟩)
theorem fl_X5_41 : Cond.fieldLink RX5 41 "HedgeCourt$Quarrel" "chance" "[I" ∈ BG := by decide +kernel
theorem gf_X5_41 {q0 a : Nat} {fs : List Value} {v : Value} (S : CallFix p m c cc nL s args BG RX5) (X : Wd E Γ A s H locs w) (he : w[q0]? = some (a, .inr (6, fs))) (hv : fs[9]? = some v) (hdg : decode cc pc = .ok (.getfield 41, 3)) (kk : W p l e R s m args below meth c H locs cells slots Q (F0 m (pc + 3) ls (v :: rest))) : W p l e R s m args below meth c H locs cells slots Q (F0 m pc ls (.ref a :: rest)) := va_get (D := Γ.1) (ci := 6) (C := RX5) (T := TX5) (N := 10) S.1 S.2.1 S.2.2.2.2 inlX5 S.2.2.2.1 X.1 X.2.1 q0 he rfl 9 (by decide) (S.2.2.2.2 _ fl_X5_41) (fun _ h => h) hv hdg kk
theorem pF_X5_41 {q0 a : Nat} {fs : List Value} {v : Value} (S : CallFix p m c cc nL s args BG RX5) (hin : meth.name = "<init>") (X : Wd E Γ A s H locs w) (he : w[q0]? = some (a, .inr (6, fs))) (hn : narrow (.array .int) v = v) (hf : fits (.array .int) v = true) (hl : 9 < fs.length) (hdg : decode cc pc = .ok (.putfield 41, 3)) (kk : ∀ (H1 : Heap) (locs1 : List Loc), Wd E Γ A s H1 locs1 (w.set q0 (a, .inr (6, fs.set 9 v))) → W p l e R s m args below meth c H1 locs1 cells slots Q (F0 m (pc + 3) ls rest)) : W p l e R s m args below meth c H locs cells slots Q (F0 m pc ls (v :: .ref a :: rest)) := va_putF (D := Γ.1) (ci := 6) (C := RX5) (T := TX5) (N := 10) S.1 S.2.1 S.2.2.2.2 inlX5 tyX5 tyX5_ok nmX5 S.2.2.2.1 X.1 X.2.1 X.2.2.1 X.2.2.2.1 q0 he rfl 9 (by decide) (S.2.2.2.2 _ fl_X5_41) (fun _ h => h) rfl hin rfl (ty := .array .int) (by decide +kernel) hn hf hl hdg (fun H1 locs1 a1 a2 a3 => kk H1 locs1 ⟨X.1, a1, a2, a3, X.2.2.2.2⟩)
theorem fl_X6_9 : Cond.fieldLink RX6 9 "HedgeCourt$Saying" "kind" "I" ∈ BG := by decide +kernel
theorem gf_X6_9 {q0 a : Nat} {fs : List Value} {v : Value} (S : CallFix p m c cc nL s args BG RX6) (X : Wd E Γ A s H locs w) (he : w[q0]? = some (a, .inr (7, fs))) (hv : fs[0]? = some v) (hdg : decode cc pc = .ok (.getfield 9, 3)) (kk : W p l e R s m args below meth c H locs cells slots Q (F0 m (pc + 3) ls (v :: rest))) : W p l e R s m args below meth c H locs cells slots Q (F0 m pc ls (.ref a :: rest)) := va_get (D := Γ.1) (ci := 7) (C := RX6) (T := TX6) (N := 7) S.1 S.2.1 S.2.2.2.2 inlX6 S.2.2.2.1 X.1 X.2.1 q0 he rfl 0 (by decide) (S.2.2.2.2 _ fl_X6_9) (fun _ h => h) hv hdg kk
theorem pF_X6_9 {q0 a : Nat} {fs : List Value} {v : Value} (S : CallFix p m c cc nL s args BG RX6) (hin : meth.name = "<init>") (X : Wd E Γ A s H locs w) (he : w[q0]? = some (a, .inr (7, fs))) (hn : narrow (.int) v = v) (hf : fits (.int) v = true) (hl : 0 < fs.length) (hdg : decode cc pc = .ok (.putfield 9, 3)) (kk : ∀ (H1 : Heap) (locs1 : List Loc), Wd E Γ A s H1 locs1 (w.set q0 (a, .inr (7, fs.set 0 v))) → W p l e R s m args below meth c H1 locs1 cells slots Q (F0 m (pc + 3) ls rest)) : W p l e R s m args below meth c H locs cells slots Q (F0 m pc ls (v :: .ref a :: rest)) := va_putF (D := Γ.1) (ci := 7) (C := RX6) (T := TX6) (N := 7) S.1 S.2.1 S.2.2.2.2 inlX6 tyX6 tyX6_ok nmX6 S.2.2.2.1 X.1 X.2.1 X.2.2.1 X.2.2.2.1 q0 he rfl 0 (by decide) (S.2.2.2.2 _ fl_X6_9) (fun _ h => h) rfl hin rfl (ty := .int) (by decide +kernel) hn hf hl hdg (fun H1 locs1 a1 a2 a3 => kk H1 locs1 ⟨X.1, a1, a2, a3, X.2.2.2.2⟩)
theorem fl_X6_15 : Cond.fieldLink RX6 15 "HedgeCourt$Saying" "from" "I" ∈ BG := by decide +kernel
theorem gf_X6_15 {q0 a : Nat} {fs : List Value} {v : Value} (S : CallFix p m c cc nL s args BG RX6) (X : Wd E Γ A s H locs w) (he : w[q0]? = some (a, .inr (7, fs))) (hv : fs[1]? = some v) (hdg : decode cc pc = .ok (.getfield 15, 3)) (kk : W p l e R s m args below meth c H locs cells slots Q (F0 m (pc + 3) ls (v :: rest))) : W p l e R s m args below meth c H locs cells slots Q (F0 m pc ls (.ref a :: rest)) := va_get (D := Γ.1) (ci := 7) (C := RX6) (T := TX6) (N := 7) S.1 S.2.1 S.2.2.2.2 inlX6 S.2.2.2.1 X.1 X.2.1 q0 he rfl 1 (by decide) (S.2.2.2.2 _ fl_X6_15) (fun _ h => h) hv hdg kk
theorem pF_X6_15 {q0 a : Nat} {fs : List Value} {v : Value} (S : CallFix p m c cc nL s args BG RX6) (hin : meth.name = "<init>") (X : Wd E Γ A s H locs w) (he : w[q0]? = some (a, .inr (7, fs))) (hn : narrow (.int) v = v) (hf : fits (.int) v = true) (hl : 1 < fs.length) (hdg : decode cc pc = .ok (.putfield 15, 3)) (kk : ∀ (H1 : Heap) (locs1 : List Loc), Wd E Γ A s H1 locs1 (w.set q0 (a, .inr (7, fs.set 1 v))) → W p l e R s m args below meth c H1 locs1 cells slots Q (F0 m (pc + 3) ls rest)) : W p l e R s m args below meth c H locs cells slots Q (F0 m pc ls (v :: .ref a :: rest)) := va_putF (D := Γ.1) (ci := 7) (C := RX6) (T := TX6) (N := 7) S.1 S.2.1 S.2.2.2.2 inlX6 tyX6 tyX6_ok nmX6 S.2.2.2.1 X.1 X.2.1 X.2.2.1 X.2.2.2.1 q0 he rfl 1 (by decide) (S.2.2.2.2 _ fl_X6_15) (fun _ h => h) rfl hin rfl (ty := .int) (by decide +kernel) hn hf hl hdg (fun H1 locs1 a1 a2 a3 => kk H1 locs1 ⟨X.1, a1, a2, a3, X.2.2.2.2⟩)
theorem fl_X6_18 : Cond.fieldLink RX6 18 "HedgeCourt$Saying" "to" "I" ∈ BG := by decide +kernel
theorem gf_X6_18 {q0 a : Nat} {fs : List Value} {v : Value} (S : CallFix p m c cc nL s args BG RX6) (X : Wd E Γ A s H locs w) (he : w[q0]? = some (a, .inr (7, fs))) (hv : fs[2]? = some v) (hdg : decode cc pc = .ok (.getfield 18, 3)) (kk : W p l e R s m args below meth c H locs cells slots Q (F0 m (pc + 3) ls (v :: rest))) : W p l e R s m args below meth c H locs cells slots Q (F0 m pc ls (.ref a :: rest)) := va_get (D := Γ.1) (ci := 7) (C := RX6) (T := TX6) (N := 7) S.1 S.2.1 S.2.2.2.2 inlX6 S.2.2.2.1 X.1 X.2.1 q0 he rfl 2 (by decide) (S.2.2.2.2 _ fl_X6_18) (fun _ h => h) hv hdg kk
theorem pF_X6_18 {q0 a : Nat} {fs : List Value} {v : Value} (S : CallFix p m c cc nL s args BG RX6) (hin : meth.name = "<init>") (X : Wd E Γ A s H locs w) (he : w[q0]? = some (a, .inr (7, fs))) (hn : narrow (.int) v = v) (hf : fits (.int) v = true) (hl : 2 < fs.length) (hdg : decode cc pc = .ok (.putfield 18, 3)) (kk : ∀ (H1 : Heap) (locs1 : List Loc), Wd E Γ A s H1 locs1 (w.set q0 (a, .inr (7, fs.set 2 v))) → W p l e R s m args below meth c H1 locs1 cells slots Q (F0 m (pc + 3) ls rest)) : W p l e R s m args below meth c H locs cells slots Q (F0 m pc ls (v :: .ref a :: rest)) := va_putF (D := Γ.1) (ci := 7) (C := RX6) (T := TX6) (N := 7) S.1 S.2.1 S.2.2.2.2 inlX6 tyX6 tyX6_ok nmX6 S.2.2.2.1 X.1 X.2.1 X.2.2.1 X.2.2.2.1 q0 he rfl 2 (by decide) (S.2.2.2.2 _ fl_X6_18) (fun _ h => h) rfl hin rfl (ty := .int) (by decide +kernel) hn hf hl hdg (fun H1 locs1 a1 a2 a3 => kk H1 locs1 ⟨X.1, a1, a2, a3, X.2.2.2.2⟩)
theorem fl_X6_21 : Cond.fieldLink RX6 21 "HedgeCourt$Saying" "low" "I" ∈ BG := by decide +kernel
theorem gf_X6_21 {q0 a : Nat} {fs : List Value} {v : Value} (S : CallFix p m c cc nL s args BG RX6) (X : Wd E Γ A s H locs w) (he : w[q0]? = some (a, .inr (7, fs))) (hv : fs[3]? = some v) (hdg : decode cc pc = .ok (.getfield 21, 3)) (kk : W p l e R s m args below meth c H locs cells slots Q (F0 m (pc + 3) ls (v :: rest))) : W p l e R s m args below meth c H locs cells slots Q (F0 m pc ls (.ref a :: rest)) := va_get (D := Γ.1) (ci := 7) (C := RX6) (T := TX6) (N := 7) S.1 S.2.1 S.2.2.2.2 inlX6 S.2.2.2.1 X.1 X.2.1 q0 he rfl 3 (by decide) (S.2.2.2.2 _ fl_X6_21) (fun _ h => h) hv hdg kk
theorem pF_X6_21 {q0 a : Nat} {fs : List Value} {v : Value} (S : CallFix p m c cc nL s args BG RX6) (hin : meth.name = "<init>") (X : Wd E Γ A s H locs w) (he : w[q0]? = some (a, .inr (7, fs))) (hn : narrow (.int) v = v) (hf : fits (.int) v = true) (hl : 3 < fs.length) (hdg : decode cc pc = .ok (.putfield 21, 3)) (kk : ∀ (H1 : Heap) (locs1 : List Loc), Wd E Γ A s H1 locs1 (w.set q0 (a, .inr (7, fs.set 3 v))) → W p l e R s m args below meth c H1 locs1 cells slots Q (F0 m (pc + 3) ls rest)) : W p l e R s m args below meth c H locs cells slots Q (F0 m pc ls (v :: .ref a :: rest)) := va_putF (D := Γ.1) (ci := 7) (C := RX6) (T := TX6) (N := 7) S.1 S.2.1 S.2.2.2.2 inlX6 tyX6 tyX6_ok nmX6 S.2.2.2.1 X.1 X.2.1 X.2.2.1 X.2.2.2.1 q0 he rfl 3 (by decide) (S.2.2.2.2 _ fl_X6_21) (fun _ h => h) rfl hin rfl (ty := .int) (by decide +kernel) hn hf hl hdg (fun H1 locs1 a1 a2 a3 => kk H1 locs1 ⟨X.1, a1, a2, a3, X.2.2.2.2⟩)
theorem fl_X6_24 : Cond.fieldLink RX6 24 "HedgeCourt$Saying" "high" "I" ∈ BG := by decide +kernel
theorem gf_X6_24 {q0 a : Nat} {fs : List Value} {v : Value} (S : CallFix p m c cc nL s args BG RX6) (X : Wd E Γ A s H locs w) (he : w[q0]? = some (a, .inr (7, fs))) (hv : fs[4]? = some v) (hdg : decode cc pc = .ok (.getfield 24, 3)) (kk : W p l e R s m args below meth c H locs cells slots Q (F0 m (pc + 3) ls (v :: rest))) : W p l e R s m args below meth c H locs cells slots Q (F0 m pc ls (.ref a :: rest)) := va_get (D := Γ.1) (ci := 7) (C := RX6) (T := TX6) (N := 7) S.1 S.2.1 S.2.2.2.2 inlX6 S.2.2.2.1 X.1 X.2.1 q0 he rfl 4 (by decide) (S.2.2.2.2 _ fl_X6_24) (fun _ h => h) hv hdg kk
theorem pF_X6_24 {q0 a : Nat} {fs : List Value} {v : Value} (S : CallFix p m c cc nL s args BG RX6) (hin : meth.name = "<init>") (X : Wd E Γ A s H locs w) (he : w[q0]? = some (a, .inr (7, fs))) (hn : narrow (.int) v = v) (hf : fits (.int) v = true) (hl : 4 < fs.length) (hdg : decode cc pc = .ok (.putfield 24, 3)) (kk : ∀ (H1 : Heap) (locs1 : List Loc), Wd E Γ A s H1 locs1 (w.set q0 (a, .inr (7, fs.set 4 v))) → W p l e R s m args below meth c H1 locs1 cells slots Q (F0 m (pc + 3) ls rest)) : W p l e R s m args below meth c H locs cells slots Q (F0 m pc ls (v :: .ref a :: rest)) := va_putF (D := Γ.1) (ci := 7) (C := RX6) (T := TX6) (N := 7) S.1 S.2.1 S.2.2.2.2 inlX6 tyX6 tyX6_ok nmX6 S.2.2.2.1 X.1 X.2.1 X.2.2.1 X.2.2.2.1 q0 he rfl 4 (by decide) (S.2.2.2.2 _ fl_X6_24) (fun _ h => h) rfl hin rfl (ty := .int) (by decide +kernel) hn hf hl hdg (fun H1 locs1 a1 a2 a3 => kk H1 locs1 ⟨X.1, a1, a2, a3, X.2.2.2.2⟩)
theorem fl_X6_27 : Cond.fieldLink RX6 27 "HedgeCourt$Saying" "year" "I" ∈ BG := by decide +kernel
theorem gf_X6_27 {q0 a : Nat} {fs : List Value} {v : Value} (S : CallFix p m c cc nL s args BG RX6) (X : Wd E Γ A s H locs w) (he : w[q0]? = some (a, .inr (7, fs))) (hv : fs[5]? = some v) (hdg : decode cc pc = .ok (.getfield 27, 3)) (kk : W p l e R s m args below meth c H locs cells slots Q (F0 m (pc + 3) ls (v :: rest))) : W p l e R s m args below meth c H locs cells slots Q (F0 m pc ls (.ref a :: rest)) := va_get (D := Γ.1) (ci := 7) (C := RX6) (T := TX6) (N := 7) S.1 S.2.1 S.2.2.2.2 inlX6 S.2.2.2.1 X.1 X.2.1 q0 he rfl 5 (by decide) (S.2.2.2.2 _ fl_X6_27) (fun _ h => h) hv hdg kk
theorem pF_X6_27 {q0 a : Nat} {fs : List Value} {v : Value} (S : CallFix p m c cc nL s args BG RX6) (hin : meth.name = "<init>") (X : Wd E Γ A s H locs w) (he : w[q0]? = some (a, .inr (7, fs))) (hn : narrow (.int) v = v) (hf : fits (.int) v = true) (hl : 5 < fs.length) (hdg : decode cc pc = .ok (.putfield 27, 3)) (kk : ∀ (H1 : Heap) (locs1 : List Loc), Wd E Γ A s H1 locs1 (w.set q0 (a, .inr (7, fs.set 5 v))) → W p l e R s m args below meth c H1 locs1 cells slots Q (F0 m (pc + 3) ls rest)) : W p l e R s m args below meth c H locs cells slots Q (F0 m pc ls (v :: .ref a :: rest)) := va_putF (D := Γ.1) (ci := 7) (C := RX6) (T := TX6) (N := 7) S.1 S.2.1 S.2.2.2.2 inlX6 tyX6 tyX6_ok nmX6 S.2.2.2.1 X.1 X.2.1 X.2.2.1 X.2.2.2.1 q0 he rfl 5 (by decide) (S.2.2.2.2 _ fl_X6_27) (fun _ h => h) rfl hin rfl (ty := .int) (by decide +kernel) hn hf hl hdg (fun H1 locs1 a1 a2 a3 => kk H1 locs1 ⟨X.1, a1, a2, a3, X.2.2.2.2⟩)
theorem fl_X6_30 : Cond.fieldLink RX6 30 "HedgeCourt$Saying" "side" "I" ∈ BG := by decide +kernel
theorem gf_X6_30 {q0 a : Nat} {fs : List Value} {v : Value} (S : CallFix p m c cc nL s args BG RX6) (X : Wd E Γ A s H locs w) (he : w[q0]? = some (a, .inr (7, fs))) (hv : fs[6]? = some v) (hdg : decode cc pc = .ok (.getfield 30, 3)) (kk : W p l e R s m args below meth c H locs cells slots Q (F0 m (pc + 3) ls (v :: rest))) : W p l e R s m args below meth c H locs cells slots Q (F0 m pc ls (.ref a :: rest)) := va_get (D := Γ.1) (ci := 7) (C := RX6) (T := TX6) (N := 7) S.1 S.2.1 S.2.2.2.2 inlX6 S.2.2.2.1 X.1 X.2.1 q0 he rfl 6 (by decide) (S.2.2.2.2 _ fl_X6_30) (fun _ h => h) hv hdg kk
theorem pF_X6_30 {q0 a : Nat} {fs : List Value} {v : Value} (S : CallFix p m c cc nL s args BG RX6) (hin : meth.name = "<init>") (X : Wd E Γ A s H locs w) (he : w[q0]? = some (a, .inr (7, fs))) (hn : narrow (.int) v = v) (hf : fits (.int) v = true) (hl : 6 < fs.length) (hdg : decode cc pc = .ok (.putfield 30, 3)) (kk : ∀ (H1 : Heap) (locs1 : List Loc), Wd E Γ A s H1 locs1 (w.set q0 (a, .inr (7, fs.set 6 v))) → W p l e R s m args below meth c H1 locs1 cells slots Q (F0 m (pc + 3) ls rest)) : W p l e R s m args below meth c H locs cells slots Q (F0 m pc ls (v :: .ref a :: rest)) := va_putF (D := Γ.1) (ci := 7) (C := RX6) (T := TX6) (N := 7) S.1 S.2.1 S.2.2.2.2 inlX6 tyX6 tyX6_ok nmX6 S.2.2.2.1 X.1 X.2.1 X.2.2.1 X.2.2.2.1 q0 he rfl 6 (by decide) (S.2.2.2.2 _ fl_X6_30) (fun _ h => h) rfl hin rfl (ty := .int) (by decide +kernel) hn hf hl hdg (fun H1 locs1 a1 a2 a3 => kk H1 locs1 ⟨X.1, a1, a2, a3, X.2.2.2.2⟩)
theorem fl_X6_33 : Cond.fieldLink RX6 33 "HedgeCourt$Law" "thrown" "I" ∈ BG := by decide +kernel
theorem gf_X6_33 {q0 a : Nat} {fs : List Value} {v : Value} (S : CallFix p m c cc nL s args BG RX6) (X : Wd E Γ A s H locs w) (he : w[q0]? = some (a, .inr (1, fs))) (hv : fs[2]? = some v) (hdg : decode cc pc = .ok (.getfield 33, 3)) (kk : W p l e R s m args below meth c H locs cells slots Q (F0 m (pc + 3) ls (v :: rest))) : W p l e R s m args below meth c H locs cells slots Q (F0 m pc ls (.ref a :: rest)) := va_get (D := Γ.1) (ci := 1) (C := RX0) (T := TX0) (N := 5) S.1 S.2.1 S.2.2.2.2 inlX0 S.2.2.2.1 X.1 X.2.1 q0 he rfl 2 (by decide) (S.2.2.2.2 _ fl_X6_33) (fun _ h => h) hv hdg kk
theorem pf_X6_33 {q0 a : Nat} {fs : List Value} {v : Value} (S : CallFix p m c cc nL s args BG RX6) (X : Wd E Γ A s H locs w) (he : w[q0]? = some (a, .inr (1, fs))) (hn : narrow (.int) v = v) (hf : fits (.int) v = true) (hl : 2 < fs.length) (hdg : decode cc pc = .ok (.putfield 33, 3)) (kk : ∀ (H1 : Heap) (locs1 : List Loc), Wd E Γ A s H1 locs1 (w.set q0 (a, .inr (1, fs.set 2 v))) → W p l e R s m args below meth c H1 locs1 cells slots Q (F0 m (pc + 3) ls rest)) : W p l e R s m args below meth c H locs cells slots Q (F0 m pc ls (v :: .ref a :: rest)) := va_put (D := Γ.1) (ci := 1) (C := RX0) (T := TX0) (N := 5) S.1 S.2.1 S.2.2.2.2 inlX0 tyX0 tyX0_ok nmX0 S.2.2.2.1 X.1 X.2.1 X.2.2.1 X.2.2.2.1 q0 he rfl 2 (by decide) (S.2.2.2.2 _ fl_X6_33) (fun _ h => h) rfl (ty := .int) (by decide +kernel) hn hf hl hdg (fun H1 locs1 a1 a2 a3 => kk H1 locs1 ⟨X.1, a1, a2, a3, X.2.2.2.2⟩)
theorem fl_X6_51 : Cond.fieldLink RX6 51 "HedgeCourt$Law" "newerAlone" "[Z" ∈ BG := by decide +kernel
theorem gf_X6_51 {q0 a : Nat} {fs : List Value} {v : Value} (S : CallFix p m c cc nL s args BG RX6) (X : Wd E Γ A s H locs w) (he : w[q0]? = some (a, .inr (1, fs))) (hv : fs[1]? = some v) (hdg : decode cc pc = .ok (.getfield 51, 3)) (kk : W p l e R s m args below meth c H locs cells slots Q (F0 m (pc + 3) ls (v :: rest))) : W p l e R s m args below meth c H locs cells slots Q (F0 m pc ls (.ref a :: rest)) := va_get (D := Γ.1) (ci := 1) (C := RX0) (T := TX0) (N := 5) S.1 S.2.1 S.2.2.2.2 inlX0 S.2.2.2.1 X.1 X.2.1 q0 he rfl 1 (by decide) (S.2.2.2.2 _ fl_X6_51) (fun _ h => h) hv hdg kk
theorem fl_X7_9 : Cond.fieldLink RX7 9 "HedgeCourt$Tape" "bytes" "[B" ∈ BG := by decide +kernel
theorem gf_X7_9 {q0 a : Nat} {fs : List Value} {v : Value} (S : CallFix p m c cc nL s args BG RX7) (X : Wd E Γ A s H locs w) (he : w[q0]? = some (a, .inr (8, fs))) (hv : fs[0]? = some v) (hdg : decode cc pc = .ok (.getfield 9, 3)) (kk : W p l e R s m args below meth c H locs cells slots Q (F0 m (pc + 3) ls (v :: rest))) : W p l e R s m args below meth c H locs cells slots Q (F0 m pc ls (.ref a :: rest)) := va_get (D := Γ.1) (ci := 8) (C := RX7) (T := TX7) (N := 2) S.1 S.2.1 S.2.2.2.2 inlX7 S.2.2.2.1 X.1 X.2.1 q0 he rfl 0 (by decide) (S.2.2.2.2 _ fl_X7_9) (fun _ h => h) hv hdg kk
theorem pF_X7_9 {q0 a : Nat} {fs : List Value} {v : Value} (S : CallFix p m c cc nL s args BG RX7) (hin : meth.name = "<init>") (X : Wd E Γ A s H locs w) (he : w[q0]? = some (a, .inr (8, fs))) (hn : narrow (.array .byte) v = v) (hf : fits (.array .byte) v = true) (hl : 0 < fs.length) (hdg : decode cc pc = .ok (.putfield 9, 3)) (kk : ∀ (H1 : Heap) (locs1 : List Loc), Wd E Γ A s H1 locs1 (w.set q0 (a, .inr (8, fs.set 0 v))) → W p l e R s m args below meth c H1 locs1 cells slots Q (F0 m (pc + 3) ls rest)) : W p l e R s m args below meth c H locs cells slots Q (F0 m pc ls (v :: .ref a :: rest)) := va_putF (D := Γ.1) (ci := 8) (C := RX7) (T := TX7) (N := 2) S.1 S.2.1 S.2.2.2.2 inlX7 tyX7 tyX7_ok nmX7 S.2.2.2.1 X.1 X.2.1 X.2.2.1 X.2.2.2.1 q0 he rfl 0 (by decide) (S.2.2.2.2 _ fl_X7_9) (fun _ h => h) rfl hin rfl (ty := .array .byte) (by decide +kernel) hn hf hl hdg (fun H1 locs1 a1 a2 a3 => kk H1 locs1 ⟨X.1, a1, a2, a3, X.2.2.2.2⟩)
theorem fl_X7_15 : Cond.fieldLink RX7 15 "HedgeCourt$Tape" "length" "I" ∈ BG := by decide +kernel
theorem gf_X7_15 {q0 a : Nat} {fs : List Value} {v : Value} (S : CallFix p m c cc nL s args BG RX7) (X : Wd E Γ A s H locs w) (he : w[q0]? = some (a, .inr (8, fs))) (hv : fs[1]? = some v) (hdg : decode cc pc = .ok (.getfield 15, 3)) (kk : W p l e R s m args below meth c H locs cells slots Q (F0 m (pc + 3) ls (v :: rest))) : W p l e R s m args below meth c H locs cells slots Q (F0 m pc ls (.ref a :: rest)) := va_get (D := Γ.1) (ci := 8) (C := RX7) (T := TX7) (N := 2) S.1 S.2.1 S.2.2.2.2 inlX7 S.2.2.2.1 X.1 X.2.1 q0 he rfl 1 (by decide) (S.2.2.2.2 _ fl_X7_15) (fun _ h => h) hv hdg kk
theorem pf_X7_15 {q0 a : Nat} {fs : List Value} {v : Value} (S : CallFix p m c cc nL s args BG RX7) (X : Wd E Γ A s H locs w) (he : w[q0]? = some (a, .inr (8, fs))) (hn : narrow (.int) v = v) (hf : fits (.int) v = true) (hl : 1 < fs.length) (hdg : decode cc pc = .ok (.putfield 15, 3)) (kk : ∀ (H1 : Heap) (locs1 : List Loc), Wd E Γ A s H1 locs1 (w.set q0 (a, .inr (8, fs.set 1 v))) → W p l e R s m args below meth c H1 locs1 cells slots Q (F0 m (pc + 3) ls rest)) : W p l e R s m args below meth c H locs cells slots Q (F0 m pc ls (v :: .ref a :: rest)) := va_put (D := Γ.1) (ci := 8) (C := RX7) (T := TX7) (N := 2) S.1 S.2.1 S.2.2.2.2 inlX7 tyX7 tyX7_ok nmX7 S.2.2.2.1 X.1 X.2.1 X.2.2.1 X.2.2.2.1 q0 he rfl 1 (by decide) (S.2.2.2.2 _ fl_X7_15) (fun _ h => h) rfl (ty := .int) (by decide +kernel) hn hf hl hdg (fun H1 locs1 a1 a2 a3 => kk H1 locs1 ⟨X.1, a1, a2, a3, X.2.2.2.2⟩)
theorem fl_X8_9 : Cond.fieldLink RX8 9 "HedgeCourt$TrueLine" "foot" "I" ∈ BG := by decide +kernel
theorem gf_X8_9 {q0 a : Nat} {fs : List Value} {v : Value} (S : CallFix p m c cc nL s args BG RX8) (X : Wd E Γ A s H locs w) (he : w[q0]? = some (a, .inr (9, fs))) (hv : fs[0]? = some v) (hdg : decode cc pc = .ok (.getfield 9, 3)) (kk : W p l e R s m args below meth c H locs cells slots Q (F0 m (pc + 3) ls (v :: rest))) : W p l e R s m args below meth c H locs cells slots Q (F0 m pc ls (.ref a :: rest)) := va_get (D := Γ.1) (ci := 9) (C := RX8) (T := TX8) (N := 7) S.1 S.2.1 S.2.2.2.2 inlX8 S.2.2.2.1 X.1 X.2.1 q0 he rfl 0 (by decide) (S.2.2.2.2 _ fl_X8_9) (fun _ h => h) hv hdg kk
theorem pf_X8_9 {q0 a : Nat} {fs : List Value} {v : Value} (S : CallFix p m c cc nL s args BG RX8) (X : Wd E Γ A s H locs w) (he : w[q0]? = some (a, .inr (9, fs))) (hn : narrow (.int) v = v) (hf : fits (.int) v = true) (hl : 0 < fs.length) (hdg : decode cc pc = .ok (.putfield 9, 3)) (kk : ∀ (H1 : Heap) (locs1 : List Loc), Wd E Γ A s H1 locs1 (w.set q0 (a, .inr (9, fs.set 0 v))) → W p l e R s m args below meth c H1 locs1 cells slots Q (F0 m (pc + 3) ls rest)) : W p l e R s m args below meth c H locs cells slots Q (F0 m pc ls (v :: .ref a :: rest)) := va_put (D := Γ.1) (ci := 9) (C := RX8) (T := TX8) (N := 7) S.1 S.2.1 S.2.2.2.2 inlX8 tyX8 tyX8_ok nmX8 S.2.2.2.1 X.1 X.2.1 X.2.2.1 X.2.2.2.1 q0 he rfl 0 (by decide) (S.2.2.2.2 _ fl_X8_9) (fun _ h => h) rfl (ty := .int) (by decide +kernel) hn hf hl hdg (fun H1 locs1 a1 a2 a3 => kk H1 locs1 ⟨X.1, a1, a2, a3, X.2.2.2.2⟩)
theorem fl_X8_15 : Cond.fieldLink RX8 15 "HedgeCourt$TrueLine" "movedIn" "I" ∈ BG := by decide +kernel
theorem gf_X8_15 {q0 a : Nat} {fs : List Value} {v : Value} (S : CallFix p m c cc nL s args BG RX8) (X : Wd E Γ A s H locs w) (he : w[q0]? = some (a, .inr (9, fs))) (hv : fs[1]? = some v) (hdg : decode cc pc = .ok (.getfield 15, 3)) (kk : W p l e R s m args below meth c H locs cells slots Q (F0 m (pc + 3) ls (v :: rest))) : W p l e R s m args below meth c H locs cells slots Q (F0 m pc ls (.ref a :: rest)) := va_get (D := Γ.1) (ci := 9) (C := RX8) (T := TX8) (N := 7) S.1 S.2.1 S.2.2.2.2 inlX8 S.2.2.2.1 X.1 X.2.1 q0 he rfl 1 (by decide) (S.2.2.2.2 _ fl_X8_15) (fun _ h => h) hv hdg kk
theorem pf_X8_15 {q0 a : Nat} {fs : List Value} {v : Value} (S : CallFix p m c cc nL s args BG RX8) (X : Wd E Γ A s H locs w) (he : w[q0]? = some (a, .inr (9, fs))) (hn : narrow (.int) v = v) (hf : fits (.int) v = true) (hl : 1 < fs.length) (hdg : decode cc pc = .ok (.putfield 15, 3)) (kk : ∀ (H1 : Heap) (locs1 : List Loc), Wd E Γ A s H1 locs1 (w.set q0 (a, .inr (9, fs.set 1 v))) → W p l e R s m args below meth c H1 locs1 cells slots Q (F0 m (pc + 3) ls rest)) : W p l e R s m args below meth c H locs cells slots Q (F0 m pc ls (v :: .ref a :: rest)) := va_put (D := Γ.1) (ci := 9) (C := RX8) (T := TX8) (N := 7) S.1 S.2.1 S.2.2.2.2 inlX8 tyX8 tyX8_ok nmX8 S.2.2.2.1 X.1 X.2.1 X.2.2.1 X.2.2.2.1 q0 he rfl 1 (by decide) (S.2.2.2.2 _ fl_X8_15) (fun _ h => h) rfl (ty := .int) (by decide +kernel) hn hf hl hdg (fun H1 locs1 a1 a2 a3 => kk H1 locs1 ⟨X.1, a1, a2, a3, X.2.2.2.2⟩)
theorem fl_X8_18 : Cond.fieldLink RX8 18 "HedgeCourt$TrueLine" "won" "[I" ∈ BG := by decide +kernel
theorem gf_X8_18 {q0 a : Nat} {fs : List Value} {v : Value} (S : CallFix p m c cc nL s args BG RX8) (X : Wd E Γ A s H locs w) (he : w[q0]? = some (a, .inr (9, fs))) (hv : fs[2]? = some v) (hdg : decode cc pc = .ok (.getfield 18, 3)) (kk : W p l e R s m args below meth c H locs cells slots Q (F0 m (pc + 3) ls (v :: rest))) : W p l e R s m args below meth c H locs cells slots Q (F0 m pc ls (.ref a :: rest)) := va_get (D := Γ.1) (ci := 9) (C := RX8) (T := TX8) (N := 7) S.1 S.2.1 S.2.2.2.2 inlX8 S.2.2.2.1 X.1 X.2.1 q0 he rfl 2 (by decide) (S.2.2.2.2 _ fl_X8_18) (fun _ h => h) hv hdg kk
theorem pF_X8_18 {q0 a : Nat} {fs : List Value} {v : Value} (S : CallFix p m c cc nL s args BG RX8) (hin : meth.name = "<init>") (X : Wd E Γ A s H locs w) (he : w[q0]? = some (a, .inr (9, fs))) (hn : narrow (.array .int) v = v) (hf : fits (.array .int) v = true) (hl : 2 < fs.length) (hdg : decode cc pc = .ok (.putfield 18, 3)) (kk : ∀ (H1 : Heap) (locs1 : List Loc), Wd E Γ A s H1 locs1 (w.set q0 (a, .inr (9, fs.set 2 v))) → W p l e R s m args below meth c H1 locs1 cells slots Q (F0 m (pc + 3) ls rest)) : W p l e R s m args below meth c H locs cells slots Q (F0 m pc ls (v :: .ref a :: rest)) := va_putF (D := Γ.1) (ci := 9) (C := RX8) (T := TX8) (N := 7) S.1 S.2.1 S.2.2.2.2 inlX8 tyX8 tyX8_ok nmX8 S.2.2.2.1 X.1 X.2.1 X.2.2.1 X.2.2.2.1 q0 he rfl 2 (by decide) (S.2.2.2.2 _ fl_X8_18) (fun _ h => h) rfl hin rfl (ty := .array .int) (by decide +kernel) hn hf hl hdg (fun H1 locs1 a1 a2 a3 => kk H1 locs1 ⟨X.1, a1, a2, a3, X.2.2.2.2⟩)
theorem fl_X8_22 : Cond.fieldLink RX8 22 "HedgeCourt$TrueLine" "run" "[I" ∈ BG := by decide +kernel
theorem gf_X8_22 {q0 a : Nat} {fs : List Value} {v : Value} (S : CallFix p m c cc nL s args BG RX8) (X : Wd E Γ A s H locs w) (he : w[q0]? = some (a, .inr (9, fs))) (hv : fs[5]? = some v) (hdg : decode cc pc = .ok (.getfield 22, 3)) (kk : W p l e R s m args below meth c H locs cells slots Q (F0 m (pc + 3) ls (v :: rest))) : W p l e R s m args below meth c H locs cells slots Q (F0 m pc ls (.ref a :: rest)) := va_get (D := Γ.1) (ci := 9) (C := RX8) (T := TX8) (N := 7) S.1 S.2.1 S.2.2.2.2 inlX8 S.2.2.2.1 X.1 X.2.1 q0 he rfl 5 (by decide) (S.2.2.2.2 _ fl_X8_22) (fun _ h => h) hv hdg kk
theorem pF_X8_22 {q0 a : Nat} {fs : List Value} {v : Value} (S : CallFix p m c cc nL s args BG RX8) (hin : meth.name = "<init>") (X : Wd E Γ A s H locs w) (he : w[q0]? = some (a, .inr (9, fs))) (hn : narrow (.array .int) v = v) (hf : fits (.array .int) v = true) (hl : 5 < fs.length) (hdg : decode cc pc = .ok (.putfield 22, 3)) (kk : ∀ (H1 : Heap) (locs1 : List Loc), Wd E Γ A s H1 locs1 (w.set q0 (a, .inr (9, fs.set 5 v))) → W p l e R s m args below meth c H1 locs1 cells slots Q (F0 m (pc + 3) ls rest)) : W p l e R s m args below meth c H locs cells slots Q (F0 m pc ls (v :: .ref a :: rest)) := va_putF (D := Γ.1) (ci := 9) (C := RX8) (T := TX8) (N := 7) S.1 S.2.1 S.2.2.2.2 inlX8 tyX8 tyX8_ok nmX8 S.2.2.2.1 X.1 X.2.1 X.2.2.1 X.2.2.2.1 q0 he rfl 5 (by decide) (S.2.2.2.2 _ fl_X8_22) (fun _ h => h) rfl hin rfl (ty := .array .int) (by decide +kernel) hn hf hl hdg (fun H1 locs1 a1 a2 a3 => kk H1 locs1 ⟨X.1, a1, a2, a3, X.2.2.2.2⟩)
theorem fl_X8_27 : Cond.fieldLink RX8 27 "HedgeCourt$TrueLine" "reach" "[[I" ∈ BG := by decide +kernel
theorem gf_X8_27 {q0 a : Nat} {fs : List Value} {v : Value} (S : CallFix p m c cc nL s args BG RX8) (X : Wd E Γ A s H locs w) (he : w[q0]? = some (a, .inr (9, fs))) (hv : fs[6]? = some v) (hdg : decode cc pc = .ok (.getfield 27, 3)) (kk : W p l e R s m args below meth c H locs cells slots Q (F0 m (pc + 3) ls (v :: rest))) : W p l e R s m args below meth c H locs cells slots Q (F0 m pc ls (.ref a :: rest)) := va_get (D := Γ.1) (ci := 9) (C := RX8) (T := TX8) (N := 7) S.1 S.2.1 S.2.2.2.2 inlX8 S.2.2.2.1 X.1 X.2.1 q0 he rfl 6 (by decide) (S.2.2.2.2 _ fl_X8_27) (fun _ h => h) hv hdg kk
theorem pF_X8_27 {q0 a : Nat} {fs : List Value} {v : Value} (S : CallFix p m c cc nL s args BG RX8) (hin : meth.name = "<init>") (X : Wd E Γ A s H locs w) (he : w[q0]? = some (a, .inr (9, fs))) (hn : narrow (.array (.array .int)) v = v) (hf : fits (.array (.array .int)) v = true) (hl : 6 < fs.length) (hdg : decode cc pc = .ok (.putfield 27, 3)) (kk : ∀ (H1 : Heap) (locs1 : List Loc), Wd E Γ A s H1 locs1 (w.set q0 (a, .inr (9, fs.set 6 v))) → W p l e R s m args below meth c H1 locs1 cells slots Q (F0 m (pc + 3) ls rest)) : W p l e R s m args below meth c H locs cells slots Q (F0 m pc ls (v :: .ref a :: rest)) := va_putF (D := Γ.1) (ci := 9) (C := RX8) (T := TX8) (N := 7) S.1 S.2.1 S.2.2.2.2 inlX8 tyX8 tyX8_ok nmX8 S.2.2.2.1 X.1 X.2.1 X.2.2.1 X.2.2.2.1 q0 he rfl 6 (by decide) (S.2.2.2.2 _ fl_X8_27) (fun _ h => h) rfl hin rfl (ty := .array (.array .int)) (by decide +kernel) hn hf hl hdg (fun H1 locs1 a1 a2 a3 => kk H1 locs1 ⟨X.1, a1, a2, a3, X.2.2.2.2⟩)
theorem fl_X8_30 : Cond.fieldLink RX8 30 "HedgeCourt$TrueLine" "mowings" "LHedgeCourt$Mowings;" ∈ BG := by decide +kernel
theorem gf_X8_30 {q0 a : Nat} {fs : List Value} {v : Value} (S : CallFix p m c cc nL s args BG RX8) (X : Wd E Γ A s H locs w) (he : w[q0]? = some (a, .inr (9, fs))) (hv : fs[3]? = some v) (hdg : decode cc pc = .ok (.getfield 30, 3)) (kk : W p l e R s m args below meth c H locs cells slots Q (F0 m (pc + 3) ls (v :: rest))) : W p l e R s m args below meth c H locs cells slots Q (F0 m pc ls (.ref a :: rest)) := va_get (D := Γ.1) (ci := 9) (C := RX8) (T := TX8) (N := 7) S.1 S.2.1 S.2.2.2.2 inlX8 S.2.2.2.1 X.1 X.2.1 q0 he rfl 3 (by decide) (S.2.2.2.2 _ fl_X8_30) (fun _ h => h) hv hdg kk
theorem pF_X8_30 {q0 a : Nat} {fs : List Value} {v : Value} (S : CallFix p m c cc nL s args BG RX8) (hin : meth.name = "<init>") (X : Wd E Γ A s H locs w) (he : w[q0]? = some (a, .inr (9, fs))) (hn : narrow (.object "HedgeCourt$Mowings") v = v) (hf : fits (.object "HedgeCourt$Mowings") v = true) (hl : 3 < fs.length) (hdg : decode cc pc = .ok (.putfield 30, 3)) (kk : ∀ (H1 : Heap) (locs1 : List Loc), Wd E Γ A s H1 locs1 (w.set q0 (a, .inr (9, fs.set 3 v))) → W p l e R s m args below meth c H1 locs1 cells slots Q (F0 m (pc + 3) ls rest)) : W p l e R s m args below meth c H locs cells slots Q (F0 m pc ls (v :: .ref a :: rest)) := va_putF (D := Γ.1) (ci := 9) (C := RX8) (T := TX8) (N := 7) S.1 S.2.1 S.2.2.2.2 inlX8 tyX8 tyX8_ok nmX8 S.2.2.2.1 X.1 X.2.1 X.2.2.1 X.2.2.2.1 q0 he rfl 3 (by decide) (S.2.2.2.2 _ fl_X8_30) (fun _ h => h) rfl hin rfl (ty := .object "HedgeCourt$Mowings") (by decide +kernel) hn hf hl hdg (fun H1 locs1 a1 a2 a3 => kk H1 locs1 ⟨X.1, a1, a2, a3, X.2.2.2.2⟩)
theorem fl_X8_34 : Cond.fieldLink RX8 34 "HedgeCourt$TrueLine" "protests" "LHedgeCourt$Protests;" ∈ BG := by decide +kernel
theorem gf_X8_34 {q0 a : Nat} {fs : List Value} {v : Value} (S : CallFix p m c cc nL s args BG RX8) (X : Wd E Γ A s H locs w) (he : w[q0]? = some (a, .inr (9, fs))) (hv : fs[4]? = some v) (hdg : decode cc pc = .ok (.getfield 34, 3)) (kk : W p l e R s m args below meth c H locs cells slots Q (F0 m (pc + 3) ls (v :: rest))) : W p l e R s m args below meth c H locs cells slots Q (F0 m pc ls (.ref a :: rest)) := va_get (D := Γ.1) (ci := 9) (C := RX8) (T := TX8) (N := 7) S.1 S.2.1 S.2.2.2.2 inlX8 S.2.2.2.1 X.1 X.2.1 q0 he rfl 4 (by decide) (S.2.2.2.2 _ fl_X8_34) (fun _ h => h) hv hdg kk
theorem pF_X8_34 {q0 a : Nat} {fs : List Value} {v : Value} (S : CallFix p m c cc nL s args BG RX8) (hin : meth.name = "<init>") (X : Wd E Γ A s H locs w) (he : w[q0]? = some (a, .inr (9, fs))) (hn : narrow (.object "HedgeCourt$Protests") v = v) (hf : fits (.object "HedgeCourt$Protests") v = true) (hl : 4 < fs.length) (hdg : decode cc pc = .ok (.putfield 34, 3)) (kk : ∀ (H1 : Heap) (locs1 : List Loc), Wd E Γ A s H1 locs1 (w.set q0 (a, .inr (9, fs.set 4 v))) → W p l e R s m args below meth c H1 locs1 cells slots Q (F0 m (pc + 3) ls rest)) : W p l e R s m args below meth c H locs cells slots Q (F0 m pc ls (v :: .ref a :: rest)) := va_putF (D := Γ.1) (ci := 9) (C := RX8) (T := TX8) (N := 7) S.1 S.2.1 S.2.2.2.2 inlX8 tyX8 tyX8_ok nmX8 S.2.2.2.1 X.1 X.2.1 X.2.2.1 X.2.2.2.1 q0 he rfl 4 (by decide) (S.2.2.2.2 _ fl_X8_34) (fun _ h => h) rfl hin rfl (ty := .object "HedgeCourt$Protests") (by decide +kernel) hn hf hl hdg (fun H1 locs1 a1 a2 a3 => kk H1 locs1 ⟨X.1, a1, a2, a3, X.2.2.2.2⟩)
theorem fl_X8_44 : Cond.fieldLink RX8 44 "HedgeCourt$Mowings" "yearCount" "I" ∈ BG := by decide +kernel
theorem gf_X8_44 {q0 a : Nat} {fs : List Value} {v : Value} (S : CallFix p m c cc nL s args BG RX8) (X : Wd E Γ A s H locs w) (he : w[q0]? = some (a, .inr (3, fs))) (hv : fs[2]? = some v) (hdg : decode cc pc = .ok (.getfield 44, 3)) (kk : W p l e R s m args below meth c H locs cells slots Q (F0 m (pc + 3) ls (v :: rest))) : W p l e R s m args below meth c H locs cells slots Q (F0 m pc ls (.ref a :: rest)) := va_get (D := Γ.1) (ci := 3) (C := RX2) (T := TX2) (N := 8) S.1 S.2.1 S.2.2.2.2 inlX2 S.2.2.2.1 X.1 X.2.1 q0 he rfl 2 (by decide) (S.2.2.2.2 _ fl_X8_44) (fun _ h => h) hv hdg kk
theorem pf_X8_44 {q0 a : Nat} {fs : List Value} {v : Value} (S : CallFix p m c cc nL s args BG RX8) (X : Wd E Γ A s H locs w) (he : w[q0]? = some (a, .inr (3, fs))) (hn : narrow (.int) v = v) (hf : fits (.int) v = true) (hl : 2 < fs.length) (hdg : decode cc pc = .ok (.putfield 44, 3)) (kk : ∀ (H1 : Heap) (locs1 : List Loc), Wd E Γ A s H1 locs1 (w.set q0 (a, .inr (3, fs.set 2 v))) → W p l e R s m args below meth c H1 locs1 cells slots Q (F0 m (pc + 3) ls rest)) : W p l e R s m args below meth c H locs cells slots Q (F0 m pc ls (v :: .ref a :: rest)) := va_put (D := Γ.1) (ci := 3) (C := RX2) (T := TX2) (N := 8) S.1 S.2.1 S.2.2.2.2 inlX2 tyX2 tyX2_ok nmX2 S.2.2.2.1 X.1 X.2.1 X.2.2.1 X.2.2.2.1 q0 he rfl 2 (by decide) (S.2.2.2.2 _ fl_X8_44) (fun _ h => h) rfl (ty := .int) (by decide +kernel) hn hf hl hdg (fun H1 locs1 a1 a2 a3 => kk H1 locs1 ⟨X.1, a1, a2, a3, X.2.2.2.2⟩)
theorem fl_X8_57 : Cond.fieldLink RX8 57 "HedgeCourt$Mowings" "years" "[I" ∈ BG := by decide +kernel
theorem gf_X8_57 {q0 a : Nat} {fs : List Value} {v : Value} (S : CallFix p m c cc nL s args BG RX8) (X : Wd E Γ A s H locs w) (he : w[q0]? = some (a, .inr (3, fs))) (hv : fs[1]? = some v) (hdg : decode cc pc = .ok (.getfield 57, 3)) (kk : W p l e R s m args below meth c H locs cells slots Q (F0 m (pc + 3) ls (v :: rest))) : W p l e R s m args below meth c H locs cells slots Q (F0 m pc ls (.ref a :: rest)) := va_get (D := Γ.1) (ci := 3) (C := RX2) (T := TX2) (N := 8) S.1 S.2.1 S.2.2.2.2 inlX2 S.2.2.2.1 X.1 X.2.1 q0 he rfl 1 (by decide) (S.2.2.2.2 _ fl_X8_57) (fun _ h => h) hv hdg kk
theorem fl_X9_10 : Cond.fieldLink RX9 10 "HedgeCourt" "sayings" "Ljava/util/ArrayList;" ∈ BG := by decide +kernel
theorem gf_X9_10 {q0 a : Nat} {fs : List Value} {v : Value} (S : CallFix p m c cc nL s args BG RX9) (X : Wd E Γ A s H locs w) (he : w[q0]? = some (a, .inr (10, fs))) (hv : fs[0]? = some v) (hdg : decode cc pc = .ok (.getfield 10, 3)) (kk : W p l e R s m args below meth c H locs cells slots Q (F0 m (pc + 3) ls (v :: rest))) : W p l e R s m args below meth c H locs cells slots Q (F0 m pc ls (.ref a :: rest)) := va_get (D := Γ.1) (ci := 10) (C := RX9) (T := TX9) (N := 11) S.1 S.2.1 S.2.2.2.2 inlX9 S.2.2.2.1 X.1 X.2.1 q0 he rfl 0 (by decide) (S.2.2.2.2 _ fl_X9_10) (fun _ h => h) hv hdg kk
theorem pF_X9_10 {q0 a : Nat} {fs : List Value} {v : Value} (S : CallFix p m c cc nL s args BG RX9) (hin : meth.name = "<init>") (X : Wd E Γ A s H locs w) (he : w[q0]? = some (a, .inr (10, fs))) (hn : narrow (.object "java/util/ArrayList") v = v) (hf : fits (.object "java/util/ArrayList") v = true) (hl : 0 < fs.length) (hdg : decode cc pc = .ok (.putfield 10, 3)) (kk : ∀ (H1 : Heap) (locs1 : List Loc), Wd E Γ A s H1 locs1 (w.set q0 (a, .inr (10, fs.set 0 v))) → W p l e R s m args below meth c H1 locs1 cells slots Q (F0 m (pc + 3) ls rest)) : W p l e R s m args below meth c H locs cells slots Q (F0 m pc ls (v :: .ref a :: rest)) := va_putF (D := Γ.1) (ci := 10) (C := RX9) (T := TX9) (N := 11) S.1 S.2.1 S.2.2.2.2 inlX9 tyX9 tyX9_ok nmX9 S.2.2.2.1 X.1 X.2.1 X.2.2.1 X.2.2.2.1 q0 he rfl 0 (by decide) (S.2.2.2.2 _ fl_X9_10) (fun _ h => h) rfl hin rfl (ty := .object "java/util/ArrayList") (by decide +kernel) hn hf hl hdg (fun H1 locs1 a1 a2 a3 => kk H1 locs1 ⟨X.1, a1, a2, a3, X.2.2.2.2⟩)
theorem fl_X9_19 : Cond.fieldLink RX9 19 "HedgeCourt" "tape" "LHedgeCourt$Tape;" ∈ BG := by decide +kernel
theorem gf_X9_19 {q0 a : Nat} {fs : List Value} {v : Value} (S : CallFix p m c cc nL s args BG RX9) (X : Wd E Γ A s H locs w) (he : w[q0]? = some (a, .inr (10, fs))) (hv : fs[1]? = some v) (hdg : decode cc pc = .ok (.getfield 19, 3)) (kk : W p l e R s m args below meth c H locs cells slots Q (F0 m (pc + 3) ls (v :: rest))) : W p l e R s m args below meth c H locs cells slots Q (F0 m pc ls (.ref a :: rest)) := va_get (D := Γ.1) (ci := 10) (C := RX9) (T := TX9) (N := 11) S.1 S.2.1 S.2.2.2.2 inlX9 S.2.2.2.1 X.1 X.2.1 q0 he rfl 1 (by decide) (S.2.2.2.2 _ fl_X9_19) (fun _ h => h) hv hdg kk
theorem pF_X9_19 {q0 a : Nat} {fs : List Value} {v : Value} (S : CallFix p m c cc nL s args BG RX9) (hin : meth.name = "<init>") (X : Wd E Γ A s H locs w) (he : w[q0]? = some (a, .inr (10, fs))) (hn : narrow (.object "HedgeCourt$Tape") v = v) (hf : fits (.object "HedgeCourt$Tape") v = true) (hl : 1 < fs.length) (hdg : decode cc pc = .ok (.putfield 19, 3)) (kk : ∀ (H1 : Heap) (locs1 : List Loc), Wd E Γ A s H1 locs1 (w.set q0 (a, .inr (10, fs.set 1 v))) → W p l e R s m args below meth c H1 locs1 cells slots Q (F0 m (pc + 3) ls rest)) : W p l e R s m args below meth c H locs cells slots Q (F0 m pc ls (v :: .ref a :: rest)) := va_putF (D := Γ.1) (ci := 10) (C := RX9) (T := TX9) (N := 11) S.1 S.2.1 S.2.2.2.2 inlX9 tyX9 tyX9_ok nmX9 S.2.2.2.1 X.1 X.2.1 X.2.2.1 X.2.2.2.1 q0 he rfl 1 (by decide) (S.2.2.2.2 _ fl_X9_19) (fun _ h => h) rfl hin rfl (ty := .object "HedgeCourt$Tape") (by decide +kernel) hn hf hl hdg (fun H1 locs1 a1 a2 a3 => kk H1 locs1 ⟨X.1, a1, a2, a3, X.2.2.2.2⟩)
theorem fl_X9_28 : Cond.fieldLink RX9 28 "HedgeCourt" "reader" "LHedgeCourt$LawReader;" ∈ BG := by decide +kernel
theorem gf_X9_28 {q0 a : Nat} {fs : List Value} {v : Value} (S : CallFix p m c cc nL s args BG RX9) (X : Wd E Γ A s H locs w) (he : w[q0]? = some (a, .inr (10, fs))) (hv : fs[2]? = some v) (hdg : decode cc pc = .ok (.getfield 28, 3)) (kk : W p l e R s m args below meth c H locs cells slots Q (F0 m (pc + 3) ls (v :: rest))) : W p l e R s m args below meth c H locs cells slots Q (F0 m pc ls (.ref a :: rest)) := va_get (D := Γ.1) (ci := 10) (C := RX9) (T := TX9) (N := 11) S.1 S.2.1 S.2.2.2.2 inlX9 S.2.2.2.1 X.1 X.2.1 q0 he rfl 2 (by decide) (S.2.2.2.2 _ fl_X9_28) (fun _ h => h) hv hdg kk
theorem pF_X9_28 {q0 a : Nat} {fs : List Value} {v : Value} (S : CallFix p m c cc nL s args BG RX9) (hin : meth.name = "<init>") (X : Wd E Γ A s H locs w) (he : w[q0]? = some (a, .inr (10, fs))) (hn : narrow (.object "HedgeCourt$LawReader") v = v) (hf : fits (.object "HedgeCourt$LawReader") v = true) (hl : 2 < fs.length) (hdg : decode cc pc = .ok (.putfield 28, 3)) (kk : ∀ (H1 : Heap) (locs1 : List Loc), Wd E Γ A s H1 locs1 (w.set q0 (a, .inr (10, fs.set 2 v))) → W p l e R s m args below meth c H1 locs1 cells slots Q (F0 m (pc + 3) ls rest)) : W p l e R s m args below meth c H locs cells slots Q (F0 m pc ls (v :: .ref a :: rest)) := va_putF (D := Γ.1) (ci := 10) (C := RX9) (T := TX9) (N := 11) S.1 S.2.1 S.2.2.2.2 inlX9 tyX9 tyX9_ok nmX9 S.2.2.2.1 X.1 X.2.1 X.2.2.1 X.2.2.2.1 q0 he rfl 2 (by decide) (S.2.2.2.2 _ fl_X9_28) (fun _ h => h) rfl hin rfl (ty := .object "HedgeCourt$LawReader") (by decide +kernel) hn hf hl hdg (fun H1 locs1 a1 a2 a3 => kk H1 locs1 ⟨X.1, a1, a2, a3, X.2.2.2.2⟩)
theorem fl_X9_35 : Cond.fieldLink RX9 35 "HedgeCourt" "paperLine" "LHedgeCourt$PaperLine;" ∈ BG := by decide +kernel
theorem gf_X9_35 {q0 a : Nat} {fs : List Value} {v : Value} (S : CallFix p m c cc nL s args BG RX9) (X : Wd E Γ A s H locs w) (he : w[q0]? = some (a, .inr (10, fs))) (hv : fs[3]? = some v) (hdg : decode cc pc = .ok (.getfield 35, 3)) (kk : W p l e R s m args below meth c H locs cells slots Q (F0 m (pc + 3) ls (v :: rest))) : W p l e R s m args below meth c H locs cells slots Q (F0 m pc ls (.ref a :: rest)) := va_get (D := Γ.1) (ci := 10) (C := RX9) (T := TX9) (N := 11) S.1 S.2.1 S.2.2.2.2 inlX9 S.2.2.2.1 X.1 X.2.1 q0 he rfl 3 (by decide) (S.2.2.2.2 _ fl_X9_35) (fun _ h => h) hv hdg kk
theorem pF_X9_35 {q0 a : Nat} {fs : List Value} {v : Value} (S : CallFix p m c cc nL s args BG RX9) (hin : meth.name = "<init>") (X : Wd E Γ A s H locs w) (he : w[q0]? = some (a, .inr (10, fs))) (hn : narrow (.object "HedgeCourt$PaperLine") v = v) (hf : fits (.object "HedgeCourt$PaperLine") v = true) (hl : 3 < fs.length) (hdg : decode cc pc = .ok (.putfield 35, 3)) (kk : ∀ (H1 : Heap) (locs1 : List Loc), Wd E Γ A s H1 locs1 (w.set q0 (a, .inr (10, fs.set 3 v))) → W p l e R s m args below meth c H1 locs1 cells slots Q (F0 m (pc + 3) ls rest)) : W p l e R s m args below meth c H locs cells slots Q (F0 m pc ls (v :: .ref a :: rest)) := va_putF (D := Γ.1) (ci := 10) (C := RX9) (T := TX9) (N := 11) S.1 S.2.1 S.2.2.2.2 inlX9 tyX9 tyX9_ok nmX9 S.2.2.2.1 X.1 X.2.1 X.2.2.1 X.2.2.2.1 q0 he rfl 3 (by decide) (S.2.2.2.2 _ fl_X9_35) (fun _ h => h) rfl hin rfl (ty := .object "HedgeCourt$PaperLine") (by decide +kernel) hn hf hl hdg (fun H1 locs1 a1 a2 a3 => kk H1 locs1 ⟨X.1, a1, a2, a3, X.2.2.2.2⟩)
theorem fl_X9_42 : Cond.fieldLink RX9 42 "HedgeCourt" "mowings" "LHedgeCourt$Mowings;" ∈ BG := by decide +kernel
theorem gf_X9_42 {q0 a : Nat} {fs : List Value} {v : Value} (S : CallFix p m c cc nL s args BG RX9) (X : Wd E Γ A s H locs w) (he : w[q0]? = some (a, .inr (10, fs))) (hv : fs[4]? = some v) (hdg : decode cc pc = .ok (.getfield 42, 3)) (kk : W p l e R s m args below meth c H locs cells slots Q (F0 m (pc + 3) ls (v :: rest))) : W p l e R s m args below meth c H locs cells slots Q (F0 m pc ls (.ref a :: rest)) := va_get (D := Γ.1) (ci := 10) (C := RX9) (T := TX9) (N := 11) S.1 S.2.1 S.2.2.2.2 inlX9 S.2.2.2.1 X.1 X.2.1 q0 he rfl 4 (by decide) (S.2.2.2.2 _ fl_X9_42) (fun _ h => h) hv hdg kk
theorem pF_X9_42 {q0 a : Nat} {fs : List Value} {v : Value} (S : CallFix p m c cc nL s args BG RX9) (hin : meth.name = "<init>") (X : Wd E Γ A s H locs w) (he : w[q0]? = some (a, .inr (10, fs))) (hn : narrow (.object "HedgeCourt$Mowings") v = v) (hf : fits (.object "HedgeCourt$Mowings") v = true) (hl : 4 < fs.length) (hdg : decode cc pc = .ok (.putfield 42, 3)) (kk : ∀ (H1 : Heap) (locs1 : List Loc), Wd E Γ A s H1 locs1 (w.set q0 (a, .inr (10, fs.set 4 v))) → W p l e R s m args below meth c H1 locs1 cells slots Q (F0 m (pc + 3) ls rest)) : W p l e R s m args below meth c H locs cells slots Q (F0 m pc ls (v :: .ref a :: rest)) := va_putF (D := Γ.1) (ci := 10) (C := RX9) (T := TX9) (N := 11) S.1 S.2.1 S.2.2.2.2 inlX9 tyX9 tyX9_ok nmX9 S.2.2.2.1 X.1 X.2.1 X.2.2.1 X.2.2.2.1 q0 he rfl 4 (by decide) (S.2.2.2.2 _ fl_X9_42) (fun _ h => h) rfl hin rfl (ty := .object "HedgeCourt$Mowings") (by decide +kernel) hn hf hl hdg (fun H1 locs1 a1 a2 a3 => kk H1 locs1 ⟨X.1, a1, a2, a3, X.2.2.2.2⟩)
theorem fl_X9_49 : Cond.fieldLink RX9 49 "HedgeCourt" "protests" "LHedgeCourt$Protests;" ∈ BG := by decide +kernel
theorem gf_X9_49 {q0 a : Nat} {fs : List Value} {v : Value} (S : CallFix p m c cc nL s args BG RX9) (X : Wd E Γ A s H locs w) (he : w[q0]? = some (a, .inr (10, fs))) (hv : fs[5]? = some v) (hdg : decode cc pc = .ok (.getfield 49, 3)) (kk : W p l e R s m args below meth c H locs cells slots Q (F0 m (pc + 3) ls (v :: rest))) : W p l e R s m args below meth c H locs cells slots Q (F0 m pc ls (.ref a :: rest)) := va_get (D := Γ.1) (ci := 10) (C := RX9) (T := TX9) (N := 11) S.1 S.2.1 S.2.2.2.2 inlX9 S.2.2.2.1 X.1 X.2.1 q0 he rfl 5 (by decide) (S.2.2.2.2 _ fl_X9_49) (fun _ h => h) hv hdg kk
theorem pF_X9_49 {q0 a : Nat} {fs : List Value} {v : Value} (S : CallFix p m c cc nL s args BG RX9) (hin : meth.name = "<init>") (X : Wd E Γ A s H locs w) (he : w[q0]? = some (a, .inr (10, fs))) (hn : narrow (.object "HedgeCourt$Protests") v = v) (hf : fits (.object "HedgeCourt$Protests") v = true) (hl : 5 < fs.length) (hdg : decode cc pc = .ok (.putfield 49, 3)) (kk : ∀ (H1 : Heap) (locs1 : List Loc), Wd E Γ A s H1 locs1 (w.set q0 (a, .inr (10, fs.set 5 v))) → W p l e R s m args below meth c H1 locs1 cells slots Q (F0 m (pc + 3) ls rest)) : W p l e R s m args below meth c H locs cells slots Q (F0 m pc ls (v :: .ref a :: rest)) := va_putF (D := Γ.1) (ci := 10) (C := RX9) (T := TX9) (N := 11) S.1 S.2.1 S.2.2.2.2 inlX9 tyX9 tyX9_ok nmX9 S.2.2.2.1 X.1 X.2.1 X.2.2.1 X.2.2.2.1 q0 he rfl 5 (by decide) (S.2.2.2.2 _ fl_X9_49) (fun _ h => h) rfl hin rfl (ty := .object "HedgeCourt$Protests") (by decide +kernel) hn hf hl hdg (fun H1 locs1 a1 a2 a3 => kk H1 locs1 ⟨X.1, a1, a2, a3, X.2.2.2.2⟩)
theorem fl_X9_58 : Cond.fieldLink RX9 58 "HedgeCourt" "trueLine" "LHedgeCourt$TrueLine;" ∈ BG := by decide +kernel
theorem gf_X9_58 {q0 a : Nat} {fs : List Value} {v : Value} (S : CallFix p m c cc nL s args BG RX9) (X : Wd E Γ A s H locs w) (he : w[q0]? = some (a, .inr (10, fs))) (hv : fs[6]? = some v) (hdg : decode cc pc = .ok (.getfield 58, 3)) (kk : W p l e R s m args below meth c H locs cells slots Q (F0 m (pc + 3) ls (v :: rest))) : W p l e R s m args below meth c H locs cells slots Q (F0 m pc ls (.ref a :: rest)) := va_get (D := Γ.1) (ci := 10) (C := RX9) (T := TX9) (N := 11) S.1 S.2.1 S.2.2.2.2 inlX9 S.2.2.2.1 X.1 X.2.1 q0 he rfl 6 (by decide) (S.2.2.2.2 _ fl_X9_58) (fun _ h => h) hv hdg kk
theorem pF_X9_58 {q0 a : Nat} {fs : List Value} {v : Value} (S : CallFix p m c cc nL s args BG RX9) (hin : meth.name = "<init>") (X : Wd E Γ A s H locs w) (he : w[q0]? = some (a, .inr (10, fs))) (hn : narrow (.object "HedgeCourt$TrueLine") v = v) (hf : fits (.object "HedgeCourt$TrueLine") v = true) (hl : 6 < fs.length) (hdg : decode cc pc = .ok (.putfield 58, 3)) (kk : ∀ (H1 : Heap) (locs1 : List Loc), Wd E Γ A s H1 locs1 (w.set q0 (a, .inr (10, fs.set 6 v))) → W p l e R s m args below meth c H1 locs1 cells slots Q (F0 m (pc + 3) ls rest)) : W p l e R s m args below meth c H locs cells slots Q (F0 m pc ls (v :: .ref a :: rest)) := va_putF (D := Γ.1) (ci := 10) (C := RX9) (T := TX9) (N := 11) S.1 S.2.1 S.2.2.2.2 inlX9 tyX9 tyX9_ok nmX9 S.2.2.2.1 X.1 X.2.1 X.2.2.1 X.2.2.2.1 q0 he rfl 6 (by decide) (S.2.2.2.2 _ fl_X9_58) (fun _ h => h) rfl hin rfl (ty := .object "HedgeCourt$TrueLine") (by decide +kernel) hn hf hl hdg (fun H1 locs1 a1 a2 a3 => kk H1 locs1 ⟨X.1, a1, a2, a3, X.2.2.2.2⟩)
theorem fl_X9_65 : Cond.fieldLink RX9 65 "HedgeCourt" "latestQuarrel" "LHedgeCourt$Quarrel;" ∈ BG := by decide +kernel
theorem gf_X9_65 {q0 a : Nat} {fs : List Value} {v : Value} (S : CallFix p m c cc nL s args BG RX9) (X : Wd E Γ A s H locs w) (he : w[q0]? = some (a, .inr (10, fs))) (hv : fs[7]? = some v) (hdg : decode cc pc = .ok (.getfield 65, 3)) (kk : W p l e R s m args below meth c H locs cells slots Q (F0 m (pc + 3) ls (v :: rest))) : W p l e R s m args below meth c H locs cells slots Q (F0 m pc ls (.ref a :: rest)) := va_get (D := Γ.1) (ci := 10) (C := RX9) (T := TX9) (N := 11) S.1 S.2.1 S.2.2.2.2 inlX9 S.2.2.2.1 X.1 X.2.1 q0 he rfl 7 (by decide) (S.2.2.2.2 _ fl_X9_65) (fun _ h => h) hv hdg kk
theorem pF_X9_65 {q0 a : Nat} {fs : List Value} {v : Value} (S : CallFix p m c cc nL s args BG RX9) (hin : meth.name = "<init>") (X : Wd E Γ A s H locs w) (he : w[q0]? = some (a, .inr (10, fs))) (hn : narrow (.object "HedgeCourt$Quarrel") v = v) (hf : fits (.object "HedgeCourt$Quarrel") v = true) (hl : 7 < fs.length) (hdg : decode cc pc = .ok (.putfield 65, 3)) (kk : ∀ (H1 : Heap) (locs1 : List Loc), Wd E Γ A s H1 locs1 (w.set q0 (a, .inr (10, fs.set 7 v))) → W p l e R s m args below meth c H1 locs1 cells slots Q (F0 m (pc + 3) ls rest)) : W p l e R s m args below meth c H locs cells slots Q (F0 m pc ls (v :: .ref a :: rest)) := va_putF (D := Γ.1) (ci := 10) (C := RX9) (T := TX9) (N := 11) S.1 S.2.1 S.2.2.2.2 inlX9 tyX9 tyX9_ok nmX9 S.2.2.2.1 X.1 X.2.1 X.2.2.1 X.2.2.2.1 q0 he rfl 7 (by decide) (S.2.2.2.2 _ fl_X9_65) (fun _ h => h) rfl hin rfl (ty := .object "HedgeCourt$Quarrel") (by decide +kernel) hn hf hl hdg (fun H1 locs1 a1 a2 a3 => kk H1 locs1 ⟨X.1, a1, a2, a3, X.2.2.2.2⟩)
theorem fl_X9_72 : Cond.fieldLink RX9 72 "HedgeCourt" "law" "LHedgeCourt$Law;" ∈ BG := by decide +kernel
theorem gf_X9_72 {q0 a : Nat} {fs : List Value} {v : Value} (S : CallFix p m c cc nL s args BG RX9) (X : Wd E Γ A s H locs w) (he : w[q0]? = some (a, .inr (10, fs))) (hv : fs[8]? = some v) (hdg : decode cc pc = .ok (.getfield 72, 3)) (kk : W p l e R s m args below meth c H locs cells slots Q (F0 m (pc + 3) ls (v :: rest))) : W p l e R s m args below meth c H locs cells slots Q (F0 m pc ls (.ref a :: rest)) := va_get (D := Γ.1) (ci := 10) (C := RX9) (T := TX9) (N := 11) S.1 S.2.1 S.2.2.2.2 inlX9 S.2.2.2.1 X.1 X.2.1 q0 he rfl 8 (by decide) (S.2.2.2.2 _ fl_X9_72) (fun _ h => h) hv hdg kk
theorem pf_X9_72 {q0 a : Nat} {fs : List Value} {v : Value} (S : CallFix p m c cc nL s args BG RX9) (X : Wd E Γ A s H locs w) (he : w[q0]? = some (a, .inr (10, fs))) (hn : narrow (.object "HedgeCourt$Law") v = v) (hf : fits (.object "HedgeCourt$Law") v = true) (hl : 8 < fs.length) (hdg : decode cc pc = .ok (.putfield 72, 3)) (kk : ∀ (H1 : Heap) (locs1 : List Loc), Wd E Γ A s H1 locs1 (w.set q0 (a, .inr (10, fs.set 8 v))) → W p l e R s m args below meth c H1 locs1 cells slots Q (F0 m (pc + 3) ls rest)) : W p l e R s m args below meth c H locs cells slots Q (F0 m pc ls (v :: .ref a :: rest)) := va_put (D := Γ.1) (ci := 10) (C := RX9) (T := TX9) (N := 11) S.1 S.2.1 S.2.2.2.2 inlX9 tyX9 tyX9_ok nmX9 S.2.2.2.1 X.1 X.2.1 X.2.2.1 X.2.2.2.1 q0 he rfl 8 (by decide) (S.2.2.2.2 _ fl_X9_72) (fun _ h => h) rfl (ty := .object "HedgeCourt$Law") (by decide +kernel) hn hf hl hdg (fun H1 locs1 a1 a2 a3 => kk H1 locs1 ⟨X.1, a1, a2, a3, X.2.2.2.2⟩)
theorem fl_X9_76 : Cond.fieldLink RX9 76 "HedgeCourt" "draft" "LHedgeCourt$Law;" ∈ BG := by decide +kernel
theorem gf_X9_76 {q0 a : Nat} {fs : List Value} {v : Value} (S : CallFix p m c cc nL s args BG RX9) (X : Wd E Γ A s H locs w) (he : w[q0]? = some (a, .inr (10, fs))) (hv : fs[9]? = some v) (hdg : decode cc pc = .ok (.getfield 76, 3)) (kk : W p l e R s m args below meth c H locs cells slots Q (F0 m (pc + 3) ls (v :: rest))) : W p l e R s m args below meth c H locs cells slots Q (F0 m pc ls (.ref a :: rest)) := va_get (D := Γ.1) (ci := 10) (C := RX9) (T := TX9) (N := 11) S.1 S.2.1 S.2.2.2.2 inlX9 S.2.2.2.1 X.1 X.2.1 q0 he rfl 9 (by decide) (S.2.2.2.2 _ fl_X9_76) (fun _ h => h) hv hdg kk
theorem pf_X9_76 {q0 a : Nat} {fs : List Value} {v : Value} (S : CallFix p m c cc nL s args BG RX9) (X : Wd E Γ A s H locs w) (he : w[q0]? = some (a, .inr (10, fs))) (hn : narrow (.object "HedgeCourt$Law") v = v) (hf : fits (.object "HedgeCourt$Law") v = true) (hl : 9 < fs.length) (hdg : decode cc pc = .ok (.putfield 76, 3)) (kk : ∀ (H1 : Heap) (locs1 : List Loc), Wd E Γ A s H1 locs1 (w.set q0 (a, .inr (10, fs.set 9 v))) → W p l e R s m args below meth c H1 locs1 cells slots Q (F0 m (pc + 3) ls rest)) : W p l e R s m args below meth c H locs cells slots Q (F0 m pc ls (v :: .ref a :: rest)) := va_put (D := Γ.1) (ci := 10) (C := RX9) (T := TX9) (N := 11) S.1 S.2.1 S.2.2.2.2 inlX9 tyX9 tyX9_ok nmX9 S.2.2.2.1 X.1 X.2.1 X.2.2.1 X.2.2.2.1 q0 he rfl 9 (by decide) (S.2.2.2.2 _ fl_X9_76) (fun _ h => h) rfl (ty := .object "HedgeCourt$Law") (by decide +kernel) hn hf hl hdg (fun H1 locs1 a1 a2 a3 => kk H1 locs1 ⟨X.1, a1, a2, a3, X.2.2.2.2⟩)
theorem fl_X9_79 : Cond.fieldLink RX9 79 "HedgeCourt" "drawn" "Z" ∈ BG := by decide +kernel
theorem gf_X9_79 {q0 a : Nat} {fs : List Value} {v : Value} (S : CallFix p m c cc nL s args BG RX9) (X : Wd E Γ A s H locs w) (he : w[q0]? = some (a, .inr (10, fs))) (hv : fs[10]? = some v) (hdg : decode cc pc = .ok (.getfield 79, 3)) (kk : W p l e R s m args below meth c H locs cells slots Q (F0 m (pc + 3) ls (v :: rest))) : W p l e R s m args below meth c H locs cells slots Q (F0 m pc ls (.ref a :: rest)) := va_get (D := Γ.1) (ci := 10) (C := RX9) (T := TX9) (N := 11) S.1 S.2.1 S.2.2.2.2 inlX9 S.2.2.2.1 X.1 X.2.1 q0 he rfl 10 (by decide) (S.2.2.2.2 _ fl_X9_79) (fun _ h => h) hv hdg kk
theorem pf_X9_79 {q0 a : Nat} {fs : List Value} {v : Value} (S : CallFix p m c cc nL s args BG RX9) (X : Wd E Γ A s H locs w) (he : w[q0]? = some (a, .inr (10, fs))) (hn : narrow (.boolean) v = v) (hf : fits (.boolean) v = true) (hl : 10 < fs.length) (hdg : decode cc pc = .ok (.putfield 79, 3)) (kk : ∀ (H1 : Heap) (locs1 : List Loc), Wd E Γ A s H1 locs1 (w.set q0 (a, .inr (10, fs.set 10 v))) → W p l e R s m args below meth c H1 locs1 cells slots Q (F0 m (pc + 3) ls rest)) : W p l e R s m args below meth c H locs cells slots Q (F0 m pc ls (v :: .ref a :: rest)) := va_put (D := Γ.1) (ci := 10) (C := RX9) (T := TX9) (N := 11) S.1 S.2.1 S.2.2.2.2 inlX9 tyX9 tyX9_ok nmX9 S.2.2.2.1 X.1 X.2.1 X.2.2.1 X.2.2.2.1 q0 he rfl 10 (by decide) (S.2.2.2.2 _ fl_X9_79) (fun _ h => h) rfl (ty := .boolean) (by decide +kernel) hn hf hl hdg (fun H1 locs1 a1 a2 a3 => kk H1 locs1 ⟨X.1, a1, a2, a3, X.2.2.2.2⟩)
theorem fl_X9_104 : Cond.fieldLink RX9 104 "HedgeCourt$Tape" "length" "I" ∈ BG := by decide +kernel
theorem gf_X9_104 {q0 a : Nat} {fs : List Value} {v : Value} (S : CallFix p m c cc nL s args BG RX9) (X : Wd E Γ A s H locs w) (he : w[q0]? = some (a, .inr (8, fs))) (hv : fs[1]? = some v) (hdg : decode cc pc = .ok (.getfield 104, 3)) (kk : W p l e R s m args below meth c H locs cells slots Q (F0 m (pc + 3) ls (v :: rest))) : W p l e R s m args below meth c H locs cells slots Q (F0 m pc ls (.ref a :: rest)) := va_get (D := Γ.1) (ci := 8) (C := RX7) (T := TX7) (N := 2) S.1 S.2.1 S.2.2.2.2 inlX7 S.2.2.2.1 X.1 X.2.1 q0 he rfl 1 (by decide) (S.2.2.2.2 _ fl_X9_104) (fun _ h => h) hv hdg kk
theorem pf_X9_104 {q0 a : Nat} {fs : List Value} {v : Value} (S : CallFix p m c cc nL s args BG RX9) (X : Wd E Γ A s H locs w) (he : w[q0]? = some (a, .inr (8, fs))) (hn : narrow (.int) v = v) (hf : fits (.int) v = true) (hl : 1 < fs.length) (hdg : decode cc pc = .ok (.putfield 104, 3)) (kk : ∀ (H1 : Heap) (locs1 : List Loc), Wd E Γ A s H1 locs1 (w.set q0 (a, .inr (8, fs.set 1 v))) → W p l e R s m args below meth c H1 locs1 cells slots Q (F0 m (pc + 3) ls rest)) : W p l e R s m args below meth c H locs cells slots Q (F0 m pc ls (v :: .ref a :: rest)) := va_put (D := Γ.1) (ci := 8) (C := RX7) (T := TX7) (N := 2) S.1 S.2.1 S.2.2.2.2 inlX7 tyX7 tyX7_ok nmX7 S.2.2.2.1 X.1 X.2.1 X.2.2.1 X.2.2.2.1 q0 he rfl 1 (by decide) (S.2.2.2.2 _ fl_X9_104) (fun _ h => h) rfl (ty := .int) (by decide +kernel) hn hf hl hdg (fun H1 locs1 a1 a2 a3 => kk H1 locs1 ⟨X.1, a1, a2, a3, X.2.2.2.2⟩)
theorem fl_X9_120 : Cond.fieldLink RX9 120 "HedgeCourt$LawReader" "fault" "I" ∈ BG := by decide +kernel
theorem gf_X9_120 {q0 a : Nat} {fs : List Value} {v : Value} (S : CallFix p m c cc nL s args BG RX9) (X : Wd E Γ A s H locs w) (he : w[q0]? = some (a, .inr (2, fs))) (hv : fs[0]? = some v) (hdg : decode cc pc = .ok (.getfield 120, 3)) (kk : W p l e R s m args below meth c H locs cells slots Q (F0 m (pc + 3) ls (v :: rest))) : W p l e R s m args below meth c H locs cells slots Q (F0 m pc ls (.ref a :: rest)) := va_get (D := Γ.1) (ci := 2) (C := RX1) (T := TX1) (N := 8) S.1 S.2.1 S.2.2.2.2 inlX1 S.2.2.2.1 X.1 X.2.1 q0 he rfl 0 (by decide) (S.2.2.2.2 _ fl_X9_120) (fun _ h => h) hv hdg kk
theorem pf_X9_120 {q0 a : Nat} {fs : List Value} {v : Value} (S : CallFix p m c cc nL s args BG RX9) (X : Wd E Γ A s H locs w) (he : w[q0]? = some (a, .inr (2, fs))) (hn : narrow (.int) v = v) (hf : fits (.int) v = true) (hl : 0 < fs.length) (hdg : decode cc pc = .ok (.putfield 120, 3)) (kk : ∀ (H1 : Heap) (locs1 : List Loc), Wd E Γ A s H1 locs1 (w.set q0 (a, .inr (2, fs.set 0 v))) → W p l e R s m args below meth c H1 locs1 cells slots Q (F0 m (pc + 3) ls rest)) : W p l e R s m args below meth c H locs cells slots Q (F0 m pc ls (v :: .ref a :: rest)) := va_put (D := Γ.1) (ci := 2) (C := RX1) (T := TX1) (N := 8) S.1 S.2.1 S.2.2.2.2 inlX1 tyX1 tyX1_ok nmX1 S.2.2.2.1 X.1 X.2.1 X.2.2.1 X.2.2.2.1 q0 he rfl 0 (by decide) (S.2.2.2.2 _ fl_X9_120) (fun _ h => h) rfl (ty := .int) (by decide +kernel) hn hf hl hdg (fun H1 locs1 a1 a2 a3 => kk H1 locs1 ⟨X.1, a1, a2, a3, X.2.2.2.2⟩)
theorem fl_X9_123 : Cond.fieldLink RX9 123 "HedgeCourt$LawReader" "lines" "I" ∈ BG := by decide +kernel
theorem gf_X9_123 {q0 a : Nat} {fs : List Value} {v : Value} (S : CallFix p m c cc nL s args BG RX9) (X : Wd E Γ A s H locs w) (he : w[q0]? = some (a, .inr (2, fs))) (hv : fs[2]? = some v) (hdg : decode cc pc = .ok (.getfield 123, 3)) (kk : W p l e R s m args below meth c H locs cells slots Q (F0 m (pc + 3) ls (v :: rest))) : W p l e R s m args below meth c H locs cells slots Q (F0 m pc ls (.ref a :: rest)) := va_get (D := Γ.1) (ci := 2) (C := RX1) (T := TX1) (N := 8) S.1 S.2.1 S.2.2.2.2 inlX1 S.2.2.2.1 X.1 X.2.1 q0 he rfl 2 (by decide) (S.2.2.2.2 _ fl_X9_123) (fun _ h => h) hv hdg kk
theorem pf_X9_123 {q0 a : Nat} {fs : List Value} {v : Value} (S : CallFix p m c cc nL s args BG RX9) (X : Wd E Γ A s H locs w) (he : w[q0]? = some (a, .inr (2, fs))) (hn : narrow (.int) v = v) (hf : fits (.int) v = true) (hl : 2 < fs.length) (hdg : decode cc pc = .ok (.putfield 123, 3)) (kk : ∀ (H1 : Heap) (locs1 : List Loc), Wd E Γ A s H1 locs1 (w.set q0 (a, .inr (2, fs.set 2 v))) → W p l e R s m args below meth c H1 locs1 cells slots Q (F0 m (pc + 3) ls rest)) : W p l e R s m args below meth c H locs cells slots Q (F0 m pc ls (v :: .ref a :: rest)) := va_put (D := Γ.1) (ci := 2) (C := RX1) (T := TX1) (N := 8) S.1 S.2.1 S.2.2.2.2 inlX1 tyX1 tyX1_ok nmX1 S.2.2.2.1 X.1 X.2.1 X.2.2.1 X.2.2.2.1 q0 he rfl 2 (by decide) (S.2.2.2.2 _ fl_X9_123) (fun _ h => h) rfl (ty := .int) (by decide +kernel) hn hf hl hdg (fun H1 locs1 a1 a2 a3 => kk H1 locs1 ⟨X.1, a1, a2, a3, X.2.2.2.2⟩)
theorem fl_X9_126 : Cond.fieldLink RX9 126 "HedgeCourt$LawReader" "faultPlace" "I" ∈ BG := by decide +kernel
theorem gf_X9_126 {q0 a : Nat} {fs : List Value} {v : Value} (S : CallFix p m c cc nL s args BG RX9) (X : Wd E Γ A s H locs w) (he : w[q0]? = some (a, .inr (2, fs))) (hv : fs[1]? = some v) (hdg : decode cc pc = .ok (.getfield 126, 3)) (kk : W p l e R s m args below meth c H locs cells slots Q (F0 m (pc + 3) ls (v :: rest))) : W p l e R s m args below meth c H locs cells slots Q (F0 m pc ls (.ref a :: rest)) := va_get (D := Γ.1) (ci := 2) (C := RX1) (T := TX1) (N := 8) S.1 S.2.1 S.2.2.2.2 inlX1 S.2.2.2.1 X.1 X.2.1 q0 he rfl 1 (by decide) (S.2.2.2.2 _ fl_X9_126) (fun _ h => h) hv hdg kk
theorem pf_X9_126 {q0 a : Nat} {fs : List Value} {v : Value} (S : CallFix p m c cc nL s args BG RX9) (X : Wd E Γ A s H locs w) (he : w[q0]? = some (a, .inr (2, fs))) (hn : narrow (.int) v = v) (hf : fits (.int) v = true) (hl : 1 < fs.length) (hdg : decode cc pc = .ok (.putfield 126, 3)) (kk : ∀ (H1 : Heap) (locs1 : List Loc), Wd E Γ A s H1 locs1 (w.set q0 (a, .inr (2, fs.set 1 v))) → W p l e R s m args below meth c H1 locs1 cells slots Q (F0 m (pc + 3) ls rest)) : W p l e R s m args below meth c H locs cells slots Q (F0 m pc ls (v :: .ref a :: rest)) := va_put (D := Γ.1) (ci := 2) (C := RX1) (T := TX1) (N := 8) S.1 S.2.1 S.2.2.2.2 inlX1 tyX1 tyX1_ok nmX1 S.2.2.2.1 X.1 X.2.1 X.2.2.1 X.2.2.2.1 q0 he rfl 1 (by decide) (S.2.2.2.2 _ fl_X9_126) (fun _ h => h) rfl (ty := .int) (by decide +kernel) hn hf hl hdg (fun H1 locs1 a1 a2 a3 => kk H1 locs1 ⟨X.1, a1, a2, a3, X.2.2.2.2⟩)
theorem fl_X9_129 : Cond.fieldLink RX9 129 "HedgeCourt$Law" "thrown" "I" ∈ BG := by decide +kernel
theorem gf_X9_129 {q0 a : Nat} {fs : List Value} {v : Value} (S : CallFix p m c cc nL s args BG RX9) (X : Wd E Γ A s H locs w) (he : w[q0]? = some (a, .inr (1, fs))) (hv : fs[2]? = some v) (hdg : decode cc pc = .ok (.getfield 129, 3)) (kk : W p l e R s m args below meth c H locs cells slots Q (F0 m (pc + 3) ls (v :: rest))) : W p l e R s m args below meth c H locs cells slots Q (F0 m pc ls (.ref a :: rest)) := va_get (D := Γ.1) (ci := 1) (C := RX0) (T := TX0) (N := 5) S.1 S.2.1 S.2.2.2.2 inlX0 S.2.2.2.1 X.1 X.2.1 q0 he rfl 2 (by decide) (S.2.2.2.2 _ fl_X9_129) (fun _ h => h) hv hdg kk
theorem pf_X9_129 {q0 a : Nat} {fs : List Value} {v : Value} (S : CallFix p m c cc nL s args BG RX9) (X : Wd E Γ A s H locs w) (he : w[q0]? = some (a, .inr (1, fs))) (hn : narrow (.int) v = v) (hf : fits (.int) v = true) (hl : 2 < fs.length) (hdg : decode cc pc = .ok (.putfield 129, 3)) (kk : ∀ (H1 : Heap) (locs1 : List Loc), Wd E Γ A s H1 locs1 (w.set q0 (a, .inr (1, fs.set 2 v))) → W p l e R s m args below meth c H1 locs1 cells slots Q (F0 m (pc + 3) ls rest)) : W p l e R s m args below meth c H locs cells slots Q (F0 m pc ls (v :: .ref a :: rest)) := va_put (D := Γ.1) (ci := 1) (C := RX0) (T := TX0) (N := 5) S.1 S.2.1 S.2.2.2.2 inlX0 tyX0 tyX0_ok nmX0 S.2.2.2.1 X.1 X.2.1 X.2.2.1 X.2.2.2.1 q0 he rfl 2 (by decide) (S.2.2.2.2 _ fl_X9_129) (fun _ h => h) rfl (ty := .int) (by decide +kernel) hn hf hl hdg (fun H1 locs1 a1 a2 a3 => kk H1 locs1 ⟨X.1, a1, a2, a3, X.2.2.2.2⟩)
theorem fl_X9_132 : Cond.fieldLink RX9 132 "HedgeCourt$Law" "hold" "I" ∈ BG := by decide +kernel
theorem gf_X9_132 {q0 a : Nat} {fs : List Value} {v : Value} (S : CallFix p m c cc nL s args BG RX9) (X : Wd E Γ A s H locs w) (he : w[q0]? = some (a, .inr (1, fs))) (hv : fs[3]? = some v) (hdg : decode cc pc = .ok (.getfield 132, 3)) (kk : W p l e R s m args below meth c H locs cells slots Q (F0 m (pc + 3) ls (v :: rest))) : W p l e R s m args below meth c H locs cells slots Q (F0 m pc ls (.ref a :: rest)) := va_get (D := Γ.1) (ci := 1) (C := RX0) (T := TX0) (N := 5) S.1 S.2.1 S.2.2.2.2 inlX0 S.2.2.2.1 X.1 X.2.1 q0 he rfl 3 (by decide) (S.2.2.2.2 _ fl_X9_132) (fun _ h => h) hv hdg kk
theorem pf_X9_132 {q0 a : Nat} {fs : List Value} {v : Value} (S : CallFix p m c cc nL s args BG RX9) (X : Wd E Γ A s H locs w) (he : w[q0]? = some (a, .inr (1, fs))) (hn : narrow (.int) v = v) (hf : fits (.int) v = true) (hl : 3 < fs.length) (hdg : decode cc pc = .ok (.putfield 132, 3)) (kk : ∀ (H1 : Heap) (locs1 : List Loc), Wd E Γ A s H1 locs1 (w.set q0 (a, .inr (1, fs.set 3 v))) → W p l e R s m args below meth c H1 locs1 cells slots Q (F0 m (pc + 3) ls rest)) : W p l e R s m args below meth c H locs cells slots Q (F0 m pc ls (v :: .ref a :: rest)) := va_put (D := Γ.1) (ci := 1) (C := RX0) (T := TX0) (N := 5) S.1 S.2.1 S.2.2.2.2 inlX0 tyX0 tyX0_ok nmX0 S.2.2.2.1 X.1 X.2.1 X.2.2.1 X.2.2.2.1 q0 he rfl 3 (by decide) (S.2.2.2.2 _ fl_X9_132) (fun _ h => h) rfl (ty := .int) (by decide +kernel) hn hf hl hdg (fun H1 locs1 a1 a2 a3 => kk H1 locs1 ⟨X.1, a1, a2, a3, X.2.2.2.2⟩)
theorem fl_X9_135 : Cond.fieldLink RX9 135 "HedgeCourt$Law" "bend" "I" ∈ BG := by decide +kernel
theorem gf_X9_135 {q0 a : Nat} {fs : List Value} {v : Value} (S : CallFix p m c cc nL s args BG RX9) (X : Wd E Γ A s H locs w) (he : w[q0]? = some (a, .inr (1, fs))) (hv : fs[4]? = some v) (hdg : decode cc pc = .ok (.getfield 135, 3)) (kk : W p l e R s m args below meth c H locs cells slots Q (F0 m (pc + 3) ls (v :: rest))) : W p l e R s m args below meth c H locs cells slots Q (F0 m pc ls (.ref a :: rest)) := va_get (D := Γ.1) (ci := 1) (C := RX0) (T := TX0) (N := 5) S.1 S.2.1 S.2.2.2.2 inlX0 S.2.2.2.1 X.1 X.2.1 q0 he rfl 4 (by decide) (S.2.2.2.2 _ fl_X9_135) (fun _ h => h) hv hdg kk
theorem pf_X9_135 {q0 a : Nat} {fs : List Value} {v : Value} (S : CallFix p m c cc nL s args BG RX9) (X : Wd E Γ A s H locs w) (he : w[q0]? = some (a, .inr (1, fs))) (hn : narrow (.int) v = v) (hf : fits (.int) v = true) (hl : 4 < fs.length) (hdg : decode cc pc = .ok (.putfield 135, 3)) (kk : ∀ (H1 : Heap) (locs1 : List Loc), Wd E Γ A s H1 locs1 (w.set q0 (a, .inr (1, fs.set 4 v))) → W p l e R s m args below meth c H1 locs1 cells slots Q (F0 m (pc + 3) ls rest)) : W p l e R s m args below meth c H locs cells slots Q (F0 m pc ls (v :: .ref a :: rest)) := va_put (D := Γ.1) (ci := 1) (C := RX0) (T := TX0) (N := 5) S.1 S.2.1 S.2.2.2.2 inlX0 tyX0 tyX0_ok nmX0 S.2.2.2.1 X.1 X.2.1 X.2.2.1 X.2.2.2.1 q0 he rfl 4 (by decide) (S.2.2.2.2 _ fl_X9_135) (fun _ h => h) rfl (ty := .int) (by decide +kernel) hn hf hl hdg (fun H1 locs1 a1 a2 a3 => kk H1 locs1 ⟨X.1, a1, a2, a3, X.2.2.2.2⟩)
theorem fl_X9_138 : Cond.fieldLink RX9 138 "HedgeCourt$Mowings" "count" "I" ∈ BG := by decide +kernel
theorem gf_X9_138 {q0 a : Nat} {fs : List Value} {v : Value} (S : CallFix p m c cc nL s args BG RX9) (X : Wd E Γ A s H locs w) (he : w[q0]? = some (a, .inr (3, fs))) (hv : fs[0]? = some v) (hdg : decode cc pc = .ok (.getfield 138, 3)) (kk : W p l e R s m args below meth c H locs cells slots Q (F0 m (pc + 3) ls (v :: rest))) : W p l e R s m args below meth c H locs cells slots Q (F0 m pc ls (.ref a :: rest)) := va_get (D := Γ.1) (ci := 3) (C := RX2) (T := TX2) (N := 8) S.1 S.2.1 S.2.2.2.2 inlX2 S.2.2.2.1 X.1 X.2.1 q0 he rfl 0 (by decide) (S.2.2.2.2 _ fl_X9_138) (fun _ h => h) hv hdg kk
theorem pf_X9_138 {q0 a : Nat} {fs : List Value} {v : Value} (S : CallFix p m c cc nL s args BG RX9) (X : Wd E Γ A s H locs w) (he : w[q0]? = some (a, .inr (3, fs))) (hn : narrow (.int) v = v) (hf : fits (.int) v = true) (hl : 0 < fs.length) (hdg : decode cc pc = .ok (.putfield 138, 3)) (kk : ∀ (H1 : Heap) (locs1 : List Loc), Wd E Γ A s H1 locs1 (w.set q0 (a, .inr (3, fs.set 0 v))) → W p l e R s m args below meth c H1 locs1 cells slots Q (F0 m (pc + 3) ls rest)) : W p l e R s m args below meth c H locs cells slots Q (F0 m pc ls (v :: .ref a :: rest)) := va_put (D := Γ.1) (ci := 3) (C := RX2) (T := TX2) (N := 8) S.1 S.2.1 S.2.2.2.2 inlX2 tyX2 tyX2_ok nmX2 S.2.2.2.1 X.1 X.2.1 X.2.2.1 X.2.2.2.1 q0 he rfl 0 (by decide) (S.2.2.2.2 _ fl_X9_138) (fun _ h => h) rfl (ty := .int) (by decide +kernel) hn hf hl hdg (fun H1 locs1 a1 a2 a3 => kk H1 locs1 ⟨X.1, a1, a2, a3, X.2.2.2.2⟩)
theorem fl_X9_145 : Cond.fieldLink RX9 145 "HedgeCourt$Law" "weight" "[I" ∈ BG := by decide +kernel
theorem gf_X9_145 {q0 a : Nat} {fs : List Value} {v : Value} (S : CallFix p m c cc nL s args BG RX9) (X : Wd E Γ A s H locs w) (he : w[q0]? = some (a, .inr (1, fs))) (hv : fs[0]? = some v) (hdg : decode cc pc = .ok (.getfield 145, 3)) (kk : W p l e R s m args below meth c H locs cells slots Q (F0 m (pc + 3) ls (v :: rest))) : W p l e R s m args below meth c H locs cells slots Q (F0 m pc ls (.ref a :: rest)) := va_get (D := Γ.1) (ci := 1) (C := RX0) (T := TX0) (N := 5) S.1 S.2.1 S.2.2.2.2 inlX0 S.2.2.2.1 X.1 X.2.1 q0 he rfl 0 (by decide) (S.2.2.2.2 _ fl_X9_145) (fun _ h => h) hv hdg kk
theorem fl_X9_149 : Cond.fieldLink RX9 149 "HedgeCourt$Law" "newerAlone" "[Z" ∈ BG := by decide +kernel
theorem gf_X9_149 {q0 a : Nat} {fs : List Value} {v : Value} (S : CallFix p m c cc nL s args BG RX9) (X : Wd E Γ A s H locs w) (he : w[q0]? = some (a, .inr (1, fs))) (hv : fs[1]? = some v) (hdg : decode cc pc = .ok (.getfield 149, 3)) (kk : W p l e R s m args below meth c H locs cells slots Q (F0 m (pc + 3) ls (v :: rest))) : W p l e R s m args below meth c H locs cells slots Q (F0 m pc ls (.ref a :: rest)) := va_get (D := Γ.1) (ci := 1) (C := RX0) (T := TX0) (N := 5) S.1 S.2.1 S.2.2.2.2 inlX0 S.2.2.2.1 X.1 X.2.1 q0 he rfl 1 (by decide) (S.2.2.2.2 _ fl_X9_149) (fun _ h => h) hv hdg kk
theorem fl_X9_157 : Cond.fieldLink RX9 157 "HedgeCourt$Saying" "kind" "I" ∈ BG := by decide +kernel
theorem gf_X9_157 {q0 a : Nat} {fs : List Value} {v : Value} (S : CallFix p m c cc nL s args BG RX9) (X : Wd E Γ A s H locs w) (he : w[q0]? = some (a, .inr (7, fs))) (hv : fs[0]? = some v) (hdg : decode cc pc = .ok (.getfield 157, 3)) (kk : W p l e R s m args below meth c H locs cells slots Q (F0 m (pc + 3) ls (v :: rest))) : W p l e R s m args below meth c H locs cells slots Q (F0 m pc ls (.ref a :: rest)) := va_get (D := Γ.1) (ci := 7) (C := RX6) (T := TX6) (N := 7) S.1 S.2.1 S.2.2.2.2 inlX6 S.2.2.2.1 X.1 X.2.1 q0 he rfl 0 (by decide) (S.2.2.2.2 _ fl_X9_157) (fun _ h => h) hv hdg kk
theorem fl_X9_160 : Cond.fieldLink RX9 160 "HedgeCourt$Saying" "low" "I" ∈ BG := by decide +kernel
theorem gf_X9_160 {q0 a : Nat} {fs : List Value} {v : Value} (S : CallFix p m c cc nL s args BG RX9) (X : Wd E Γ A s H locs w) (he : w[q0]? = some (a, .inr (7, fs))) (hv : fs[3]? = some v) (hdg : decode cc pc = .ok (.getfield 160, 3)) (kk : W p l e R s m args below meth c H locs cells slots Q (F0 m (pc + 3) ls (v :: rest))) : W p l e R s m args below meth c H locs cells slots Q (F0 m pc ls (.ref a :: rest)) := va_get (D := Γ.1) (ci := 7) (C := RX6) (T := TX6) (N := 7) S.1 S.2.1 S.2.2.2.2 inlX6 S.2.2.2.1 X.1 X.2.1 q0 he rfl 3 (by decide) (S.2.2.2.2 _ fl_X9_160) (fun _ h => h) hv hdg kk
theorem fl_X9_167 : Cond.fieldLink RX9 167 "HedgeCourt$Saying" "high" "I" ∈ BG := by decide +kernel
theorem gf_X9_167 {q0 a : Nat} {fs : List Value} {v : Value} (S : CallFix p m c cc nL s args BG RX9) (X : Wd E Γ A s H locs w) (he : w[q0]? = some (a, .inr (7, fs))) (hv : fs[4]? = some v) (hdg : decode cc pc = .ok (.getfield 167, 3)) (kk : W p l e R s m args below meth c H locs cells slots Q (F0 m (pc + 3) ls (v :: rest))) : W p l e R s m args below meth c H locs cells slots Q (F0 m pc ls (.ref a :: rest)) := va_get (D := Γ.1) (ci := 7) (C := RX6) (T := TX6) (N := 7) S.1 S.2.1 S.2.2.2.2 inlX6 S.2.2.2.1 X.1 X.2.1 q0 he rfl 4 (by decide) (S.2.2.2.2 _ fl_X9_167) (fun _ h => h) hv hdg kk
theorem fl_X9_170 : Cond.fieldLink RX9 170 "HedgeCourt$Saying" "year" "I" ∈ BG := by decide +kernel
theorem gf_X9_170 {q0 a : Nat} {fs : List Value} {v : Value} (S : CallFix p m c cc nL s args BG RX9) (X : Wd E Γ A s H locs w) (he : w[q0]? = some (a, .inr (7, fs))) (hv : fs[5]? = some v) (hdg : decode cc pc = .ok (.getfield 170, 3)) (kk : W p l e R s m args below meth c H locs cells slots Q (F0 m (pc + 3) ls (v :: rest))) : W p l e R s m args below meth c H locs cells slots Q (F0 m pc ls (.ref a :: rest)) := va_get (D := Γ.1) (ci := 7) (C := RX6) (T := TX6) (N := 7) S.1 S.2.1 S.2.2.2.2 inlX6 S.2.2.2.1 X.1 X.2.1 q0 he rfl 5 (by decide) (S.2.2.2.2 _ fl_X9_170) (fun _ h => h) hv hdg kk
theorem fl_X9_177 : Cond.fieldLink RX9 177 "HedgeCourt$Saying" "from" "I" ∈ BG := by decide +kernel
theorem gf_X9_177 {q0 a : Nat} {fs : List Value} {v : Value} (S : CallFix p m c cc nL s args BG RX9) (X : Wd E Γ A s H locs w) (he : w[q0]? = some (a, .inr (7, fs))) (hv : fs[1]? = some v) (hdg : decode cc pc = .ok (.getfield 177, 3)) (kk : W p l e R s m args below meth c H locs cells slots Q (F0 m (pc + 3) ls (v :: rest))) : W p l e R s m args below meth c H locs cells slots Q (F0 m pc ls (.ref a :: rest)) := va_get (D := Γ.1) (ci := 7) (C := RX6) (T := TX6) (N := 7) S.1 S.2.1 S.2.2.2.2 inlX6 S.2.2.2.1 X.1 X.2.1 q0 he rfl 1 (by decide) (S.2.2.2.2 _ fl_X9_177) (fun _ h => h) hv hdg kk
theorem fl_X9_180 : Cond.fieldLink RX9 180 "HedgeCourt$Saying" "to" "I" ∈ BG := by decide +kernel
theorem gf_X9_180 {q0 a : Nat} {fs : List Value} {v : Value} (S : CallFix p m c cc nL s args BG RX9) (X : Wd E Γ A s H locs w) (he : w[q0]? = some (a, .inr (7, fs))) (hv : fs[2]? = some v) (hdg : decode cc pc = .ok (.getfield 180, 3)) (kk : W p l e R s m args below meth c H locs cells slots Q (F0 m (pc + 3) ls (v :: rest))) : W p l e R s m args below meth c H locs cells slots Q (F0 m pc ls (.ref a :: rest)) := va_get (D := Γ.1) (ci := 7) (C := RX6) (T := TX6) (N := 7) S.1 S.2.1 S.2.2.2.2 inlX6 S.2.2.2.1 X.1 X.2.1 q0 he rfl 2 (by decide) (S.2.2.2.2 _ fl_X9_180) (fun _ h => h) hv hdg kk
theorem fl_X9_190 : Cond.fieldLink RX9 190 "HedgeCourt$PaperLine" "cost" "I" ∈ BG := by decide +kernel
theorem gf_X9_190 {q0 a : Nat} {fs : List Value} {v : Value} (S : CallFix p m c cc nL s args BG RX9) (X : Wd E Γ A s H locs w) (he : w[q0]? = some (a, .inr (4, fs))) (hv : fs[1]? = some v) (hdg : decode cc pc = .ok (.getfield 190, 3)) (kk : W p l e R s m args below meth c H locs cells slots Q (F0 m (pc + 3) ls (v :: rest))) : W p l e R s m args below meth c H locs cells slots Q (F0 m pc ls (.ref a :: rest)) := va_get (D := Γ.1) (ci := 4) (C := RX3) (T := TX3) (N := 3) S.1 S.2.1 S.2.2.2.2 inlX3 S.2.2.2.1 X.1 X.2.1 q0 he rfl 1 (by decide) (S.2.2.2.2 _ fl_X9_190) (fun _ h => h) hv hdg kk
theorem pf_X9_190 {q0 a : Nat} {fs : List Value} {v : Value} (S : CallFix p m c cc nL s args BG RX9) (X : Wd E Γ A s H locs w) (he : w[q0]? = some (a, .inr (4, fs))) (hn : narrow (.int) v = v) (hf : fits (.int) v = true) (hl : 1 < fs.length) (hdg : decode cc pc = .ok (.putfield 190, 3)) (kk : ∀ (H1 : Heap) (locs1 : List Loc), Wd E Γ A s H1 locs1 (w.set q0 (a, .inr (4, fs.set 1 v))) → W p l e R s m args below meth c H1 locs1 cells slots Q (F0 m (pc + 3) ls rest)) : W p l e R s m args below meth c H locs cells slots Q (F0 m pc ls (v :: .ref a :: rest)) := va_put (D := Γ.1) (ci := 4) (C := RX3) (T := TX3) (N := 3) S.1 S.2.1 S.2.2.2.2 inlX3 tyX3 tyX3_ok nmX3 S.2.2.2.1 X.1 X.2.1 X.2.2.1 X.2.2.2.1 q0 he rfl 1 (by decide) (S.2.2.2.2 _ fl_X9_190) (fun _ h => h) rfl (ty := .int) (by decide +kernel) hn hf hl hdg (fun H1 locs1 a1 a2 a3 => kk H1 locs1 ⟨X.1, a1, a2, a3, X.2.2.2.2⟩)
theorem fl_X9_193 : Cond.fieldLink RX9 193 "HedgeCourt$PaperLine" "feet" "[I" ∈ BG := by decide +kernel
theorem gf_X9_193 {q0 a : Nat} {fs : List Value} {v : Value} (S : CallFix p m c cc nL s args BG RX9) (X : Wd E Γ A s H locs w) (he : w[q0]? = some (a, .inr (4, fs))) (hv : fs[0]? = some v) (hdg : decode cc pc = .ok (.getfield 193, 3)) (kk : W p l e R s m args below meth c H locs cells slots Q (F0 m (pc + 3) ls (v :: rest))) : W p l e R s m args below meth c H locs cells slots Q (F0 m pc ls (.ref a :: rest)) := va_get (D := Γ.1) (ci := 4) (C := RX3) (T := TX3) (N := 3) S.1 S.2.1 S.2.2.2.2 inlX3 S.2.2.2.1 X.1 X.2.1 q0 he rfl 0 (by decide) (S.2.2.2.2 _ fl_X9_193) (fun _ h => h) hv hdg kk
theorem fl_X9_221 : Cond.fieldLink RX9 221 "HedgeCourt$TrueLine" "won" "[I" ∈ BG := by decide +kernel
theorem gf_X9_221 {q0 a : Nat} {fs : List Value} {v : Value} (S : CallFix p m c cc nL s args BG RX9) (X : Wd E Γ A s H locs w) (he : w[q0]? = some (a, .inr (9, fs))) (hv : fs[2]? = some v) (hdg : decode cc pc = .ok (.getfield 221, 3)) (kk : W p l e R s m args below meth c H locs cells slots Q (F0 m (pc + 3) ls (v :: rest))) : W p l e R s m args below meth c H locs cells slots Q (F0 m pc ls (.ref a :: rest)) := va_get (D := Γ.1) (ci := 9) (C := RX8) (T := TX8) (N := 7) S.1 S.2.1 S.2.2.2.2 inlX8 S.2.2.2.1 X.1 X.2.1 q0 he rfl 2 (by decide) (S.2.2.2.2 _ fl_X9_221) (fun _ h => h) hv hdg kk
theorem fl_X9_224 : Cond.fieldLink RX9 224 "HedgeCourt$TrueLine" "movedIn" "I" ∈ BG := by decide +kernel
theorem gf_X9_224 {q0 a : Nat} {fs : List Value} {v : Value} (S : CallFix p m c cc nL s args BG RX9) (X : Wd E Γ A s H locs w) (he : w[q0]? = some (a, .inr (9, fs))) (hv : fs[1]? = some v) (hdg : decode cc pc = .ok (.getfield 224, 3)) (kk : W p l e R s m args below meth c H locs cells slots Q (F0 m (pc + 3) ls (v :: rest))) : W p l e R s m args below meth c H locs cells slots Q (F0 m pc ls (.ref a :: rest)) := va_get (D := Γ.1) (ci := 9) (C := RX8) (T := TX8) (N := 7) S.1 S.2.1 S.2.2.2.2 inlX8 S.2.2.2.1 X.1 X.2.1 q0 he rfl 1 (by decide) (S.2.2.2.2 _ fl_X9_224) (fun _ h => h) hv hdg kk
theorem pf_X9_224 {q0 a : Nat} {fs : List Value} {v : Value} (S : CallFix p m c cc nL s args BG RX9) (X : Wd E Γ A s H locs w) (he : w[q0]? = some (a, .inr (9, fs))) (hn : narrow (.int) v = v) (hf : fits (.int) v = true) (hl : 1 < fs.length) (hdg : decode cc pc = .ok (.putfield 224, 3)) (kk : ∀ (H1 : Heap) (locs1 : List Loc), Wd E Γ A s H1 locs1 (w.set q0 (a, .inr (9, fs.set 1 v))) → W p l e R s m args below meth c H1 locs1 cells slots Q (F0 m (pc + 3) ls rest)) : W p l e R s m args below meth c H locs cells slots Q (F0 m pc ls (v :: .ref a :: rest)) := va_put (D := Γ.1) (ci := 9) (C := RX8) (T := TX8) (N := 7) S.1 S.2.1 S.2.2.2.2 inlX8 tyX8 tyX8_ok nmX8 S.2.2.2.1 X.1 X.2.1 X.2.2.1 X.2.2.2.1 q0 he rfl 1 (by decide) (S.2.2.2.2 _ fl_X9_224) (fun _ h => h) rfl (ty := .int) (by decide +kernel) hn hf hl hdg (fun H1 locs1 a1 a2 a3 => kk H1 locs1 ⟨X.1, a1, a2, a3, X.2.2.2.2⟩)
theorem fl_X9_227 : Cond.fieldLink RX9 227 "HedgeCourt$TrueLine" "foot" "I" ∈ BG := by decide +kernel
theorem gf_X9_227 {q0 a : Nat} {fs : List Value} {v : Value} (S : CallFix p m c cc nL s args BG RX9) (X : Wd E Γ A s H locs w) (he : w[q0]? = some (a, .inr (9, fs))) (hv : fs[0]? = some v) (hdg : decode cc pc = .ok (.getfield 227, 3)) (kk : W p l e R s m args below meth c H locs cells slots Q (F0 m (pc + 3) ls (v :: rest))) : W p l e R s m args below meth c H locs cells slots Q (F0 m pc ls (.ref a :: rest)) := va_get (D := Γ.1) (ci := 9) (C := RX8) (T := TX8) (N := 7) S.1 S.2.1 S.2.2.2.2 inlX8 S.2.2.2.1 X.1 X.2.1 q0 he rfl 0 (by decide) (S.2.2.2.2 _ fl_X9_227) (fun _ h => h) hv hdg kk
theorem pf_X9_227 {q0 a : Nat} {fs : List Value} {v : Value} (S : CallFix p m c cc nL s args BG RX9) (X : Wd E Γ A s H locs w) (he : w[q0]? = some (a, .inr (9, fs))) (hn : narrow (.int) v = v) (hf : fits (.int) v = true) (hl : 0 < fs.length) (hdg : decode cc pc = .ok (.putfield 227, 3)) (kk : ∀ (H1 : Heap) (locs1 : List Loc), Wd E Γ A s H1 locs1 (w.set q0 (a, .inr (9, fs.set 0 v))) → W p l e R s m args below meth c H1 locs1 cells slots Q (F0 m (pc + 3) ls rest)) : W p l e R s m args below meth c H locs cells slots Q (F0 m pc ls (v :: .ref a :: rest)) := va_put (D := Γ.1) (ci := 9) (C := RX8) (T := TX8) (N := 7) S.1 S.2.1 S.2.2.2.2 inlX8 tyX8 tyX8_ok nmX8 S.2.2.2.1 X.1 X.2.1 X.2.2.1 X.2.2.2.1 q0 he rfl 0 (by decide) (S.2.2.2.2 _ fl_X9_227) (fun _ h => h) rfl (ty := .int) (by decide +kernel) hn hf hl hdg (fun H1 locs1 a1 a2 a3 => kk H1 locs1 ⟨X.1, a1, a2, a3, X.2.2.2.2⟩)
theorem fl_X9_247 : Cond.fieldLink RX9 247 "HedgeCourt$Quarrel" "opened" "Z" ∈ BG := by decide +kernel
theorem gf_X9_247 {q0 a : Nat} {fs : List Value} {v : Value} (S : CallFix p m c cc nL s args BG RX9) (X : Wd E Γ A s H locs w) (he : w[q0]? = some (a, .inr (6, fs))) (hv : fs[0]? = some v) (hdg : decode cc pc = .ok (.getfield 247, 3)) (kk : W p l e R s m args below meth c H locs cells slots Q (F0 m (pc + 3) ls (v :: rest))) : W p l e R s m args below meth c H locs cells slots Q (F0 m pc ls (.ref a :: rest)) := va_get (D := Γ.1) (ci := 6) (C := RX5) (T := TX5) (N := 10) S.1 S.2.1 S.2.2.2.2 inlX5 S.2.2.2.1 X.1 X.2.1 q0 he rfl 0 (by decide) (S.2.2.2.2 _ fl_X9_247) (fun _ h => h) hv hdg kk
theorem pf_X9_247 {q0 a : Nat} {fs : List Value} {v : Value} (S : CallFix p m c cc nL s args BG RX9) (X : Wd E Γ A s H locs w) (he : w[q0]? = some (a, .inr (6, fs))) (hn : narrow (.boolean) v = v) (hf : fits (.boolean) v = true) (hl : 0 < fs.length) (hdg : decode cc pc = .ok (.putfield 247, 3)) (kk : ∀ (H1 : Heap) (locs1 : List Loc), Wd E Γ A s H1 locs1 (w.set q0 (a, .inr (6, fs.set 0 v))) → W p l e R s m args below meth c H1 locs1 cells slots Q (F0 m (pc + 3) ls rest)) : W p l e R s m args below meth c H locs cells slots Q (F0 m pc ls (v :: .ref a :: rest)) := va_put (D := Γ.1) (ci := 6) (C := RX5) (T := TX5) (N := 10) S.1 S.2.1 S.2.2.2.2 inlX5 tyX5 tyX5_ok nmX5 S.2.2.2.1 X.1 X.2.1 X.2.2.1 X.2.2.2.1 q0 he rfl 0 (by decide) (S.2.2.2.2 _ fl_X9_247) (fun _ h => h) rfl (ty := .boolean) (by decide +kernel) hn hf hl hdg (fun H1 locs1 a1 a2 a3 => kk H1 locs1 ⟨X.1, a1, a2, a3, X.2.2.2.2⟩)
theorem fl_X9_250 : Cond.fieldLink RX9 250 "HedgeCourt$Quarrel" "fair" "I" ∈ BG := by decide +kernel
theorem gf_X9_250 {q0 a : Nat} {fs : List Value} {v : Value} (S : CallFix p m c cc nL s args BG RX9) (X : Wd E Γ A s H locs w) (he : w[q0]? = some (a, .inr (6, fs))) (hv : fs[1]? = some v) (hdg : decode cc pc = .ok (.getfield 250, 3)) (kk : W p l e R s m args below meth c H locs cells slots Q (F0 m (pc + 3) ls (v :: rest))) : W p l e R s m args below meth c H locs cells slots Q (F0 m pc ls (.ref a :: rest)) := va_get (D := Γ.1) (ci := 6) (C := RX5) (T := TX5) (N := 10) S.1 S.2.1 S.2.2.2.2 inlX5 S.2.2.2.1 X.1 X.2.1 q0 he rfl 1 (by decide) (S.2.2.2.2 _ fl_X9_250) (fun _ h => h) hv hdg kk
theorem pf_X9_250 {q0 a : Nat} {fs : List Value} {v : Value} (S : CallFix p m c cc nL s args BG RX9) (X : Wd E Γ A s H locs w) (he : w[q0]? = some (a, .inr (6, fs))) (hn : narrow (.int) v = v) (hf : fits (.int) v = true) (hl : 1 < fs.length) (hdg : decode cc pc = .ok (.putfield 250, 3)) (kk : ∀ (H1 : Heap) (locs1 : List Loc), Wd E Γ A s H1 locs1 (w.set q0 (a, .inr (6, fs.set 1 v))) → W p l e R s m args below meth c H1 locs1 cells slots Q (F0 m (pc + 3) ls rest)) : W p l e R s m args below meth c H locs cells slots Q (F0 m pc ls (v :: .ref a :: rest)) := va_put (D := Γ.1) (ci := 6) (C := RX5) (T := TX5) (N := 10) S.1 S.2.1 S.2.2.2.2 inlX5 tyX5 tyX5_ok nmX5 S.2.2.2.1 X.1 X.2.1 X.2.2.1 X.2.2.2.1 q0 he rfl 1 (by decide) (S.2.2.2.2 _ fl_X9_250) (fun _ h => h) rfl (ty := .int) (by decide +kernel) hn hf hl hdg (fun H1 locs1 a1 a2 a3 => kk H1 locs1 ⟨X.1, a1, a2, a3, X.2.2.2.2⟩)
theorem fl_X9_253 : Cond.fieldLink RX9 253 "HedgeCourt$Quarrel" "leastFair" "I" ∈ BG := by decide +kernel
theorem gf_X9_253 {q0 a : Nat} {fs : List Value} {v : Value} (S : CallFix p m c cc nL s args BG RX9) (X : Wd E Γ A s H locs w) (he : w[q0]? = some (a, .inr (6, fs))) (hv : fs[2]? = some v) (hdg : decode cc pc = .ok (.getfield 253, 3)) (kk : W p l e R s m args below meth c H locs cells slots Q (F0 m (pc + 3) ls (v :: rest))) : W p l e R s m args below meth c H locs cells slots Q (F0 m pc ls (.ref a :: rest)) := va_get (D := Γ.1) (ci := 6) (C := RX5) (T := TX5) (N := 10) S.1 S.2.1 S.2.2.2.2 inlX5 S.2.2.2.1 X.1 X.2.1 q0 he rfl 2 (by decide) (S.2.2.2.2 _ fl_X9_253) (fun _ h => h) hv hdg kk
theorem pf_X9_253 {q0 a : Nat} {fs : List Value} {v : Value} (S : CallFix p m c cc nL s args BG RX9) (X : Wd E Γ A s H locs w) (he : w[q0]? = some (a, .inr (6, fs))) (hn : narrow (.int) v = v) (hf : fits (.int) v = true) (hl : 2 < fs.length) (hdg : decode cc pc = .ok (.putfield 253, 3)) (kk : ∀ (H1 : Heap) (locs1 : List Loc), Wd E Γ A s H1 locs1 (w.set q0 (a, .inr (6, fs.set 2 v))) → W p l e R s m args below meth c H1 locs1 cells slots Q (F0 m (pc + 3) ls rest)) : W p l e R s m args below meth c H locs cells slots Q (F0 m pc ls (v :: .ref a :: rest)) := va_put (D := Γ.1) (ci := 6) (C := RX5) (T := TX5) (N := 10) S.1 S.2.1 S.2.2.2.2 inlX5 tyX5 tyX5_ok nmX5 S.2.2.2.1 X.1 X.2.1 X.2.2.1 X.2.2.2.1 q0 he rfl 2 (by decide) (S.2.2.2.2 _ fl_X9_253) (fun _ h => h) rfl (ty := .int) (by decide +kernel) hn hf hl hdg (fun H1 locs1 a1 a2 a3 => kk H1 locs1 ⟨X.1, a1, a2, a3, X.2.2.2.2⟩)
theorem fl_X9_256 : Cond.fieldLink RX9 256 "HedgeCourt$Quarrel" "greatestFair" "I" ∈ BG := by decide +kernel
theorem gf_X9_256 {q0 a : Nat} {fs : List Value} {v : Value} (S : CallFix p m c cc nL s args BG RX9) (X : Wd E Γ A s H locs w) (he : w[q0]? = some (a, .inr (6, fs))) (hv : fs[3]? = some v) (hdg : decode cc pc = .ok (.getfield 256, 3)) (kk : W p l e R s m args below meth c H locs cells slots Q (F0 m (pc + 3) ls (v :: rest))) : W p l e R s m args below meth c H locs cells slots Q (F0 m pc ls (.ref a :: rest)) := va_get (D := Γ.1) (ci := 6) (C := RX5) (T := TX5) (N := 10) S.1 S.2.1 S.2.2.2.2 inlX5 S.2.2.2.1 X.1 X.2.1 q0 he rfl 3 (by decide) (S.2.2.2.2 _ fl_X9_256) (fun _ h => h) hv hdg kk
theorem pf_X9_256 {q0 a : Nat} {fs : List Value} {v : Value} (S : CallFix p m c cc nL s args BG RX9) (X : Wd E Γ A s H locs w) (he : w[q0]? = some (a, .inr (6, fs))) (hn : narrow (.int) v = v) (hf : fits (.int) v = true) (hl : 3 < fs.length) (hdg : decode cc pc = .ok (.putfield 256, 3)) (kk : ∀ (H1 : Heap) (locs1 : List Loc), Wd E Γ A s H1 locs1 (w.set q0 (a, .inr (6, fs.set 3 v))) → W p l e R s m args below meth c H1 locs1 cells slots Q (F0 m (pc + 3) ls rest)) : W p l e R s m args below meth c H locs cells slots Q (F0 m pc ls (v :: .ref a :: rest)) := va_put (D := Γ.1) (ci := 6) (C := RX5) (T := TX5) (N := 10) S.1 S.2.1 S.2.2.2.2 inlX5 tyX5 tyX5_ok nmX5 S.2.2.2.1 X.1 X.2.1 X.2.2.1 X.2.2.2.1 q0 he rfl 3 (by decide) (S.2.2.2.2 _ fl_X9_256) (fun _ h => h) rfl (ty := .int) (by decide +kernel) hn hf hl hdg (fun H1 locs1 a1 a2 a3 => kk H1 locs1 ⟨X.1, a1, a2, a3, X.2.2.2.2⟩)
theorem fl_X9_259 : Cond.fieldLink RX9 259 "HedgeCourt$Quarrel" "fairest" "I" ∈ BG := by decide +kernel
theorem gf_X9_259 {q0 a : Nat} {fs : List Value} {v : Value} (S : CallFix p m c cc nL s args BG RX9) (X : Wd E Γ A s H locs w) (he : w[q0]? = some (a, .inr (6, fs))) (hv : fs[4]? = some v) (hdg : decode cc pc = .ok (.getfield 259, 3)) (kk : W p l e R s m args below meth c H locs cells slots Q (F0 m (pc + 3) ls (v :: rest))) : W p l e R s m args below meth c H locs cells slots Q (F0 m pc ls (.ref a :: rest)) := va_get (D := Γ.1) (ci := 6) (C := RX5) (T := TX5) (N := 10) S.1 S.2.1 S.2.2.2.2 inlX5 S.2.2.2.1 X.1 X.2.1 q0 he rfl 4 (by decide) (S.2.2.2.2 _ fl_X9_259) (fun _ h => h) hv hdg kk
theorem pf_X9_259 {q0 a : Nat} {fs : List Value} {v : Value} (S : CallFix p m c cc nL s args BG RX9) (X : Wd E Γ A s H locs w) (he : w[q0]? = some (a, .inr (6, fs))) (hn : narrow (.int) v = v) (hf : fits (.int) v = true) (hl : 4 < fs.length) (hdg : decode cc pc = .ok (.putfield 259, 3)) (kk : ∀ (H1 : Heap) (locs1 : List Loc), Wd E Γ A s H1 locs1 (w.set q0 (a, .inr (6, fs.set 4 v))) → W p l e R s m args below meth c H1 locs1 cells slots Q (F0 m (pc + 3) ls rest)) : W p l e R s m args below meth c H locs cells slots Q (F0 m pc ls (v :: .ref a :: rest)) := va_put (D := Γ.1) (ci := 6) (C := RX5) (T := TX5) (N := 10) S.1 S.2.1 S.2.2.2.2 inlX5 tyX5 tyX5_ok nmX5 S.2.2.2.1 X.1 X.2.1 X.2.2.1 X.2.2.2.1 q0 he rfl 4 (by decide) (S.2.2.2.2 _ fl_X9_259) (fun _ h => h) rfl (ty := .int) (by decide +kernel) hn hf hl hdg (fun H1 locs1 a1 a2 a3 => kk H1 locs1 ⟨X.1, a1, a2, a3, X.2.2.2.2⟩)
end FIELDS
end
section
/-! the words of each call -/
set_option maxRecDepth 20000 in
theorem cV_J0_335 : gV RJ0 335 yJ0_coder_7d493 cJ0_coder_7d493 1 (some .byte) 0 := by decide +kernel
set_option maxRecDepth 20000 in
theorem cV_J0_492 : gV RJ0 492 yJ0_isLatin1_aae02 cJ0_isLatin1_aae02 1 (some .boolean) 0 := by decide +kernel
set_option maxRecDepth 20000 in
theorem cS_J0_495 : gS RJ0 495 yJ1_charAt_3b067 cJ1_charAt_3b067 2 (some .char) 2 := by decide +kernel
set_option maxRecDepth 20000 in
theorem cS_J0_498 : gS RJ0 498 yJ2_charAt_3b067 cJ2_charAt_3b067 2 (some .char) 2 := by decide +kernel
set_option maxRecDepth 20000 in
theorem cS_J0_1059 : gS RJ0 1059 yJ3_checkIndex_8e157 cJ3_checkIndex_8e157 3 (some .int) 3 := by decide +kernel
set_option maxRecDepth 20000 in
theorem cS_J1_9 : gS RJ1 9 yJ0_checkIndex_df160 cJ0_checkIndex_df160 2 none 2 := by decide +kernel
set_option maxRecDepth 20000 in
theorem cS_J15_105 : gS RJ15 105 yJ3_checkIndex_8e157 cJ3_checkIndex_8e157 3 (some .int) 3 := by decide +kernel
set_option maxRecDepth 20000 in
theorem cS_J2_48 : gS RJ2 48 yJ2_length_9d52b cJ2_length_9d52b 1 (some .int) 1 := by decide +kernel
set_option maxRecDepth 20000 in
theorem cS_J2_67 : gS RJ2 67 yJ2_checkIndex_2214a cJ2_checkIndex_2214a 2 none 2 := by decide +kernel
set_option maxRecDepth 20000 in
theorem cS_J2_71 : gS RJ2 71 yJ2_getChar_3b067 cJ2_getChar_3b067 2 (some .char) 2 := by decide +kernel
set_option maxRecDepth 20000 in
theorem cS_J2_414 : gS RJ2 414 yJ0_checkIndex_df160 cJ0_checkIndex_df160 2 none 2 := by decide +kernel
set_option maxRecDepth 20000 in
theorem cS_J7_300 : gS RJ7 300 yJ7_copyOf_6403c cJ7_copyOf_6403c 4 (some (.array (.object "java/lang/Object"))) 3 := by decide +kernel
set_option maxRecDepth 20000 in
theorem cS_J8_201 : gS RJ8 201 yJ8_hugeLength_7cf53 cJ8_hugeLength_7cf53 3 (some .int) 2 := by decide +kernel
set_option maxRecDepth 20000 in
theorem cI_Jx4a65c_1 : gI RJx4a65c 1 yJxc12de_init_da8c8 cJxc12de_init_da8c8 1 0 := by decide +kernel
set_option maxRecDepth 20000 in
theorem cS_Jx4a65c_66 : gS RJx4a65c 66 yJ7_copyOf_1904c cJ7_copyOf_1904c 2 (some (.array (.object "java/lang/Object"))) 2 := by decide +kernel
set_option maxRecDepth 20000 in
theorem cV_Jx4a65c_69 : gV RJx4a65c 69 yJx4a65c_grow_92f84 cJx4a65c_grow_92f84 4 (some (.array (.object "java/lang/Object"))) 1 := by decide +kernel
set_option maxRecDepth 20000 in
theorem cS_Jx4a65c_73 : gS RJx4a65c 73 yJ8_newLength_cabcc cJ8_newLength_cabcc 4 (some .int) 3 := by decide +kernel
set_option maxRecDepth 20000 in
theorem cS_Jx4a65c_118 : gS RJx4a65c 118 yJ15_checkIndex_7cf53 cJ15_checkIndex_7cf53 2 (some .int) 2 := by decide +kernel
set_option maxRecDepth 20000 in
theorem cV_Jx4a65c_123 : gV RJx4a65c 123 yJx4a65c_elementData_915e3 cJx4a65c_elementData_915e3 2 (some (.object "java/lang/Object")) 1 := by decide +kernel
set_option maxRecDepth 20000 in
theorem cV_Jx4a65c_129 : gV RJx4a65c 129 yJx4a65c_grow_d5877 cJx4a65c_grow_d5877 1 (some (.array (.object "java/lang/Object"))) 0 := by decide +kernel
set_option maxRecDepth 20000 in
theorem cV_Jx4a65c_131 : gV RJx4a65c 131 yJx4a65c_add_72be8 cJx4a65c_add_72be8 4 none 3 := by decide +kernel
set_option maxRecDepth 20000 in
theorem cI_Jxc12de_1 : gI RJxc12de 1 yJxa1e45_init_da8c8 cJxa1e45_init_da8c8 1 0 := by decide +kernel
set_option maxRecDepth 20000 in
theorem cI_L_9 : gI RL 9 yX9_init cX9_init 1 0 := by decide +kernel
set_option maxRecDepth 20000 in
theorem cI_L_12 : gI RL 12 yX10_init cX10_init 2 0 := by decide +kernel
set_option maxRecDepth 20000 in
theorem cV_L_13 : gV RL 13 yX9_say cX9_say 9 (some .int) 7 := by decide +kernel
set_option maxRecDepth 20000 in
theorem cV_L_17 : gV RL 17 yX10_say cX10_say 8 (some .int) 7 := by decide +kernel
set_option maxRecDepth 20000 in
theorem cV_L_18 : gV RL 18 yX9_feed cX9_feed 6 (some .int) 5 := by decide +kernel
set_option maxRecDepth 20000 in
theorem cV_L_22 : gV RL 22 yX10_feed cX10_feed 8 (some .int) 5 := by decide +kernel
set_option maxRecDepth 20000 in
theorem cV_L_23 : gV RL 23 yX9_end cX9_end 2 (some .boolean) 1 := by decide +kernel
set_option maxRecDepth 20000 in
theorem cV_L_27 : gV RL 27 yX10_end cX10_end 2 (some .boolean) 1 := by decide +kernel
set_option maxRecDepth 20000 in
theorem cV_L_28 : gV RL 28 yX9_rules cX9_rules 2 (some .int) 0 := by decide +kernel
set_option maxRecDepth 20000 in
theorem cV_L_32 : gV RL 32 yX10_rules cX10_rules 3 (some .int) 0 := by decide +kernel
set_option maxRecDepth 20000 in
theorem cV_L_33 : gV RL 33 yX9_fault cX9_fault 2 (some .int) 1 := by decide +kernel
set_option maxRecDepth 20000 in
theorem cV_L_37 : gV RL 37 yX10_fault cX10_fault 2 (some .int) 1 := by decide +kernel
set_option maxRecDepth 20000 in
theorem cV_L_38 : gV RL 38 yX9_look cX9_look 2 (some .int) 1 := by decide +kernel
set_option maxRecDepth 20000 in
theorem cV_L_41 : gV RL 41 yX10_look cX10_look 2 (some .int) 1 := by decide +kernel
set_option maxRecDepth 20000 in
theorem cV_L_42 : gV RL 42 yX9_said cX9_said 4 (some .int) 2 := by decide +kernel
set_option maxRecDepth 20000 in
theorem cV_L_46 : gV RL 46 yX10_said cX10_said 5 (some .int) 2 := by decide +kernel
set_option maxRecDepth 20000 in
theorem cV_L_47 : gV RL 47 yX9_paper cX9_paper 2 (some .int) 1 := by decide +kernel
set_option maxRecDepth 20000 in
theorem cV_L_50 : gV RL 50 yX10_paper cX10_paper 2 (some .int) 1 := by decide +kernel
set_option maxRecDepth 20000 in
theorem cV_L_51 : gV RL 51 yX9_straight cX9_straight 7 (some .int) 1 := by decide +kernel
set_option maxRecDepth 20000 in
theorem cV_L_54 : gV RL 54 yX10_straight cX10_straight 4 (some .int) 1 := by decide +kernel
set_option maxRecDepth 20000 in
theorem cV_L_55 : gV RL 55 yX9_mow cX9_mow 7 (some .boolean) 5 := by decide +kernel
set_option maxRecDepth 20000 in
theorem cV_L_59 : gV RL 59 yX10_mow cX10_mow 6 (some .boolean) 5 := by decide +kernel
set_option maxRecDepth 20000 in
theorem cV_L_60 : gV RL 60 yX9_protest cX9_protest 3 (some .boolean) 2 := by decide +kernel
set_option maxRecDepth 20000 in
theorem cV_L_64 : gV RL 64 yX10_protest cX10_protest 3 (some .boolean) 2 := by decide +kernel
set_option maxRecDepth 20000 in
theorem cV_L_65 : gV RL 65 yX9_mowed cX9_mowed 5 (some .int) 3 := by decide +kernel
set_option maxRecDepth 20000 in
theorem cV_L_69 : gV RL 69 yX10_mowed cX10_mowed 4 (some .int) 3 := by decide +kernel
set_option maxRecDepth 20000 in
theorem cV_L_70 : gV RL 70 yX9_spells cX9_spells 3 (some .int) 2 := by decide +kernel
set_option maxRecDepth 20000 in
theorem cV_L_73 : gV RL 73 yX10_spells_ cX10_spells_ 3 (some .int) 2 := by decide +kernel
set_option maxRecDepth 20000 in
theorem cV_L_74 : gV RL 74 yX9_line cX9_line 2 (some .int) 1 := by decide +kernel
set_option maxRecDepth 20000 in
theorem cV_L_77 : gV RL 77 yX10_line cX10_line 2 (some .int) 1 := by decide +kernel
set_option maxRecDepth 20000 in
theorem cV_L_78 : gV RL 78 yX9_quarrel cX9_quarrel 10 (some .boolean) 8 := by decide +kernel
set_option maxRecDepth 20000 in
theorem cV_L_82 : gV RL 82 yX10_quarrel cX10_quarrel 9 (some .boolean) 8 := by decide +kernel
set_option maxRecDepth 20000 in
theorem cV_L_83 : gV RL 83 yX9_split cX9_split 2 (some .int) 1 := by decide +kernel
set_option maxRecDepth 20000 in
theorem cV_L_86 : gV RL 86 yX10_split cX10_split 7 (some .int) 1 := by decide +kernel
set_option maxRecDepth 20000 in
theorem cV_X0_19 : gV RX0 19 yX0_reset cX0_reset 2 none 0 := by decide +kernel
set_option maxRecDepth 20000 in
theorem cS_X0_22 : gS RX0 22 yJ7_fill_53178 cJ7_fill_53178 4 none 2 := by decide +kernel
set_option maxRecDepth 20000 in
theorem cV_X1_37 : gV RX1 37 yX0_reset cX0_reset 2 none 0 := by decide +kernel
set_option maxRecDepth 20000 in
theorem cV_X1_42 : gV RX1 42 yX1_advance cX1_advance 1 none 0 := by decide +kernel
set_option maxRecDepth 20000 in
theorem cV_X1_45 : gV RX1 45 yX1_readLine cX1_readLine 5 none 1 := by decide +kernel
set_option maxRecDepth 20000 in
theorem cV_X1_49 : gV RX1 49 yX1_demand cX1_demand 3 none 2 := by decide +kernel
set_option maxRecDepth 20000 in
theorem cV_X1_53 : gV RX1 53 yX1_kindHere cX1_kindHere 1 (some .int) 0 := by decide +kernel
set_option maxRecDepth 20000 in
theorem cV_X1_57 : gV RX1 57 yX1_numberHere cX1_numberHere 2 (some .int) 1 := by decide +kernel
set_option maxRecDepth 20000 in
theorem cS_X1_61 : gS RX1 61 yX1_enact cX1_enact 5 none 4 := by decide +kernel
set_option maxRecDepth 20000 in
theorem cS_X1_65 : gS RX1 65 yX1_fits cX1_fits 2 (some .boolean) 2 := by decide +kernel
set_option maxRecDepth 20000 in
theorem cS_X1_95 : gS RX1 95 yX1_isBlank cX1_isBlank 1 (some .boolean) 1 := by decide +kernel
set_option maxRecDepth 20000 in
theorem cS_X1_99 : gS RX1 99 yX1_isLetter cX1_isLetter 1 (some .boolean) 1 := by decide +kernel
set_option maxRecDepth 20000 in
theorem cV_X1_102 : gV RX1 102 yX1_scanWord cX1_scanWord 2 none 0 := by decide +kernel
set_option maxRecDepth 20000 in
theorem cS_X1_105 : gS RX1 105 yX1_isDigit cX1_isDigit 1 (some .boolean) 1 := by decide +kernel
set_option maxRecDepth 20000 in
theorem cV_X1_108 : gV RX1 108 yX1_scanNumber cX1_scanNumber 2 none 0 := by decide +kernel
set_option maxRecDepth 20000 in
theorem cS_X1_111 : gS RX1 111 yX1_keyword cX1_keyword 1 (some (.object "java/lang/String")) 1 := by decide +kernel
set_option maxRecDepth 20000 in
theorem cV_X1_115 : gV RX1 115 yX1_isSpelled cX1_isSpelled 3 (some .boolean) 1 := by decide +kernel
set_option maxRecDepth 20000 in
theorem cV_X1_119 : gV RX1 119 yJ0_length_8abf5 cJ0_length_8abf5 1 (some .int) 0 := by decide +kernel
set_option maxRecDepth 20000 in
theorem cV_X1_123 : gV RX1 123 yJ0_charAt_5068e cJ0_charAt_5068e 2 (some .char) 1 := by decide +kernel
set_option maxRecDepth 20000 in
theorem cS_X10_90 : gS RX10 90 yX10_isIn cX10_isIn 3 (some .boolean) 3 := by decide +kernel
set_option maxRecDepth 20000 in
theorem cS_X10_94 : gS RX10 94 yX10_isStation cX10_isStation 1 (some .boolean) 1 := by decide +kernel
set_option maxRecDepth 20000 in
theorem cS_X10_98 : gS RX10 98 yX10_isSpan cX10_isSpan 2 (some .boolean) 2 := by decide +kernel
set_option maxRecDepth 20000 in
theorem cS_X10_102 : gS RX10 102 yX10_isFoot cX10_isFoot 1 (some .boolean) 1 := by decide +kernel
set_option maxRecDepth 20000 in
theorem cS_X10_105 : gS RX10 105 yX10_isYear cX10_isYear 1 (some .boolean) 1 := by decide +kernel
set_option maxRecDepth 20000 in
theorem cV_X10_139 : gV RX10 139 yX10_see cX10_see 2 (some .int) 1 := by decide +kernel
set_option maxRecDepth 20000 in
theorem cS_X10_149 : gS RX10 149 yX10_isLetter cX10_isLetter 1 (some .boolean) 1 := by decide +kernel
set_option maxRecDepth 20000 in
theorem cS_X10_152 : gS RX10 152 yX10_word cX10_word 2 (some .int) 1 := by decide +kernel
set_option maxRecDepth 20000 in
theorem cS_X10_156 : gS RX10 156 yX10_isDigit cX10_isDigit 1 (some .boolean) 1 := by decide +kernel
set_option maxRecDepth 20000 in
theorem cV_X10_168 : gV RX10 168 yX10_bad cX10_bad 2 (some .boolean) 1 := by decide +kernel
set_option maxRecDepth 20000 in
theorem cV_X10_174 : gV RX10 174 yX10_next0 cX10_next0 5 none 0 := by decide +kernel
set_option maxRecDepth 20000 in
theorem cV_X10_177 : gV RX10 177 yX10_aKind cX10_aKind 1 (some .boolean) 0 := by decide +kernel
set_option maxRecDepth 20000 in
theorem cV_X10_181 : gV RX10 181 yX10_aNumber cX10_aNumber 3 (some .boolean) 2 := by decide +kernel
set_option maxRecDepth 20000 in
theorem cV_X10_184 : gV RX10 184 yX10_aLine cX10_aLine 2 (some .boolean) 0 := by decide +kernel
set_option maxRecDepth 20000 in
theorem cV_X10_193 : gV RX10 193 yX10_tells cX10_tells 4 none 3 := by decide +kernel
set_option maxRecDepth 20000 in
theorem cV_X10_200 : gV RX10 200 yX10_moved cX10_moved 4 (some .int) 2 := by decide +kernel
set_option maxRecDepth 20000 in
theorem cV_X10_204 : gV RX10 204 yX10_counts cX10_counts 5 (some .boolean) 2 := by decide +kernel
set_option maxRecDepth 20000 in
theorem cS_X10_207 : gS RX10 207 yX10_abs cX10_abs 1 (some .int) 1 := by decide +kernel
set_option maxRecDepth 20000 in
theorem cV_X10_210 : gV RX10 210 yX10_costAt cX10_costAt 7 (some .int) 2 := by decide +kernel
set_option maxRecDepth 20000 in
theorem cV_X10_213 : gV RX10 213 yX10_onFrom cX10_onFrom 3 (some .int) 2 := by decide +kernel
set_option maxRecDepth 20000 in
theorem cV_X10_216 : gV RX10 216 yX10_lines cX10_lines 6 none 0 := by decide +kernel
set_option maxRecDepth 20000 in
theorem cV_X10_221 : gV RX10 221 yX10_isProtested cX10_isProtested 5 (some .boolean) 2 := by decide +kernel
set_option maxRecDepth 20000 in
theorem cV_X10_224 : gV RX10 224 yX10_mowedIn cX10_mowedIn 6 (some .int) 3 := by decide +kernel
set_option maxRecDepth 20000 in
theorem cV_X10_234 : gV RX10 234 yX10_goes cX10_goes 9 none 3 := by decide +kernel
set_option maxRecDepth 20000 in
theorem cV_X10_237 : gV RX10 237 yX10_spells cX10_spells 4 none 1 := by decide +kernel
set_option maxRecDepth 20000 in
theorem cV_X10_269 : gV RX10 269 yX10_gain cX10_gain 4 (some .int) 1 := by decide +kernel
set_option maxRecDepth 20000 in
theorem cV_X2_37 : gV RX2 37 yX2_noteYear cX2_noteYear 5 none 1 := by decide +kernel
set_option maxRecDepth 20000 in
theorem cS_X3_24 : gS RX3 24 yJ7_fill_53178 cJ7_fill_53178 4 none 2 := by decide +kernel
set_option maxRecDepth 20000 in
theorem cS_X3_35 : gS RX3 35 yX3_bendTowards cX3_bendTowards 4 none 3 := by decide +kernel
set_option maxRecDepth 20000 in
theorem cS_X3_39 : gS RX3 39 yX3_addMisses cX3_addMisses 10 none 4 := by decide +kernel
set_option maxRecDepth 20000 in
theorem cV_X3_43 : gV RX3 43 yX3_chooseFeet cX3_chooseFeet 3 none 1 := by decide +kernel
set_option maxRecDepth 20000 in
theorem cV_X3_59 : gV RX3 59 yJx4a65c_size_8abf5 cJx4a65c_size_8abf5 1 (some .int) 0 := by decide +kernel
set_option maxRecDepth 20000 in
theorem cV_X3_65 : gV RX3 65 yJx4a65c_get_915e3 cJx4a65c_get_915e3 2 (some (.object "java/lang/Object")) 1 := by decide +kernel
set_option maxRecDepth 20000 in
theorem cV_X3_71 : gV RX3 71 yX6_countsAt cX6_countsAt 6 (some .boolean) 3 := by decide +kernel
set_option maxRecDepth 20000 in
theorem cV_X3_84 : gV RX3 84 yX6_counted cX6_counted 4 (some .int) 2 := by decide +kernel
set_option maxRecDepth 20000 in
theorem cS_X3_95 : gS RX3 95 yX3_cheapest cX3_cheapest 7 (some .int) 3 := by decide +kernel
set_option maxRecDepth 20000 in
theorem cV_X4_22 : gV RX4 22 yX4_isTold cX4_isTold 4 (some .boolean) 2 := by decide +kernel
set_option maxRecDepth 20000 in
theorem cV_X5_48 : gV RX5 48 yX5_gainOf cX5_gainOf 4 (some .int) 2 := by decide +kernel
set_option maxRecDepth 20000 in
theorem cV_X6_47 : gV RX6 47 yX6_has cX6_has 2 (some .boolean) 1 := by decide +kernel
set_option maxRecDepth 20000 in
theorem cV_X6_55 : gV RX6 55 yJx4a65c_size_8abf5 cJx4a65c_size_8abf5 1 (some .int) 0 := by decide +kernel
set_option maxRecDepth 20000 in
theorem cV_X6_61 : gV RX6 61 yJx4a65c_get_915e3 cJx4a65c_get_915e3 2 (some (.object "java/lang/Object")) 1 := by decide +kernel
set_option maxRecDepth 20000 in
theorem cS_X8_38 : gS RX8 38 yJ7_fill_53178 cJ7_fill_53178 4 none 2 := by decide +kernel
set_option maxRecDepth 20000 in
theorem cV_X8_49 : gV RX8 49 yX8_extendRun cX8_extendRun 9 none 4 := by decide +kernel
set_option maxRecDepth 20000 in
theorem cV_X8_53 : gV RX8 53 yX8_nearest cX8_nearest 6 (some .int) 3 := by decide +kernel
set_option maxRecDepth 20000 in
theorem cV_X8_60 : gV RX8 60 yX8_moveLine cX8_moveLine 4 none 3 := by decide +kernel
set_option maxRecDepth 20000 in
theorem cV_X8_64 : gV RX8 64 yX2_reachOf cX2_reachOf 5 (some .int) 3 := by decide +kernel
set_option maxRecDepth 20000 in
theorem cS_X8_67 : gS RX8 67 yX8_isBeyond cX8_isBeyond 3 (some .boolean) 3 := by decide +kernel
set_option maxRecDepth 20000 in
theorem cV_X8_71 : gV RX8 71 yX4_isTold cX4_isTold 4 (some .boolean) 2 := by decide +kernel
set_option maxRecDepth 20000 in
theorem cI_X9_9 : gI RX9 9 yJx4a65c_init_da8c8 cJx4a65c_init_da8c8 1 0 := by decide +kernel
set_option maxRecDepth 20000 in
theorem cI_X9_25 : gI RX9 25 yX1_init cX1_init 2 1 := by decide +kernel
set_option maxRecDepth 20000 in
theorem cI_X9_55 : gI RX9 55 yX8_init cX8_init 3 2 := by decide +kernel
set_option maxRecDepth 20000 in
theorem cI_X9_71 : gI RX9 71 yX0_init cX0_init 1 0 := by decide +kernel
set_option maxRecDepth 20000 in
theorem cS_X9_83 : gS RX9 83 yX9_below cX9_below 2 (some .boolean) 2 := by decide +kernel
set_option maxRecDepth 20000 in
theorem cS_X9_87 : gS RX9 87 yX9_isStretch cX9_isStretch 3 (some .boolean) 3 := by decide +kernel
set_option maxRecDepth 20000 in
theorem cV_X9_91 : gV RX9 91 yJx4a65c_size_8abf5 cJx4a65c_size_8abf5 1 (some .int) 0 := by decide +kernel
set_option maxRecDepth 20000 in
theorem cI_X9_97 : gI RX9 97 yX6_init cX6_init 8 7 := by decide +kernel
set_option maxRecDepth 20000 in
theorem cV_X9_100 : gV RX9 100 yJx4a65c_add_9ea2d cJx4a65c_add_9ea2d 2 (some .boolean) 1 := by decide +kernel
set_option maxRecDepth 20000 in
theorem cV_X9_108 : gV RX9 108 yX7_append cX7_append 3 none 1 := by decide +kernel
set_option maxRecDepth 20000 in
theorem cV_X9_112 : gV RX9 112 yX7_cut cX7_cut 2 (some .boolean) 1 := by decide +kernel
set_option maxRecDepth 20000 in
theorem cV_X9_116 : gV RX9 116 yX1_read cX1_read 3 none 1 := by decide +kernel
set_option maxRecDepth 20000 in
theorem cV_X9_141 : gV RX9 141 yX9_lookAtKinds cX9_lookAtKinds 2 (some .int) 1 := by decide +kernel
set_option maxRecDepth 20000 in
theorem cV_X9_153 : gV RX9 153 yJx4a65c_get_915e3 cJx4a65c_get_915e3 2 (some (.object "java/lang/Object")) 1 := by decide +kernel
set_option maxRecDepth 20000 in
theorem cV_X9_163 : gV RX9 163 yX6_counted cX6_counted 4 (some .int) 2 := by decide +kernel
set_option maxRecDepth 20000 in
theorem cV_X9_173 : gV RX9 173 yX9_stationsOf cX9_stationsOf 4 (some .int) 1 := by decide +kernel
set_option maxRecDepth 20000 in
theorem cV_X9_183 : gV RX9 183 yX6_countsAt cX6_countsAt 6 (some .boolean) 3 := by decide +kernel
set_option maxRecDepth 20000 in
theorem cV_X9_187 : gV RX9 187 yX9_drawPaperLine cX9_drawPaperLine 1 none 0 := by decide +kernel
set_option maxRecDepth 20000 in
theorem cV_X9_196 : gV RX9 196 yX3_draw cX3_draw 5 none 2 := by decide +kernel
set_option maxRecDepth 20000 in
theorem cS_X9_200 : gS RX9 200 yJ6_bitCount_0f7a4 cJ6_bitCount_0f7a4 1 (some .int) 1 := by decide +kernel
set_option maxRecDepth 20000 in
theorem cS_X9_205 : gS RX9 205 yX9_missOf cX9_missOf 3 (some .int) 3 := by decide +kernel
set_option maxRecDepth 20000 in
theorem cV_X9_209 : gV RX9 209 yX2_tell cX2_tell 6 (some .boolean) 5 := by decide +kernel
set_option maxRecDepth 20000 in
theorem cV_X9_213 : gV RX9 213 yX4_tell cX4_tell 3 (some .boolean) 2 := by decide +kernel
set_option maxRecDepth 20000 in
theorem cV_X9_215 : gV RX9 215 yX2_reachOf cX2_reachOf 5 (some .int) 3 := by decide +kernel
set_option maxRecDepth 20000 in
theorem cV_X9_218 : gV RX9 218 yX9_drawTrueLine cX9_drawTrueLine 2 none 1 := by decide +kernel
set_option maxRecDepth 20000 in
theorem cV_X9_230 : gV RX9 230 yX8_draw cX8_draw 6 none 3 := by decide +kernel
set_option maxRecDepth 20000 in
theorem cS_X9_233 : gS RX9 233 yX5_isParty cX5_isParty 3 (some .boolean) 3 := by decide +kernel
set_option maxRecDepth 20000 in
theorem cV_X9_236 : gV RX9 236 yX5_open cX5_open 3 none 2 := by decide +kernel
set_option maxRecDepth 20000 in
theorem cV_X9_240 : gV RX9 240 yX5_setParty cX5_setParty 5 none 4 := by decide +kernel
set_option maxRecDepth 20000 in
theorem cV_X9_244 : gV RX9 244 yX5_judge cX5_judge 4 none 0 := by decide +kernel
end
section
theorem lv_rp {ls : Array Slot} {nL : Nat} {l : List (Nat × Value)} {i : Nat} {x y : Int32} (h : lv_has ls nL l) (k : Nat) (hk : l[k]? = some (i, .int x)) (e : x = y) : lv_has ls nL (l.set k (i, .int y)) := by
  subst e
  refine ⟨h.1, h.2.1, fun q hq => h.2.2 q ?_⟩
  rcases List.mem_or_eq_of_mem_set hq with h1 | h1
  · exact h1
  · rw [h1]; exact List.mem_of_getElem? hk
section BASE2
variable {p : Program} {l : Launch} {e : Env} {R : Room} {s : State} {m : MethodId} {args : Array Value} {below : List Frame} {meth : Method} {c : Code} {H : Heap} {locs : List Loc} {cells slots : Nat} {Q : State → Prop}
variable {cc : ByteArray} {nL pc : Nat} {own : String} {ls : Array Slot} {rest : List Value}
theorem k_tableIn {a dflt lo hi : Int} {offs : Array Int} {len tgt : Nat} {off : Int} (S : CallFix p m c cc nL s args BG own) (hdg : decode cc pc = .ok (.tableswitch dflt lo hi offs, len)) (ha : -2147483648 ≤ a ∧ a < 2147483648) (h1 : lo ≤ a) (h2 : a ≤ hi) (ho : offs[(a - lo).toNat]? = some off) (ht : (pc : Int) + off = (tgt : Int))
    (k : W p l e R s m args below meth c H locs cells slots Q (F0 m tgt ls rest)) : W p l e R s m args below meth c H locs cells slots Q (F0 m pc ls (.int (iI a) :: rest)) :=
  lv_tableIn S.1 S.2.1 hdg (by rw [iI_toInt ha]; omega) (by rw [iI_toInt ha]; omega) (by rw [iI_toInt ha]; exact ho) ht k
theorem k_tableOut {a dflt lo hi : Int} {offs : Array Int} {len tgt : Nat} (S : CallFix p m c cc nL s args BG own) (hdg : decode cc pc = .ok (.tableswitch dflt lo hi offs, len)) (ha : -2147483648 ≤ a ∧ a < 2147483648) (h1 : a < lo ∨ hi < a) (ht : (pc : Int) + dflt = (tgt : Int))
    (k : W p l e R s m args below meth c H locs cells slots Q (F0 m tgt ls rest)) : W p l e R s m args below meth c H locs cells slots Q (F0 m pc ls (.int (iI a) :: rest)) :=
  lv_tableOut S.1 S.2.1 hdg (by rw [iI_toInt ha]; exact h1) ht k
end BASE2
def allN (b : Nat → Prop) (n : Nat) : Prop := ∀ q, q < n → b q
theorem allN_0 (b : Nat → Prop) : allN b 0 := fun q h => absurd h (Nat.not_lt_zero q)
theorem allN_s {b : Nat → Prop} {n : Nat} : allN b (n + 1) ↔ allN b n ∧ b n := by
  refine ⟨fun h => ⟨fun q hq => h q (by omega), h n (by omega)⟩, fun h q hq => ?_⟩
  rcases Nat.lt_or_ge q n with h1 | h1
  · exact h.1 q h1
  · have e : q = n := by omega
    rw [e]; exact h.2
def anyN (b : Nat → Prop) (n : Nat) : Prop := ∃ q, q < n ∧ b q
theorem anyN_0 (b : Nat → Prop) : ¬ anyN b 0 := fun ⟨q, h, _⟩ => absurd h (Nat.not_lt_zero q)
theorem anyN_s {b : Nat → Prop} {n : Nat} : anyN b (n + 1) ↔ anyN b n ∨ b n := by
  refine ⟨fun ⟨q, h, hb⟩ => ?_, fun h => ?_⟩
  · rcases Nat.lt_or_ge q n with h1 | h1
    · exact Or.inl ⟨q, h1, hb⟩
    · have e : q = n := by omega
      exact Or.inr (e ▸ hb)
  · rcases h with ⟨q, h, hb⟩ | h
    · exact ⟨q, by omega, hb⟩
    · exact ⟨n, by omega, h⟩
/-- the answer of a method that changes nothing -/
def Qi (x : Int32) (w : va_W) : PT := fun v w2 => v = some (.int x) ∧ w2 = w
theorem Qi_mk {x y : Int32} {w : va_W} (h : y = x) : Qi x w (some (.int y)) w := ⟨by rw [h], rfl⟩
section BASE3
variable {p : Program} {l : Launch} {e : Env} {R : Room} {s : State} {m : MethodId} {args : Array Value} {below : List Frame} {meth : Method} {c : Code} {H : Heap} {locs : List Loc} {cells slots : Nat} {Q : State → Prop}
variable {cc : ByteArray} {nL pc : Nat} {own : String} {ls : Array Slot} {rest : List Value} {E : XX} {Γ : GG} {A : Nat → Prop} {w : va_W}
theorem r_callVi {x : Int32} {y : MethodName} {bytes : ByteArray} {maxL n index b : Nat} {ret : Option FieldType} {rm : Room} {As st0 : List Value} (hE : XS E) (S : CallFix p m c cc nL s args BG own) (X : Wd E Γ A s H locs w) (hC : Con E l y bytes maxL ret rm Γ w (.ref b :: As) (Qi x w)) (hG : gV own index y bytes maxL ret n)
    (hb : ∃ cell : Cell, H[b]? = some cell ∧ cell.vm.isStatics = false ∧ s.vm.findClass y.cls = some cell.cls) (hn : As.length = n) (hst : st0 = As.reverse ++ .ref b :: rest) (hsum : (rest.map fun v => v.category).sum ≤ 8) (hR : rmOk R rm maxL cells slots) (hsz : ls.size = nL) (hdg : decode cc pc = .ok (.invokevirtual index, 3))
    (kk : ∀ (H1 : Heap) (locs1 : List Loc), Wd E Γ A s H1 locs1 w → W p l e R s m args below meth c H1 locs1 (cells + rm.cells) (slots + rm.slots) Q (F0 m (pc + 3) ls (.int x :: rest))) : W p l e R s m args below meth c H locs cells slots Q (F0 m pc ls st0) := by
  refine r_callV hE S X hC hG hb hn hst hsum hR hsz hdg (fun v w' H1 locs1 hq X1 => ?_)
  obtain ⟨rfl, rfl⟩ := hq
  exact kk H1 locs1 X1
theorem r_callSi {x : Int32} {y : MethodName} {bytes : ByteArray} {maxL n index : Nat} {ret : Option FieldType} {rm : Room} {As st0 : List Value} (hE : XS E) (S : CallFix p m c cc nL s args BG own) (X : Wd E Γ A s H locs w) (hC : Con E l y bytes maxL ret rm Γ w As (Qi x w)) (hG : gS own index y bytes maxL ret n)
    (hn : As.length = n) (hst : st0 = As.reverse ++ rest) (hsum : (rest.map fun v => v.category).sum ≤ 8) (hR : rmOk R rm maxL cells slots) (hsz : ls.size = nL) (hdg : decode cc pc = .ok (.invokestatic index, 3))
    (kk : ∀ (H1 : Heap) (locs1 : List Loc), Wd E Γ A s H1 locs1 w → W p l e R s m args below meth c H1 locs1 (cells + rm.cells) (slots + rm.slots) Q (F0 m (pc + 3) ls (.int x :: rest))) : W p l e R s m args below meth c H locs cells slots Q (F0 m pc ls st0) := by
  refine r_callS hE S X hC hG hn hst hsum hR hsz hdg (fun v w' H1 locs1 hq X1 => ?_)
  obtain ⟨rfl, rfl⟩ := hq
  exact kk H1 locs1 X1
end BASE3
end
section
/-! ===== what the calls answer, in numbers: sayings (n of them; S 0 kind, 1 from, 2 to, 3 low, 4 high, 5 year, 6 side); the law: weights wt, newer nw, throw th, hold ho, bend be ===== -/
def SayB (n : Nat) (S : Nat → Nat → Nat) : Prop := n ≤ 12 ∧ ∀ i, S 0 i < 6 ∧ S 1 i ≤ S 2 i ∧ S 2 i < 10 ∧ S 3 i ≤ S 4 i ∧ S 4 i < 80 ∧ S 5 i < 1000 ∧ S 6 i < 2
def LawB (wt : Nat → Nat) (th ho be : Nat) : Prop := (∀ k, wt k ≤ 20) ∧ th ≤ 9 ∧ (1 ≤ ho ∧ ho ≤ 99) ∧ be ≤ 9
/-- a foot of saying i as it counts -/
def aMv (S : Nat → Nat → Nat) (th i f : Nat) : Nat := if S 0 i = 2 then (if S 6 i = 0 then (if f + th < 80 then f + th else 79) else f - th) else f
theorem aMv_lt {S : Nat → Nat → Nat} {th i f : Nat} (h : f < 80) : aMv S th i f < 80 := by unfold aMv; (repeat' split) <;> omega
def aBlk (S : Nat → Nat → Nat) (i s q : Nat) : Prop := ¬ (S 0 q = S 0 i ∧ (S 1 q ≤ s ∧ s ≤ S 2 q) ∧ S 5 i < S 5 q)
/-- saying i counts at station s -/
def aCt (n : Nat) (S : Nat → Nat → Nat) (nw : Nat → Prop) (i s : Nat) : Prop := (S 1 i ≤ s ∧ s ≤ S 2 i) ∧ (nw (S 0 i) → allN (aBlk S i s) n)
theorem ct_x1 {n : Nat} {S : Nat → Nat → Nat} {nw : Nat → Prop} {i s j : Nat} (h1 : S 1 i ≤ s ∧ s ≤ S 2 i) (hj : j = 0 ∨ nw (S 0 i)) (e : j = n) : allN (aBlk S i s) j ↔ aCt n S nw i s := by
  subst e
  refine ⟨fun h => ⟨h1, fun _ => h⟩, fun h => ?_⟩
  rcases hj with h2 | h2
  · subst h2; exact allN_0 _
  · exact h.2 h2
theorem ct_x2 {n : Nat} {S : Nat → Nat → Nat} {nw : Nat → Prop} {i s j : Nat} (h1 : S 1 i ≤ s ∧ s ≤ S 2 i) (hj : j = 0 ∨ nw (S 0 i)) (e : ¬ nw (S 0 i)) : allN (aBlk S i s) j ↔ aCt n S nw i s := by
  refine ⟨fun _ => ⟨h1, fun z => absurd z e⟩, fun _ => ?_⟩
  rcases hj with h2 | h2
  · subst h2; exact allN_0 _
  · exact absurd h2 e
/-- how far a foot is from low .. high -/
def aMs (t lo hi : Nat) : Nat := if t < lo then lo - t else if hi < t then t - hi else 0
theorem aMs_le {t lo hi : Nat} (h : t < 80) (h2 : lo < 80) : aMs t lo hi ≤ 79 := by unfold aMs; (repeat' split) <;> omega
noncomputable def aTm (n : Nat) (S : Nat → Nat → Nat) (wt : Nat → Nat) (nw : Nat → Prop) (th s t i : Nat) : Nat := @ite _ (aCt n S nw i s) (Classical.propDecidable _) (wt (S 0 i) * aMs t (aMv S th i (S 3 i)) (aMv S th i (S 4 i))) 0
/-- the cost of a foot at a station, of the first k sayings -/
noncomputable def aCa (n : Nat) (S : Nat → Nat → Nat) (wt : Nat → Nat) (nw : Nat → Prop) (th s t : Nat) : Nat → Nat
  | 0 => 0
  | k + 1 => aCa n S wt nw th s t k + aTm n S wt nw th s t k
theorem aTm_t {n : Nat} {S : Nat → Nat → Nat} {wt : Nat → Nat} {nw : Nat → Prop} {th s t i : Nat} (h : aCt n S nw i s) : aTm n S wt nw th s t i = wt (S 0 i) * aMs t (aMv S th i (S 3 i)) (aMv S th i (S 4 i)) := if_pos h
theorem aTm_f {n : Nat} {S : Nat → Nat → Nat} {wt : Nat → Nat} {nw : Nat → Prop} {th s t i : Nat} (h : ¬ aCt n S nw i s) : aTm n S wt nw th s t i = 0 := if_neg h
theorem ca_1 {a w t lo : Nat} (h : (t : Int) < lo) : ((a : Int) + ((w : Int) * ((lo : Int) - (t : Int)))) = ((a + w * (lo - t) : Nat) : Int) := by
  rw [Int.natCast_add, Int.natCast_mul, Int.natCast_sub (by omega)]
theorem ca_s1 {n : Nat} {S : Nat → Nat → Nat} {wt : Nat → Nat} {nw : Nat → Prop} {th s t k : Nat} (hc : aCt n S nw k s) (h : (t : Int) < ((aMv S th k (S 3 k) : Nat) : Int)) : ((aCa n S wt nw th s t k : Nat) : Int) + (((wt (S 0 k) : Nat) : Int) * (((aMv S th k (S 3 k) : Nat) : Int) - ((t : Nat) : Int))) = ((aCa n S wt nw th s t (k + 1) : Nat) : Int) := by
  rw [ca_1 h]
  congr 1
  show _ = aCa n S wt nw th s t k + aTm n S wt nw th s t k
  rw [aTm_t hc]
  unfold aMs
  rw [if_pos (by omega)]
theorem ca_s2 {n : Nat} {S : Nat → Nat → Nat} {wt : Nat → Nat} {nw : Nat → Prop} {th s t k : Nat} (hc : aCt n S nw k s) (h : ((aMv S th k (S 3 k) : Nat) : Int) ≤ (t : Int)) (h2 : ((aMv S th k (S 4 k) : Nat) : Int) < (t : Int)) : ((aCa n S wt nw th s t k : Nat) : Int) + (((wt (S 0 k) : Nat) : Int) * (((t : Nat) : Int) - ((aMv S th k (S 4 k) : Nat) : Int))) = ((aCa n S wt nw th s t (k + 1) : Nat) : Int) := by
  rw [ca_1 h2]
  congr 1
  show _ = aCa n S wt nw th s t k + aTm n S wt nw th s t k
  rw [aTm_t hc]
  unfold aMs
  rw [if_neg (by omega), if_pos (by omega)]
theorem ca_s3 {n : Nat} {S : Nat → Nat → Nat} {wt : Nat → Nat} {nw : Nat → Prop} {th s t k : Nat} (hc : aCt n S nw k s) (h : ((aMv S th k (S 3 k) : Nat) : Int) ≤ (t : Int)) (h2 : (t : Int) ≤ ((aMv S th k (S 4 k) : Nat) : Int)) : ((aCa n S wt nw th s t k : Nat) : Int) + (((wt (S 0 k) : Nat) : Int) * 0) = ((aCa n S wt nw th s t (k + 1) : Nat) : Int) := by
  rw [Int.mul_zero, Int.add_zero]
  congr 1
  show _ = aCa n S wt nw th s t k + aTm n S wt nw th s t k
  rw [aTm_t hc]
  unfold aMs
  rw [if_neg (by omega), if_neg (by omega), Nat.mul_zero, Nat.add_zero]
theorem ca_s4 {n : Nat} {S : Nat → Nat → Nat} {wt : Nat → Nat} {nw : Nat → Prop} {th s t k : Nat} (hc : ¬ aCt n S nw k s) : ((aCa n S wt nw th s t k : Nat) : Int) = ((aCa n S wt nw th s t (k + 1) : Nat) : Int) := by
  congr 1
  show _ = aCa n S wt nw th s t k + aTm n S wt nw th s t k
  rw [aTm_f hc, Nat.add_zero]
theorem aTm_le {n : Nat} {S : Nat → Nat → Nat} {wt : Nat → Nat} {nw : Nat → Prop} {th s t i : Nat} (hB : SayB n S) (hw : ∀ k, wt k ≤ 20) (ht : t < 80) : aTm n S wt nw th s t i ≤ 1580 := by
  by_cases h : aCt n S nw i s
  · rw [aTm_t h]
    have h1 := hB.2 i
    have h2 : aMs t (aMv S th i (S 3 i)) (aMv S th i (S 4 i)) ≤ 79 := aMs_le ht (aMv_lt (by omega))
    exact Nat.le_trans (Nat.mul_le_mul (hw _) h2) (by omega)
  · rw [aTm_f h]; omega
theorem aCa_le {n : Nat} {S : Nat → Nat → Nat} {wt : Nat → Nat} {nw : Nat → Prop} {th s t : Nat} (hB : SayB n S) (hw : ∀ k, wt k ≤ 20) (ht : t < 80) : ∀ k, aCa n S wt nw th s t k ≤ 1580 * k
  | 0 => Nat.le_refl _
  | k + 1 => by
    show aCa n S wt nw th s t k + aTm n S wt nw th s t k ≤ _
    have h1 := aCa_le hB hw ht (s := s) (nw := nw) (th := th) k
    have h2 := aTm_le hB hw ht (s := s) (i := k) (nw := nw) (th := th)
    omega
/-- the least of the first k, and the first place where it is -/
def mnN (F : Nat → Nat) : Nat → Nat
  | 0 => 0
  | k + 1 => if k = 0 ∨ F k < mnN F k then F k else mnN F k
def amN (F : Nat → Nat) : Nat → Nat
  | 0 => 0
  | k + 1 => if F k < F (amN F k) then k else amN F k
theorem amN_lt (F : Nat → Nat) : ∀ k, 0 < k → amN F k < k
  | 0, h => h
  | 1, _ => by show (if F 0 < F 0 then 0 else 0) < 1; split <;> omega
  | k + 2, _ => by
    show (if F (k + 1) < F (amN F (k + 1)) then k + 1 else amN F (k + 1)) < k + 2
    have := amN_lt F (k + 1) (by omega)
    split <;> omega
theorem mnN_le (F : Nat → Nat) : ∀ k, 0 < k → mnN F k ≤ F 0
  | 0, h => absurd h (Nat.lt_irrefl 0)
  | 1, _ => by show (if 0 = 0 ∨ F 0 < 0 then F 0 else 0) ≤ F 0; simp
  | k + 2, _ => by
    show (if k + 1 = 0 ∨ F (k + 1) < mnN F (k + 1) then F (k + 1) else mnN F (k + 1)) ≤ F 0
    have := mnN_le F (k + 1) (by omega)
    split <;> omega
def aDs (t u : Nat) : Nat := if t < u then u - t else t - u
theorem ds_abs (t u : Nat) : (if ((t : Int) - (u : Int)) < 0 then -((t : Int) - (u : Int)) else ((t : Int) - (u : Int))) = ((aDs t u : Nat) : Int) := by
  unfold aDs
  split <;> split <;> omega
theorem aDs_le {t u : Nat} (ht : t < 80) (hu : u < 80) : aDs t u ≤ 79 := by unfold aDs; split <;> omega
/-- the least cost from station 9 - d on to the last, from foot t there -/
noncomputable def aOnD (n : Nat) (S : Nat → Nat → Nat) (wt : Nat → Nat) (nw : Nat → Prop) (th be : Nat) : Nat → Nat → Nat
  | 0, t => aCa n S wt nw th 9 t n
  | d + 1, t => aCa n S wt nw th (8 - d) t n + mnN (fun u => aOnD n S wt nw th be d u + be * aDs t u) 80
noncomputable def aOn (n : Nat) (S : Nat → Nat → Nat) (wt : Nat → Nat) (nw : Nat → Prop) (th be : Nat) (s t : Nat) : Nat := aOnD n S wt nw th be (9 - s) t
theorem aOnD_le {n : Nat} {S : Nat → Nat → Nat} {wt : Nat → Nat} {nw : Nat → Prop} {th be : Nat} (hB : SayB n S) (hw : ∀ k, wt k ≤ 20) (hb : be ≤ 9) : ∀ d t, t < 80 → aOnD n S wt nw th be d t ≤ 20000 * (d + 1)
  | 0, t, ht => by
    show aCa n S wt nw th 9 t n ≤ _
    have h1 := aCa_le (s := 9) (nw := nw) (th := th) hB hw ht n
    have h2 := hB.1
    omega
  | d + 1, t, ht => by
    show aCa n S wt nw th (8 - d) t n + mnN (fun u => aOnD n S wt nw th be d u + be * aDs t u) 80 ≤ _
    have h1 := aCa_le (s := 8 - d) (nw := nw) (th := th) hB hw ht n
    have h2 := hB.1
    have h3 := mnN_le (fun u => aOnD n S wt nw th be d u + be * aDs t u) 80 (by omega)
    have h4 := aOnD_le hB hw hb (nw := nw) (th := th) d 0 (by omega)
    have h5 : be * aDs t 0 ≤ 9 * 79 := Nat.mul_le_mul hb (aDs_le ht (by omega))
    omega
theorem aOn_le {n : Nat} {S : Nat → Nat → Nat} {wt : Nat → Nat} {nw : Nat → Prop} {th be : Nat} (hB : SayB n S) (hw : ∀ k, wt k ≤ 20) (hb : be ≤ 9) (s t : Nat) (ht : t < 80) : aOn n S wt nw th be s t ≤ 200000 := by
  have h := aOnD_le hB hw hb (nw := nw) (th := th) (9 - s) t ht
  unfold aOn
  omega
/-- the price of foot t at station s, the foot before chosen; the paper line -/
noncomputable def aPr (n : Nat) (S : Nat → Nat → Nat) (wt : Nat → Nat) (nw : Nat → Prop) (th be : Nat) (P : Nat → Nat) (s t : Nat) : Nat := aOn n S wt nw th be s t + (if s = 0 then 0 else be * aDs t (P (s - 1)))
noncomputable def aPp (n : Nat) (S : Nat → Nat → Nat) (wt : Nat → Nat) (nw : Nat → Prop) (th be : Nat) : Nat → Nat
  | 0 => amN (aOn n S wt nw th be 0) 80
  | s + 1 => amN (fun t => aOn n S wt nw th be (s + 1) t + be * aDs t (aPp n S wt nw th be s)) 80
theorem aPp_eq (n : Nat) (S : Nat → Nat → Nat) (wt : Nat → Nat) (nw : Nat → Prop) (th be s : Nat) : aPp n S wt nw th be s = amN (aPr n S wt nw th be (aPp n S wt nw th be) s) 80 := by
  cases s with
  | zero => exact congrArg (fun F => amN F 80) (funext fun t => by unfold aPr; rw [if_pos rfl, Nat.add_zero])
  | succ s => exact congrArg (fun F => amN F 80) (funext fun t => by unfold aPr; rw [if_neg (Nat.succ_ne_zero s), Nat.add_sub_cancel])
theorem aPp_lt (n : Nat) (S : Nat → Nat → Nat) (wt : Nat → Nat) (nw : Nat → Prop) (th be s : Nat) : aPp n S wt nw th be s < 80 := by
  rw [aPp_eq]; exact amN_lt _ 80 (by omega)
theorem aPr_le {n : Nat} {S : Nat → Nat → Nat} {wt : Nat → Nat} {nw : Nat → Prop} {th be : Nat} {P : Nat → Nat} (hB : SayB n S) (hw : ∀ k, wt k ≤ 20) (hb : be ≤ 9) (hP : ∀ s, P s < 80) (s t : Nat) (ht : t < 80) : aPr n S wt nw th be P s t ≤ 201000 := by
  have h := aOn_le hB hw hb (nw := nw) (th := th) s t ht
  unfold aPr
  have h5 : be * aDs t (P (s - 1)) ≤ 9 * 79 := Nat.mul_le_mul hb (aDs_le ht (hP _))
  split <;> omega
end
section
/-! the reference as a world: its int fields f, its arrays g, by the slots of its fields; ad 0 is the object itself -/
def fM (ad : Nat → Nat) (f : Nat → Int32) : List Value := [.int (f 0), .int (f 1), .int (f 2), .ref (ad 3), .ref (ad 4), .ref (ad 5), .ref (ad 6), .ref (ad 7), .ref (ad 8), .ref (ad 9), .int (f 10), .int (f 11), .int (f 12), .ref (ad 13), .ref (ad 14), .ref (ad 15), .ref (ad 16), .int (f 17), .int (f 18), .int (f 19), .int (f 20), .int (f 21), .int (f 22), .int (f 23), .int (f 24), .int (f 25), .int (f 26), .ref (ad 27), .ref (ad 28), .ref (ad 29), .ref (ad 30), .ref (ad 31), .ref (ad 32), .ref (ad 33), .ref (ad 34), .ref (ad 35), .ref (ad 36), .ref (ad 37), .ref (ad 38), .int (f 39), .int (f 40), .int (f 41), .int (f 42), .int (f 43), .int (f 44), .int (f 45), .int (f 46), .int (f 47), .int (f 48), .int (f 49)]
def wM (Γ : GG) (ad : Nat → Nat) (f : Nat → Int32) (g : Nat → Nat → Int32) : va_W := [(ad 0, .inr (11, fM ad f)), (ad 3, .inl (Γ.2 0, 12, .inl (g 3))), (ad 4, .inl (Γ.2 0, 12, .inl (g 4))), (ad 5, .inl (Γ.2 0, 12, .inl (g 5))), (ad 6, .inl (Γ.2 0, 12, .inl (g 6))), (ad 7, .inl (Γ.2 0, 12, .inl (g 7))), (ad 8, .inl (Γ.2 0, 12, .inl (g 8))), (ad 9, .inl (Γ.2 0, 12, .inl (g 9))), (ad 13, .inl (Γ.2 0, 6, .inl (g 13))), (ad 14, .inl (Γ.2 2, 6, .inl (g 14))), (ad 15, .inl (Γ.2 0, 400, .inl (g 15))), (ad 16, .inl (Γ.2 0, 60, .inl (g 16))), (ad 27, .inl (Γ.2 0, 800, .inl (g 27))), (ad 28, .inl (Γ.2 0, 10, .inl (g 28))), (ad 29, .inl (Γ.2 0, 60, .inl (g 29))), (ad 30, .inl (Γ.2 0, 60, .inl (g 30))), (ad 31, .inl (Γ.2 0, 60, .inl (g 31))), (ad 32, .inl (Γ.2 0, 60, .inl (g 32))), (ad 33, .inl (Γ.2 0, 60, .inl (g 33))), (ad 34, .inl (Γ.2 0, 20, .inl (g 34))), (ad 35, .inl (Γ.2 0, 20, .inl (g 35))), (ad 36, .inl (Γ.2 0, 2, .inl (g 36))), (ad 37, .inl (Γ.2 0, 2, .inl (g 37))), (ad 38, .inl (Γ.2 0, 2000, .inl (g 38)))]
def updA (g : Nat → Nat → Int32) (k : Nat) (x : Nat → Int32) : Nat → Nat → Int32 := fun j => if j = k then x else g j
section MW
variable {p : Program} {l : Launch} {e : Env} {R : Room} {s : State} {m : MethodId} {args : Array Value} {below : List Frame} {meth : Method} {c : Code} {H : Heap} {locs : List Loc} {cells slots : Nat} {Q : State → Prop}
variable {cc : ByteArray} {nL pc : Nat} {ls : Array Slot} {rest : List Value} {E : XX} {Γ : GG} {A : Nat → Prop} {ad : Nat → Nat} {f : Nat → Int32} {g : Nat → Nat → Int32}
theorem recM (X : Wd E Γ A s H locs (wM Γ ad f g)) : ∃ cell : Cell, H[ad 0]? = some cell ∧ cell.vm.isStatics = false ∧ s.vm.findClass RX10 = some cell.cls := va_recv X.1 X.2.1 (ci := 11) (q0 := 0) rfl rfl
theorem gM_0 {x : Int32} (S : CallFix p m c cc nL s args BG RX10) (X : Wd E Γ A s H locs (wM Γ ad f g)) (hv : f 0 = x) (hdg : decode cc pc = .ok (.getfield 108, 3)) (kk : W p l e R s m args below meth c H locs cells slots Q (F0 m (pc + 3) ls (.int x :: rest))) : W p l e R s m args below meth c H locs cells slots Q (F0 m pc ls (.ref (ad 0) :: rest)) := gf_X10_108 (q0 := 0) (v := .int x) S X rfl (by rw [← hv]; rfl) hdg kk
theorem pM_0 {x : Int32} (S : CallFix p m c cc nL s args BG RX10) (X : Wd E Γ A s H locs (wM Γ ad f g)) (hdg : decode cc pc = .ok (.putfield 108, 3)) (kk : ∀ (H1 : Heap) (locs1 : List Loc), Wd E Γ A s H1 locs1 (wM Γ ad (upd f 0 x) g) → W p l e R s m args below meth c H1 locs1 cells slots Q (F0 m (pc + 3) ls rest)) : W p l e R s m args below meth c H locs cells slots Q (F0 m pc ls (.int x :: .ref (ad 0) :: rest)) := pf_X10_108 (q0 := 0) (v := .int x) S X rfl rfl rfl (by show 0 < 50; decide) hdg (fun H1 locs1 Y => kk H1 locs1 Y)
theorem gM_1 {x : Int32} (S : CallFix p m c cc nL s args BG RX10) (X : Wd E Γ A s H locs (wM Γ ad f g)) (hv : f 1 = x) (hdg : decode cc pc = .ok (.getfield 197, 3)) (kk : W p l e R s m args below meth c H locs cells slots Q (F0 m (pc + 3) ls (.int x :: rest))) : W p l e R s m args below meth c H locs cells slots Q (F0 m pc ls (.ref (ad 0) :: rest)) := gf_X10_197 (q0 := 0) (v := .int x) S X rfl (by rw [← hv]; rfl) hdg kk
theorem pM_1 {x : Int32} (S : CallFix p m c cc nL s args BG RX10) (X : Wd E Γ A s H locs (wM Γ ad f g)) (hdg : decode cc pc = .ok (.putfield 197, 3)) (kk : ∀ (H1 : Heap) (locs1 : List Loc), Wd E Γ A s H1 locs1 (wM Γ ad (upd f 1 x) g) → W p l e R s m args below meth c H1 locs1 cells slots Q (F0 m (pc + 3) ls rest)) : W p l e R s m args below meth c H locs cells slots Q (F0 m pc ls (.int x :: .ref (ad 0) :: rest)) := pf_X10_197 (q0 := 0) (v := .int x) S X rfl rfl rfl (by show 1 < 50; decide) hdg (fun H1 locs1 Y => kk H1 locs1 Y)
theorem gM_2 {x : Int32} (S : CallFix p m c cc nL s args BG RX10) (X : Wd E Γ A s H locs (wM Γ ad f g)) (hv : f 2 = x) (hdg : decode cc pc = .ok (.getfield 218, 3)) (kk : W p l e R s m args below meth c H locs cells slots Q (F0 m (pc + 3) ls (.int x :: rest))) : W p l e R s m args below meth c H locs cells slots Q (F0 m pc ls (.ref (ad 0) :: rest)) := gf_X10_218 (q0 := 0) (v := .int x) S X rfl (by rw [← hv]; rfl) hdg kk
theorem pM_2 {x : Int32} (S : CallFix p m c cc nL s args BG RX10) (X : Wd E Γ A s H locs (wM Γ ad f g)) (hdg : decode cc pc = .ok (.putfield 218, 3)) (kk : ∀ (H1 : Heap) (locs1 : List Loc), Wd E Γ A s H1 locs1 (wM Γ ad (upd f 2 x) g) → W p l e R s m args below meth c H1 locs1 cells slots Q (F0 m (pc + 3) ls rest)) : W p l e R s m args below meth c H locs cells slots Q (F0 m pc ls (.int x :: .ref (ad 0) :: rest)) := pf_X10_218 (q0 := 0) (v := .int x) S X rfl rfl rfl (by show 2 < 50; decide) hdg (fun H1 locs1 Y => kk H1 locs1 Y)
theorem gM_3 (S : CallFix p m c cc nL s args BG RX10) (X : Wd E Γ A s H locs (wM Γ ad f g)) (hdg : decode cc pc = .ok (.getfield 7, 3)) (kk : W p l e R s m args below meth c H locs cells slots Q (F0 m (pc + 3) ls (.ref (ad 3) :: rest))) : W p l e R s m args below meth c H locs cells slots Q (F0 m pc ls (.ref (ad 0) :: rest)) := gf_X10_7 (q0 := 0) S X rfl rfl hdg kk
theorem ldM_3 {z : Int} {i : Nat} {x : Int32} (S : CallFix p m c cc nL s args BG RX10) (X : Wd E Γ A s H locs (wM Γ ad f g)) (hz : z = (i : Int)) (hi : i < 12) (hv : g 3 i = x) (hdg : decode cc pc = .ok (.iaload, 1)) (kk : W p l e R s m args below meth c H locs cells slots Q (F0 m (pc + 1) ls (.int x :: rest))) : W p l e R s m args below meth c H locs cells slots Q (F0 m pc ls (.int (iI z) :: .ref (ad 3) :: rest)) := by
  refine va_iald (D := Γ.1) S.1 S.2.1 X.1 X.2.1 1 0 rfl rfl (iI_in (n := 12) (by omega) (by omega)) hdg ?_
  rw [iI_cl (by omega), hz, Int.toNat_natCast, hv]
  exact kk
theorem stM_3 {z : Int} {i : Nat} {x : Int32} (S : CallFix p m c cc nL s args BG RX10) (X : Wd E Γ A s H locs (wM Γ ad f g)) (hz : z = (i : Int)) (hi : i < 12) (hdg : decode cc pc = .ok (.iastore, 1)) (kk : ∀ (H1 : Heap) (locs1 : List Loc), Wd E Γ A s H1 locs1 (wM Γ ad f (updA g 3 (upd (g 3) i x))) → W p l e R s m args below meth c H1 locs1 cells slots Q (F0 m (pc + 1) ls rest)) : W p l e R s m args below meth c H locs cells slots Q (F0 m pc ls (.int x :: .int (iI z) :: .ref (ad 3) :: rest)) := by
  refine va_iast (D := Γ.1) S.1 S.2.1 X.1 X.2.1 X.2.2.1 X.2.2.2.1 1 0 rfl rfl (iI_in (n := 12) (by omega) (by omega)) hdg (fun H1 locs1 a1 a2 a3 => ?_)
  rw [iI_cl (by omega), hz, Int.toNat_natCast] at a1 a2
  exact kk H1 locs1 ⟨X.1, a1, a2, a3, X.2.2.2.2⟩
theorem gM_4 (S : CallFix p m c cc nL s args BG RX10) (X : Wd E Γ A s H locs (wM Γ ad f g)) (hdg : decode cc pc = .ok (.getfield 13, 3)) (kk : W p l e R s m args below meth c H locs cells slots Q (F0 m (pc + 3) ls (.ref (ad 4) :: rest))) : W p l e R s m args below meth c H locs cells slots Q (F0 m pc ls (.ref (ad 0) :: rest)) := gf_X10_13 (q0 := 0) S X rfl rfl hdg kk
theorem ldM_4 {z : Int} {i : Nat} {x : Int32} (S : CallFix p m c cc nL s args BG RX10) (X : Wd E Γ A s H locs (wM Γ ad f g)) (hz : z = (i : Int)) (hi : i < 12) (hv : g 4 i = x) (hdg : decode cc pc = .ok (.iaload, 1)) (kk : W p l e R s m args below meth c H locs cells slots Q (F0 m (pc + 1) ls (.int x :: rest))) : W p l e R s m args below meth c H locs cells slots Q (F0 m pc ls (.int (iI z) :: .ref (ad 4) :: rest)) := by
  refine va_iald (D := Γ.1) S.1 S.2.1 X.1 X.2.1 2 0 rfl rfl (iI_in (n := 12) (by omega) (by omega)) hdg ?_
  rw [iI_cl (by omega), hz, Int.toNat_natCast, hv]
  exact kk
theorem stM_4 {z : Int} {i : Nat} {x : Int32} (S : CallFix p m c cc nL s args BG RX10) (X : Wd E Γ A s H locs (wM Γ ad f g)) (hz : z = (i : Int)) (hi : i < 12) (hdg : decode cc pc = .ok (.iastore, 1)) (kk : ∀ (H1 : Heap) (locs1 : List Loc), Wd E Γ A s H1 locs1 (wM Γ ad f (updA g 4 (upd (g 4) i x))) → W p l e R s m args below meth c H1 locs1 cells slots Q (F0 m (pc + 1) ls rest)) : W p l e R s m args below meth c H locs cells slots Q (F0 m pc ls (.int x :: .int (iI z) :: .ref (ad 4) :: rest)) := by
  refine va_iast (D := Γ.1) S.1 S.2.1 X.1 X.2.1 X.2.2.1 X.2.2.2.1 2 0 rfl rfl (iI_in (n := 12) (by omega) (by omega)) hdg (fun H1 locs1 a1 a2 a3 => ?_)
  rw [iI_cl (by omega), hz, Int.toNat_natCast] at a1 a2
  exact kk H1 locs1 ⟨X.1, a1, a2, a3, X.2.2.2.2⟩
theorem gM_5 (S : CallFix p m c cc nL s args BG RX10) (X : Wd E Γ A s H locs (wM Γ ad f g)) (hdg : decode cc pc = .ok (.getfield 16, 3)) (kk : W p l e R s m args below meth c H locs cells slots Q (F0 m (pc + 3) ls (.ref (ad 5) :: rest))) : W p l e R s m args below meth c H locs cells slots Q (F0 m pc ls (.ref (ad 0) :: rest)) := gf_X10_16 (q0 := 0) S X rfl rfl hdg kk
theorem ldM_5 {z : Int} {i : Nat} {x : Int32} (S : CallFix p m c cc nL s args BG RX10) (X : Wd E Γ A s H locs (wM Γ ad f g)) (hz : z = (i : Int)) (hi : i < 12) (hv : g 5 i = x) (hdg : decode cc pc = .ok (.iaload, 1)) (kk : W p l e R s m args below meth c H locs cells slots Q (F0 m (pc + 1) ls (.int x :: rest))) : W p l e R s m args below meth c H locs cells slots Q (F0 m pc ls (.int (iI z) :: .ref (ad 5) :: rest)) := by
  refine va_iald (D := Γ.1) S.1 S.2.1 X.1 X.2.1 3 0 rfl rfl (iI_in (n := 12) (by omega) (by omega)) hdg ?_
  rw [iI_cl (by omega), hz, Int.toNat_natCast, hv]
  exact kk
theorem stM_5 {z : Int} {i : Nat} {x : Int32} (S : CallFix p m c cc nL s args BG RX10) (X : Wd E Γ A s H locs (wM Γ ad f g)) (hz : z = (i : Int)) (hi : i < 12) (hdg : decode cc pc = .ok (.iastore, 1)) (kk : ∀ (H1 : Heap) (locs1 : List Loc), Wd E Γ A s H1 locs1 (wM Γ ad f (updA g 5 (upd (g 5) i x))) → W p l e R s m args below meth c H1 locs1 cells slots Q (F0 m (pc + 1) ls rest)) : W p l e R s m args below meth c H locs cells slots Q (F0 m pc ls (.int x :: .int (iI z) :: .ref (ad 5) :: rest)) := by
  refine va_iast (D := Γ.1) S.1 S.2.1 X.1 X.2.1 X.2.2.1 X.2.2.2.1 3 0 rfl rfl (iI_in (n := 12) (by omega) (by omega)) hdg (fun H1 locs1 a1 a2 a3 => ?_)
  rw [iI_cl (by omega), hz, Int.toNat_natCast] at a1 a2
  exact kk H1 locs1 ⟨X.1, a1, a2, a3, X.2.2.2.2⟩
theorem gM_6 (S : CallFix p m c cc nL s args BG RX10) (X : Wd E Γ A s H locs (wM Γ ad f g)) (hdg : decode cc pc = .ok (.getfield 19, 3)) (kk : W p l e R s m args below meth c H locs cells slots Q (F0 m (pc + 3) ls (.ref (ad 6) :: rest))) : W p l e R s m args below meth c H locs cells slots Q (F0 m pc ls (.ref (ad 0) :: rest)) := gf_X10_19 (q0 := 0) S X rfl rfl hdg kk
theorem ldM_6 {z : Int} {i : Nat} {x : Int32} (S : CallFix p m c cc nL s args BG RX10) (X : Wd E Γ A s H locs (wM Γ ad f g)) (hz : z = (i : Int)) (hi : i < 12) (hv : g 6 i = x) (hdg : decode cc pc = .ok (.iaload, 1)) (kk : W p l e R s m args below meth c H locs cells slots Q (F0 m (pc + 1) ls (.int x :: rest))) : W p l e R s m args below meth c H locs cells slots Q (F0 m pc ls (.int (iI z) :: .ref (ad 6) :: rest)) := by
  refine va_iald (D := Γ.1) S.1 S.2.1 X.1 X.2.1 4 0 rfl rfl (iI_in (n := 12) (by omega) (by omega)) hdg ?_
  rw [iI_cl (by omega), hz, Int.toNat_natCast, hv]
  exact kk
theorem stM_6 {z : Int} {i : Nat} {x : Int32} (S : CallFix p m c cc nL s args BG RX10) (X : Wd E Γ A s H locs (wM Γ ad f g)) (hz : z = (i : Int)) (hi : i < 12) (hdg : decode cc pc = .ok (.iastore, 1)) (kk : ∀ (H1 : Heap) (locs1 : List Loc), Wd E Γ A s H1 locs1 (wM Γ ad f (updA g 6 (upd (g 6) i x))) → W p l e R s m args below meth c H1 locs1 cells slots Q (F0 m (pc + 1) ls rest)) : W p l e R s m args below meth c H locs cells slots Q (F0 m pc ls (.int x :: .int (iI z) :: .ref (ad 6) :: rest)) := by
  refine va_iast (D := Γ.1) S.1 S.2.1 X.1 X.2.1 X.2.2.1 X.2.2.2.1 4 0 rfl rfl (iI_in (n := 12) (by omega) (by omega)) hdg (fun H1 locs1 a1 a2 a3 => ?_)
  rw [iI_cl (by omega), hz, Int.toNat_natCast] at a1 a2
  exact kk H1 locs1 ⟨X.1, a1, a2, a3, X.2.2.2.2⟩
theorem gM_7 (S : CallFix p m c cc nL s args BG RX10) (X : Wd E Γ A s H locs (wM Γ ad f g)) (hdg : decode cc pc = .ok (.getfield 22, 3)) (kk : W p l e R s m args below meth c H locs cells slots Q (F0 m (pc + 3) ls (.ref (ad 7) :: rest))) : W p l e R s m args below meth c H locs cells slots Q (F0 m pc ls (.ref (ad 0) :: rest)) := gf_X10_22 (q0 := 0) S X rfl rfl hdg kk
theorem ldM_7 {z : Int} {i : Nat} {x : Int32} (S : CallFix p m c cc nL s args BG RX10) (X : Wd E Γ A s H locs (wM Γ ad f g)) (hz : z = (i : Int)) (hi : i < 12) (hv : g 7 i = x) (hdg : decode cc pc = .ok (.iaload, 1)) (kk : W p l e R s m args below meth c H locs cells slots Q (F0 m (pc + 1) ls (.int x :: rest))) : W p l e R s m args below meth c H locs cells slots Q (F0 m pc ls (.int (iI z) :: .ref (ad 7) :: rest)) := by
  refine va_iald (D := Γ.1) S.1 S.2.1 X.1 X.2.1 5 0 rfl rfl (iI_in (n := 12) (by omega) (by omega)) hdg ?_
  rw [iI_cl (by omega), hz, Int.toNat_natCast, hv]
  exact kk
theorem stM_7 {z : Int} {i : Nat} {x : Int32} (S : CallFix p m c cc nL s args BG RX10) (X : Wd E Γ A s H locs (wM Γ ad f g)) (hz : z = (i : Int)) (hi : i < 12) (hdg : decode cc pc = .ok (.iastore, 1)) (kk : ∀ (H1 : Heap) (locs1 : List Loc), Wd E Γ A s H1 locs1 (wM Γ ad f (updA g 7 (upd (g 7) i x))) → W p l e R s m args below meth c H1 locs1 cells slots Q (F0 m (pc + 1) ls rest)) : W p l e R s m args below meth c H locs cells slots Q (F0 m pc ls (.int x :: .int (iI z) :: .ref (ad 7) :: rest)) := by
  refine va_iast (D := Γ.1) S.1 S.2.1 X.1 X.2.1 X.2.2.1 X.2.2.2.1 5 0 rfl rfl (iI_in (n := 12) (by omega) (by omega)) hdg (fun H1 locs1 a1 a2 a3 => ?_)
  rw [iI_cl (by omega), hz, Int.toNat_natCast] at a1 a2
  exact kk H1 locs1 ⟨X.1, a1, a2, a3, X.2.2.2.2⟩
theorem gM_8 (S : CallFix p m c cc nL s args BG RX10) (X : Wd E Γ A s H locs (wM Γ ad f g)) (hdg : decode cc pc = .ok (.getfield 25, 3)) (kk : W p l e R s m args below meth c H locs cells slots Q (F0 m (pc + 3) ls (.ref (ad 8) :: rest))) : W p l e R s m args below meth c H locs cells slots Q (F0 m pc ls (.ref (ad 0) :: rest)) := gf_X10_25 (q0 := 0) S X rfl rfl hdg kk
theorem ldM_8 {z : Int} {i : Nat} {x : Int32} (S : CallFix p m c cc nL s args BG RX10) (X : Wd E Γ A s H locs (wM Γ ad f g)) (hz : z = (i : Int)) (hi : i < 12) (hv : g 8 i = x) (hdg : decode cc pc = .ok (.iaload, 1)) (kk : W p l e R s m args below meth c H locs cells slots Q (F0 m (pc + 1) ls (.int x :: rest))) : W p l e R s m args below meth c H locs cells slots Q (F0 m pc ls (.int (iI z) :: .ref (ad 8) :: rest)) := by
  refine va_iald (D := Γ.1) S.1 S.2.1 X.1 X.2.1 6 0 rfl rfl (iI_in (n := 12) (by omega) (by omega)) hdg ?_
  rw [iI_cl (by omega), hz, Int.toNat_natCast, hv]
  exact kk
theorem stM_8 {z : Int} {i : Nat} {x : Int32} (S : CallFix p m c cc nL s args BG RX10) (X : Wd E Γ A s H locs (wM Γ ad f g)) (hz : z = (i : Int)) (hi : i < 12) (hdg : decode cc pc = .ok (.iastore, 1)) (kk : ∀ (H1 : Heap) (locs1 : List Loc), Wd E Γ A s H1 locs1 (wM Γ ad f (updA g 8 (upd (g 8) i x))) → W p l e R s m args below meth c H1 locs1 cells slots Q (F0 m (pc + 1) ls rest)) : W p l e R s m args below meth c H locs cells slots Q (F0 m pc ls (.int x :: .int (iI z) :: .ref (ad 8) :: rest)) := by
  refine va_iast (D := Γ.1) S.1 S.2.1 X.1 X.2.1 X.2.2.1 X.2.2.2.1 6 0 rfl rfl (iI_in (n := 12) (by omega) (by omega)) hdg (fun H1 locs1 a1 a2 a3 => ?_)
  rw [iI_cl (by omega), hz, Int.toNat_natCast] at a1 a2
  exact kk H1 locs1 ⟨X.1, a1, a2, a3, X.2.2.2.2⟩
theorem gM_9 (S : CallFix p m c cc nL s args BG RX10) (X : Wd E Γ A s H locs (wM Γ ad f g)) (hdg : decode cc pc = .ok (.getfield 28, 3)) (kk : W p l e R s m args below meth c H locs cells slots Q (F0 m (pc + 3) ls (.ref (ad 9) :: rest))) : W p l e R s m args below meth c H locs cells slots Q (F0 m pc ls (.ref (ad 0) :: rest)) := gf_X10_28 (q0 := 0) S X rfl rfl hdg kk
theorem ldM_9 {z : Int} {i : Nat} {x : Int32} (S : CallFix p m c cc nL s args BG RX10) (X : Wd E Γ A s H locs (wM Γ ad f g)) (hz : z = (i : Int)) (hi : i < 12) (hv : g 9 i = x) (hdg : decode cc pc = .ok (.iaload, 1)) (kk : W p l e R s m args below meth c H locs cells slots Q (F0 m (pc + 1) ls (.int x :: rest))) : W p l e R s m args below meth c H locs cells slots Q (F0 m pc ls (.int (iI z) :: .ref (ad 9) :: rest)) := by
  refine va_iald (D := Γ.1) S.1 S.2.1 X.1 X.2.1 7 0 rfl rfl (iI_in (n := 12) (by omega) (by omega)) hdg ?_
  rw [iI_cl (by omega), hz, Int.toNat_natCast, hv]
  exact kk
theorem stM_9 {z : Int} {i : Nat} {x : Int32} (S : CallFix p m c cc nL s args BG RX10) (X : Wd E Γ A s H locs (wM Γ ad f g)) (hz : z = (i : Int)) (hi : i < 12) (hdg : decode cc pc = .ok (.iastore, 1)) (kk : ∀ (H1 : Heap) (locs1 : List Loc), Wd E Γ A s H1 locs1 (wM Γ ad f (updA g 9 (upd (g 9) i x))) → W p l e R s m args below meth c H1 locs1 cells slots Q (F0 m (pc + 1) ls rest)) : W p l e R s m args below meth c H locs cells slots Q (F0 m pc ls (.int x :: .int (iI z) :: .ref (ad 9) :: rest)) := by
  refine va_iast (D := Γ.1) S.1 S.2.1 X.1 X.2.1 X.2.2.1 X.2.2.2.1 7 0 rfl rfl (iI_in (n := 12) (by omega) (by omega)) hdg (fun H1 locs1 a1 a2 a3 => ?_)
  rw [iI_cl (by omega), hz, Int.toNat_natCast] at a1 a2
  exact kk H1 locs1 ⟨X.1, a1, a2, a3, X.2.2.2.2⟩
theorem gM_10 {x : Int32} (S : CallFix p m c cc nL s args BG RX10) (X : Wd E Γ A s H locs (wM Γ ad f g)) (hv : f 10 = x) (hdg : decode cc pc = .ok (.getfield 190, 3)) (kk : W p l e R s m args below meth c H locs cells slots Q (F0 m (pc + 3) ls (.int x :: rest))) : W p l e R s m args below meth c H locs cells slots Q (F0 m pc ls (.ref (ad 0) :: rest)) := gf_X10_190 (q0 := 0) (v := .int x) S X rfl (by rw [← hv]; rfl) hdg kk
theorem pM_10 {x : Int32} (S : CallFix p m c cc nL s args BG RX10) (X : Wd E Γ A s H locs (wM Γ ad f g)) (hdg : decode cc pc = .ok (.putfield 190, 3)) (kk : ∀ (H1 : Heap) (locs1 : List Loc), Wd E Γ A s H1 locs1 (wM Γ ad (upd f 10 x) g) → W p l e R s m args below meth c H1 locs1 cells slots Q (F0 m (pc + 3) ls rest)) : W p l e R s m args below meth c H locs cells slots Q (F0 m pc ls (.int x :: .ref (ad 0) :: rest)) := pf_X10_190 (q0 := 0) (v := .int x) S X rfl rfl rfl (by show 10 < 50; decide) hdg (fun H1 locs1 Y => kk H1 locs1 Y)
theorem gM_11 {x : Int32} (S : CallFix p m c cc nL s args BG RX10) (X : Wd E Γ A s H locs (wM Γ ad f g)) (hv : f 11 = x) (hdg : decode cc pc = .ok (.getfield 31, 3)) (kk : W p l e R s m args below meth c H locs cells slots Q (F0 m (pc + 3) ls (.int x :: rest))) : W p l e R s m args below meth c H locs cells slots Q (F0 m pc ls (.ref (ad 0) :: rest)) := gf_X10_31 (q0 := 0) (v := .int x) S X rfl (by rw [← hv]; rfl) hdg kk
theorem pM_11 {x : Int32} (S : CallFix p m c cc nL s args BG RX10) (X : Wd E Γ A s H locs (wM Γ ad f g)) (hdg : decode cc pc = .ok (.putfield 31, 3)) (kk : ∀ (H1 : Heap) (locs1 : List Loc), Wd E Γ A s H1 locs1 (wM Γ ad (upd f 11 x) g) → W p l e R s m args below meth c H1 locs1 cells slots Q (F0 m (pc + 3) ls rest)) : W p l e R s m args below meth c H locs cells slots Q (F0 m pc ls (.int x :: .ref (ad 0) :: rest)) := pf_X10_31 (q0 := 0) (v := .int x) S X rfl rfl rfl (by show 11 < 50; decide) hdg (fun H1 locs1 Y => kk H1 locs1 Y)
theorem gM_12 {x : Int32} (S : CallFix p m c cc nL s args BG RX10) (X : Wd E Γ A s H locs (wM Γ ad f g)) (hv : f 12 = x) (hdg : decode cc pc = .ok (.getfield 35, 3)) (kk : W p l e R s m args below meth c H locs cells slots Q (F0 m (pc + 3) ls (.int x :: rest))) : W p l e R s m args below meth c H locs cells slots Q (F0 m pc ls (.ref (ad 0) :: rest)) := gf_X10_35 (q0 := 0) (v := .int x) S X rfl (by rw [← hv]; rfl) hdg kk
theorem pM_12 {x : Int32} (S : CallFix p m c cc nL s args BG RX10) (X : Wd E Γ A s H locs (wM Γ ad f g)) (hdg : decode cc pc = .ok (.putfield 35, 3)) (kk : ∀ (H1 : Heap) (locs1 : List Loc), Wd E Γ A s H1 locs1 (wM Γ ad (upd f 12 x) g) → W p l e R s m args below meth c H1 locs1 cells slots Q (F0 m (pc + 3) ls rest)) : W p l e R s m args below meth c H locs cells slots Q (F0 m pc ls (.int x :: .ref (ad 0) :: rest)) := pf_X10_35 (q0 := 0) (v := .int x) S X rfl rfl rfl (by show 12 < 50; decide) hdg (fun H1 locs1 Y => kk H1 locs1 Y)
theorem gM_13 (S : CallFix p m c cc nL s args BG RX10) (X : Wd E Γ A s H locs (wM Γ ad f g)) (hdg : decode cc pc = .ok (.getfield 38, 3)) (kk : W p l e R s m args below meth c H locs cells slots Q (F0 m (pc + 3) ls (.ref (ad 13) :: rest))) : W p l e R s m args below meth c H locs cells slots Q (F0 m pc ls (.ref (ad 0) :: rest)) := gf_X10_38 (q0 := 0) S X rfl rfl hdg kk
theorem ldM_13 {z : Int} {i : Nat} {x : Int32} (S : CallFix p m c cc nL s args BG RX10) (X : Wd E Γ A s H locs (wM Γ ad f g)) (hz : z = (i : Int)) (hi : i < 6) (hv : g 13 i = x) (hdg : decode cc pc = .ok (.iaload, 1)) (kk : W p l e R s m args below meth c H locs cells slots Q (F0 m (pc + 1) ls (.int x :: rest))) : W p l e R s m args below meth c H locs cells slots Q (F0 m pc ls (.int (iI z) :: .ref (ad 13) :: rest)) := by
  refine va_iald (D := Γ.1) S.1 S.2.1 X.1 X.2.1 8 0 rfl rfl (iI_in (n := 6) (by omega) (by omega)) hdg ?_
  rw [iI_cl (by omega), hz, Int.toNat_natCast, hv]
  exact kk
theorem stM_13 {z : Int} {i : Nat} {x : Int32} (S : CallFix p m c cc nL s args BG RX10) (X : Wd E Γ A s H locs (wM Γ ad f g)) (hz : z = (i : Int)) (hi : i < 6) (hdg : decode cc pc = .ok (.iastore, 1)) (kk : ∀ (H1 : Heap) (locs1 : List Loc), Wd E Γ A s H1 locs1 (wM Γ ad f (updA g 13 (upd (g 13) i x))) → W p l e R s m args below meth c H1 locs1 cells slots Q (F0 m (pc + 1) ls rest)) : W p l e R s m args below meth c H locs cells slots Q (F0 m pc ls (.int x :: .int (iI z) :: .ref (ad 13) :: rest)) := by
  refine va_iast (D := Γ.1) S.1 S.2.1 X.1 X.2.1 X.2.2.1 X.2.2.2.1 8 0 rfl rfl (iI_in (n := 6) (by omega) (by omega)) hdg (fun H1 locs1 a1 a2 a3 => ?_)
  rw [iI_cl (by omega), hz, Int.toNat_natCast] at a1 a2
  exact kk H1 locs1 ⟨X.1, a1, a2, a3, X.2.2.2.2⟩
theorem gM_14 (S : CallFix p m c cc nL s args BG RX10) (X : Wd E Γ A s H locs (wM Γ ad f g)) (hdg : decode cc pc = .ok (.getfield 41, 3)) (kk : W p l e R s m args below meth c H locs cells slots Q (F0 m (pc + 3) ls (.ref (ad 14) :: rest))) : W p l e R s m args below meth c H locs cells slots Q (F0 m pc ls (.ref (ad 0) :: rest)) := gf_X10_41 (q0 := 0) S X rfl rfl hdg kk
theorem ldM_14 {z : Int} {i : Nat} {x : Int32} (S : CallFix p m c cc nL s args BG RX10) (X : Wd E Γ A s H locs (wM Γ ad f g)) (hz : z = (i : Int)) (hi : i < 6) (hv : g 14 i = x) (hdg : decode cc pc = .ok (.baload, 1)) (kk : W p l e R s m args below meth c H locs cells slots Q (F0 m (pc + 1) ls (.int x :: rest))) : W p l e R s m args below meth c H locs cells slots Q (F0 m pc ls (.int (iI z) :: .ref (ad 14) :: rest)) := by
  refine va_zald (D := Γ.1) S.1 S.2.1 X.1 X.2.1 9 2 rfl rfl (iI_in (n := 6) (by omega) (by omega)) hdg ?_
  rw [iI_cl (by omega), hz, Int.toNat_natCast, hv]
  exact kk
theorem stM_14 {z : Int} {i : Nat} {x : Int32} (S : CallFix p m c cc nL s args BG RX10) (X : Wd E Γ A s H locs (wM Γ ad f g)) (hz : z = (i : Int)) (hi : i < 6) (hdg : decode cc pc = .ok (.bastore, 1)) (kk : ∀ (H1 : Heap) (locs1 : List Loc), Wd E Γ A s H1 locs1 (wM Γ ad f (updA g 14 (upd (g 14) i (vp_nar .boolean x)))) → W p l e R s m args below meth c H1 locs1 cells slots Q (F0 m (pc + 1) ls rest)) : W p l e R s m args below meth c H locs cells slots Q (F0 m pc ls (.int x :: .int (iI z) :: .ref (ad 14) :: rest)) := by
  refine va_zast (D := Γ.1) S.1 S.2.1 X.1 X.2.1 X.2.2.1 X.2.2.2.1 9 2 rfl rfl (iI_in (n := 6) (by omega) (by omega)) hdg (fun H1 locs1 a1 a2 a3 => ?_)
  rw [iI_cl (by omega), hz, Int.toNat_natCast] at a1 a2
  exact kk H1 locs1 ⟨X.1, a1, a2, a3, X.2.2.2.2⟩
theorem gM_15 (S : CallFix p m c cc nL s args BG RX10) (X : Wd E Γ A s H locs (wM Γ ad f g)) (hdg : decode cc pc = .ok (.getfield 45, 3)) (kk : W p l e R s m args below meth c H locs cells slots Q (F0 m (pc + 3) ls (.ref (ad 15) :: rest))) : W p l e R s m args below meth c H locs cells slots Q (F0 m pc ls (.ref (ad 0) :: rest)) := gf_X10_45 (q0 := 0) S X rfl rfl hdg kk
theorem ldM_15 {z : Int} {i : Nat} {x : Int32} (S : CallFix p m c cc nL s args BG RX10) (X : Wd E Γ A s H locs (wM Γ ad f g)) (hz : z = (i : Int)) (hi : i < 400) (hv : g 15 i = x) (hdg : decode cc pc = .ok (.iaload, 1)) (kk : W p l e R s m args below meth c H locs cells slots Q (F0 m (pc + 1) ls (.int x :: rest))) : W p l e R s m args below meth c H locs cells slots Q (F0 m pc ls (.int (iI z) :: .ref (ad 15) :: rest)) := by
  refine va_iald (D := Γ.1) S.1 S.2.1 X.1 X.2.1 10 0 rfl rfl (iI_in (n := 400) (by omega) (by omega)) hdg ?_
  rw [iI_cl (by omega), hz, Int.toNat_natCast, hv]
  exact kk
theorem stM_15 {z : Int} {i : Nat} {x : Int32} (S : CallFix p m c cc nL s args BG RX10) (X : Wd E Γ A s H locs (wM Γ ad f g)) (hz : z = (i : Int)) (hi : i < 400) (hdg : decode cc pc = .ok (.iastore, 1)) (kk : ∀ (H1 : Heap) (locs1 : List Loc), Wd E Γ A s H1 locs1 (wM Γ ad f (updA g 15 (upd (g 15) i x))) → W p l e R s m args below meth c H1 locs1 cells slots Q (F0 m (pc + 1) ls rest)) : W p l e R s m args below meth c H locs cells slots Q (F0 m pc ls (.int x :: .int (iI z) :: .ref (ad 15) :: rest)) := by
  refine va_iast (D := Γ.1) S.1 S.2.1 X.1 X.2.1 X.2.2.1 X.2.2.2.1 10 0 rfl rfl (iI_in (n := 400) (by omega) (by omega)) hdg (fun H1 locs1 a1 a2 a3 => ?_)
  rw [iI_cl (by omega), hz, Int.toNat_natCast] at a1 a2
  exact kk H1 locs1 ⟨X.1, a1, a2, a3, X.2.2.2.2⟩
theorem gM_16 (S : CallFix p m c cc nL s args BG RX10) (X : Wd E Γ A s H locs (wM Γ ad f g)) (hdg : decode cc pc = .ok (.getfield 48, 3)) (kk : W p l e R s m args below meth c H locs cells slots Q (F0 m (pc + 3) ls (.ref (ad 16) :: rest))) : W p l e R s m args below meth c H locs cells slots Q (F0 m pc ls (.ref (ad 0) :: rest)) := gf_X10_48 (q0 := 0) S X rfl rfl hdg kk
theorem ldM_16 {z : Int} {i : Nat} {x : Int32} (S : CallFix p m c cc nL s args BG RX10) (X : Wd E Γ A s H locs (wM Γ ad f g)) (hz : z = (i : Int)) (hi : i < 60) (hv : g 16 i = x) (hdg : decode cc pc = .ok (.iaload, 1)) (kk : W p l e R s m args below meth c H locs cells slots Q (F0 m (pc + 1) ls (.int x :: rest))) : W p l e R s m args below meth c H locs cells slots Q (F0 m pc ls (.int (iI z) :: .ref (ad 16) :: rest)) := by
  refine va_iald (D := Γ.1) S.1 S.2.1 X.1 X.2.1 11 0 rfl rfl (iI_in (n := 60) (by omega) (by omega)) hdg ?_
  rw [iI_cl (by omega), hz, Int.toNat_natCast, hv]
  exact kk
theorem stM_16 {z : Int} {i : Nat} {x : Int32} (S : CallFix p m c cc nL s args BG RX10) (X : Wd E Γ A s H locs (wM Γ ad f g)) (hz : z = (i : Int)) (hi : i < 60) (hdg : decode cc pc = .ok (.iastore, 1)) (kk : ∀ (H1 : Heap) (locs1 : List Loc), Wd E Γ A s H1 locs1 (wM Γ ad f (updA g 16 (upd (g 16) i x))) → W p l e R s m args below meth c H1 locs1 cells slots Q (F0 m (pc + 1) ls rest)) : W p l e R s m args below meth c H locs cells slots Q (F0 m pc ls (.int x :: .int (iI z) :: .ref (ad 16) :: rest)) := by
  refine va_iast (D := Γ.1) S.1 S.2.1 X.1 X.2.1 X.2.2.1 X.2.2.2.1 11 0 rfl rfl (iI_in (n := 60) (by omega) (by omega)) hdg (fun H1 locs1 a1 a2 a3 => ?_)
  rw [iI_cl (by omega), hz, Int.toNat_natCast] at a1 a2
  exact kk H1 locs1 ⟨X.1, a1, a2, a3, X.2.2.2.2⟩
theorem gM_17 {x : Int32} (S : CallFix p m c cc nL s args BG RX10) (X : Wd E Γ A s H locs (wM Γ ad f g)) (hv : f 17 = x) (hdg : decode cc pc = .ok (.getfield 111, 3)) (kk : W p l e R s m args below meth c H locs cells slots Q (F0 m (pc + 3) ls (.int x :: rest))) : W p l e R s m args below meth c H locs cells slots Q (F0 m pc ls (.ref (ad 0) :: rest)) := gf_X10_111 (q0 := 0) (v := .int x) S X rfl (by rw [← hv]; rfl) hdg kk
theorem pM_17 {x : Int32} (S : CallFix p m c cc nL s args BG RX10) (X : Wd E Γ A s H locs (wM Γ ad f g)) (hdg : decode cc pc = .ok (.putfield 111, 3)) (kk : ∀ (H1 : Heap) (locs1 : List Loc), Wd E Γ A s H1 locs1 (wM Γ ad (upd f 17 x) g) → W p l e R s m args below meth c H1 locs1 cells slots Q (F0 m (pc + 3) ls rest)) : W p l e R s m args below meth c H locs cells slots Q (F0 m pc ls (.int x :: .ref (ad 0) :: rest)) := pf_X10_111 (q0 := 0) (v := .int x) S X rfl rfl rfl (by show 17 < 50; decide) hdg (fun H1 locs1 Y => kk H1 locs1 Y)
theorem gM_18 {x : Int32} (S : CallFix p m c cc nL s args BG RX10) (X : Wd E Γ A s H locs (wM Γ ad f g)) (hv : f 18 = x) (hdg : decode cc pc = .ok (.getfield 136, 3)) (kk : W p l e R s m args below meth c H locs cells slots Q (F0 m (pc + 3) ls (.int x :: rest))) : W p l e R s m args below meth c H locs cells slots Q (F0 m pc ls (.ref (ad 0) :: rest)) := gf_X10_136 (q0 := 0) (v := .int x) S X rfl (by rw [← hv]; rfl) hdg kk
theorem pM_18 {x : Int32} (S : CallFix p m c cc nL s args BG RX10) (X : Wd E Γ A s H locs (wM Γ ad f g)) (hdg : decode cc pc = .ok (.putfield 136, 3)) (kk : ∀ (H1 : Heap) (locs1 : List Loc), Wd E Γ A s H1 locs1 (wM Γ ad (upd f 18 x) g) → W p l e R s m args below meth c H1 locs1 cells slots Q (F0 m (pc + 3) ls rest)) : W p l e R s m args below meth c H locs cells slots Q (F0 m pc ls (.int x :: .ref (ad 0) :: rest)) := pf_X10_136 (q0 := 0) (v := .int x) S X rfl rfl rfl (by show 18 < 50; decide) hdg (fun H1 locs1 Y => kk H1 locs1 Y)
theorem gM_19 {x : Int32} (S : CallFix p m c cc nL s args BG RX10) (X : Wd E Γ A s H locs (wM Γ ad f g)) (hv : f 19 = x) (hdg : decode cc pc = .ok (.getfield 146, 3)) (kk : W p l e R s m args below meth c H locs cells slots Q (F0 m (pc + 3) ls (.int x :: rest))) : W p l e R s m args below meth c H locs cells slots Q (F0 m pc ls (.ref (ad 0) :: rest)) := gf_X10_146 (q0 := 0) (v := .int x) S X rfl (by rw [← hv]; rfl) hdg kk
theorem pM_19 {x : Int32} (S : CallFix p m c cc nL s args BG RX10) (X : Wd E Γ A s H locs (wM Γ ad f g)) (hdg : decode cc pc = .ok (.putfield 146, 3)) (kk : ∀ (H1 : Heap) (locs1 : List Loc), Wd E Γ A s H1 locs1 (wM Γ ad (upd f 19 x) g) → W p l e R s m args below meth c H1 locs1 cells slots Q (F0 m (pc + 3) ls rest)) : W p l e R s m args below meth c H locs cells slots Q (F0 m pc ls (.int x :: .ref (ad 0) :: rest)) := pf_X10_146 (q0 := 0) (v := .int x) S X rfl rfl rfl (by show 19 < 50; decide) hdg (fun H1 locs1 Y => kk H1 locs1 Y)
theorem gM_20 {x : Int32} (S : CallFix p m c cc nL s args BG RX10) (X : Wd E Γ A s H locs (wM Γ ad f g)) (hv : f 20 = x) (hdg : decode cc pc = .ok (.getfield 143, 3)) (kk : W p l e R s m args below meth c H locs cells slots Q (F0 m (pc + 3) ls (.int x :: rest))) : W p l e R s m args below meth c H locs cells slots Q (F0 m pc ls (.ref (ad 0) :: rest)) := gf_X10_143 (q0 := 0) (v := .int x) S X rfl (by rw [← hv]; rfl) hdg kk
theorem pM_20 {x : Int32} (S : CallFix p m c cc nL s args BG RX10) (X : Wd E Γ A s H locs (wM Γ ad f g)) (hdg : decode cc pc = .ok (.putfield 143, 3)) (kk : ∀ (H1 : Heap) (locs1 : List Loc), Wd E Γ A s H1 locs1 (wM Γ ad (upd f 20 x) g) → W p l e R s m args below meth c H1 locs1 cells slots Q (F0 m (pc + 3) ls rest)) : W p l e R s m args below meth c H locs cells slots Q (F0 m pc ls (.int x :: .ref (ad 0) :: rest)) := pf_X10_143 (q0 := 0) (v := .int x) S X rfl rfl rfl (by show 20 < 50; decide) hdg (fun H1 locs1 Y => kk H1 locs1 Y)
theorem gM_21 {x : Int32} (S : CallFix p m c cc nL s args BG RX10) (X : Wd E Γ A s H locs (wM Γ ad f g)) (hv : f 21 = x) (hdg : decode cc pc = .ok (.getfield 159, 3)) (kk : W p l e R s m args below meth c H locs cells slots Q (F0 m (pc + 3) ls (.int x :: rest))) : W p l e R s m args below meth c H locs cells slots Q (F0 m pc ls (.ref (ad 0) :: rest)) := gf_X10_159 (q0 := 0) (v := .int x) S X rfl (by rw [← hv]; rfl) hdg kk
theorem pM_21 {x : Int32} (S : CallFix p m c cc nL s args BG RX10) (X : Wd E Γ A s H locs (wM Γ ad f g)) (hdg : decode cc pc = .ok (.putfield 159, 3)) (kk : ∀ (H1 : Heap) (locs1 : List Loc), Wd E Γ A s H1 locs1 (wM Γ ad (upd f 21 x) g) → W p l e R s m args below meth c H1 locs1 cells slots Q (F0 m (pc + 3) ls rest)) : W p l e R s m args below meth c H locs cells slots Q (F0 m pc ls (.int x :: .ref (ad 0) :: rest)) := pf_X10_159 (q0 := 0) (v := .int x) S X rfl rfl rfl (by show 21 < 50; decide) hdg (fun H1 locs1 Y => kk H1 locs1 Y)
theorem gM_22 {x : Int32} (S : CallFix p m c cc nL s args BG RX10) (X : Wd E Γ A s H locs (wM Γ ad f g)) (hv : f 22 = x) (hdg : decode cc pc = .ok (.getfield 162, 3)) (kk : W p l e R s m args below meth c H locs cells slots Q (F0 m (pc + 3) ls (.int x :: rest))) : W p l e R s m args below meth c H locs cells slots Q (F0 m pc ls (.ref (ad 0) :: rest)) := gf_X10_162 (q0 := 0) (v := .int x) S X rfl (by rw [← hv]; rfl) hdg kk
theorem pM_22 {x : Int32} (S : CallFix p m c cc nL s args BG RX10) (X : Wd E Γ A s H locs (wM Γ ad f g)) (hdg : decode cc pc = .ok (.putfield 162, 3)) (kk : ∀ (H1 : Heap) (locs1 : List Loc), Wd E Γ A s H1 locs1 (wM Γ ad (upd f 22 x) g) → W p l e R s m args below meth c H1 locs1 cells slots Q (F0 m (pc + 3) ls rest)) : W p l e R s m args below meth c H locs cells slots Q (F0 m pc ls (.int x :: .ref (ad 0) :: rest)) := pf_X10_162 (q0 := 0) (v := .int x) S X rfl rfl rfl (by show 22 < 50; decide) hdg (fun H1 locs1 Y => kk H1 locs1 Y)
theorem gM_23 {x : Int32} (S : CallFix p m c cc nL s args BG RX10) (X : Wd E Γ A s H locs (wM Γ ad f g)) (hv : f 23 = x) (hdg : decode cc pc = .ok (.getfield 165, 3)) (kk : W p l e R s m args below meth c H locs cells slots Q (F0 m (pc + 3) ls (.int x :: rest))) : W p l e R s m args below meth c H locs cells slots Q (F0 m pc ls (.ref (ad 0) :: rest)) := gf_X10_165 (q0 := 0) (v := .int x) S X rfl (by rw [← hv]; rfl) hdg kk
theorem pM_23 {x : Int32} (S : CallFix p m c cc nL s args BG RX10) (X : Wd E Γ A s H locs (wM Γ ad f g)) (hdg : decode cc pc = .ok (.putfield 165, 3)) (kk : ∀ (H1 : Heap) (locs1 : List Loc), Wd E Γ A s H1 locs1 (wM Γ ad (upd f 23 x) g) → W p l e R s m args below meth c H1 locs1 cells slots Q (F0 m (pc + 3) ls rest)) : W p l e R s m args below meth c H locs cells slots Q (F0 m pc ls (.int x :: .ref (ad 0) :: rest)) := pf_X10_165 (q0 := 0) (v := .int x) S X rfl rfl rfl (by show 23 < 50; decide) hdg (fun H1 locs1 Y => kk H1 locs1 Y)
theorem gM_24 {x : Int32} (S : CallFix p m c cc nL s args BG RX10) (X : Wd E Γ A s H locs (wM Γ ad f g)) (hv : f 24 = x) (hdg : decode cc pc = .ok (.getfield 187, 3)) (kk : W p l e R s m args below meth c H locs cells slots Q (F0 m (pc + 3) ls (.int x :: rest))) : W p l e R s m args below meth c H locs cells slots Q (F0 m pc ls (.ref (ad 0) :: rest)) := gf_X10_187 (q0 := 0) (v := .int x) S X rfl (by rw [← hv]; rfl) hdg kk
theorem pM_24 {x : Int32} (S : CallFix p m c cc nL s args BG RX10) (X : Wd E Γ A s H locs (wM Γ ad f g)) (hdg : decode cc pc = .ok (.putfield 187, 3)) (kk : ∀ (H1 : Heap) (locs1 : List Loc), Wd E Γ A s H1 locs1 (wM Γ ad (upd f 24 x) g) → W p l e R s m args below meth c H1 locs1 cells slots Q (F0 m (pc + 3) ls rest)) : W p l e R s m args below meth c H locs cells slots Q (F0 m pc ls (.int x :: .ref (ad 0) :: rest)) := pf_X10_187 (q0 := 0) (v := .int x) S X rfl rfl rfl (by show 24 < 50; decide) hdg (fun H1 locs1 Y => kk H1 locs1 Y)
theorem gM_25 {x : Int32} (S : CallFix p m c cc nL s args BG RX10) (X : Wd E Γ A s H locs (wM Γ ad f g)) (hv : f 25 = x) (hdg : decode cc pc = .ok (.getfield 171, 3)) (kk : W p l e R s m args below meth c H locs cells slots Q (F0 m (pc + 3) ls (.int x :: rest))) : W p l e R s m args below meth c H locs cells slots Q (F0 m pc ls (.ref (ad 0) :: rest)) := gf_X10_171 (q0 := 0) (v := .int x) S X rfl (by rw [← hv]; rfl) hdg kk
theorem pM_25 {x : Int32} (S : CallFix p m c cc nL s args BG RX10) (X : Wd E Γ A s H locs (wM Γ ad f g)) (hdg : decode cc pc = .ok (.putfield 171, 3)) (kk : ∀ (H1 : Heap) (locs1 : List Loc), Wd E Γ A s H1 locs1 (wM Γ ad (upd f 25 x) g) → W p l e R s m args below meth c H1 locs1 cells slots Q (F0 m (pc + 3) ls rest)) : W p l e R s m args below meth c H locs cells slots Q (F0 m pc ls (.int x :: .ref (ad 0) :: rest)) := pf_X10_171 (q0 := 0) (v := .int x) S X rfl rfl rfl (by show 25 < 50; decide) hdg (fun H1 locs1 Y => kk H1 locs1 Y)
theorem gM_26 {x : Int32} (S : CallFix p m c cc nL s args BG RX10) (X : Wd E Γ A s H locs (wM Γ ad f g)) (hv : f 26 = x) (hdg : decode cc pc = .ok (.getfield 51, 3)) (kk : W p l e R s m args below meth c H locs cells slots Q (F0 m (pc + 3) ls (.int x :: rest))) : W p l e R s m args below meth c H locs cells slots Q (F0 m pc ls (.ref (ad 0) :: rest)) := gf_X10_51 (q0 := 0) (v := .int x) S X rfl (by rw [← hv]; rfl) hdg kk
theorem pM_26 {x : Int32} (S : CallFix p m c cc nL s args BG RX10) (X : Wd E Γ A s H locs (wM Γ ad f g)) (hdg : decode cc pc = .ok (.putfield 51, 3)) (kk : ∀ (H1 : Heap) (locs1 : List Loc), Wd E Γ A s H1 locs1 (wM Γ ad (upd f 26 x) g) → W p l e R s m args below meth c H1 locs1 cells slots Q (F0 m (pc + 3) ls rest)) : W p l e R s m args below meth c H locs cells slots Q (F0 m pc ls (.int x :: .ref (ad 0) :: rest)) := pf_X10_51 (q0 := 0) (v := .int x) S X rfl rfl rfl (by show 26 < 50; decide) hdg (fun H1 locs1 Y => kk H1 locs1 Y)
theorem gM_27 (S : CallFix p m c cc nL s args BG RX10) (X : Wd E Γ A s H locs (wM Γ ad f g)) (hdg : decode cc pc = .ok (.getfield 54, 3)) (kk : W p l e R s m args below meth c H locs cells slots Q (F0 m (pc + 3) ls (.ref (ad 27) :: rest))) : W p l e R s m args below meth c H locs cells slots Q (F0 m pc ls (.ref (ad 0) :: rest)) := gf_X10_54 (q0 := 0) S X rfl rfl hdg kk
theorem ldM_27 {z : Int} {i : Nat} {x : Int32} (S : CallFix p m c cc nL s args BG RX10) (X : Wd E Γ A s H locs (wM Γ ad f g)) (hz : z = (i : Int)) (hi : i < 800) (hv : g 27 i = x) (hdg : decode cc pc = .ok (.iaload, 1)) (kk : W p l e R s m args below meth c H locs cells slots Q (F0 m (pc + 1) ls (.int x :: rest))) : W p l e R s m args below meth c H locs cells slots Q (F0 m pc ls (.int (iI z) :: .ref (ad 27) :: rest)) := by
  refine va_iald (D := Γ.1) S.1 S.2.1 X.1 X.2.1 12 0 rfl rfl (iI_in (n := 800) (by omega) (by omega)) hdg ?_
  rw [iI_cl (by omega), hz, Int.toNat_natCast, hv]
  exact kk
theorem stM_27 {z : Int} {i : Nat} {x : Int32} (S : CallFix p m c cc nL s args BG RX10) (X : Wd E Γ A s H locs (wM Γ ad f g)) (hz : z = (i : Int)) (hi : i < 800) (hdg : decode cc pc = .ok (.iastore, 1)) (kk : ∀ (H1 : Heap) (locs1 : List Loc), Wd E Γ A s H1 locs1 (wM Γ ad f (updA g 27 (upd (g 27) i x))) → W p l e R s m args below meth c H1 locs1 cells slots Q (F0 m (pc + 1) ls rest)) : W p l e R s m args below meth c H locs cells slots Q (F0 m pc ls (.int x :: .int (iI z) :: .ref (ad 27) :: rest)) := by
  refine va_iast (D := Γ.1) S.1 S.2.1 X.1 X.2.1 X.2.2.1 X.2.2.2.1 12 0 rfl rfl (iI_in (n := 800) (by omega) (by omega)) hdg (fun H1 locs1 a1 a2 a3 => ?_)
  rw [iI_cl (by omega), hz, Int.toNat_natCast] at a1 a2
  exact kk H1 locs1 ⟨X.1, a1, a2, a3, X.2.2.2.2⟩
theorem gM_28 (S : CallFix p m c cc nL s args BG RX10) (X : Wd E Γ A s H locs (wM Γ ad f g)) (hdg : decode cc pc = .ok (.getfield 57, 3)) (kk : W p l e R s m args below meth c H locs cells slots Q (F0 m (pc + 3) ls (.ref (ad 28) :: rest))) : W p l e R s m args below meth c H locs cells slots Q (F0 m pc ls (.ref (ad 0) :: rest)) := gf_X10_57 (q0 := 0) S X rfl rfl hdg kk
theorem ldM_28 {z : Int} {i : Nat} {x : Int32} (S : CallFix p m c cc nL s args BG RX10) (X : Wd E Γ A s H locs (wM Γ ad f g)) (hz : z = (i : Int)) (hi : i < 10) (hv : g 28 i = x) (hdg : decode cc pc = .ok (.iaload, 1)) (kk : W p l e R s m args below meth c H locs cells slots Q (F0 m (pc + 1) ls (.int x :: rest))) : W p l e R s m args below meth c H locs cells slots Q (F0 m pc ls (.int (iI z) :: .ref (ad 28) :: rest)) := by
  refine va_iald (D := Γ.1) S.1 S.2.1 X.1 X.2.1 13 0 rfl rfl (iI_in (n := 10) (by omega) (by omega)) hdg ?_
  rw [iI_cl (by omega), hz, Int.toNat_natCast, hv]
  exact kk
theorem stM_28 {z : Int} {i : Nat} {x : Int32} (S : CallFix p m c cc nL s args BG RX10) (X : Wd E Γ A s H locs (wM Γ ad f g)) (hz : z = (i : Int)) (hi : i < 10) (hdg : decode cc pc = .ok (.iastore, 1)) (kk : ∀ (H1 : Heap) (locs1 : List Loc), Wd E Γ A s H1 locs1 (wM Γ ad f (updA g 28 (upd (g 28) i x))) → W p l e R s m args below meth c H1 locs1 cells slots Q (F0 m (pc + 1) ls rest)) : W p l e R s m args below meth c H locs cells slots Q (F0 m pc ls (.int x :: .int (iI z) :: .ref (ad 28) :: rest)) := by
  refine va_iast (D := Γ.1) S.1 S.2.1 X.1 X.2.1 X.2.2.1 X.2.2.2.1 13 0 rfl rfl (iI_in (n := 10) (by omega) (by omega)) hdg (fun H1 locs1 a1 a2 a3 => ?_)
  rw [iI_cl (by omega), hz, Int.toNat_natCast] at a1 a2
  exact kk H1 locs1 ⟨X.1, a1, a2, a3, X.2.2.2.2⟩
theorem gM_29 (S : CallFix p m c cc nL s args BG RX10) (X : Wd E Γ A s H locs (wM Γ ad f g)) (hdg : decode cc pc = .ok (.getfield 60, 3)) (kk : W p l e R s m args below meth c H locs cells slots Q (F0 m (pc + 3) ls (.ref (ad 29) :: rest))) : W p l e R s m args below meth c H locs cells slots Q (F0 m pc ls (.ref (ad 0) :: rest)) := gf_X10_60 (q0 := 0) S X rfl rfl hdg kk
theorem ldM_29 {z : Int} {i : Nat} {x : Int32} (S : CallFix p m c cc nL s args BG RX10) (X : Wd E Γ A s H locs (wM Γ ad f g)) (hz : z = (i : Int)) (hi : i < 60) (hv : g 29 i = x) (hdg : decode cc pc = .ok (.iaload, 1)) (kk : W p l e R s m args below meth c H locs cells slots Q (F0 m (pc + 1) ls (.int x :: rest))) : W p l e R s m args below meth c H locs cells slots Q (F0 m pc ls (.int (iI z) :: .ref (ad 29) :: rest)) := by
  refine va_iald (D := Γ.1) S.1 S.2.1 X.1 X.2.1 14 0 rfl rfl (iI_in (n := 60) (by omega) (by omega)) hdg ?_
  rw [iI_cl (by omega), hz, Int.toNat_natCast, hv]
  exact kk
theorem stM_29 {z : Int} {i : Nat} {x : Int32} (S : CallFix p m c cc nL s args BG RX10) (X : Wd E Γ A s H locs (wM Γ ad f g)) (hz : z = (i : Int)) (hi : i < 60) (hdg : decode cc pc = .ok (.iastore, 1)) (kk : ∀ (H1 : Heap) (locs1 : List Loc), Wd E Γ A s H1 locs1 (wM Γ ad f (updA g 29 (upd (g 29) i x))) → W p l e R s m args below meth c H1 locs1 cells slots Q (F0 m (pc + 1) ls rest)) : W p l e R s m args below meth c H locs cells slots Q (F0 m pc ls (.int x :: .int (iI z) :: .ref (ad 29) :: rest)) := by
  refine va_iast (D := Γ.1) S.1 S.2.1 X.1 X.2.1 X.2.2.1 X.2.2.2.1 14 0 rfl rfl (iI_in (n := 60) (by omega) (by omega)) hdg (fun H1 locs1 a1 a2 a3 => ?_)
  rw [iI_cl (by omega), hz, Int.toNat_natCast] at a1 a2
  exact kk H1 locs1 ⟨X.1, a1, a2, a3, X.2.2.2.2⟩
theorem gM_30 (S : CallFix p m c cc nL s args BG RX10) (X : Wd E Γ A s H locs (wM Γ ad f g)) (hdg : decode cc pc = .ok (.getfield 63, 3)) (kk : W p l e R s m args below meth c H locs cells slots Q (F0 m (pc + 3) ls (.ref (ad 30) :: rest))) : W p l e R s m args below meth c H locs cells slots Q (F0 m pc ls (.ref (ad 0) :: rest)) := gf_X10_63 (q0 := 0) S X rfl rfl hdg kk
theorem ldM_30 {z : Int} {i : Nat} {x : Int32} (S : CallFix p m c cc nL s args BG RX10) (X : Wd E Γ A s H locs (wM Γ ad f g)) (hz : z = (i : Int)) (hi : i < 60) (hv : g 30 i = x) (hdg : decode cc pc = .ok (.iaload, 1)) (kk : W p l e R s m args below meth c H locs cells slots Q (F0 m (pc + 1) ls (.int x :: rest))) : W p l e R s m args below meth c H locs cells slots Q (F0 m pc ls (.int (iI z) :: .ref (ad 30) :: rest)) := by
  refine va_iald (D := Γ.1) S.1 S.2.1 X.1 X.2.1 15 0 rfl rfl (iI_in (n := 60) (by omega) (by omega)) hdg ?_
  rw [iI_cl (by omega), hz, Int.toNat_natCast, hv]
  exact kk
theorem stM_30 {z : Int} {i : Nat} {x : Int32} (S : CallFix p m c cc nL s args BG RX10) (X : Wd E Γ A s H locs (wM Γ ad f g)) (hz : z = (i : Int)) (hi : i < 60) (hdg : decode cc pc = .ok (.iastore, 1)) (kk : ∀ (H1 : Heap) (locs1 : List Loc), Wd E Γ A s H1 locs1 (wM Γ ad f (updA g 30 (upd (g 30) i x))) → W p l e R s m args below meth c H1 locs1 cells slots Q (F0 m (pc + 1) ls rest)) : W p l e R s m args below meth c H locs cells slots Q (F0 m pc ls (.int x :: .int (iI z) :: .ref (ad 30) :: rest)) := by
  refine va_iast (D := Γ.1) S.1 S.2.1 X.1 X.2.1 X.2.2.1 X.2.2.2.1 15 0 rfl rfl (iI_in (n := 60) (by omega) (by omega)) hdg (fun H1 locs1 a1 a2 a3 => ?_)
  rw [iI_cl (by omega), hz, Int.toNat_natCast] at a1 a2
  exact kk H1 locs1 ⟨X.1, a1, a2, a3, X.2.2.2.2⟩
theorem gM_31 (S : CallFix p m c cc nL s args BG RX10) (X : Wd E Γ A s H locs (wM Γ ad f g)) (hdg : decode cc pc = .ok (.getfield 66, 3)) (kk : W p l e R s m args below meth c H locs cells slots Q (F0 m (pc + 3) ls (.ref (ad 31) :: rest))) : W p l e R s m args below meth c H locs cells slots Q (F0 m pc ls (.ref (ad 0) :: rest)) := gf_X10_66 (q0 := 0) S X rfl rfl hdg kk
theorem ldM_31 {z : Int} {i : Nat} {x : Int32} (S : CallFix p m c cc nL s args BG RX10) (X : Wd E Γ A s H locs (wM Γ ad f g)) (hz : z = (i : Int)) (hi : i < 60) (hv : g 31 i = x) (hdg : decode cc pc = .ok (.iaload, 1)) (kk : W p l e R s m args below meth c H locs cells slots Q (F0 m (pc + 1) ls (.int x :: rest))) : W p l e R s m args below meth c H locs cells slots Q (F0 m pc ls (.int (iI z) :: .ref (ad 31) :: rest)) := by
  refine va_iald (D := Γ.1) S.1 S.2.1 X.1 X.2.1 16 0 rfl rfl (iI_in (n := 60) (by omega) (by omega)) hdg ?_
  rw [iI_cl (by omega), hz, Int.toNat_natCast, hv]
  exact kk
theorem stM_31 {z : Int} {i : Nat} {x : Int32} (S : CallFix p m c cc nL s args BG RX10) (X : Wd E Γ A s H locs (wM Γ ad f g)) (hz : z = (i : Int)) (hi : i < 60) (hdg : decode cc pc = .ok (.iastore, 1)) (kk : ∀ (H1 : Heap) (locs1 : List Loc), Wd E Γ A s H1 locs1 (wM Γ ad f (updA g 31 (upd (g 31) i x))) → W p l e R s m args below meth c H1 locs1 cells slots Q (F0 m (pc + 1) ls rest)) : W p l e R s m args below meth c H locs cells slots Q (F0 m pc ls (.int x :: .int (iI z) :: .ref (ad 31) :: rest)) := by
  refine va_iast (D := Γ.1) S.1 S.2.1 X.1 X.2.1 X.2.2.1 X.2.2.2.1 16 0 rfl rfl (iI_in (n := 60) (by omega) (by omega)) hdg (fun H1 locs1 a1 a2 a3 => ?_)
  rw [iI_cl (by omega), hz, Int.toNat_natCast] at a1 a2
  exact kk H1 locs1 ⟨X.1, a1, a2, a3, X.2.2.2.2⟩
theorem gM_32 (S : CallFix p m c cc nL s args BG RX10) (X : Wd E Γ A s H locs (wM Γ ad f g)) (hdg : decode cc pc = .ok (.getfield 69, 3)) (kk : W p l e R s m args below meth c H locs cells slots Q (F0 m (pc + 3) ls (.ref (ad 32) :: rest))) : W p l e R s m args below meth c H locs cells slots Q (F0 m pc ls (.ref (ad 0) :: rest)) := gf_X10_69 (q0 := 0) S X rfl rfl hdg kk
theorem ldM_32 {z : Int} {i : Nat} {x : Int32} (S : CallFix p m c cc nL s args BG RX10) (X : Wd E Γ A s H locs (wM Γ ad f g)) (hz : z = (i : Int)) (hi : i < 60) (hv : g 32 i = x) (hdg : decode cc pc = .ok (.iaload, 1)) (kk : W p l e R s m args below meth c H locs cells slots Q (F0 m (pc + 1) ls (.int x :: rest))) : W p l e R s m args below meth c H locs cells slots Q (F0 m pc ls (.int (iI z) :: .ref (ad 32) :: rest)) := by
  refine va_iald (D := Γ.1) S.1 S.2.1 X.1 X.2.1 17 0 rfl rfl (iI_in (n := 60) (by omega) (by omega)) hdg ?_
  rw [iI_cl (by omega), hz, Int.toNat_natCast, hv]
  exact kk
theorem stM_32 {z : Int} {i : Nat} {x : Int32} (S : CallFix p m c cc nL s args BG RX10) (X : Wd E Γ A s H locs (wM Γ ad f g)) (hz : z = (i : Int)) (hi : i < 60) (hdg : decode cc pc = .ok (.iastore, 1)) (kk : ∀ (H1 : Heap) (locs1 : List Loc), Wd E Γ A s H1 locs1 (wM Γ ad f (updA g 32 (upd (g 32) i x))) → W p l e R s m args below meth c H1 locs1 cells slots Q (F0 m (pc + 1) ls rest)) : W p l e R s m args below meth c H locs cells slots Q (F0 m pc ls (.int x :: .int (iI z) :: .ref (ad 32) :: rest)) := by
  refine va_iast (D := Γ.1) S.1 S.2.1 X.1 X.2.1 X.2.2.1 X.2.2.2.1 17 0 rfl rfl (iI_in (n := 60) (by omega) (by omega)) hdg (fun H1 locs1 a1 a2 a3 => ?_)
  rw [iI_cl (by omega), hz, Int.toNat_natCast] at a1 a2
  exact kk H1 locs1 ⟨X.1, a1, a2, a3, X.2.2.2.2⟩
theorem gM_33 (S : CallFix p m c cc nL s args BG RX10) (X : Wd E Γ A s H locs (wM Γ ad f g)) (hdg : decode cc pc = .ok (.getfield 72, 3)) (kk : W p l e R s m args below meth c H locs cells slots Q (F0 m (pc + 3) ls (.ref (ad 33) :: rest))) : W p l e R s m args below meth c H locs cells slots Q (F0 m pc ls (.ref (ad 0) :: rest)) := gf_X10_72 (q0 := 0) S X rfl rfl hdg kk
theorem ldM_33 {z : Int} {i : Nat} {x : Int32} (S : CallFix p m c cc nL s args BG RX10) (X : Wd E Γ A s H locs (wM Γ ad f g)) (hz : z = (i : Int)) (hi : i < 60) (hv : g 33 i = x) (hdg : decode cc pc = .ok (.iaload, 1)) (kk : W p l e R s m args below meth c H locs cells slots Q (F0 m (pc + 1) ls (.int x :: rest))) : W p l e R s m args below meth c H locs cells slots Q (F0 m pc ls (.int (iI z) :: .ref (ad 33) :: rest)) := by
  refine va_iald (D := Γ.1) S.1 S.2.1 X.1 X.2.1 18 0 rfl rfl (iI_in (n := 60) (by omega) (by omega)) hdg ?_
  rw [iI_cl (by omega), hz, Int.toNat_natCast, hv]
  exact kk
theorem stM_33 {z : Int} {i : Nat} {x : Int32} (S : CallFix p m c cc nL s args BG RX10) (X : Wd E Γ A s H locs (wM Γ ad f g)) (hz : z = (i : Int)) (hi : i < 60) (hdg : decode cc pc = .ok (.iastore, 1)) (kk : ∀ (H1 : Heap) (locs1 : List Loc), Wd E Γ A s H1 locs1 (wM Γ ad f (updA g 33 (upd (g 33) i x))) → W p l e R s m args below meth c H1 locs1 cells slots Q (F0 m (pc + 1) ls rest)) : W p l e R s m args below meth c H locs cells slots Q (F0 m pc ls (.int x :: .int (iI z) :: .ref (ad 33) :: rest)) := by
  refine va_iast (D := Γ.1) S.1 S.2.1 X.1 X.2.1 X.2.2.1 X.2.2.2.1 18 0 rfl rfl (iI_in (n := 60) (by omega) (by omega)) hdg (fun H1 locs1 a1 a2 a3 => ?_)
  rw [iI_cl (by omega), hz, Int.toNat_natCast] at a1 a2
  exact kk H1 locs1 ⟨X.1, a1, a2, a3, X.2.2.2.2⟩
theorem gM_34 (S : CallFix p m c cc nL s args BG RX10) (X : Wd E Γ A s H locs (wM Γ ad f g)) (hdg : decode cc pc = .ok (.getfield 75, 3)) (kk : W p l e R s m args below meth c H locs cells slots Q (F0 m (pc + 3) ls (.ref (ad 34) :: rest))) : W p l e R s m args below meth c H locs cells slots Q (F0 m pc ls (.ref (ad 0) :: rest)) := gf_X10_75 (q0 := 0) S X rfl rfl hdg kk
theorem ldM_34 {z : Int} {i : Nat} {x : Int32} (S : CallFix p m c cc nL s args BG RX10) (X : Wd E Γ A s H locs (wM Γ ad f g)) (hz : z = (i : Int)) (hi : i < 20) (hv : g 34 i = x) (hdg : decode cc pc = .ok (.iaload, 1)) (kk : W p l e R s m args below meth c H locs cells slots Q (F0 m (pc + 1) ls (.int x :: rest))) : W p l e R s m args below meth c H locs cells slots Q (F0 m pc ls (.int (iI z) :: .ref (ad 34) :: rest)) := by
  refine va_iald (D := Γ.1) S.1 S.2.1 X.1 X.2.1 19 0 rfl rfl (iI_in (n := 20) (by omega) (by omega)) hdg ?_
  rw [iI_cl (by omega), hz, Int.toNat_natCast, hv]
  exact kk
theorem stM_34 {z : Int} {i : Nat} {x : Int32} (S : CallFix p m c cc nL s args BG RX10) (X : Wd E Γ A s H locs (wM Γ ad f g)) (hz : z = (i : Int)) (hi : i < 20) (hdg : decode cc pc = .ok (.iastore, 1)) (kk : ∀ (H1 : Heap) (locs1 : List Loc), Wd E Γ A s H1 locs1 (wM Γ ad f (updA g 34 (upd (g 34) i x))) → W p l e R s m args below meth c H1 locs1 cells slots Q (F0 m (pc + 1) ls rest)) : W p l e R s m args below meth c H locs cells slots Q (F0 m pc ls (.int x :: .int (iI z) :: .ref (ad 34) :: rest)) := by
  refine va_iast (D := Γ.1) S.1 S.2.1 X.1 X.2.1 X.2.2.1 X.2.2.2.1 19 0 rfl rfl (iI_in (n := 20) (by omega) (by omega)) hdg (fun H1 locs1 a1 a2 a3 => ?_)
  rw [iI_cl (by omega), hz, Int.toNat_natCast] at a1 a2
  exact kk H1 locs1 ⟨X.1, a1, a2, a3, X.2.2.2.2⟩
theorem gM_35 (S : CallFix p m c cc nL s args BG RX10) (X : Wd E Γ A s H locs (wM Γ ad f g)) (hdg : decode cc pc = .ok (.getfield 78, 3)) (kk : W p l e R s m args below meth c H locs cells slots Q (F0 m (pc + 3) ls (.ref (ad 35) :: rest))) : W p l e R s m args below meth c H locs cells slots Q (F0 m pc ls (.ref (ad 0) :: rest)) := gf_X10_78 (q0 := 0) S X rfl rfl hdg kk
theorem ldM_35 {z : Int} {i : Nat} {x : Int32} (S : CallFix p m c cc nL s args BG RX10) (X : Wd E Γ A s H locs (wM Γ ad f g)) (hz : z = (i : Int)) (hi : i < 20) (hv : g 35 i = x) (hdg : decode cc pc = .ok (.iaload, 1)) (kk : W p l e R s m args below meth c H locs cells slots Q (F0 m (pc + 1) ls (.int x :: rest))) : W p l e R s m args below meth c H locs cells slots Q (F0 m pc ls (.int (iI z) :: .ref (ad 35) :: rest)) := by
  refine va_iald (D := Γ.1) S.1 S.2.1 X.1 X.2.1 20 0 rfl rfl (iI_in (n := 20) (by omega) (by omega)) hdg ?_
  rw [iI_cl (by omega), hz, Int.toNat_natCast, hv]
  exact kk
theorem stM_35 {z : Int} {i : Nat} {x : Int32} (S : CallFix p m c cc nL s args BG RX10) (X : Wd E Γ A s H locs (wM Γ ad f g)) (hz : z = (i : Int)) (hi : i < 20) (hdg : decode cc pc = .ok (.iastore, 1)) (kk : ∀ (H1 : Heap) (locs1 : List Loc), Wd E Γ A s H1 locs1 (wM Γ ad f (updA g 35 (upd (g 35) i x))) → W p l e R s m args below meth c H1 locs1 cells slots Q (F0 m (pc + 1) ls rest)) : W p l e R s m args below meth c H locs cells slots Q (F0 m pc ls (.int x :: .int (iI z) :: .ref (ad 35) :: rest)) := by
  refine va_iast (D := Γ.1) S.1 S.2.1 X.1 X.2.1 X.2.2.1 X.2.2.2.1 20 0 rfl rfl (iI_in (n := 20) (by omega) (by omega)) hdg (fun H1 locs1 a1 a2 a3 => ?_)
  rw [iI_cl (by omega), hz, Int.toNat_natCast] at a1 a2
  exact kk H1 locs1 ⟨X.1, a1, a2, a3, X.2.2.2.2⟩
theorem gM_36 (S : CallFix p m c cc nL s args BG RX10) (X : Wd E Γ A s H locs (wM Γ ad f g)) (hdg : decode cc pc = .ok (.getfield 81, 3)) (kk : W p l e R s m args below meth c H locs cells slots Q (F0 m (pc + 3) ls (.ref (ad 36) :: rest))) : W p l e R s m args below meth c H locs cells slots Q (F0 m pc ls (.ref (ad 0) :: rest)) := gf_X10_81 (q0 := 0) S X rfl rfl hdg kk
theorem ldM_36 {z : Int} {i : Nat} {x : Int32} (S : CallFix p m c cc nL s args BG RX10) (X : Wd E Γ A s H locs (wM Γ ad f g)) (hz : z = (i : Int)) (hi : i < 2) (hv : g 36 i = x) (hdg : decode cc pc = .ok (.iaload, 1)) (kk : W p l e R s m args below meth c H locs cells slots Q (F0 m (pc + 1) ls (.int x :: rest))) : W p l e R s m args below meth c H locs cells slots Q (F0 m pc ls (.int (iI z) :: .ref (ad 36) :: rest)) := by
  refine va_iald (D := Γ.1) S.1 S.2.1 X.1 X.2.1 21 0 rfl rfl (iI_in (n := 2) (by omega) (by omega)) hdg ?_
  rw [iI_cl (by omega), hz, Int.toNat_natCast, hv]
  exact kk
theorem stM_36 {z : Int} {i : Nat} {x : Int32} (S : CallFix p m c cc nL s args BG RX10) (X : Wd E Γ A s H locs (wM Γ ad f g)) (hz : z = (i : Int)) (hi : i < 2) (hdg : decode cc pc = .ok (.iastore, 1)) (kk : ∀ (H1 : Heap) (locs1 : List Loc), Wd E Γ A s H1 locs1 (wM Γ ad f (updA g 36 (upd (g 36) i x))) → W p l e R s m args below meth c H1 locs1 cells slots Q (F0 m (pc + 1) ls rest)) : W p l e R s m args below meth c H locs cells slots Q (F0 m pc ls (.int x :: .int (iI z) :: .ref (ad 36) :: rest)) := by
  refine va_iast (D := Γ.1) S.1 S.2.1 X.1 X.2.1 X.2.2.1 X.2.2.2.1 21 0 rfl rfl (iI_in (n := 2) (by omega) (by omega)) hdg (fun H1 locs1 a1 a2 a3 => ?_)
  rw [iI_cl (by omega), hz, Int.toNat_natCast] at a1 a2
  exact kk H1 locs1 ⟨X.1, a1, a2, a3, X.2.2.2.2⟩
theorem gM_37 (S : CallFix p m c cc nL s args BG RX10) (X : Wd E Γ A s H locs (wM Γ ad f g)) (hdg : decode cc pc = .ok (.getfield 84, 3)) (kk : W p l e R s m args below meth c H locs cells slots Q (F0 m (pc + 3) ls (.ref (ad 37) :: rest))) : W p l e R s m args below meth c H locs cells slots Q (F0 m pc ls (.ref (ad 0) :: rest)) := gf_X10_84 (q0 := 0) S X rfl rfl hdg kk
theorem ldM_37 {z : Int} {i : Nat} {x : Int32} (S : CallFix p m c cc nL s args BG RX10) (X : Wd E Γ A s H locs (wM Γ ad f g)) (hz : z = (i : Int)) (hi : i < 2) (hv : g 37 i = x) (hdg : decode cc pc = .ok (.iaload, 1)) (kk : W p l e R s m args below meth c H locs cells slots Q (F0 m (pc + 1) ls (.int x :: rest))) : W p l e R s m args below meth c H locs cells slots Q (F0 m pc ls (.int (iI z) :: .ref (ad 37) :: rest)) := by
  refine va_iald (D := Γ.1) S.1 S.2.1 X.1 X.2.1 22 0 rfl rfl (iI_in (n := 2) (by omega) (by omega)) hdg ?_
  rw [iI_cl (by omega), hz, Int.toNat_natCast, hv]
  exact kk
theorem stM_37 {z : Int} {i : Nat} {x : Int32} (S : CallFix p m c cc nL s args BG RX10) (X : Wd E Γ A s H locs (wM Γ ad f g)) (hz : z = (i : Int)) (hi : i < 2) (hdg : decode cc pc = .ok (.iastore, 1)) (kk : ∀ (H1 : Heap) (locs1 : List Loc), Wd E Γ A s H1 locs1 (wM Γ ad f (updA g 37 (upd (g 37) i x))) → W p l e R s m args below meth c H1 locs1 cells slots Q (F0 m (pc + 1) ls rest)) : W p l e R s m args below meth c H locs cells slots Q (F0 m pc ls (.int x :: .int (iI z) :: .ref (ad 37) :: rest)) := by
  refine va_iast (D := Γ.1) S.1 S.2.1 X.1 X.2.1 X.2.2.1 X.2.2.2.1 22 0 rfl rfl (iI_in (n := 2) (by omega) (by omega)) hdg (fun H1 locs1 a1 a2 a3 => ?_)
  rw [iI_cl (by omega), hz, Int.toNat_natCast] at a1 a2
  exact kk H1 locs1 ⟨X.1, a1, a2, a3, X.2.2.2.2⟩
theorem gM_38 (S : CallFix p m c cc nL s args BG RX10) (X : Wd E Γ A s H locs (wM Γ ad f g)) (hdg : decode cc pc = .ok (.getfield 87, 3)) (kk : W p l e R s m args below meth c H locs cells slots Q (F0 m (pc + 3) ls (.ref (ad 38) :: rest))) : W p l e R s m args below meth c H locs cells slots Q (F0 m pc ls (.ref (ad 0) :: rest)) := gf_X10_87 (q0 := 0) S X rfl rfl hdg kk
theorem ldM_38 {z : Int} {i : Nat} {x : Int32} (S : CallFix p m c cc nL s args BG RX10) (X : Wd E Γ A s H locs (wM Γ ad f g)) (hz : z = (i : Int)) (hi : i < 2000) (hv : g 38 i = x) (hdg : decode cc pc = .ok (.iaload, 1)) (kk : W p l e R s m args below meth c H locs cells slots Q (F0 m (pc + 1) ls (.int x :: rest))) : W p l e R s m args below meth c H locs cells slots Q (F0 m pc ls (.int (iI z) :: .ref (ad 38) :: rest)) := by
  refine va_iald (D := Γ.1) S.1 S.2.1 X.1 X.2.1 23 0 rfl rfl (iI_in (n := 2000) (by omega) (by omega)) hdg ?_
  rw [iI_cl (by omega), hz, Int.toNat_natCast, hv]
  exact kk
theorem stM_38 {z : Int} {i : Nat} {x : Int32} (S : CallFix p m c cc nL s args BG RX10) (X : Wd E Γ A s H locs (wM Γ ad f g)) (hz : z = (i : Int)) (hi : i < 2000) (hdg : decode cc pc = .ok (.iastore, 1)) (kk : ∀ (H1 : Heap) (locs1 : List Loc), Wd E Γ A s H1 locs1 (wM Γ ad f (updA g 38 (upd (g 38) i x))) → W p l e R s m args below meth c H1 locs1 cells slots Q (F0 m (pc + 1) ls rest)) : W p l e R s m args below meth c H locs cells slots Q (F0 m pc ls (.int x :: .int (iI z) :: .ref (ad 38) :: rest)) := by
  refine va_iast (D := Γ.1) S.1 S.2.1 X.1 X.2.1 X.2.2.1 X.2.2.2.1 23 0 rfl rfl (iI_in (n := 2000) (by omega) (by omega)) hdg (fun H1 locs1 a1 a2 a3 => ?_)
  rw [iI_cl (by omega), hz, Int.toNat_natCast] at a1 a2
  exact kk H1 locs1 ⟨X.1, a1, a2, a3, X.2.2.2.2⟩
theorem gM_39 {x : Int32} (S : CallFix p m c cc nL s args BG RX10) (X : Wd E Γ A s H locs (wM Γ ad f g)) (hv : f 39 = x) (hdg : decode cc pc = .ok (.getfield 228, 3)) (kk : W p l e R s m args below meth c H locs cells slots Q (F0 m (pc + 3) ls (.int x :: rest))) : W p l e R s m args below meth c H locs cells slots Q (F0 m pc ls (.ref (ad 0) :: rest)) := gf_X10_228 (q0 := 0) (v := .int x) S X rfl (by rw [← hv]; rfl) hdg kk
theorem pM_39 {x : Int32} (S : CallFix p m c cc nL s args BG RX10) (X : Wd E Γ A s H locs (wM Γ ad f g)) (hdg : decode cc pc = .ok (.putfield 228, 3)) (kk : ∀ (H1 : Heap) (locs1 : List Loc), Wd E Γ A s H1 locs1 (wM Γ ad (upd f 39 x) g) → W p l e R s m args below meth c H1 locs1 cells slots Q (F0 m (pc + 3) ls rest)) : W p l e R s m args below meth c H locs cells slots Q (F0 m pc ls (.int x :: .ref (ad 0) :: rest)) := pf_X10_228 (q0 := 0) (v := .int x) S X rfl rfl rfl (by show 39 < 50; decide) hdg (fun H1 locs1 Y => kk H1 locs1 Y)
theorem gM_40 {x : Int32} (S : CallFix p m c cc nL s args BG RX10) (X : Wd E Γ A s H locs (wM Γ ad f g)) (hv : f 40 = x) (hdg : decode cc pc = .ok (.getfield 231, 3)) (kk : W p l e R s m args below meth c H locs cells slots Q (F0 m (pc + 3) ls (.int x :: rest))) : W p l e R s m args below meth c H locs cells slots Q (F0 m pc ls (.ref (ad 0) :: rest)) := gf_X10_231 (q0 := 0) (v := .int x) S X rfl (by rw [← hv]; rfl) hdg kk
theorem pM_40 {x : Int32} (S : CallFix p m c cc nL s args BG RX10) (X : Wd E Γ A s H locs (wM Γ ad f g)) (hdg : decode cc pc = .ok (.putfield 231, 3)) (kk : ∀ (H1 : Heap) (locs1 : List Loc), Wd E Γ A s H1 locs1 (wM Γ ad (upd f 40 x) g) → W p l e R s m args below meth c H1 locs1 cells slots Q (F0 m (pc + 3) ls rest)) : W p l e R s m args below meth c H locs cells slots Q (F0 m pc ls (.int x :: .ref (ad 0) :: rest)) := pf_X10_231 (q0 := 0) (v := .int x) S X rfl rfl rfl (by show 40 < 50; decide) hdg (fun H1 locs1 Y => kk H1 locs1 Y)
theorem gM_41 {x : Int32} (S : CallFix p m c cc nL s args BG RX10) (X : Wd E Γ A s H locs (wM Γ ad f g)) (hv : f 41 = x) (hdg : decode cc pc = .ok (.getfield 241, 3)) (kk : W p l e R s m args below meth c H locs cells slots Q (F0 m (pc + 3) ls (.int x :: rest))) : W p l e R s m args below meth c H locs cells slots Q (F0 m pc ls (.ref (ad 0) :: rest)) := gf_X10_241 (q0 := 0) (v := .int x) S X rfl (by rw [← hv]; rfl) hdg kk
theorem pM_41 {x : Int32} (S : CallFix p m c cc nL s args BG RX10) (X : Wd E Γ A s H locs (wM Γ ad f g)) (hn : narrow .boolean (.int x) = .int x) (hf : fits .boolean (.int x) = true) (hdg : decode cc pc = .ok (.putfield 241, 3)) (kk : ∀ (H1 : Heap) (locs1 : List Loc), Wd E Γ A s H1 locs1 (wM Γ ad (upd f 41 x) g) → W p l e R s m args below meth c H1 locs1 cells slots Q (F0 m (pc + 3) ls rest)) : W p l e R s m args below meth c H locs cells slots Q (F0 m pc ls (.int x :: .ref (ad 0) :: rest)) := pf_X10_241 (q0 := 0) (v := .int x) S X rfl hn hf (by show 41 < 50; decide) hdg (fun H1 locs1 Y => kk H1 locs1 Y)
theorem gM_42 {x : Int32} (S : CallFix p m c cc nL s args BG RX10) (X : Wd E Γ A s H locs (wM Γ ad f g)) (hv : f 42 = x) (hdg : decode cc pc = .ok (.getfield 245, 3)) (kk : W p l e R s m args below meth c H locs cells slots Q (F0 m (pc + 3) ls (.int x :: rest))) : W p l e R s m args below meth c H locs cells slots Q (F0 m pc ls (.ref (ad 0) :: rest)) := gf_X10_245 (q0 := 0) (v := .int x) S X rfl (by rw [← hv]; rfl) hdg kk
theorem pM_42 {x : Int32} (S : CallFix p m c cc nL s args BG RX10) (X : Wd E Γ A s H locs (wM Γ ad f g)) (hdg : decode cc pc = .ok (.putfield 245, 3)) (kk : ∀ (H1 : Heap) (locs1 : List Loc), Wd E Γ A s H1 locs1 (wM Γ ad (upd f 42 x) g) → W p l e R s m args below meth c H1 locs1 cells slots Q (F0 m (pc + 3) ls rest)) : W p l e R s m args below meth c H locs cells slots Q (F0 m pc ls (.int x :: .ref (ad 0) :: rest)) := pf_X10_245 (q0 := 0) (v := .int x) S X rfl rfl rfl (by show 42 < 50; decide) hdg (fun H1 locs1 Y => kk H1 locs1 Y)
theorem gM_43 {x : Int32} (S : CallFix p m c cc nL s args BG RX10) (X : Wd E Γ A s H locs (wM Γ ad f g)) (hv : f 43 = x) (hdg : decode cc pc = .ok (.getfield 248, 3)) (kk : W p l e R s m args below meth c H locs cells slots Q (F0 m (pc + 3) ls (.int x :: rest))) : W p l e R s m args below meth c H locs cells slots Q (F0 m pc ls (.ref (ad 0) :: rest)) := gf_X10_248 (q0 := 0) (v := .int x) S X rfl (by rw [← hv]; rfl) hdg kk
theorem pM_43 {x : Int32} (S : CallFix p m c cc nL s args BG RX10) (X : Wd E Γ A s H locs (wM Γ ad f g)) (hdg : decode cc pc = .ok (.putfield 248, 3)) (kk : ∀ (H1 : Heap) (locs1 : List Loc), Wd E Γ A s H1 locs1 (wM Γ ad (upd f 43 x) g) → W p l e R s m args below meth c H1 locs1 cells slots Q (F0 m (pc + 3) ls rest)) : W p l e R s m args below meth c H locs cells slots Q (F0 m pc ls (.int x :: .ref (ad 0) :: rest)) := pf_X10_248 (q0 := 0) (v := .int x) S X rfl rfl rfl (by show 43 < 50; decide) hdg (fun H1 locs1 Y => kk H1 locs1 Y)
theorem gM_44 {x : Int32} (S : CallFix p m c cc nL s args BG RX10) (X : Wd E Γ A s H locs (wM Γ ad f g)) (hv : f 44 = x) (hdg : decode cc pc = .ok (.getfield 251, 3)) (kk : W p l e R s m args below meth c H locs cells slots Q (F0 m (pc + 3) ls (.int x :: rest))) : W p l e R s m args below meth c H locs cells slots Q (F0 m pc ls (.ref (ad 0) :: rest)) := gf_X10_251 (q0 := 0) (v := .int x) S X rfl (by rw [← hv]; rfl) hdg kk
theorem pM_44 {x : Int32} (S : CallFix p m c cc nL s args BG RX10) (X : Wd E Γ A s H locs (wM Γ ad f g)) (hdg : decode cc pc = .ok (.putfield 251, 3)) (kk : ∀ (H1 : Heap) (locs1 : List Loc), Wd E Γ A s H1 locs1 (wM Γ ad (upd f 44 x) g) → W p l e R s m args below meth c H1 locs1 cells slots Q (F0 m (pc + 3) ls rest)) : W p l e R s m args below meth c H locs cells slots Q (F0 m pc ls (.int x :: .ref (ad 0) :: rest)) := pf_X10_251 (q0 := 0) (v := .int x) S X rfl rfl rfl (by show 44 < 50; decide) hdg (fun H1 locs1 Y => kk H1 locs1 Y)
theorem gM_45 {x : Int32} (S : CallFix p m c cc nL s args BG RX10) (X : Wd E Γ A s H locs (wM Γ ad f g)) (hv : f 45 = x) (hdg : decode cc pc = .ok (.getfield 254, 3)) (kk : W p l e R s m args below meth c H locs cells slots Q (F0 m (pc + 3) ls (.int x :: rest))) : W p l e R s m args below meth c H locs cells slots Q (F0 m pc ls (.ref (ad 0) :: rest)) := gf_X10_254 (q0 := 0) (v := .int x) S X rfl (by rw [← hv]; rfl) hdg kk
theorem pM_45 {x : Int32} (S : CallFix p m c cc nL s args BG RX10) (X : Wd E Γ A s H locs (wM Γ ad f g)) (hdg : decode cc pc = .ok (.putfield 254, 3)) (kk : ∀ (H1 : Heap) (locs1 : List Loc), Wd E Γ A s H1 locs1 (wM Γ ad (upd f 45 x) g) → W p l e R s m args below meth c H1 locs1 cells slots Q (F0 m (pc + 3) ls rest)) : W p l e R s m args below meth c H locs cells slots Q (F0 m pc ls (.int x :: .ref (ad 0) :: rest)) := pf_X10_254 (q0 := 0) (v := .int x) S X rfl rfl rfl (by show 45 < 50; decide) hdg (fun H1 locs1 Y => kk H1 locs1 Y)
theorem gM_46 {x : Int32} (S : CallFix p m c cc nL s args BG RX10) (X : Wd E Γ A s H locs (wM Γ ad f g)) (hv : f 46 = x) (hdg : decode cc pc = .ok (.getfield 257, 3)) (kk : W p l e R s m args below meth c H locs cells slots Q (F0 m (pc + 3) ls (.int x :: rest))) : W p l e R s m args below meth c H locs cells slots Q (F0 m pc ls (.ref (ad 0) :: rest)) := gf_X10_257 (q0 := 0) (v := .int x) S X rfl (by rw [← hv]; rfl) hdg kk
theorem pM_46 {x : Int32} (S : CallFix p m c cc nL s args BG RX10) (X : Wd E Γ A s H locs (wM Γ ad f g)) (hdg : decode cc pc = .ok (.putfield 257, 3)) (kk : ∀ (H1 : Heap) (locs1 : List Loc), Wd E Γ A s H1 locs1 (wM Γ ad (upd f 46 x) g) → W p l e R s m args below meth c H1 locs1 cells slots Q (F0 m (pc + 3) ls rest)) : W p l e R s m args below meth c H locs cells slots Q (F0 m pc ls (.int x :: .ref (ad 0) :: rest)) := pf_X10_257 (q0 := 0) (v := .int x) S X rfl rfl rfl (by show 46 < 50; decide) hdg (fun H1 locs1 Y => kk H1 locs1 Y)
theorem gM_47 {x : Int32} (S : CallFix p m c cc nL s args BG RX10) (X : Wd E Γ A s H locs (wM Γ ad f g)) (hv : f 47 = x) (hdg : decode cc pc = .ok (.getfield 260, 3)) (kk : W p l e R s m args below meth c H locs cells slots Q (F0 m (pc + 3) ls (.int x :: rest))) : W p l e R s m args below meth c H locs cells slots Q (F0 m pc ls (.ref (ad 0) :: rest)) := gf_X10_260 (q0 := 0) (v := .int x) S X rfl (by rw [← hv]; rfl) hdg kk
theorem pM_47 {x : Int32} (S : CallFix p m c cc nL s args BG RX10) (X : Wd E Γ A s H locs (wM Γ ad f g)) (hdg : decode cc pc = .ok (.putfield 260, 3)) (kk : ∀ (H1 : Heap) (locs1 : List Loc), Wd E Γ A s H1 locs1 (wM Γ ad (upd f 47 x) g) → W p l e R s m args below meth c H1 locs1 cells slots Q (F0 m (pc + 3) ls rest)) : W p l e R s m args below meth c H locs cells slots Q (F0 m pc ls (.int x :: .ref (ad 0) :: rest)) := pf_X10_260 (q0 := 0) (v := .int x) S X rfl rfl rfl (by show 47 < 50; decide) hdg (fun H1 locs1 Y => kk H1 locs1 Y)
theorem gM_48 {x : Int32} (S : CallFix p m c cc nL s args BG RX10) (X : Wd E Γ A s H locs (wM Γ ad f g)) (hv : f 48 = x) (hdg : decode cc pc = .ok (.getfield 263, 3)) (kk : W p l e R s m args below meth c H locs cells slots Q (F0 m (pc + 3) ls (.int x :: rest))) : W p l e R s m args below meth c H locs cells slots Q (F0 m pc ls (.ref (ad 0) :: rest)) := gf_X10_263 (q0 := 0) (v := .int x) S X rfl (by rw [← hv]; rfl) hdg kk
theorem pM_48 {x : Int32} (S : CallFix p m c cc nL s args BG RX10) (X : Wd E Γ A s H locs (wM Γ ad f g)) (hdg : decode cc pc = .ok (.putfield 263, 3)) (kk : ∀ (H1 : Heap) (locs1 : List Loc), Wd E Γ A s H1 locs1 (wM Γ ad (upd f 48 x) g) → W p l e R s m args below meth c H1 locs1 cells slots Q (F0 m (pc + 3) ls rest)) : W p l e R s m args below meth c H locs cells slots Q (F0 m pc ls (.int x :: .ref (ad 0) :: rest)) := pf_X10_263 (q0 := 0) (v := .int x) S X rfl rfl rfl (by show 48 < 50; decide) hdg (fun H1 locs1 Y => kk H1 locs1 Y)
theorem gM_49 {x : Int32} (S : CallFix p m c cc nL s args BG RX10) (X : Wd E Γ A s H locs (wM Γ ad f g)) (hv : f 49 = x) (hdg : decode cc pc = .ok (.getfield 266, 3)) (kk : W p l e R s m args below meth c H locs cells slots Q (F0 m (pc + 3) ls (.int x :: rest))) : W p l e R s m args below meth c H locs cells slots Q (F0 m pc ls (.ref (ad 0) :: rest)) := gf_X10_266 (q0 := 0) (v := .int x) S X rfl (by rw [← hv]; rfl) hdg kk
theorem pM_49 {x : Int32} (S : CallFix p m c cc nL s args BG RX10) (X : Wd E Γ A s H locs (wM Γ ad f g)) (hdg : decode cc pc = .ok (.putfield 266, 3)) (kk : ∀ (H1 : Heap) (locs1 : List Loc), Wd E Γ A s H1 locs1 (wM Γ ad (upd f 49 x) g) → W p l e R s m args below meth c H1 locs1 cells slots Q (F0 m (pc + 3) ls rest)) : W p l e R s m args below meth c H locs cells slots Q (F0 m pc ls (.int x :: .ref (ad 0) :: rest)) := pf_X10_266 (q0 := 0) (v := .int x) S X rfl rfl rfl (by show 49 < 50; decide) hdg (fun H1 locs1 Y => kk H1 locs1 Y)
end MW
end
section
abbrev rm_X10_isIn : Room := ({ frames := 0, cells := 0, slots := 0, locals := 0 } : Room)
set_option maxHeartbeats 4000000 in
set_option maxRecDepth 100000 in
theorem c_X10_isIn {E : XX} (hE : XS E) (l : Launch) {Γ : GG} {w : va_W} {v a b : Int} (hv : -2147483648 ≤ v ∧ v < 2147483648) (ha : -2147483648 ≤ a ∧ a < 2147483648) (hb : -2147483648 ≤ b ∧ b < 2147483648) : Con E l yX10_isIn cX10_isIn 3 (some .boolean) rm_X10_isIn Γ w [.int (iI (v)), .int (iI (a)), .int (iI (b))] (Qi (bI (a ≤ v ∧ v ≤ b)) w) := by
  refine Con_mk (by decide) (Nat.le_of_ble_eq_true rfl) ?_
  intro p e s₀ m args below meth c A Fx hr hlk hnm X ls hl
  have hl : lv_has ls 3 [(0, .int (iI (v))), (1, .int (iI (a))), (2, .int (iI (b)))] := hl
  refine lv_iload_n Fx.1 Fx.2.1 dX10_isIn_0 rfl (lv_at hl 0 rfl) ?_
  refine lv_iload_n Fx.1 Fx.2.1 dX10_isIn_1 rfl (lv_at hl 1 rfl) ?_
  refine k_icmp_lt (a := v) (b := a) (tgt := 14) Fx dX10_isIn_2 (by decide) (by omega) (by omega) (fun c_2 => ?_) (fun c_2 => ?_)
  · refine k_iconst Fx dX10_isIn_14 ?_
    exact r_zret Fx hr hlk X (by decide) dX10_isIn_15 rfl (Qi_mk (bI_0 (by omega)))
  · refine lv_iload_n Fx.1 Fx.2.1 dX10_isIn_5 rfl (lv_at hl 0 rfl) ?_
    refine lv_iload_n Fx.1 Fx.2.1 dX10_isIn_6 rfl (lv_at hl 2 rfl) ?_
    refine k_icmp_gt (a := v) (b := b) (tgt := 14) Fx dX10_isIn_7 (by decide) (by omega) (by omega) (fun c_7 => ?_) (fun c_7 => ?_)
    · refine k_iconst Fx dX10_isIn_14 ?_
      exact r_zret Fx hr hlk X (by decide) dX10_isIn_15 rfl (Qi_mk (bI_0 (by omega)))
    · refine k_iconst Fx dX10_isIn_10 ?_
      refine lv_goto (tgt := 15) Fx.1 Fx.2.1 dX10_isIn_11 (by decide) ?_
      exact r_zret Fx hr hlk X (by decide) dX10_isIn_15 rfl (Qi_mk (bI_1 (by omega)))

abbrev rm_X10_isStation : Room := ({ frames := 1, cells := 0, slots := 0, locals := 22 } : Room)
set_option maxHeartbeats 4000000 in
set_option maxRecDepth 100000 in
theorem c_X10_isStation {E : XX} (hE : XS E) (l : Launch) {Γ : GG} {w : va_W} {v : Int} (hv : -2147483648 ≤ v ∧ v < 2147483648) : Con E l yX10_isStation cX10_isStation 1 (some .boolean) rm_X10_isStation Γ w [.int (iI (v))] (Qi (bI (0 ≤ v ∧ v ≤ 9)) w) := by
  refine Con_mk (by decide) (Nat.le_of_ble_eq_true rfl) ?_
  intro p e s₀ m args below meth c A Fx hr hlk hnm X ls hl
  have hl : lv_has ls 1 [(0, .int (iI (v)))] := hl
  refine lv_iload_n Fx.1 Fx.2.1 dX10_isStation_0 rfl (lv_at hl 0 rfl) ?_
  refine k_iconst Fx dX10_isStation_1 ?_
  refine k_bipush Fx dX10_isStation_2 (by decide) ?_
  refine r_callSi (As := [.int (iI (v)), .int (iI (0)), .int (iI (9))]) (rest := []) hE Fx X (c_X10_isIn hE l (v := v) (a := 0) (b := 9) (by omega) (by omega) (by omega)) cS_X10_90 rfl rfl (by decide) (by decide) hl.1 dX10_isStation_4 (fun H locs X => ?_)
  exact r_zret Fx hr hlk X (by decide) dX10_isStation_7 (bI_nar _) (Qi_mk (bI_c (by omega)))

abbrev rm_X10_isFoot : Room := ({ frames := 1, cells := 0, slots := 0, locals := 22 } : Room)
set_option maxHeartbeats 4000000 in
set_option maxRecDepth 100000 in
theorem c_X10_isFoot {E : XX} (hE : XS E) (l : Launch) {Γ : GG} {w : va_W} {v : Int} (hv : -2147483648 ≤ v ∧ v < 2147483648) : Con E l yX10_isFoot cX10_isFoot 1 (some .boolean) rm_X10_isFoot Γ w [.int (iI (v))] (Qi (bI (0 ≤ v ∧ v ≤ 79)) w) := by
  refine Con_mk (by decide) (Nat.le_of_ble_eq_true rfl) ?_
  intro p e s₀ m args below meth c A Fx hr hlk hnm X ls hl
  have hl : lv_has ls 1 [(0, .int (iI (v)))] := hl
  refine lv_iload_n Fx.1 Fx.2.1 dX10_isFoot_0 rfl (lv_at hl 0 rfl) ?_
  refine k_iconst Fx dX10_isFoot_1 ?_
  refine k_bipush Fx dX10_isFoot_2 (by decide) ?_
  refine r_callSi (As := [.int (iI (v)), .int (iI (0)), .int (iI (79))]) (rest := []) hE Fx X (c_X10_isIn hE l (v := v) (a := 0) (b := 79) (by omega) (by omega) (by omega)) cS_X10_90 rfl rfl (by decide) (by decide) hl.1 dX10_isFoot_4 (fun H locs X => ?_)
  exact r_zret Fx hr hlk X (by decide) dX10_isFoot_7 (bI_nar _) (Qi_mk (bI_c (by omega)))

abbrev rm_X10_isYear : Room := ({ frames := 1, cells := 0, slots := 0, locals := 22 } : Room)
set_option maxHeartbeats 4000000 in
set_option maxRecDepth 100000 in
theorem c_X10_isYear {E : XX} (hE : XS E) (l : Launch) {Γ : GG} {w : va_W} {v : Int} (hv : -2147483648 ≤ v ∧ v < 2147483648) : Con E l yX10_isYear cX10_isYear 1 (some .boolean) rm_X10_isYear Γ w [.int (iI (v))] (Qi (bI (0 ≤ v ∧ v ≤ 999)) w) := by
  refine Con_mk (by decide) (Nat.le_of_ble_eq_true rfl) ?_
  intro p e s₀ m args below meth c A Fx hr hlk hnm X ls hl
  have hl : lv_has ls 1 [(0, .int (iI (v)))] := hl
  refine lv_iload_n Fx.1 Fx.2.1 dX10_isYear_0 rfl (lv_at hl 0 rfl) ?_
  refine k_iconst Fx dX10_isYear_1 ?_
  refine k_sipush Fx dX10_isYear_2 (by decide) ?_
  refine r_callSi (As := [.int (iI (v)), .int (iI (0)), .int (iI (999))]) (rest := []) hE Fx X (c_X10_isIn hE l (v := v) (a := 0) (b := 999) (by omega) (by omega) (by omega)) cS_X10_90 rfl rfl (by decide) (by decide) hl.1 dX10_isYear_5 (fun H locs X => ?_)
  exact r_zret Fx hr hlk X (by decide) dX10_isYear_8 (bI_nar _) (Qi_mk (bI_c (by omega)))

abbrev rm_X10_isSpan : Room := ({ frames := 2, cells := 0, slots := 0, locals := 42 } : Room)
set_option maxHeartbeats 4000000 in
set_option maxRecDepth 100000 in
theorem c_X10_isSpan {E : XX} (hE : XS E) (l : Launch) {Γ : GG} {w : va_W} {a b : Int} (ha : -2147483648 ≤ a ∧ a < 2147483648) (hb : -2147483648 ≤ b ∧ b < 2147483648) : Con E l yX10_isSpan cX10_isSpan 2 (some .boolean) rm_X10_isSpan Γ w [.int (iI (a)), .int (iI (b))] (Qi (bI (0 ≤ a ∧ a ≤ b ∧ b ≤ 9)) w) := by
  refine Con_mk (by decide) (Nat.le_of_ble_eq_true rfl) ?_
  intro p e s₀ m args below meth c A Fx hr hlk hnm X ls hl
  have hl : lv_has ls 2 [(0, .int (iI (a))), (1, .int (iI (b)))] := hl
  refine lv_iload_n Fx.1 Fx.2.1 dX10_isSpan_0 rfl (lv_at hl 0 rfl) ?_
  refine r_callSi (As := [.int (iI (a))]) (rest := []) hE Fx X (c_X10_isStation hE l (v := a) (by omega)) cS_X10_94 rfl rfl (by decide) (by decide) hl.1 dX10_isSpan_1 (fun H locs X => ?_)
  refine k_bif_eq (tgt := 23) Fx dX10_isSpan_4 (by decide) (fun c_4 => ?_) (fun c_4 => ?_)
  · refine k_iconst Fx dX10_isSpan_23 ?_
    exact r_zret Fx hr hlk X (by decide) dX10_isSpan_24 rfl (Qi_mk (bI_0 (by omega)))
  · refine lv_iload_n Fx.1 Fx.2.1 dX10_isSpan_7 rfl (lv_at hl 1 rfl) ?_
    refine r_callSi (As := [.int (iI (b))]) (rest := []) hE Fx X (c_X10_isStation hE l (v := b) (by omega)) cS_X10_94 rfl rfl (by decide) (by decide) hl.1 dX10_isSpan_8 (fun H locs X => ?_)
    refine k_bif_eq (tgt := 23) Fx dX10_isSpan_11 (by decide) (fun c_11 => ?_) (fun c_11 => ?_)
    · refine k_iconst Fx dX10_isSpan_23 ?_
      exact r_zret Fx hr hlk X (by decide) dX10_isSpan_24 rfl (Qi_mk (bI_0 (by omega)))
    · refine lv_iload_n Fx.1 Fx.2.1 dX10_isSpan_14 rfl (lv_at hl 0 rfl) ?_
      refine lv_iload_n Fx.1 Fx.2.1 dX10_isSpan_15 rfl (lv_at hl 1 rfl) ?_
      refine k_icmp_gt (a := a) (b := b) (tgt := 23) Fx dX10_isSpan_16 (by decide) (by omega) (by omega) (fun c_16 => ?_) (fun c_16 => ?_)
      · refine k_iconst Fx dX10_isSpan_23 ?_
        exact r_zret Fx hr hlk X (by decide) dX10_isSpan_24 rfl (Qi_mk (bI_0 (by omega)))
      · refine k_iconst Fx dX10_isSpan_19 ?_
        refine lv_goto (tgt := 24) Fx.1 Fx.2.1 dX10_isSpan_20 (by decide) ?_
        exact r_zret Fx hr hlk X (by decide) dX10_isSpan_24 rfl (Qi_mk (bI_1 (by omega)))

abbrev rm_X10_abs : Room := ({ frames := 0, cells := 0, slots := 0, locals := 0 } : Room)
set_option maxHeartbeats 4000000 in
set_option maxRecDepth 100000 in
theorem c_X10_abs {E : XX} (hE : XS E) (l : Launch) {Γ : GG} {w : va_W} {v : Int} (hv : -2147483648 < v ∧ v < 2147483648) : Con E l yX10_abs cX10_abs 1 (some .int) rm_X10_abs Γ w [.int (iI (v))] (Qi (iI (if v < 0 then -v else v)) w) := by
  refine Con_mk (by decide) (Nat.le_of_ble_eq_true rfl) ?_
  intro p e s₀ m args below meth c A Fx hr hlk hnm X ls hl
  have hl : lv_has ls 1 [(0, .int (iI (v)))] := hl
  refine lv_iload_n Fx.1 Fx.2.1 dX10_abs_0 rfl (lv_at hl 0 rfl) ?_
  refine k_if_ge (a := v) (tgt := 9) Fx dX10_abs_1 (by decide) (by omega) (fun c_1 => ?_) (fun c_1 => ?_)
  · refine lv_iload_n Fx.1 Fx.2.1 dX10_abs_9 rfl (lv_at hl 0 rfl) ?_
    exact r_iret Fx hr hlk X (by decide) dX10_abs_10 (Qi_mk (congrArg iI (by split <;> omega)))
  · refine lv_iload_n Fx.1 Fx.2.1 dX10_abs_4 rfl (lv_at hl 0 rfl) ?_
    refine k_ineg Fx dX10_abs_5 ?_
    refine lv_goto (tgt := 10) Fx.1 Fx.2.1 dX10_abs_6 (by decide) ?_
    exact r_iret Fx hr hlk X (by decide) dX10_abs_10 (Qi_mk (congrArg iI (by split <;> omega)))

abbrev rm_X10_isLetter : Room := ({ frames := 1, cells := 0, slots := 0, locals := 22 } : Room)
set_option maxHeartbeats 4000000 in
set_option maxRecDepth 100000 in
theorem c_X10_isLetter {E : XX} (hE : XS E) (l : Launch) {Γ : GG} {w : va_W} {v : Int} (hv : -2147483648 ≤ v ∧ v < 2147483648) : Con E l yX10_isLetter cX10_isLetter 1 (some .boolean) rm_X10_isLetter Γ w [.int (iI (v))] (Qi (bI ((97 ≤ v ∧ v ≤ 122) ∨ (65 ≤ v ∧ v ≤ 90))) w) := by
  refine Con_mk (by decide) (Nat.le_of_ble_eq_true rfl) ?_
  intro p e s₀ m args below meth c A Fx hr hlk hnm X ls hl
  have hl : lv_has ls 1 [(0, .int (iI (v)))] := hl
  refine lv_iload_n Fx.1 Fx.2.1 dX10_isLetter_0 rfl (lv_at hl 0 rfl) ?_
  refine k_bipush Fx dX10_isLetter_1 (by decide) ?_
  refine k_bipush Fx dX10_isLetter_3 (by decide) ?_
  refine r_callSi (As := [.int (iI (v)), .int (iI (97)), .int (iI (122))]) (rest := []) hE Fx X (c_X10_isIn hE l (v := v) (a := 97) (b := 122) (by omega) (by omega) (by omega)) cS_X10_90 rfl rfl (by decide) (by decide) hl.1 dX10_isLetter_5 (fun H locs X => ?_)
  refine k_bif_ne (tgt := 22) Fx dX10_isLetter_8 (by decide) (fun c_8 => ?_) (fun c_8 => ?_)
  · refine k_iconst Fx dX10_isLetter_22 ?_
    refine lv_goto (tgt := 27) Fx.1 Fx.2.1 dX10_isLetter_23 (by decide) ?_
    exact r_zret Fx hr hlk X (by decide) dX10_isLetter_27 rfl (Qi_mk (bI_1 (by omega)))
  · refine lv_iload_n Fx.1 Fx.2.1 dX10_isLetter_11 rfl (lv_at hl 0 rfl) ?_
    refine k_bipush Fx dX10_isLetter_12 (by decide) ?_
    refine k_bipush Fx dX10_isLetter_14 (by decide) ?_
    refine r_callSi (As := [.int (iI (v)), .int (iI (65)), .int (iI (90))]) (rest := []) hE Fx X (c_X10_isIn hE l (v := v) (a := 65) (b := 90) (by omega) (by omega) (by omega)) cS_X10_90 rfl rfl (by decide) (by decide) hl.1 dX10_isLetter_16 (fun H locs X => ?_)
    refine k_bif_eq (tgt := 26) Fx dX10_isLetter_19 (by decide) (fun c_19 => ?_) (fun c_19 => ?_)
    · refine k_iconst Fx dX10_isLetter_26 ?_
      exact r_zret Fx hr hlk X (by decide) dX10_isLetter_27 rfl (Qi_mk (bI_0 (by omega)))
    · refine k_iconst Fx dX10_isLetter_22 ?_
      refine lv_goto (tgt := 27) Fx.1 Fx.2.1 dX10_isLetter_23 (by decide) ?_
      exact r_zret Fx hr hlk X (by decide) dX10_isLetter_27 rfl (Qi_mk (bI_1 (by omega)))

abbrev rm_X10_isDigit : Room := ({ frames := 1, cells := 0, slots := 0, locals := 22 } : Room)
set_option maxHeartbeats 4000000 in
set_option maxRecDepth 100000 in
theorem c_X10_isDigit {E : XX} (hE : XS E) (l : Launch) {Γ : GG} {w : va_W} {v : Int} (hv : -2147483648 ≤ v ∧ v < 2147483648) : Con E l yX10_isDigit cX10_isDigit 1 (some .boolean) rm_X10_isDigit Γ w [.int (iI (v))] (Qi (bI (48 ≤ v ∧ v ≤ 57)) w) := by
  refine Con_mk (by decide) (Nat.le_of_ble_eq_true rfl) ?_
  intro p e s₀ m args below meth c A Fx hr hlk hnm X ls hl
  have hl : lv_has ls 1 [(0, .int (iI (v)))] := hl
  refine lv_iload_n Fx.1 Fx.2.1 dX10_isDigit_0 rfl (lv_at hl 0 rfl) ?_
  refine k_bipush Fx dX10_isDigit_1 (by decide) ?_
  refine k_bipush Fx dX10_isDigit_3 (by decide) ?_
  refine r_callSi (As := [.int (iI (v)), .int (iI (48)), .int (iI (57))]) (rest := []) hE Fx X (c_X10_isIn hE l (v := v) (a := 48) (b := 57) (by omega) (by omega) (by omega)) cS_X10_90 rfl rfl (by decide) (by decide) hl.1 dX10_isDigit_5 (fun H locs X => ?_)
  exact r_zret Fx hr hlk X (by decide) dX10_isDigit_8 (bI_nar _) (Qi_mk (bI_c (by omega)))
end
section
/-! what the reference's cells say: sayings, the law -/
def SayM (n : Nat) (S : Nat → Nat → Nat) (f : Nat → Int32) (g : Nat → Nat → Int32) : Prop := f 0 = iI n ∧ (∀ i, g 3 i = iI (S 0 i)) ∧ (∀ i, g 4 i = iI (S 1 i)) ∧ (∀ i, g 5 i = iI (S 2 i)) ∧ (∀ i, g 6 i = iI (S 3 i)) ∧ (∀ i, g 7 i = iI (S 4 i)) ∧ (∀ i, g 8 i = iI (S 5 i)) ∧ (∀ i, g 9 i = iI (S 6 i))
def LawM (wt : Nat → Nat) (nw : Nat → Prop) (th ho be : Nat) (f : Nat → Int32) (g : Nat → Nat → Int32) : Prop := f 10 = iI th ∧ f 11 = iI ho ∧ f 12 = iI be ∧ (∀ k, g 13 k = iI (wt k)) ∧ (∀ k, g 14 k = bI (nw k))

abbrev rm_X10_moved : Room := ({ frames := 0, cells := 0, slots := 0, locals := 0 } : Room)
set_option maxHeartbeats 4000000 in
set_option maxRecDepth 100000 in
theorem c_X10_moved {E : XX} (hE : XS E) (l : Launch) {Γ : GG} {ad : Nat → Nat} {f : Nat → Int32} {g : Nat → Nat → Int32} {n : Nat} {S : Nat → Nat → Nat} (hS : SayM n S f g) (hB : SayB n S) {wt : Nat → Nat} {nw : Nat → Prop} {th ho be : Nat} (hL : LawM wt nw th ho be f g) (hLB : LawB wt th ho be) {i t : Nat} (hi : i < 12) (ht : t < 80) : Con E l yX10_moved cX10_moved 4 (some .int) rm_X10_moved Γ (wM Γ ad f g) [.ref (ad 0), .int (iI (((i : Nat) : Int))), .int (iI (((t : Nat) : Int)))] (Qi (iI (aMv S th i t : Nat)) (wM Γ ad f g)) := by
  refine Con_mk (by decide) (Nat.le_of_ble_eq_true rfl) ?_
  intro p e s₀ m args below meth c A Fx hr hlk hnm X ls hl
  have hl : lv_has ls 4 [(0, .ref (ad 0)), (1, .int (iI (((i : Nat) : Int)))), (2, .int (iI (((t : Nat) : Int))))] := hl
  have hB1 := hB.1
  have hB2 := hB.2 i
  have hL1 := hLB.2.1
  refine lv_aload_n Fx.1 Fx.2.1 dX10_moved_0 rfl (lv_at hl 0 rfl) ?_
  refine gM_3 Fx X dX10_moved_1 ?_
  refine lv_iload_n Fx.1 Fx.2.1 dX10_moved_4 rfl (lv_at hl 1 rfl) ?_
  refine ldM_3 (z := ((i : Nat) : Int)) (i := i) (x := (iI (((S 0 i : Nat) : Int)))) Fx X (rfl) (by omega) (hS.2.1 i) dX10_moved_5 ?_
  have b3_x := hB.2 i
  refine k_iconst Fx dX10_moved_6 ?_
  refine k_icmp_eq (a := ((S 0 i : Nat) : Int)) (b := 2) (tgt := 14) Fx dX10_moved_7 (by decide) (by omega) (by omega) (fun c_7 => ?_) (fun c_7 => ?_)
  · refine lv_aload_n Fx.1 Fx.2.1 dX10_moved_14 rfl (lv_at hl 0 rfl) ?_
    refine gM_9 Fx X dX10_moved_15 ?_
    refine lv_iload_n Fx.1 Fx.2.1 dX10_moved_18 rfl (lv_at hl 1 rfl) ?_
    refine ldM_9 (z := ((i : Nat) : Int)) (i := i) (x := (iI (((S 6 i : Nat) : Int)))) Fx X (rfl) (by omega) (hS.2.2.2.2.2.2.2 i) dX10_moved_19 ?_
    have b9_x := hB.2 i
    refine k_if_ne (a := ((S 6 i : Nat) : Int)) (tgt := 32) Fx dX10_moved_20 (by decide) (by omega) (fun c_20 => ?_) (fun c_20 => ?_)
    · refine lv_iload_n Fx.1 Fx.2.1 dX10_moved_32 rfl (lv_at hl 2 rfl) ?_
      refine lv_aload_n Fx.1 Fx.2.1 dX10_moved_33 rfl (lv_at hl 0 rfl) ?_
      refine gM_10 (x := (iI (((th : Nat) : Int)))) Fx X (hL.1) dX10_moved_34 ?_
      refine k_isub Fx dX10_moved_37 ?_
      refine lv_istore_n (lv' := [(3, .int (iI ((((t : Nat) : Int) - ((th : Nat) : Int))))), (0, .ref (ad 0)), (1, .int (iI (((i : Nat) : Int)))), (2, .int (iI (((t : Nat) : Int))))]) Fx.1 Fx.2.1 dX10_moved_38 rfl hl (by decide) rfl (fun ls hl => ?_)
      refine lv_iload_n Fx.1 Fx.2.1 dX10_moved_39 rfl (lv_at hl 0 rfl) ?_
      refine k_if_ge (a := (((t : Nat) : Int) - ((th : Nat) : Int))) (tgt := 47) Fx dX10_moved_40 (by decide) (by omega) (fun c_40 => ?_) (fun c_40 => ?_)
      · refine lv_iload_n Fx.1 Fx.2.1 dX10_moved_47 rfl (lv_at hl 0 rfl) ?_
        refine k_bipush Fx dX10_moved_48 (by decide) ?_
        refine k_icmp_le (a := (((t : Nat) : Int) - ((th : Nat) : Int))) (b := 79) (tgt := 58) Fx dX10_moved_50 (by decide) (by omega) (by omega) (fun c_50 => ?_) (fun c_50 => ?_)
        · refine lv_iload_n Fx.1 Fx.2.1 dX10_moved_58 rfl (lv_at hl 0 rfl) ?_
          exact r_iret Fx hr hlk X (by decide) dX10_moved_59 (Qi_mk (congrArg iI (by unfold aMv; (repeat' split) <;> omega)))
        · refine k_bipush Fx dX10_moved_53 (by decide) ?_
          refine lv_goto (tgt := 59) Fx.1 Fx.2.1 dX10_moved_55 (by decide) ?_
          exact r_iret Fx hr hlk X (by decide) dX10_moved_59 (Qi_mk (congrArg iI (by unfold aMv; (repeat' split) <;> omega)))
      · refine k_iconst Fx dX10_moved_43 ?_
        refine lv_goto (tgt := 59) Fx.1 Fx.2.1 dX10_moved_44 (by decide) ?_
        exact r_iret Fx hr hlk X (by decide) dX10_moved_59 (Qi_mk (congrArg iI (by unfold aMv; (repeat' split) <;> omega)))
    · refine lv_iload_n Fx.1 Fx.2.1 dX10_moved_23 rfl (lv_at hl 2 rfl) ?_
      refine lv_aload_n Fx.1 Fx.2.1 dX10_moved_24 rfl (lv_at hl 0 rfl) ?_
      refine gM_10 (x := (iI (((th : Nat) : Int)))) Fx X (hL.1) dX10_moved_25 ?_
      refine k_iadd Fx dX10_moved_28 ?_
      refine lv_goto (tgt := 38) Fx.1 Fx.2.1 dX10_moved_29 (by decide) ?_
      refine lv_istore_n (lv' := [(3, .int (iI ((((t : Nat) : Int) + ((th : Nat) : Int))))), (0, .ref (ad 0)), (1, .int (iI (((i : Nat) : Int)))), (2, .int (iI (((t : Nat) : Int))))]) Fx.1 Fx.2.1 dX10_moved_38 rfl hl (by decide) rfl (fun ls hl => ?_)
      refine lv_iload_n Fx.1 Fx.2.1 dX10_moved_39 rfl (lv_at hl 0 rfl) ?_
      refine k_if_ge (a := (((t : Nat) : Int) + ((th : Nat) : Int))) (tgt := 47) Fx dX10_moved_40 (by decide) (by omega) (fun c_40 => ?_) (fun c_40 => ?_)
      · refine lv_iload_n Fx.1 Fx.2.1 dX10_moved_47 rfl (lv_at hl 0 rfl) ?_
        refine k_bipush Fx dX10_moved_48 (by decide) ?_
        refine k_icmp_le (a := (((t : Nat) : Int) + ((th : Nat) : Int))) (b := 79) (tgt := 58) Fx dX10_moved_50 (by decide) (by omega) (by omega) (fun c_50 => ?_) (fun c_50 => ?_)
        · refine lv_iload_n Fx.1 Fx.2.1 dX10_moved_58 rfl (lv_at hl 0 rfl) ?_
          exact r_iret Fx hr hlk X (by decide) dX10_moved_59 (Qi_mk (congrArg iI (by unfold aMv; (repeat' split) <;> omega)))
        · refine k_bipush Fx dX10_moved_53 (by decide) ?_
          refine lv_goto (tgt := 59) Fx.1 Fx.2.1 dX10_moved_55 (by decide) ?_
          exact r_iret Fx hr hlk X (by decide) dX10_moved_59 (Qi_mk (congrArg iI (by unfold aMv; (repeat' split) <;> omega)))
      · refine k_iconst Fx dX10_moved_43 ?_
        refine lv_goto (tgt := 59) Fx.1 Fx.2.1 dX10_moved_44 (by decide) ?_
        exact r_iret Fx hr hlk X (by decide) dX10_moved_59 (Qi_mk (congrArg iI (by unfold aMv; (repeat' split) <;> omega)))
  · refine lv_iload_n Fx.1 Fx.2.1 dX10_moved_10 rfl (lv_at hl 2 rfl) ?_
    refine lv_goto (tgt := 38) Fx.1 Fx.2.1 dX10_moved_11 (by decide) ?_
    refine lv_istore_n (lv' := [(3, .int (iI (((t : Nat) : Int)))), (0, .ref (ad 0)), (1, .int (iI (((i : Nat) : Int)))), (2, .int (iI (((t : Nat) : Int))))]) Fx.1 Fx.2.1 dX10_moved_38 rfl hl (by decide) rfl (fun ls hl => ?_)
    refine lv_iload_n Fx.1 Fx.2.1 dX10_moved_39 rfl (lv_at hl 0 rfl) ?_
    refine k_if_ge (a := ((t : Nat) : Int)) (tgt := 47) Fx dX10_moved_40 (by decide) (by omega) (fun c_40 => ?_) (fun c_40 => ?_)
    · refine lv_iload_n Fx.1 Fx.2.1 dX10_moved_47 rfl (lv_at hl 0 rfl) ?_
      refine k_bipush Fx dX10_moved_48 (by decide) ?_
      refine k_icmp_le (a := ((t : Nat) : Int)) (b := 79) (tgt := 58) Fx dX10_moved_50 (by decide) (by omega) (by omega) (fun c_50 => ?_) (fun c_50 => ?_)
      · refine lv_iload_n Fx.1 Fx.2.1 dX10_moved_58 rfl (lv_at hl 0 rfl) ?_
        exact r_iret Fx hr hlk X (by decide) dX10_moved_59 (Qi_mk (congrArg iI (by unfold aMv; (repeat' split) <;> omega)))
      · refine k_bipush Fx dX10_moved_53 (by decide) ?_
        refine lv_goto (tgt := 59) Fx.1 Fx.2.1 dX10_moved_55 (by decide) ?_
        exact r_iret Fx hr hlk X (by decide) dX10_moved_59 (Qi_mk (congrArg iI (by unfold aMv; (repeat' split) <;> omega)))
    · refine k_iconst Fx dX10_moved_43 ?_
      refine lv_goto (tgt := 59) Fx.1 Fx.2.1 dX10_moved_44 (by decide) ?_
      exact r_iret Fx hr hlk X (by decide) dX10_moved_59 (Qi_mk (congrArg iI (by unfold aMv; (repeat' split) <;> omega)))

abbrev rm_X10_counts : Room := ({ frames := 1, cells := 0, slots := 0, locals := 22 } : Room)
set_option maxHeartbeats 4000000 in
set_option maxRecDepth 100000 in
theorem c_X10_counts {E : XX} (hE : XS E) (l : Launch) {Γ : GG} {ad : Nat → Nat} {f : Nat → Int32} {g : Nat → Nat → Int32} {n : Nat} {S : Nat → Nat → Nat} (hS : SayM n S f g) (hB : SayB n S) {wt : Nat → Nat} {nw : Nat → Prop} {th ho be : Nat} (hL : LawM wt nw th ho be f g) (hLB : LawB wt th ho be) {i t : Nat} (hi : i < 12) (ht : t < 10) : Con E l yX10_counts cX10_counts 5 (some .boolean) rm_X10_counts Γ (wM Γ ad f g) [.ref (ad 0), .int (iI (((i : Nat) : Int))), .int (iI (((t : Nat) : Int)))] (Qi (bI (aCt n S nw i t)) (wM Γ ad f g)) := by
  refine Con_mk (by decide) (Nat.le_of_ble_eq_true rfl) ?_
  intro p e s₀ m args below meth c A Fx hr hlk hnm X ls hl
  have hl : lv_has ls 5 [(0, .ref (ad 0)), (1, .int (iI (((i : Nat) : Int)))), (2, .int (iI (((t : Nat) : Int))))] := hl
  have hB1 := hB.1
  have hB2 := hB.2 i
  refine lv_iload_n Fx.1 Fx.2.1 dX10_counts_0 rfl (lv_at hl 2 rfl) ?_
  refine lv_aload_n Fx.1 Fx.2.1 dX10_counts_1 rfl (lv_at hl 0 rfl) ?_
  refine gM_4 Fx X dX10_counts_2 ?_
  refine lv_iload_n Fx.1 Fx.2.1 dX10_counts_5 rfl (lv_at hl 1 rfl) ?_
  refine ldM_4 (z := ((i : Nat) : Int)) (i := i) (x := (iI (((S 1 i : Nat) : Int)))) Fx X (rfl) (by omega) (hS.2.2.1 i) dX10_counts_6 ?_
  have b4_x := hB.2 i
  refine lv_aload_n Fx.1 Fx.2.1 dX10_counts_7 rfl (lv_at hl 0 rfl) ?_
  refine gM_5 Fx X dX10_counts_8 ?_
  refine lv_iload_n Fx.1 Fx.2.1 dX10_counts_11 rfl (lv_at hl 1 rfl) ?_
  refine ldM_5 (z := ((i : Nat) : Int)) (i := i) (x := (iI (((S 2 i : Nat) : Int)))) Fx X (rfl) (by omega) (hS.2.2.2.1 i) dX10_counts_12 ?_
  have b5_x := hB.2 i
  refine r_callSi (As := [.int (iI (((t : Nat) : Int))), .int (iI (((S 1 i : Nat) : Int))), .int (iI (((S 2 i : Nat) : Int)))]) (rest := []) hE Fx X (c_X10_isIn hE l (v := ((t : Nat) : Int)) (a := ((S 1 i : Nat) : Int)) (b := ((S 2 i : Nat) : Int)) (by omega) (by omega) (by omega)) cS_X10_90 rfl rfl (by decide) (by decide) hl.1 dX10_counts_13 (fun H locs X => ?_)
  refine k_bif_ne (tgt := 21) Fx dX10_counts_16 (by decide) (fun c_16 => ?_) (fun c_16 => ?_)
  · refine k_iconst Fx dX10_counts_21 ?_
    refine lv_istore_n (lv' := [(3, .int (iI (1))), (0, .ref (ad 0)), (1, .int (iI (((i : Nat) : Int)))), (2, .int (iI (((t : Nat) : Int))))]) Fx.1 Fx.2.1 dX10_counts_22 rfl hl (by decide) rfl (fun ls hl => ?_)
    refine k_iconst Fx dX10_counts_23 ?_
    refine lv_istore (lv' := [(4, .int (iI (0))), (3, .int (iI (1))), (0, .ref (ad 0)), (1, .int (iI (((i : Nat) : Int)))), (2, .int (iI (((t : Nat) : Int))))]) Fx.1 Fx.2.1 dX10_counts_24 hl (by decide) rfl (fun ls hl => ?_)
    have lp_26 : ∀ (nn : Nat) (j : Nat), n - j < nn → (j ≤ n) → (j = 0 ∨ nw (S 0 i)) → ∀ (H : Heap) (locs : List Loc) (ls : Array Slot), Wd E Γ A s₀ H locs (wM Γ ad f g) → lv_has ls 5 [(0, .ref (ad 0)), (1, .int (iI (((i : Nat) : Int)))), (2, .int (iI (((t : Nat) : Int)))), (3, .int (bI (allN (aBlk S i t) j))), (4, .int (iI (((j : Nat) : Int))))] → W p l e rm_X10_counts s₀ m args below meth c H locs (0) (0) (RQ below args s₀ Γ A (Qi (bI (aCt n S nw i t)) (wM Γ ad f g)) rm_X10_counts) (F0 m 26 ls []) := by
      intro nn
      induction nn with
      | zero => intro j hmu; exact absurd hmu (Nat.not_lt_zero _)
      | succ nn ih =>
        intro j hmu hj hj0 H locs ls X hl
        have ih_26 := ih
        have hB3 := hB.2 j
        refine lv_iload Fx.1 Fx.2.1 dX10_counts_26 (lv_at hl 4 rfl) ?_
        refine lv_aload_n Fx.1 Fx.2.1 dX10_counts_28 rfl (lv_at hl 0 rfl) ?_
        refine gM_0 (x := (iI (((n : Nat) : Int)))) Fx X (hS.1) dX10_counts_29 ?_
        refine k_icmp_ge (a := ((j : Nat) : Int)) (b := ((n : Nat) : Int)) (tgt := 118) Fx dX10_counts_32 (by decide) (by omega) (by omega) (fun c_32 => ?_) (fun c_32 => ?_)
        · refine lv_iload_n Fx.1 Fx.2.1 dX10_counts_118 rfl (lv_at hl 3 rfl) ?_
          exact r_zret Fx hr hlk X (by decide) dX10_counts_119 (bI_nar _) (Qi_mk (bI_c (ct_x1 (by omega) hj0 (by omega))))
        · refine lv_aload_n Fx.1 Fx.2.1 dX10_counts_35 rfl (lv_at hl 0 rfl) ?_
          refine gM_14 Fx X dX10_counts_36 ?_
          refine lv_aload_n Fx.1 Fx.2.1 dX10_counts_39 rfl (lv_at hl 0 rfl) ?_
          refine gM_3 Fx X dX10_counts_40 ?_
          refine lv_iload_n Fx.1 Fx.2.1 dX10_counts_43 rfl (lv_at hl 1 rfl) ?_
          refine ldM_3 (z := ((i : Nat) : Int)) (i := i) (x := (iI (((S 0 i : Nat) : Int)))) Fx X (rfl) (by omega) (hS.2.1 i) dX10_counts_44 ?_
          have b3_x := hB.2 i
          refine ldM_14 (z := ((S 0 i : Nat) : Int)) (i := S 0 i) (x := (bI (nw (S 0 i)))) Fx X (rfl) (by omega) (hL.2.2.2.2 (S 0 i)) dX10_counts_45 ?_
          refine k_bif_eq (tgt := 118) Fx dX10_counts_46 (by decide) (fun c_46 => ?_) (fun c_46 => ?_)
          · refine lv_iload_n Fx.1 Fx.2.1 dX10_counts_118 rfl (lv_at hl 3 rfl) ?_
            exact r_zret Fx hr hlk X (by decide) dX10_counts_119 (bI_nar _) (Qi_mk (bI_c (ct_x2 (by omega) hj0 c_46)))
          · refine lv_iload_n Fx.1 Fx.2.1 dX10_counts_49 rfl (lv_at hl 3 rfl) ?_
            refine k_bif_eq (tgt := 110) Fx dX10_counts_50 (by decide) (fun c_50 => ?_) (fun c_50 => ?_)
            · refine k_iconst Fx dX10_counts_110 ?_
              refine lv_istore_n (lv' := [(3, .int (iI (0))), (0, .ref (ad 0)), (1, .int (iI (((i : Nat) : Int)))), (2, .int (iI (((t : Nat) : Int)))), (4, .int (iI (((j : Nat) : Int))))]) Fx.1 Fx.2.1 dX10_counts_111 rfl hl (by decide) rfl (fun ls hl => ?_)
              refine k_iinc (k := 4) (a := ((j : Nat) : Int)) (lv' := [(4, .int (iI ((((j : Nat) : Int) + 1)))), (3, .int (iI (0))), (0, .ref (ad 0)), (1, .int (iI (((i : Nat) : Int)))), (2, .int (iI (((t : Nat) : Int))))]) Fx dX10_counts_112 hl rfl (by decide) rfl (fun ls hl => ?_)
              refine lv_goto (tgt := 26) Fx.1 Fx.2.1 dX10_counts_115 (by decide) ?_
              have hl_1 := lv_rp hl 1 rfl (show (iI (0)) = (bI (allN (aBlk S i t) (j + 1))) from bI_0 (fun h => c_50 (allN_s.mp h).1))
              have hl_2 := lv_rp hl_1 0 rfl (show (iI ((((j : Nat) : Int) + 1))) = (iI ((((j + 1) : Nat) : Int))) from congrArg iI (by omega))
              exact ih_26 (j + 1) (by omega) (by omega) (Or.inr c_46) _ _ _ X (lv_sub hl_2 [2, 3, 4, 1, 0] rfl)
            · refine lv_aload_n Fx.1 Fx.2.1 dX10_counts_53 rfl (lv_at hl 0 rfl) ?_
              refine gM_3 Fx X dX10_counts_54 ?_
              refine lv_iload Fx.1 Fx.2.1 dX10_counts_57 (lv_at hl 4 rfl) ?_
              refine ldM_3 (z := ((j : Nat) : Int)) (i := j) (x := (iI (((S 0 j : Nat) : Int)))) Fx X (rfl) (by omega) (hS.2.1 j) dX10_counts_59 ?_
              have b3_x := hB.2 j
              refine lv_aload_n Fx.1 Fx.2.1 dX10_counts_60 rfl (lv_at hl 0 rfl) ?_
              refine gM_3 Fx X dX10_counts_61 ?_
              refine lv_iload_n Fx.1 Fx.2.1 dX10_counts_64 rfl (lv_at hl 1 rfl) ?_
              refine ldM_3 (z := ((i : Nat) : Int)) (i := i) (x := (iI (((S 0 i : Nat) : Int)))) Fx X (rfl) (by omega) (hS.2.1 i) dX10_counts_65 ?_
              have b3_x := hB.2 i
              refine k_icmp_ne (a := ((S 0 j : Nat) : Int)) (b := ((S 0 i : Nat) : Int)) (tgt := 106) Fx dX10_counts_66 (by decide) (by omega) (by omega) (fun c_66 => ?_) (fun c_66 => ?_)
              · refine k_iconst Fx dX10_counts_106 ?_
                refine lv_goto (tgt := 111) Fx.1 Fx.2.1 dX10_counts_107 (by decide) ?_
                refine lv_istore_n (lv' := [(3, .int (iI (1))), (0, .ref (ad 0)), (1, .int (iI (((i : Nat) : Int)))), (2, .int (iI (((t : Nat) : Int)))), (4, .int (iI (((j : Nat) : Int))))]) Fx.1 Fx.2.1 dX10_counts_111 rfl hl (by decide) rfl (fun ls hl => ?_)
                refine k_iinc (k := 4) (a := ((j : Nat) : Int)) (lv' := [(4, .int (iI ((((j : Nat) : Int) + 1)))), (3, .int (iI (1))), (0, .ref (ad 0)), (1, .int (iI (((i : Nat) : Int)))), (2, .int (iI (((t : Nat) : Int))))]) Fx dX10_counts_112 hl rfl (by decide) rfl (fun ls hl => ?_)
                refine lv_goto (tgt := 26) Fx.1 Fx.2.1 dX10_counts_115 (by decide) ?_
                have hl_3 := lv_rp hl 1 rfl (show (iI (1)) = (bI (allN (aBlk S i t) (j + 1))) from bI_1 (allN_s.mpr ⟨c_50, by unfold aBlk; omega⟩))
                have hl_4 := lv_rp hl_3 0 rfl (show (iI ((((j : Nat) : Int) + 1))) = (iI ((((j + 1) : Nat) : Int))) from congrArg iI (by omega))
                exact ih_26 (j + 1) (by omega) (by omega) (Or.inr c_46) _ _ _ X (lv_sub hl_4 [2, 3, 4, 1, 0] rfl)
              · refine lv_iload_n Fx.1 Fx.2.1 dX10_counts_69 rfl (lv_at hl 2 rfl) ?_
                refine lv_aload_n Fx.1 Fx.2.1 dX10_counts_70 rfl (lv_at hl 0 rfl) ?_
                refine gM_4 Fx X dX10_counts_71 ?_
                refine lv_iload Fx.1 Fx.2.1 dX10_counts_74 (lv_at hl 4 rfl) ?_
                refine ldM_4 (z := ((j : Nat) : Int)) (i := j) (x := (iI (((S 1 j : Nat) : Int)))) Fx X (rfl) (by omega) (hS.2.2.1 j) dX10_counts_76 ?_
                have b4_x := hB.2 j
                refine lv_aload_n Fx.1 Fx.2.1 dX10_counts_77 rfl (lv_at hl 0 rfl) ?_
                refine gM_5 Fx X dX10_counts_78 ?_
                refine lv_iload Fx.1 Fx.2.1 dX10_counts_81 (lv_at hl 4 rfl) ?_
                refine ldM_5 (z := ((j : Nat) : Int)) (i := j) (x := (iI (((S 2 j : Nat) : Int)))) Fx X (rfl) (by omega) (hS.2.2.2.1 j) dX10_counts_83 ?_
                have b5_x := hB.2 j
                refine r_callSi (As := [.int (iI (((t : Nat) : Int))), .int (iI (((S 1 j : Nat) : Int))), .int (iI (((S 2 j : Nat) : Int)))]) (rest := []) hE Fx X (c_X10_isIn hE l (v := ((t : Nat) : Int)) (a := ((S 1 j : Nat) : Int)) (b := ((S 2 j : Nat) : Int)) (by omega) (by omega) (by omega)) cS_X10_90 rfl rfl (by decide) (by decide) hl.1 dX10_counts_84 (fun H locs X => ?_)
                refine k_bif_eq (tgt := 106) Fx dX10_counts_87 (by decide) (fun c_87 => ?_) (fun c_87 => ?_)
                · refine k_iconst Fx dX10_counts_106 ?_
                  refine lv_goto (tgt := 111) Fx.1 Fx.2.1 dX10_counts_107 (by decide) ?_
                  refine lv_istore_n (lv' := [(3, .int (iI (1))), (0, .ref (ad 0)), (1, .int (iI (((i : Nat) : Int)))), (2, .int (iI (((t : Nat) : Int)))), (4, .int (iI (((j : Nat) : Int))))]) Fx.1 Fx.2.1 dX10_counts_111 rfl hl (by decide) rfl (fun ls hl => ?_)
                  refine k_iinc (k := 4) (a := ((j : Nat) : Int)) (lv' := [(4, .int (iI ((((j : Nat) : Int) + 1)))), (3, .int (iI (1))), (0, .ref (ad 0)), (1, .int (iI (((i : Nat) : Int)))), (2, .int (iI (((t : Nat) : Int))))]) Fx dX10_counts_112 hl rfl (by decide) rfl (fun ls hl => ?_)
                  refine lv_goto (tgt := 26) Fx.1 Fx.2.1 dX10_counts_115 (by decide) ?_
                  have hl_5 := lv_rp hl 1 rfl (show (iI (1)) = (bI (allN (aBlk S i t) (j + 1))) from bI_1 (allN_s.mpr ⟨c_50, by unfold aBlk; omega⟩))
                  have hl_6 := lv_rp hl_5 0 rfl (show (iI ((((j : Nat) : Int) + 1))) = (iI ((((j + 1) : Nat) : Int))) from congrArg iI (by omega))
                  exact ih_26 (j + 1) (by omega) (by omega) (Or.inr c_46) _ _ _ X (lv_sub hl_6 [2, 3, 4, 1, 0] rfl)
                · refine lv_aload_n Fx.1 Fx.2.1 dX10_counts_90 rfl (lv_at hl 0 rfl) ?_
                  refine gM_8 Fx X dX10_counts_91 ?_
                  refine lv_iload Fx.1 Fx.2.1 dX10_counts_94 (lv_at hl 4 rfl) ?_
                  refine ldM_8 (z := ((j : Nat) : Int)) (i := j) (x := (iI (((S 5 j : Nat) : Int)))) Fx X (rfl) (by omega) (hS.2.2.2.2.2.2.1 j) dX10_counts_96 ?_
                  have b8_x := hB.2 j
                  refine lv_aload_n Fx.1 Fx.2.1 dX10_counts_97 rfl (lv_at hl 0 rfl) ?_
                  refine gM_8 Fx X dX10_counts_98 ?_
                  refine lv_iload_n Fx.1 Fx.2.1 dX10_counts_101 rfl (lv_at hl 1 rfl) ?_
                  refine ldM_8 (z := ((i : Nat) : Int)) (i := i) (x := (iI (((S 5 i : Nat) : Int)))) Fx X (rfl) (by omega) (hS.2.2.2.2.2.2.1 i) dX10_counts_102 ?_
                  have b8_x := hB.2 i
                  refine k_icmp_gt (a := ((S 5 j : Nat) : Int)) (b := ((S 5 i : Nat) : Int)) (tgt := 110) Fx dX10_counts_103 (by decide) (by omega) (by omega) (fun c_103 => ?_) (fun c_103 => ?_)
                  · refine k_iconst Fx dX10_counts_110 ?_
                    refine lv_istore_n (lv' := [(3, .int (iI (0))), (0, .ref (ad 0)), (1, .int (iI (((i : Nat) : Int)))), (2, .int (iI (((t : Nat) : Int)))), (4, .int (iI (((j : Nat) : Int))))]) Fx.1 Fx.2.1 dX10_counts_111 rfl hl (by decide) rfl (fun ls hl => ?_)
                    refine k_iinc (k := 4) (a := ((j : Nat) : Int)) (lv' := [(4, .int (iI ((((j : Nat) : Int) + 1)))), (3, .int (iI (0))), (0, .ref (ad 0)), (1, .int (iI (((i : Nat) : Int)))), (2, .int (iI (((t : Nat) : Int))))]) Fx dX10_counts_112 hl rfl (by decide) rfl (fun ls hl => ?_)
                    refine lv_goto (tgt := 26) Fx.1 Fx.2.1 dX10_counts_115 (by decide) ?_
                    have hl_7 := lv_rp hl 1 rfl (show (iI (0)) = (bI (allN (aBlk S i t) (j + 1))) from bI_0 (fun h => absurd (allN_s.mp h).2 (by unfold aBlk; omega)))
                    have hl_8 := lv_rp hl_7 0 rfl (show (iI ((((j : Nat) : Int) + 1))) = (iI ((((j + 1) : Nat) : Int))) from congrArg iI (by omega))
                    exact ih_26 (j + 1) (by omega) (by omega) (Or.inr c_46) _ _ _ X (lv_sub hl_8 [2, 3, 4, 1, 0] rfl)
                  · refine k_iconst Fx dX10_counts_106 ?_
                    refine lv_goto (tgt := 111) Fx.1 Fx.2.1 dX10_counts_107 (by decide) ?_
                    refine lv_istore_n (lv' := [(3, .int (iI (1))), (0, .ref (ad 0)), (1, .int (iI (((i : Nat) : Int)))), (2, .int (iI (((t : Nat) : Int)))), (4, .int (iI (((j : Nat) : Int))))]) Fx.1 Fx.2.1 dX10_counts_111 rfl hl (by decide) rfl (fun ls hl => ?_)
                    refine k_iinc (k := 4) (a := ((j : Nat) : Int)) (lv' := [(4, .int (iI ((((j : Nat) : Int) + 1)))), (3, .int (iI (1))), (0, .ref (ad 0)), (1, .int (iI (((i : Nat) : Int)))), (2, .int (iI (((t : Nat) : Int))))]) Fx dX10_counts_112 hl rfl (by decide) rfl (fun ls hl => ?_)
                    refine lv_goto (tgt := 26) Fx.1 Fx.2.1 dX10_counts_115 (by decide) ?_
                    have hl_9 := lv_rp hl 1 rfl (show (iI (1)) = (bI (allN (aBlk S i t) (j + 1))) from bI_1 (allN_s.mpr ⟨c_50, by unfold aBlk; omega⟩))
                    have hl_10 := lv_rp hl_9 0 rfl (show (iI ((((j : Nat) : Int) + 1))) = (iI ((((j + 1) : Nat) : Int))) from congrArg iI (by omega))
                    exact ih_26 (j + 1) (by omega) (by omega) (Or.inr c_46) _ _ _ X (lv_sub hl_10 [2, 3, 4, 1, 0] rfl)
    have hl_11 := lv_rp hl 1 rfl (show (iI (1)) = (bI (allN (aBlk S i t) 0)) from bI_1 (allN_0 _))
    have hl_12 := lv_rp hl_11 0 rfl (show (iI (0)) = (iI (((0 : Nat) : Int))) from congrArg iI (by omega))
    exact lp_26 _ (0) (Nat.lt_succ_self _) (by omega) (Or.inl rfl) _ _ _ X (lv_sub hl_12 [2, 3, 4, 1, 0] rfl)
  · refine k_iconst Fx dX10_counts_19 ?_
    exact r_zret Fx hr hlk X (by decide) dX10_counts_20 rfl (Qi_mk (bI_0 (fun h => c_16 (by have := h.1; omega))))

abbrev rm_X10_costAt : Room := ({ frames := 2, cells := 0, slots := 0, locals := 46 } : Room)
set_option maxHeartbeats 4000000 in
set_option maxRecDepth 100000 in
theorem c_X10_costAt {E : XX} (hE : XS E) (l : Launch) {Γ : GG} {ad : Nat → Nat} {f : Nat → Int32} {g : Nat → Nat → Int32} {n : Nat} {S : Nat → Nat → Nat} (hS : SayM n S f g) (hB : SayB n S) {wt : Nat → Nat} {nw : Nat → Prop} {th ho be : Nat} (hL : LawM wt nw th ho be f g) (hLB : LawB wt th ho be) {q t : Nat} (hq : q < 10) (ht : t < 80) : Con E l yX10_costAt cX10_costAt 7 (some .int) rm_X10_costAt Γ (wM Γ ad f g) [.ref (ad 0), .int (iI (((q : Nat) : Int))), .int (iI (((t : Nat) : Int)))] (Qi (iI (aCa n S wt nw th q t n : Nat)) (wM Γ ad f g)) := by
  refine Con_mk (by decide) (Nat.le_of_ble_eq_true rfl) ?_
  intro p e s₀ m args below meth c A Fx hr hlk hnm X ls hl
  have hl : lv_has ls 7 [(0, .ref (ad 0)), (1, .int (iI (((q : Nat) : Int)))), (2, .int (iI (((t : Nat) : Int))))] := hl
  have hB1 := hB.1
  refine k_iconst Fx dX10_costAt_0 ?_
  refine lv_istore_n (lv' := [(3, .int (iI (0))), (0, .ref (ad 0)), (1, .int (iI (((q : Nat) : Int)))), (2, .int (iI (((t : Nat) : Int))))]) Fx.1 Fx.2.1 dX10_costAt_1 rfl hl (by decide) rfl (fun ls hl => ?_)
  refine k_iconst Fx dX10_costAt_2 ?_
  refine lv_istore (lv' := [(4, .int (iI (0))), (3, .int (iI (0))), (0, .ref (ad 0)), (1, .int (iI (((q : Nat) : Int)))), (2, .int (iI (((t : Nat) : Int))))]) Fx.1 Fx.2.1 dX10_costAt_3 hl (by decide) rfl (fun ls hl => ?_)
  have lp_5 : ∀ (nn : Nat) (j : Nat), n - j < nn → (j ≤ n) → ∀ (H : Heap) (locs : List Loc) (ls : Array Slot), Wd E Γ A s₀ H locs (wM Γ ad f g) → lv_has ls 7 [(0, .ref (ad 0)), (1, .int (iI (((q : Nat) : Int)))), (2, .int (iI (((t : Nat) : Int)))), (3, .int (iI (((aCa n S wt nw th q t j : Nat) : Int)))), (4, .int (iI (((j : Nat) : Int))))] → W p l e rm_X10_costAt s₀ m args below meth c H locs (0) (0) (RQ below args s₀ Γ A (Qi (iI (aCa n S wt nw th q t n : Nat)) (wM Γ ad f g)) rm_X10_costAt) (F0 m 5 ls []) := by
    intro nn
    induction nn with
    | zero => intro j hmu; exact absurd hmu (Nat.not_lt_zero _)
    | succ nn ih =>
      intro j hmu hj H locs ls X hl
      have ih_5 := ih
      have hB3 := hB.2 j
      refine lv_iload Fx.1 Fx.2.1 dX10_costAt_5 (lv_at hl 4 rfl) ?_
      refine lv_aload_n Fx.1 Fx.2.1 dX10_costAt_7 rfl (lv_at hl 0 rfl) ?_
      refine gM_0 (x := (iI (((n : Nat) : Int)))) Fx X (hS.1) dX10_costAt_8 ?_
      refine k_icmp_ge (a := ((j : Nat) : Int)) (b := ((n : Nat) : Int)) (tgt := 106) Fx dX10_costAt_11 (by decide) (by omega) (by omega) (fun c_11 => ?_) (fun c_11 => ?_)
      · refine lv_iload_n Fx.1 Fx.2.1 dX10_costAt_106 rfl (lv_at hl 3 rfl) ?_
        exact r_iret Fx hr hlk X (by decide) dX10_costAt_107 (Qi_mk (congrArg (fun z : Nat => iI (aCa n S wt nw th q t z : Nat)) (show j = n by omega)))
      · refine lv_aload_n Fx.1 Fx.2.1 dX10_costAt_14 rfl (lv_at hl 0 rfl) ?_
        refine lv_iload Fx.1 Fx.2.1 dX10_costAt_15 (lv_at hl 4 rfl) ?_
        refine lv_iload_n Fx.1 Fx.2.1 dX10_costAt_17 rfl (lv_at hl 1 rfl) ?_
        refine r_callVi (As := [.int (iI (((j : Nat) : Int))), .int (iI (((q : Nat) : Int)))]) (rest := []) hE Fx X (c_X10_counts hE l hS hB hL hLB (i := j) (t := q) (by omega) (by omega)) cV_X10_204 (recM X) rfl rfl (by decide) (by decide) hl.1 dX10_costAt_18 (fun H locs X => ?_)
        refine k_bif_ne (tgt := 27) Fx dX10_costAt_21 (by decide) (fun c_21 => ?_) (fun c_21 => ?_)
        · refine lv_aload_n Fx.1 Fx.2.1 dX10_costAt_27 rfl (lv_at hl 0 rfl) ?_
          refine lv_iload Fx.1 Fx.2.1 dX10_costAt_28 (lv_at hl 4 rfl) ?_
          refine lv_aload_n Fx.1 Fx.2.1 dX10_costAt_30 rfl (lv_at hl 0 rfl) ?_
          refine gM_6 Fx X dX10_costAt_31 ?_
          refine lv_iload Fx.1 Fx.2.1 dX10_costAt_34 (lv_at hl 4 rfl) ?_
          refine ldM_6 (z := ((j : Nat) : Int)) (i := j) (x := (iI (((S 3 j : Nat) : Int)))) Fx X (rfl) (by omega) (hS.2.2.2.2.1 j) dX10_costAt_36 ?_
          have b6_x := hB.2 j
          have hB4 := aMv_lt (S := S) (th := th) (i := j) (f := S 3 j) (by omega)
          have hB5 := aMv_lt (S := S) (th := th) (i := j) (f := S 4 j) (by omega)
          refine r_callVi (As := [.int (iI (((j : Nat) : Int))), .int (iI (((S 3 j : Nat) : Int)))]) (rest := []) hE Fx X (c_X10_moved hE l hS hB hL hLB (i := j) (t := S 3 j) (by omega) (by omega)) cV_X10_200 (recM X) rfl rfl (by decide) (by decide) hl.1 dX10_costAt_37 (fun H locs X => ?_)
          refine lv_istore (lv' := [(5, .int (iI (((aMv S th j (S 3 j) : Nat) : Int)))), (0, .ref (ad 0)), (1, .int (iI (((q : Nat) : Int)))), (2, .int (iI (((t : Nat) : Int)))), (3, .int (iI (((aCa n S wt nw th q t j : Nat) : Int)))), (4, .int (iI (((j : Nat) : Int))))]) Fx.1 Fx.2.1 dX10_costAt_40 hl (by decide) rfl (fun ls hl => ?_)
          refine lv_aload_n Fx.1 Fx.2.1 dX10_costAt_42 rfl (lv_at hl 1 rfl) ?_
          refine lv_iload Fx.1 Fx.2.1 dX10_costAt_43 (lv_at hl 5 rfl) ?_
          refine lv_aload_n Fx.1 Fx.2.1 dX10_costAt_45 rfl (lv_at hl 1 rfl) ?_
          refine gM_7 Fx X dX10_costAt_46 ?_
          refine lv_iload Fx.1 Fx.2.1 dX10_costAt_49 (lv_at hl 5 rfl) ?_
          refine ldM_7 (z := ((j : Nat) : Int)) (i := j) (x := (iI (((S 4 j : Nat) : Int)))) Fx X (rfl) (by omega) (hS.2.2.2.2.2.1 j) dX10_costAt_51 ?_
          have b7_x := hB.2 j
          refine r_callVi (As := [.int (iI (((j : Nat) : Int))), .int (iI (((S 4 j : Nat) : Int)))]) (rest := []) hE Fx X (c_X10_moved hE l hS hB hL hLB (i := j) (t := S 4 j) (by omega) (by omega)) cV_X10_200 (recM X) rfl rfl (by decide) (by decide) hl.1 dX10_costAt_52 (fun H locs X => ?_)
          refine lv_istore (lv' := [(6, .int (iI (((aMv S th j (S 4 j) : Nat) : Int)))), (5, .int (iI (((aMv S th j (S 3 j) : Nat) : Int)))), (0, .ref (ad 0)), (1, .int (iI (((q : Nat) : Int)))), (2, .int (iI (((t : Nat) : Int)))), (3, .int (iI (((aCa n S wt nw th q t j : Nat) : Int)))), (4, .int (iI (((j : Nat) : Int))))]) Fx.1 Fx.2.1 dX10_costAt_55 hl (by decide) rfl (fun ls hl => ?_)
          refine lv_iload_n Fx.1 Fx.2.1 dX10_costAt_57 rfl (lv_at hl 5 rfl) ?_
          refine lv_aload_n Fx.1 Fx.2.1 dX10_costAt_58 rfl (lv_at hl 2 rfl) ?_
          refine gM_13 Fx X dX10_costAt_59 ?_
          refine lv_aload_n Fx.1 Fx.2.1 dX10_costAt_62 rfl (lv_at hl 2 rfl) ?_
          refine gM_3 Fx X dX10_costAt_63 ?_
          refine lv_iload Fx.1 Fx.2.1 dX10_costAt_66 (lv_at hl 6 rfl) ?_
          refine ldM_3 (z := ((j : Nat) : Int)) (i := j) (x := (iI (((S 0 j : Nat) : Int)))) Fx X (rfl) (by omega) (hS.2.1 j) dX10_costAt_68 ?_
          have b3_x := hB.2 j
          refine ldM_13 (z := ((S 0 j : Nat) : Int)) (i := S 0 j) (x := (iI (((wt (S 0 j) : Nat) : Int)))) Fx X (rfl) (by omega) (hL.2.2.2.1 (S 0 j)) dX10_costAt_69 ?_
          have bw_x := hLB.1 (S 0 j)
          refine lv_iload_n Fx.1 Fx.2.1 dX10_costAt_70 rfl (lv_at hl 4 rfl) ?_
          refine lv_iload Fx.1 Fx.2.1 dX10_costAt_71 (lv_at hl 1 rfl) ?_
          refine k_icmp_ge (a := ((t : Nat) : Int)) (b := ((aMv S th j (S 3 j) : Nat) : Int)) (tgt := 83) Fx dX10_costAt_73 (by decide) (by omega) (by omega) (fun c_73 => ?_) (fun c_73 => ?_)
          · refine lv_iload_n Fx.1 Fx.2.1 dX10_costAt_83 rfl (lv_at hl 4 rfl) ?_
            refine lv_iload Fx.1 Fx.2.1 dX10_costAt_84 (lv_at hl 0 rfl) ?_
            refine k_icmp_le (a := ((t : Nat) : Int)) (b := ((aMv S th j (S 4 j) : Nat) : Int)) (tgt := 96) Fx dX10_costAt_86 (by decide) (by omega) (by omega) (fun c_86 => ?_) (fun c_86 => ?_)
            · refine k_iconst Fx dX10_costAt_96 ?_
              refine k_imul Fx dX10_costAt_97 ?_
              refine k_iadd Fx dX10_costAt_98 ?_
              refine lv_istore_n (lv' := [(3, .int (iI ((((aCa n S wt nw th q t j : Nat) : Int) + (((wt (S 0 j) : Nat) : Int) * 0))))), (6, .int (iI (((aMv S th j (S 4 j) : Nat) : Int)))), (5, .int (iI (((aMv S th j (S 3 j) : Nat) : Int)))), (0, .ref (ad 0)), (1, .int (iI (((q : Nat) : Int)))), (2, .int (iI (((t : Nat) : Int)))), (4, .int (iI (((j : Nat) : Int))))]) Fx.1 Fx.2.1 dX10_costAt_99 rfl hl (by decide) rfl (fun ls hl => ?_)
              refine k_iinc (k := 6) (a := ((j : Nat) : Int)) (lv' := [(4, .int (iI ((((j : Nat) : Int) + 1)))), (3, .int (iI ((((aCa n S wt nw th q t j : Nat) : Int) + (((wt (S 0 j) : Nat) : Int) * 0))))), (6, .int (iI (((aMv S th j (S 4 j) : Nat) : Int)))), (5, .int (iI (((aMv S th j (S 3 j) : Nat) : Int)))), (0, .ref (ad 0)), (1, .int (iI (((q : Nat) : Int)))), (2, .int (iI (((t : Nat) : Int))))]) Fx dX10_costAt_100 hl rfl (by decide) rfl (fun ls hl => ?_)
              refine lv_goto (tgt := 5) Fx.1 Fx.2.1 dX10_costAt_103 (by decide) ?_
              have hl_1 := lv_rp hl 1 rfl (show (iI ((((aCa n S wt nw th q t j : Nat) : Int) + (((wt (S 0 j) : Nat) : Int) * 0)))) = (iI (((aCa n S wt nw th q t (j + 1) : Nat) : Int))) from congrArg iI (ca_s3 c_21 c_73 c_86))
              have hl_2 := lv_rp hl_1 0 rfl (show (iI ((((j : Nat) : Int) + 1))) = (iI ((((j + 1) : Nat) : Int))) from congrArg iI (by omega))
              exact ih_5 (j + 1) (by omega) (by omega) _ _ _ X (lv_sub hl_2 [4, 5, 6, 1, 0] rfl)
            · refine lv_iload_n Fx.1 Fx.2.1 dX10_costAt_89 rfl (lv_at hl 4 rfl) ?_
              refine lv_iload Fx.1 Fx.2.1 dX10_costAt_90 (lv_at hl 0 rfl) ?_
              refine k_isub Fx dX10_costAt_92 ?_
              refine lv_goto (tgt := 97) Fx.1 Fx.2.1 dX10_costAt_93 (by decide) ?_
              refine k_imul Fx dX10_costAt_97 ?_
              refine k_iadd Fx dX10_costAt_98 ?_
              refine lv_istore_n (lv' := [(3, .int (iI ((((aCa n S wt nw th q t j : Nat) : Int) + (((wt (S 0 j) : Nat) : Int) * (((t : Nat) : Int) - ((aMv S th j (S 4 j) : Nat) : Int))))))), (6, .int (iI (((aMv S th j (S 4 j) : Nat) : Int)))), (5, .int (iI (((aMv S th j (S 3 j) : Nat) : Int)))), (0, .ref (ad 0)), (1, .int (iI (((q : Nat) : Int)))), (2, .int (iI (((t : Nat) : Int)))), (4, .int (iI (((j : Nat) : Int))))]) Fx.1 Fx.2.1 dX10_costAt_99 rfl hl (by decide) rfl (fun ls hl => ?_)
              refine k_iinc (k := 6) (a := ((j : Nat) : Int)) (lv' := [(4, .int (iI ((((j : Nat) : Int) + 1)))), (3, .int (iI ((((aCa n S wt nw th q t j : Nat) : Int) + (((wt (S 0 j) : Nat) : Int) * (((t : Nat) : Int) - ((aMv S th j (S 4 j) : Nat) : Int))))))), (6, .int (iI (((aMv S th j (S 4 j) : Nat) : Int)))), (5, .int (iI (((aMv S th j (S 3 j) : Nat) : Int)))), (0, .ref (ad 0)), (1, .int (iI (((q : Nat) : Int)))), (2, .int (iI (((t : Nat) : Int))))]) Fx dX10_costAt_100 hl rfl (by decide) rfl (fun ls hl => ?_)
              refine lv_goto (tgt := 5) Fx.1 Fx.2.1 dX10_costAt_103 (by decide) ?_
              have hl_3 := lv_rp hl 1 rfl (show (iI ((((aCa n S wt nw th q t j : Nat) : Int) + (((wt (S 0 j) : Nat) : Int) * (((t : Nat) : Int) - ((aMv S th j (S 4 j) : Nat) : Int)))))) = (iI (((aCa n S wt nw th q t (j + 1) : Nat) : Int))) from congrArg iI (ca_s2 c_21 c_73 c_86))
              have hl_4 := lv_rp hl_3 0 rfl (show (iI ((((j : Nat) : Int) + 1))) = (iI ((((j + 1) : Nat) : Int))) from congrArg iI (by omega))
              exact ih_5 (j + 1) (by omega) (by omega) _ _ _ X (lv_sub hl_4 [4, 5, 6, 1, 0] rfl)
          · refine lv_iload Fx.1 Fx.2.1 dX10_costAt_76 (lv_at hl 1 rfl) ?_
            refine lv_iload_n Fx.1 Fx.2.1 dX10_costAt_78 rfl (lv_at hl 4 rfl) ?_
            refine k_isub Fx dX10_costAt_79 ?_
            refine lv_goto (tgt := 97) Fx.1 Fx.2.1 dX10_costAt_80 (by decide) ?_
            refine k_imul Fx dX10_costAt_97 ?_
            refine k_iadd Fx dX10_costAt_98 ?_
            refine lv_istore_n (lv' := [(3, .int (iI ((((aCa n S wt nw th q t j : Nat) : Int) + (((wt (S 0 j) : Nat) : Int) * (((aMv S th j (S 3 j) : Nat) : Int) - ((t : Nat) : Int))))))), (6, .int (iI (((aMv S th j (S 4 j) : Nat) : Int)))), (5, .int (iI (((aMv S th j (S 3 j) : Nat) : Int)))), (0, .ref (ad 0)), (1, .int (iI (((q : Nat) : Int)))), (2, .int (iI (((t : Nat) : Int)))), (4, .int (iI (((j : Nat) : Int))))]) Fx.1 Fx.2.1 dX10_costAt_99 rfl hl (by decide) rfl (fun ls hl => ?_)
            refine k_iinc (k := 6) (a := ((j : Nat) : Int)) (lv' := [(4, .int (iI ((((j : Nat) : Int) + 1)))), (3, .int (iI ((((aCa n S wt nw th q t j : Nat) : Int) + (((wt (S 0 j) : Nat) : Int) * (((aMv S th j (S 3 j) : Nat) : Int) - ((t : Nat) : Int))))))), (6, .int (iI (((aMv S th j (S 4 j) : Nat) : Int)))), (5, .int (iI (((aMv S th j (S 3 j) : Nat) : Int)))), (0, .ref (ad 0)), (1, .int (iI (((q : Nat) : Int)))), (2, .int (iI (((t : Nat) : Int))))]) Fx dX10_costAt_100 hl rfl (by decide) rfl (fun ls hl => ?_)
            refine lv_goto (tgt := 5) Fx.1 Fx.2.1 dX10_costAt_103 (by decide) ?_
            have hl_5 := lv_rp hl 1 rfl (show (iI ((((aCa n S wt nw th q t j : Nat) : Int) + (((wt (S 0 j) : Nat) : Int) * (((aMv S th j (S 3 j) : Nat) : Int) - ((t : Nat) : Int)))))) = (iI (((aCa n S wt nw th q t (j + 1) : Nat) : Int))) from congrArg iI (ca_s1 c_21 c_73))
            have hl_6 := lv_rp hl_5 0 rfl (show (iI ((((j : Nat) : Int) + 1))) = (iI ((((j + 1) : Nat) : Int))) from congrArg iI (by omega))
            exact ih_5 (j + 1) (by omega) (by omega) _ _ _ X (lv_sub hl_6 [4, 5, 6, 1, 0] rfl)
        · refine lv_goto (tgt := 100) Fx.1 Fx.2.1 dX10_costAt_24 (by decide) ?_
          refine k_iinc (k := 4) (a := ((j : Nat) : Int)) (lv' := [(4, .int (iI ((((j : Nat) : Int) + 1)))), (0, .ref (ad 0)), (1, .int (iI (((q : Nat) : Int)))), (2, .int (iI (((t : Nat) : Int)))), (3, .int (iI (((aCa n S wt nw th q t j : Nat) : Int))))]) Fx dX10_costAt_100 hl rfl (by decide) rfl (fun ls hl => ?_)
          refine lv_goto (tgt := 5) Fx.1 Fx.2.1 dX10_costAt_103 (by decide) ?_
          have hl_7 := lv_rp hl 4 rfl (show (iI (((aCa n S wt nw th q t j : Nat) : Int))) = (iI (((aCa n S wt nw th q t (j + 1) : Nat) : Int))) from congrArg iI (ca_s4 c_21))
          have hl_8 := lv_rp hl_7 0 rfl (show (iI ((((j : Nat) : Int) + 1))) = (iI ((((j + 1) : Nat) : Int))) from congrArg iI (by omega))
          exact ih_5 (j + 1) (by omega) (by omega) _ _ _ X (lv_sub hl_8 [1, 2, 3, 4, 0] rfl)
  have hl_9 := lv_rp hl 1 rfl (show (iI (0)) = (iI (((aCa n S wt nw th q t 0 : Nat) : Int))) from rfl)
  have hl_10 := lv_rp hl_9 0 rfl (show (iI (0)) = (iI (((0 : Nat) : Int))) from congrArg iI (by omega))
  exact lp_5 _ (0) (Nat.lt_succ_self _) (by omega) _ _ _ X (lv_sub hl_10 [2, 3, 4, 1, 0] rfl)
end
