def RX0 : String := "PalmJury$Jury"
def TX0 : u_T := fun k => match k with
  | 0 => ("PalmJury$Jury", "laws", "LPalmJury$Laws;", true)
  | 1 => ("PalmJury$Jury", "kind", "[I", true)
  | 2 => ("PalmJury$Jury", "side", "[I", true)
  | 3 => ("PalmJury$Jury", "knows", "[I", true)
  | 4 => ("PalmJury$Jury", "doubt", "[I", true)
  | 5 => ("PalmJury$Jury", "passed", "[I", true)
  | 6 => ("PalmJury$Jury", "weight", "[I", true)
  | 7 => ("PalmJury$Jury", "counting", "[I", true)
  | 8 => ("PalmJury$Jury", "size", "I", false)
  | 9 => ("PalmJury$Jury", "bar", "I", false)
  | 10 => ("PalmJury$Jury", "slip", "I", false)
  | 11 => ("PalmJury$Jury", "turn", "I", false)
  | 12 => ("PalmJury$Jury", "slips", "I", false)
  | 13 => ("PalmJury$Jury", "hour", "I", false)
  | 14 => ("PalmJury$Jury", "z", "I", false)
  | _ => ("PalmJury$Jury", "texts", "I", false)
def tyX0 : Nat → FieldType := fun k => match k with
  | 0 => .object "PalmJury$Laws"
  | 1 => .array .int
  | 2 => .array .int
  | 3 => .array .int
  | 4 => .array .int
  | 5 => .array .int
  | 6 => .array .int
  | 7 => .array .int
  | 8 => .int
  | 9 => .int
  | 10 => .int
  | 11 => .int
  | 12 => .int
  | 13 => .int
  | 14 => .int
  | _ => .int
theorem nmX0 : ∀ a, a < 16 → ∀ b, b < 16 → a ≠ b → (TX0 a).2.1 ≠ (TX0 b).2.1 := by decide +kernel
theorem tyX0_ok : ∀ k, k < 16 → parseFieldDescriptor (TX0 k).2.2.1 = some (tyX0 k) := by decide +kernel
abbrev cX0_init : ByteArray := prog_2_method_1_code
def yX0_init : MethodName := ⟨RX0, "<init>", "(LPalmJury$Laws;)V"⟩
abbrev cX0_become : ByteArray := prog_2_method_2_code
def yX0_become : MethodName := ⟨RX0, "become", "(LPalmJury$Jury;)V"⟩
abbrev cX0_has : ByteArray := prog_2_method_3_code
def yX0_has : MethodName := ⟨RX0, "has", "(I)Z"⟩
abbrev cX0_add : ByteArray := prog_2_method_4_code
def yX0_add : MethodName := ⟨RX0, "add", "(IIII)V"⟩
abbrev cX0_addByLot : ByteArray := prog_2_method_5_code
def yX0_addByLot : MethodName := ⟨RX0, "addByLot", "()V"⟩
abbrev cX0_draw : ByteArray := prog_2_method_6_code
def yX0_draw : MethodName := ⟨RX0, "draw", "()I"⟩
abbrev cX0_comesOut : ByteArray := prog_2_method_7_code
def yX0_comesOut : MethodName := ⟨RX0, "comesOut", "(II)I"⟩
abbrev cX0_partner : ByteArray := prog_2_method_8_code
def yX0_partner : MethodName := ⟨RX0, "partner", "(I)I"⟩
abbrev cX0_swaying : ByteArray := prog_2_method_9_code
def yX0_swaying : MethodName := ⟨RX0, "swaying", "()I"⟩
abbrev cX0_pass : ByteArray := prog_2_method_10_code
def yX0_pass : MethodName := ⟨RX0, "pass", "(II)I"⟩
abbrev cX0_anHour : ByteArray := prog_2_method_11_code
def yX0_anHour : MethodName := ⟨RX0, "anHour", "(I)I"⟩
abbrev cX0_palms : ByteArray := prog_2_method_12_code
def yX0_palms : MethodName := ⟨RX0, "palms", "(III)I"⟩
abbrev cX0_believes : ByteArray := prog_2_method_13_code
def yX0_believes : MethodName := ⟨RX0, "believes", "(I)I"⟩
abbrev cX0_trusts : ByteArray := prog_2_method_14_code
def yX0_trusts : MethodName := ⟨RX0, "trusts", "(I)I"⟩
abbrev cX0_verdict : ByteArray := prog_2_method_15_code
def yX0_verdict : MethodName := ⟨RX0, "verdict", "(I)I"⟩
abbrev cX0_votes : ByteArray := prog_2_method_16_code
def yX0_votes : MethodName := ⟨RX0, "votes", "()I"⟩
abbrev cX0_common : ByteArray := prog_2_method_17_code
def yX0_common : MethodName := ⟨RX0, "common", "()I"⟩
abbrev cX0_any : ByteArray := prog_2_method_18_code
def yX0_any : MethodName := ⟨RX0, "any", "()I"⟩
abbrev cX0_known : ByteArray := prog_2_method_19_code
def yX0_known : MethodName := ⟨RX0, "known", "()I"⟩
def RX1 : String := "PalmJury$Kinds"
def TX1 : u_T := fun k => match k with
  | _ => ("", "", "", false)
def tyX1 : Nat → FieldType := fun k => match k with
  | _ => .int
theorem nmX1 : ∀ a, a < 0 → ∀ b, b < 0 → a ≠ b → (TX1 a).2.1 ≠ (TX1 b).2.1 := by decide +kernel
theorem tyX1_ok : ∀ k, k < 0 → parseFieldDescriptor (TX1 k).2.2.1 = some (tyX1 k) := by decide +kernel
abbrev cX1_above : ByteArray := prog_3_method_2_code
def yX1_above : MethodName := ⟨RX1, "above", "(I)I"⟩
abbrev cX1_isOf : ByteArray := prog_3_method_3_code
def yX1_isOf : MethodName := ⟨RX1, "isOf", "(II)Z"⟩
abbrev cX1_worth : ByteArray := prog_3_method_4_code
def yX1_worth : MethodName := ⟨RX1, "worth", "(II)I"⟩
abbrev cX1_doubtingWorth : ByteArray := prog_3_method_5_code
def yX1_doubtingWorth : MethodName := ⟨RX1, "doubtingWorth", "(I)I"⟩
abbrev cX1_swayedWorth : ByteArray := prog_3_method_6_code
def yX1_swayedWorth : MethodName := ⟨RX1, "swayedWorth", "(I)I"⟩
abbrev cX1_belief : ByteArray := prog_3_method_7_code
def yX1_belief : MethodName := ⟨RX1, "belief", "(III)I"⟩
abbrev cX1_doubtingBelief : ByteArray := prog_3_method_8_code
def yX1_doubtingBelief : MethodName := ⟨RX1, "doubtingBelief", "(II)I"⟩
abbrev cX1_swayedBelief : ByteArray := prog_3_method_9_code
def yX1_swayedBelief : MethodName := ⟨RX1, "swayedBelief", "(I)I"⟩
abbrev cX1_passes : ByteArray := prog_3_method_10_code
def yX1_passes : MethodName := ⟨RX1, "passes", "(LPalmJury$Jury;II)I"⟩
abbrev cX1_least : ByteArray := prog_3_method_11_code
def yX1_least : MethodName := ⟨RX1, "least", "(I)I"⟩
abbrev cX1_greatest : ByteArray := prog_3_method_12_code
def yX1_greatest : MethodName := ⟨RX1, "greatest", "(I)I"⟩
def RX2 : String := "PalmJury$Law"
def TX2 : u_T := fun k => match k with
  | 0 => ("PalmJury$Law", "key", "I", false)
  | 1 => ("PalmJury$Law", "leaves", "I", false)
  | 2 => ("PalmJury$Law", "code", "[I", true)
  | _ => ("PalmJury$Law", "length", "I", false)
def tyX2 : Nat → FieldType := fun k => match k with
  | 0 => .int
  | 1 => .int
  | 2 => .array .int
  | _ => .int
theorem nmX2 : ∀ a, a < 4 → ∀ b, b < 4 → a ≠ b → (TX2 a).2.1 ≠ (TX2 b).2.1 := by decide +kernel
theorem tyX2_ok : ∀ k, k < 4 → parseFieldDescriptor (TX2 k).2.2.1 = some (tyX2 k) := by decide +kernel
abbrev cX2_init : ByteArray := prog_4_method_1_code
def yX2_init : MethodName := ⟨RX2, "<init>", "()V"⟩
abbrev cX2_begin : ByteArray := prog_4_method_2_code
def yX2_begin : MethodName := ⟨RX2, "begin", "(I)V"⟩
abbrev cX2_become : ByteArray := prog_4_method_3_code
def yX2_become : MethodName := ⟨RX2, "become", "(LPalmJury$Law;)V"⟩
abbrev cX2_addNumber : ByteArray := prog_4_method_4_code
def yX2_addNumber : MethodName := ⟨RX2, "addNumber", "(I)V"⟩
abbrev cX2_addName : ByteArray := prog_4_method_5_code
def yX2_addName : MethodName := ⟨RX2, "addName", "(I)V"⟩
abbrev cX2_addSign : ByteArray := prog_4_method_6_code
def yX2_addSign : MethodName := ⟨RX2, "addSign", "(I)V"⟩
abbrev cX2_add : ByteArray := prog_4_method_7_code
def yX2_add : MethodName := ⟨RX2, "add", "(I)V"⟩
abbrev cX2_work : ByteArray := prog_4_method_8_code
def yX2_work : MethodName := ⟨RX2, "work", "([IIII)I"⟩
abbrev cX2_named : ByteArray := prog_4_method_9_code
def yX2_named : MethodName := ⟨RX2, "named", "(IIII)I"⟩
abbrev cX2_joined : ByteArray := prog_4_method_10_code
def yX2_joined : MethodName := ⟨RX2, "joined", "(III)I"⟩
def RX3 : String := "PalmJury$Laws"
def TX3 : u_T := fun k => match k with
  | 0 => ("PalmJury$Laws", "all", "[LPalmJury$Law;", true)
  | _ => ("PalmJury$Laws", "stack", "[I", true)
def tyX3 : Nat → FieldType := fun k => match k with
  | 0 => .array (.object "PalmJury$Law")
  | _ => .array .int
theorem nmX3 : ∀ a, a < 2 → ∀ b, b < 2 → a ≠ b → (TX3 a).2.1 ≠ (TX3 b).2.1 := by decide +kernel
theorem tyX3_ok : ∀ k, k < 2 → parseFieldDescriptor (TX3 k).2.2.1 = some (tyX3 k) := by decide +kernel
abbrev cX3_init : ByteArray := prog_5_method_1_code
def yX3_init : MethodName := ⟨RX3, "<init>", "()V"⟩
abbrev cX3_at : ByteArray := prog_5_method_2_code
def yX3_at : MethodName := ⟨RX3, "at", "(I)LPalmJury$Law;"⟩
abbrev cX3_gives : ByteArray := prog_5_method_3_code
def yX3_gives : MethodName := ⟨RX3, "gives", "(IIII)I"⟩
def RX4 : String := "PalmJury$Row"
def TX4 : u_T := fun k => match k with
  | 0 => ("PalmJury$Row", "sort", "I", false)
  | 1 => ("PalmJury$Row", "size", "I", false)
  | _ => ("PalmJury$Row", "places", "[I", true)
def tyX4 : Nat → FieldType := fun k => match k with
  | 0 => .int
  | 1 => .int
  | _ => .array .int
theorem nmX4 : ∀ a, a < 3 → ∀ b, b < 3 → a ≠ b → (TX4 a).2.1 ≠ (TX4 b).2.1 := by decide +kernel
theorem tyX4_ok : ∀ k, k < 3 → parseFieldDescriptor (TX4 k).2.2.1 = some (tyX4 k) := by decide +kernel
abbrev cX4_init : ByteArray := prog_6_method_1_code
def yX4_init : MethodName := ⟨RX4, "<init>", "()V"⟩
abbrev cX4_begin : ByteArray := prog_6_method_2_code
def yX4_begin : MethodName := ⟨RX4, "begin", "(II)V"⟩
abbrev cX4_become : ByteArray := prog_6_method_3_code
def yX4_become : MethodName := ⟨RX4, "become", "(LPalmJury$Row;)V"⟩
abbrev cX4_has : ByteArray := prog_6_method_4_code
def yX4_has : MethodName := ⟨RX4, "has", "(I)Z"⟩
abbrev cX4_hasNumber : ByteArray := prog_6_method_5_code
def yX4_hasNumber : MethodName := ⟨RX4, "hasNumber", "(I)Z"⟩
abbrev cX4_hasStretch : ByteArray := prog_6_method_6_code
def yX4_hasStretch : MethodName := ⟨RX4, "hasStretch", "(II)Z"⟩
def RX5 : String := "PalmJury$Slot"
def TX5 : u_T := fun k => match k with
  | 0 => ("PalmJury$Slot", "thing", "I", false)
  | 1 => ("PalmJury$Slot", "kind", "I", false)
  | 2 => ("PalmJury$Slot", "doubt", "I", false)
  | 3 => ("PalmJury$Slot", "number", "I", false)
  | _ => ("PalmJury$Slot", "row", "LPalmJury$Row;", true)
def tyX5 : Nat → FieldType := fun k => match k with
  | 0 => .int
  | 1 => .int
  | 2 => .int
  | 3 => .int
  | _ => .object "PalmJury$Row"
theorem nmX5 : ∀ a, a < 5 → ∀ b, b < 5 → a ≠ b → (TX5 a).2.1 ≠ (TX5 b).2.1 := by decide +kernel
theorem tyX5_ok : ∀ k, k < 5 → parseFieldDescriptor (TX5 k).2.2.1 = some (tyX5 k) := by decide +kernel
abbrev cX5_init : ByteArray := prog_7_method_1_code
def yX5_init : MethodName := ⟨RX5, "<init>", "()V"⟩
def RX6 : String := "PalmJury$Tape"
def TX6 : u_T := fun k => match k with
  | 0 => ("PalmJury$Tape", "length", "I", false)
  | 1 => ("PalmJury$Tape", "bytes", "[I", true)
  | 2 => ("PalmJury$Tape", "law", "LPalmJury$Law;", true)
  | 3 => ("PalmJury$Tape", "from", "I", false)
  | 4 => ("PalmJury$Tape", "to", "I", false)
  | 5 => ("PalmJury$Tape", "sort", "I", false)
  | _ => ("PalmJury$Tape", "stuck", "Z", false)
def tyX6 : Nat → FieldType := fun k => match k with
  | 0 => .int
  | 1 => .array .int
  | 2 => .object "PalmJury$Law"
  | 3 => .int
  | 4 => .int
  | 5 => .int
  | _ => .boolean
theorem nmX6 : ∀ a, a < 7 → ∀ b, b < 7 → a ≠ b → (TX6 a).2.1 ≠ (TX6 b).2.1 := by decide +kernel
theorem tyX6_ok : ∀ k, k < 7 → parseFieldDescriptor (TX6 k).2.2.1 = some (tyX6 k) := by decide +kernel
abbrev cX6_init : ByteArray := prog_8_method_1_code
def yX6_init : MethodName := ⟨RX6, "<init>", "()V"⟩
abbrev cX6_takes : ByteArray := prog_8_method_2_code
def yX6_takes : MethodName := ⟨RX6, "takes", "(I)V"⟩
abbrev cX6_faultOfText : ByteArray := prog_8_method_3_code
def yX6_faultOfText : MethodName := ⟨RX6, "faultOfText", "()I"⟩
abbrev cX6_byteAt : ByteArray := prog_8_method_4_code
def yX6_byteAt : MethodName := ⟨RX6, "byteAt", "(I)I"⟩
abbrev cX6_sortOf : ByteArray := prog_8_method_5_code
def yX6_sortOf : MethodName := ⟨RX6, "sortOf", "(I)I"⟩
abbrev cX6_step : ByteArray := prog_8_method_6_code
def yX6_step : MethodName := ⟨RX6, "step", "()V"⟩
abbrev cX6_keyAtHand : ByteArray := prog_8_method_7_code
def yX6_keyAtHand : MethodName := ⟨RX6, "keyAtHand", "()I"⟩
abbrev cX6_isWord : ByteArray := prog_8_method_8_code
def yX6_isWord : MethodName := ⟨RX6, "isWord", "(Ljava/lang/String;)Z"⟩
abbrev cX6_wordOf : ByteArray := prog_8_method_9_code
def yX6_wordOf : MethodName := ⟨RX6, "wordOf", "(I)Ljava/lang/String;"⟩
abbrev cX6_namesOf : ByteArray := prog_8_method_10_code
def yX6_namesOf : MethodName := ⟨RX6, "namesOf", "(I)Ljava/lang/String;"⟩
abbrev cX6_signsOf : ByteArray := prog_8_method_11_code
def yX6_signsOf : MethodName := ⟨RX6, "signsOf", "(I)Ljava/lang/String;"⟩
abbrev cX6_isSignOf : ByteArray := prog_8_method_12_code
def yX6_isSignOf : MethodName := ⟨RX6, "isSignOf", "(Ljava/lang/String;)Z"⟩
abbrev cX6_level : ByteArray := prog_8_method_13_code
def yX6_level : MethodName := ⟨RX6, "level", "(III)Z"⟩
abbrev cX6_piece : ByteArray := prog_8_method_14_code
def yX6_piece : MethodName := ⟨RX6, "piece", "(II)Z"⟩
abbrev cX6_number : ByteArray := prog_8_method_15_code
def yX6_number : MethodName := ⟨RX6, "number", "()Z"⟩
abbrev cX6_name : ByteArray := prog_8_method_16_code
def yX6_name : MethodName := ⟨RX6, "name", "()Z"⟩
def RX7 : String := "PalmJury"
def TX7 : u_T := fun k => match k with
  | 0 => ("PalmJury", "laws", "LPalmJury$Laws;", true)
  | 1 => ("PalmJury", "tape", "LPalmJury$Tape;", true)
  | 2 => ("PalmJury", "now", "LPalmJury$Jury;", true)
  | 3 => ("PalmJury", "image", "LPalmJury$Jury;", true)
  | 4 => ("PalmJury", "thought", "LPalmJury$Jury;", true)
  | 5 => ("PalmJury", "sheets", "[LPalmJury$Row;", true)
  | 6 => ("PalmJury", "slots", "[LPalmJury$Slot;", true)
  | 7 => ("PalmJury", "waiting", "[I", true)
  | 8 => ("PalmJury", "waits", "I", false)
  | _ => ("PalmJury", "kept", "Z", false)
def tyX7 : Nat → FieldType := fun k => match k with
  | 0 => .object "PalmJury$Laws"
  | 1 => .object "PalmJury$Tape"
  | 2 => .object "PalmJury$Jury"
  | 3 => .object "PalmJury$Jury"
  | 4 => .object "PalmJury$Jury"
  | 5 => .array (.object "PalmJury$Row")
  | 6 => .array (.object "PalmJury$Slot")
  | 7 => .array .int
  | 8 => .int
  | _ => .boolean
theorem nmX7 : ∀ a, a < 10 → ∀ b, b < 10 → a ≠ b → (TX7 a).2.1 ≠ (TX7 b).2.1 := by decide +kernel
theorem tyX7_ok : ∀ k, k < 10 → parseFieldDescriptor (TX7 k).2.2.1 = some (tyX7 k) := by decide +kernel
abbrev cX7_init : ByteArray := prog_1_method_1_code
def yX7_init : MethodName := ⟨RX7, "<init>", "()V"⟩
abbrev cX7_juror : ByteArray := prog_1_method_2_code
def yX7_juror : MethodName := ⟨RX7, "juror", "(III)I"⟩
abbrev cX7_told : ByteArray := prog_1_method_3_code
def yX7_told : MethodName := ⟨RX7, "told", "(II)I"⟩
abbrev cX7_tells : ByteArray := prog_1_method_4_code
def yX7_tells : MethodName := ⟨RX7, "tells", "(II)I"⟩
abbrev cX7_as : ByteArray := prog_1_method_5_code
def yX7_as : MethodName := ⟨RX7, "as", "(II)I"⟩
abbrev cX7_turns : ByteArray := prog_1_method_6_code
def yX7_turns : MethodName := ⟨RX7, "turns", "(II)I"⟩
abbrev cX7_set : ByteArray := prog_1_method_7_code
def yX7_set : MethodName := ⟨RX7, "set", "(III)I"⟩
abbrev cX7_weigh : ByteArray := prog_1_method_8_code
def yX7_weigh : MethodName := ⟨RX7, "weigh", "(II)I"⟩
abbrev cX7_rule : ByteArray := prog_1_method_9_code
def yX7_rule : MethodName := ⟨RX7, "rule", "(II)I"⟩
abbrev cX7_deal : ByteArray := prog_1_method_10_code
def yX7_deal : MethodName := ⟨RX7, "deal", "(I)I"⟩
abbrev cX7_seed : ByteArray := prog_1_method_11_code
def yX7_seed : MethodName := ⟨RX7, "seed", "(I)I"⟩
abbrev cX7_out : ByteArray := prog_1_method_12_code
def yX7_out : MethodName := ⟨RX7, "out", "(II)I"⟩
abbrev cX7_hours : ByteArray := prog_1_method_13_code
def yX7_hours : MethodName := ⟨RX7, "hours", "(I)I"⟩
abbrev cX7_jury : ByteArray := prog_1_method_14_code
def yX7_jury : MethodName := ⟨RX7, "jury", "(I)I"⟩
abbrev cX7_behind : ByteArray := prog_1_method_15_code
def yX7_behind : MethodName := ⟨RX7, "behind", "(II)I"⟩
abbrev cX7_allKnow : ByteArray := prog_1_method_16_code
def yX7_allKnow : MethodName := ⟨RX7, "allKnow", "()I"⟩
abbrev cX7_bestTurn : ByteArray := prog_1_method_17_code
def yX7_bestTurn : MethodName := ⟨RX7, "bestTurn", "(II)I"⟩
abbrev cX7_sure : ByteArray := prog_1_method_18_code
def yX7_sure : MethodName := ⟨RX7, "sure", "(I)I"⟩
abbrev cX7_advocate : ByteArray := prog_1_method_19_code
def yX7_advocate : MethodName := ⟨RX7, "advocate", "(II)I"⟩
abbrev cX7_tipped : ByteArray := prog_1_method_20_code
def yX7_tipped : MethodName := ⟨RX7, "tipped", "(I)I"⟩
abbrev cX7_weighed : ByteArray := prog_1_method_21_code
def yX7_weighed : MethodName := ⟨RX7, "weighed", "(II)I"⟩
abbrev cX7_fee : ByteArray := prog_1_method_22_code
def yX7_fee : MethodName := ⟨RX7, "fee", "()I"⟩
abbrev cX7_fine : ByteArray := prog_1_method_23_code
def yX7_fine : MethodName := ⟨RX7, "fine", "(I)I"⟩
abbrev cX7_feed : ByteArray := prog_1_method_24_code
def yX7_feed : MethodName := ⟨RX7, "feed", "(III)I"⟩
abbrev cX7_trim : ByteArray := prog_1_method_25_code
def yX7_trim : MethodName := ⟨RX7, "trim", "(I)I"⟩
abbrev cX7_text : ByteArray := prog_1_method_26_code
def yX7_text : MethodName := ⟨RX7, "text", "()I"⟩
abbrev cX7_textTold : ByteArray := prog_1_method_27_code
def yX7_textTold : MethodName := ⟨RX7, "textTold", "(II)I"⟩
abbrev cX7_why : ByteArray := prog_1_method_28_code
def yX7_why : MethodName := ⟨RX7, "why", "(I)I"⟩
abbrev cX7_sheet : ByteArray := prog_1_method_29_code
def yX7_sheet : MethodName := ⟨RX7, "sheet", "(III)I"⟩
abbrev cX7_mark : ByteArray := prog_1_method_30_code
def yX7_mark : MethodName := ⟨RX7, "mark", "(III)I"⟩
abbrev cX7_pour : ByteArray := prog_1_method_31_code
def yX7_pour : MethodName := ⟨RX7, "pour", "(I)I"⟩
abbrev cX7_reads : ByteArray := prog_1_method_32_code
def yX7_reads : MethodName := ⟨RX7, "reads", "(I)I"⟩
abbrev cX7_copy : ByteArray := prog_1_method_33_code
def yX7_copy : MethodName := ⟨RX7, "copy", "(IIIII)I"⟩
abbrev cX7_lay : ByteArray := prog_1_method_34_code
def yX7_lay : MethodName := ⟨RX7, "lay", "(III)I"⟩
abbrev cX7_ask : ByteArray := prog_1_method_35_code
def yX7_ask : MethodName := ⟨RX7, "ask", "(II)I"⟩
abbrev cX7_item : ByteArray := prog_1_method_36_code
def yX7_item : MethodName := ⟨RX7, "item", "(II)I"⟩
abbrev cX7_rest : ByteArray := prog_1_method_37_code
def yX7_rest : MethodName := ⟨RX7, "rest", "(II)I"⟩
abbrev cX7_tell : ByteArray := prog_1_method_38_code
def yX7_tell : MethodName := ⟨RX7, "tell", "(I)I"⟩
abbrev cX7_check : ByteArray := prog_1_method_39_code
def yX7_check : MethodName := ⟨RX7, "check", "(I)I"⟩
abbrev cX7_keep : ByteArray := prog_1_method_40_code
def yX7_keep : MethodName := ⟨RX7, "keep", "()I"⟩
abbrev cX7_back : ByteArray := prog_1_method_41_code
def yX7_back : MethodName := ⟨RX7, "back", "()I"⟩
abbrev cX7_count : ByteArray := prog_1_method_42_code
def yX7_count : MethodName := ⟨RX7, "count", "(I)I"⟩
abbrev cX7_think : ByteArray := prog_1_method_43_code
def yX7_think : MethodName := ⟨RX7, "think", "(II)V"⟩
abbrev cX7_isSaid : ByteArray := prog_1_method_44_code
def yX7_isSaid : MethodName := ⟨RX7, "isSaid", "(III)Z"⟩
abbrev cX7_apart : ByteArray := prog_1_method_45_code
def yX7_apart : MethodName := ⟨RX7, "apart", "(LPalmJury$Jury;LPalmJury$Row;)I"⟩
abbrev cX7_isFact : ByteArray := prog_1_method_46_code
def yX7_isFact : MethodName := ⟨RX7, "isFact", "(I)Z"⟩
abbrev cX7_isSheet : ByteArray := prog_1_method_47_code
def yX7_isSheet : MethodName := ⟨RX7, "isSheet", "(I)Z"⟩
abbrev cX7_isSlot : ByteArray := prog_1_method_48_code
def yX7_isSlot : MethodName := ⟨RX7, "isSlot", "(I)Z"⟩
abbrev cX7_within : ByteArray := prog_1_method_49_code
def yX7_within : MethodName := ⟨RX7, "within", "(III)Z"⟩
abbrev cX7_held : ByteArray := prog_1_method_50_code
def yX7_held : MethodName := ⟨RX7, "held", "(III)I"⟩
abbrev cX7_exchange : ByteArray := prog_1_method_51_code
def yX7_exchange : MethodName := ⟨RX7, "exchange", "([III)I"⟩
def RX8 : String := "PalmJuryModel"
def TX8 : u_T := fun k => match k with
  | 0 => ("PalmJuryModel", "now", "[I", true)
  | 1 => ("PalmJuryModel", "image", "[I", true)
  | 2 => ("PalmJuryModel", "aside", "[I", true)
  | 3 => ("PalmJuryModel", "hasImage", "Z", false)
  | 4 => ("PalmJuryModel", "silent", "I", false)
  | 5 => ("PalmJuryModel", "before", "[I", true)
  | 6 => ("PalmJuryModel", "tape", "[I", true)
  | 7 => ("PalmJuryModel", "taped", "I", false)
  | 8 => ("PalmJuryModel", "next", "I", false)
  | 9 => ("PalmJuryModel", "from", "I", false)
  | 10 => ("PalmJuryModel", "token", "I", false)
  | 11 => ("PalmJuryModel", "value", "I", false)
  | 12 => ("PalmJuryModel", "ended", "I", false)
  | 13 => ("PalmJuryModel", "key", "I", false)
  | 14 => ("PalmJuryModel", "keys", "[C", true)
  | 15 => ("PalmJuryModel", "keyAt", "[I", true)
  | 16 => ("PalmJuryModel", "code", "[I", true)
  | 17 => ("PalmJuryModel", "codes", "I", false)
  | 18 => ("PalmJuryModel", "atoms", "I", false)
  | 19 => ("PalmJuryModel", "waits", "[I", true)
  | 20 => ("PalmJuryModel", "held", "I", false)
  | 21 => ("PalmJuryModel", "tested", "[Z", true)
  | 22 => ("PalmJuryModel", "stack", "[I", true)
  | 23 => ("PalmJuryModel", "facts", "[I", true)
  | 24 => ("PalmJuryModel", "sorts", "[I", true)
  | 25 => ("PalmJuryModel", "sizes", "[I", true)
  | 26 => ("PalmJuryModel", "cells", "[I", true)
  | 27 => ("PalmJuryModel", "holds", "[I", true)
  | 28 => ("PalmJuryModel", "holdsA", "[I", true)
  | 29 => ("PalmJuryModel", "holdsB", "[I", true)
  | 30 => ("PalmJuryModel", "heldCells", "[I", true)
  | 31 => ("PalmJuryModel", "moved", "[I", true)
  | 32 => ("PalmJuryModel", "heard", "[I", true)
  | _ => ("PalmJuryModel", "waiting", "I", false)
def tyX8 : Nat → FieldType := fun k => match k with
  | 0 => .array .int
  | 1 => .array .int
  | 2 => .array .int
  | 3 => .boolean
  | 4 => .int
  | 5 => .array .int
  | 6 => .array .int
  | 7 => .int
  | 8 => .int
  | 9 => .int
  | 10 => .int
  | 11 => .int
  | 12 => .int
  | 13 => .int
  | 14 => .array .char
  | 15 => .array .int
  | 16 => .array .int
  | 17 => .int
  | 18 => .int
  | 19 => .array .int
  | 20 => .int
  | 21 => .array .boolean
  | 22 => .array .int
  | 23 => .array .int
  | 24 => .array .int
  | 25 => .array .int
  | 26 => .array .int
  | 27 => .array .int
  | 28 => .array .int
  | 29 => .array .int
  | 30 => .array .int
  | 31 => .array .int
  | 32 => .array .int
  | _ => .int
theorem nmX8 : ∀ a, a < 34 → ∀ b, b < 34 → a ≠ b → (TX8 a).2.1 ≠ (TX8 b).2.1 := by decide +kernel
theorem tyX8_ok : ∀ k, k < 34 → parseFieldDescriptor (TX8 k).2.2.1 = some (tyX8 k) := by decide +kernel
abbrev cX8_init : ByteArray := prog_10_method_1_code
def yX8_init : MethodName := ⟨RX8, "<init>", "()V"⟩
abbrev cX8_in : ByteArray := prog_10_method_2_code
def yX8_in : MethodName := ⟨RX8, "in", "(III)Z"⟩
abbrev cX8_within : ByteArray := prog_10_method_3_code
def yX8_within : MethodName := ⟨RX8, "within", "(III)I"⟩
abbrev cX8_copyAll : ByteArray := prog_10_method_4_code
def yX8_copyAll : MethodName := ⟨RX8, "copyAll", "([I[I)V"⟩
abbrev cX8_told0 : ByteArray := prog_10_method_5_code
def yX8_told0 : MethodName := ⟨RX8, "told0", "(I)I"⟩
abbrev cX8_isJuror : ByteArray := prog_10_method_6_code
def yX8_isJuror : MethodName := ⟨RX8, "isJuror", "(I)Z"⟩
abbrev cX8_isFact : ByteArray := prog_10_method_7_code
def yX8_isFact : MethodName := ⟨RX8, "isFact", "(I)Z"⟩
abbrev cX8_of : ByteArray := prog_10_method_8_code
def yX8_of : MethodName := ⟨RX8, "of", "(II)I"⟩
abbrev cX8_put : ByteArray := prog_10_method_9_code
def yX8_put : MethodName := ⟨RX8, "put", "(III)V"⟩
abbrev cX8_becomes : ByteArray := prog_10_method_10_code
def yX8_becomes : MethodName := ⟨RX8, "becomes", "(II)I"⟩
abbrev cX8_bitsOf : ByteArray := prog_10_method_11_code
def yX8_bitsOf : MethodName := ⟨RX8, "bitsOf", "(I)I"⟩
abbrev cX8_comes : ByteArray := prog_10_method_12_code
def yX8_comes : MethodName := ⟨RX8, "comes", "(IIII)I"⟩
abbrev cX8_juror : ByteArray := prog_10_method_13_code
def yX8_juror : MethodName := ⟨RX8, "juror", "(III)I"⟩
abbrev cX8_weightOf : ByteArray := prog_10_method_14_code
def yX8_weightOf : MethodName := ⟨RX8, "weightOf", "(I)I"⟩
abbrev cX8_believesOf : ByteArray := prog_10_method_15_code
def yX8_believesOf : MethodName := ⟨RX8, "believesOf", "(I)I"⟩
abbrev cX8_isGuilty : ByteArray := prog_10_method_16_code
def yX8_isGuilty : MethodName := ⟨RX8, "isGuilty", "(I)Z"⟩
abbrev cX8_partnerOf : ByteArray := prog_10_method_17_code
def yX8_partnerOf : MethodName := ⟨RX8, "partnerOf", "(I)I"⟩
abbrev cX8_tellsOf : ByteArray := prog_10_method_18_code
def yX8_tellsOf : MethodName := ⟨RX8, "tellsOf", "(II)I"⟩
abbrev cX8_worthOf : ByteArray := prog_10_method_19_code
def yX8_worthOf : MethodName := ⟨RX8, "worthOf", "(I)I"⟩
abbrev cX8_told : ByteArray := prog_10_method_20_code
def yX8_told : MethodName := ⟨RX8, "told", "(II)I"⟩
abbrev cX8_tells : ByteArray := prog_10_method_21_code
def yX8_tells : MethodName := ⟨RX8, "tells", "(II)I"⟩
abbrev cX8_isUnder : ByteArray := prog_10_method_22_code
def yX8_isUnder : MethodName := ⟨RX8, "isUnder", "(II)Z"⟩
abbrev cX8_as : ByteArray := prog_10_method_23_code
def yX8_as : MethodName := ⟨RX8, "as", "(II)I"⟩
abbrev cX8_turns : ByteArray := prog_10_method_24_code
def yX8_turns : MethodName := ⟨RX8, "turns", "(II)I"⟩
abbrev cX8_set : ByteArray := prog_10_method_25_code
def yX8_set : MethodName := ⟨RX8, "set", "(III)I"⟩
abbrev cX8_weigh : ByteArray := prog_10_method_26_code
def yX8_weigh : MethodName := ⟨RX8, "weigh", "(II)I"⟩
abbrev cX8_rule : ByteArray := prog_10_method_27_code
def yX8_rule : MethodName := ⟨RX8, "rule", "(II)I"⟩
abbrev cX8_draw : ByteArray := prog_10_method_28_code
def yX8_draw : MethodName := ⟨RX8, "draw", "()I"⟩
abbrev cX8_deal : ByteArray := prog_10_method_29_code
def yX8_deal : MethodName := ⟨RX8, "deal", "(I)I"⟩
abbrev cX8_seed : ByteArray := prog_10_method_30_code
def yX8_seed : MethodName := ⟨RX8, "seed", "(I)I"⟩
abbrev cX8_comesOut : ByteArray := prog_10_method_31_code
def yX8_comesOut : MethodName := ⟨RX8, "comesOut", "(II)I"⟩
abbrev cX8_out : ByteArray := prog_10_method_32_code
def yX8_out : MethodName := ⟨RX8, "out", "(II)I"⟩
abbrev cX8_passes : ByteArray := prog_10_method_33_code
def yX8_passes : MethodName := ⟨RX8, "passes", "(III)I"⟩
abbrev cX8_hour : ByteArray := prog_10_method_34_code
def yX8_hour : MethodName := ⟨RX8, "hour", "()I"⟩
abbrev cX8_goesOn : ByteArray := prog_10_method_35_code
def yX8_goesOn : MethodName := ⟨RX8, "goesOn", "(I)I"⟩
abbrev cX8_hours : ByteArray := prog_10_method_36_code
def yX8_hours : MethodName := ⟨RX8, "hours", "(I)I"⟩
abbrev cX8_common : ByteArray := prog_10_method_37_code
def yX8_common : MethodName := ⟨RX8, "common", "()I"⟩
abbrev cX8_any : ByteArray := prog_10_method_38_code
def yX8_any : MethodName := ⟨RX8, "any", "()I"⟩
abbrev cX8_votes : ByteArray := prog_10_method_39_code
def yX8_votes : MethodName := ⟨RX8, "votes", "()I"⟩
abbrev cX8_knownAll : ByteArray := prog_10_method_40_code
def yX8_knownAll : MethodName := ⟨RX8, "knownAll", "()I"⟩
abbrev cX8_jury : ByteArray := prog_10_method_41_code
def yX8_jury : MethodName := ⟨RX8, "jury", "(I)I"⟩
abbrev cX8_thinks : ByteArray := prog_10_method_42_code
def yX8_thinks : MethodName := ⟨RX8, "thinks", "()V"⟩
abbrev cX8_putsBack : ByteArray := prog_10_method_43_code
def yX8_putsBack : MethodName := ⟨RX8, "putsBack", "()V"⟩
abbrev cX8_behind : ByteArray := prog_10_method_44_code
def yX8_behind : MethodName := ⟨RX8, "behind", "(II)I"⟩
abbrev cX8_isKnown : ByteArray := prog_10_method_45_code
def yX8_isKnown : MethodName := ⟨RX8, "isKnown", "(I)Z"⟩
abbrev cX8_allKnow : ByteArray := prog_10_method_46_code
def yX8_allKnow : MethodName := ⟨RX8, "allKnow", "()I"⟩
abbrev cX8_bestTurn : ByteArray := prog_10_method_47_code
def yX8_bestTurn : MethodName := ⟨RX8, "bestTurn", "(II)I"⟩
abbrev cX8_sure : ByteArray := prog_10_method_48_code
def yX8_sure : MethodName := ⟨RX8, "sure", "(I)I"⟩
abbrev cX8_votesBehind : ByteArray := prog_10_method_49_code
def yX8_votesBehind : MethodName := ⟨RX8, "votesBehind", "(I)I"⟩
abbrev cX8_advocate : ByteArray := prog_10_method_50_code
def yX8_advocate : MethodName := ⟨RX8, "advocate", "(II)I"⟩
abbrev cX8_tipped : ByteArray := prog_10_method_51_code
def yX8_tipped : MethodName := ⟨RX8, "tipped", "(I)I"⟩
abbrev cX8_offBy : ByteArray := prog_10_method_52_code
def yX8_offBy : MethodName := ⟨RX8, "offBy", "(II)J"⟩
abbrev cX8_weighed : ByteArray := prog_10_method_53_code
def yX8_weighed : MethodName := ⟨RX8, "weighed", "(II)I"⟩
abbrev cX8_fee : ByteArray := prog_10_method_54_code
def yX8_fee : MethodName := ⟨RX8, "fee", "()I"⟩
abbrev cX8_fine : ByteArray := prog_10_method_55_code
def yX8_fine : MethodName := ⟨RX8, "fine", "(I)I"⟩
abbrev cX8_feed : ByteArray := prog_10_method_56_code
def yX8_feed : MethodName := ⟨RX8, "feed", "(III)I"⟩
abbrev cX8_trim : ByteArray := prog_10_method_57_code
def yX8_trim : MethodName := ⟨RX8, "trim", "(I)I"⟩
abbrev cX8_isLetter : ByteArray := prog_10_method_58_code
def yX8_isLetter : MethodName := ⟨RX8, "isLetter", "(I)Z"⟩
abbrev cX8_isFigure : ByteArray := prog_10_method_59_code
def yX8_isFigure : MethodName := ⟨RX8, "isFigure", "(I)Z"⟩
abbrev cX8_go : ByteArray := prog_10_method_60_code
def yX8_go : MethodName := ⟨RX8, "go", "()V"⟩
abbrev cX8_takesKey : ByteArray := prog_10_method_61_code
def yX8_takesKey : MethodName := ⟨RX8, "takesKey", "()Z"⟩
abbrev cX8_nameOf : ByteArray := prog_10_method_62_code
def yX8_nameOf : MethodName := ⟨RX8, "nameOf", "(I)I"⟩
abbrev cX8_rank : ByteArray := prog_10_method_63_code
def yX8_rank : MethodName := ⟨RX8, "rank", "(I)I"⟩
abbrev cX8_settle : ByteArray := prog_10_method_64_code
def yX8_settle : MethodName := ⟨RX8, "settle", "(I)V"⟩
abbrev cX8_signHere : ByteArray := prog_10_method_65_code
def yX8_signHere : MethodName := ⟨RX8, "signHere", "()I"⟩
abbrev cX8_takesPart : ByteArray := prog_10_method_66_code
def yX8_takesPart : MethodName := ⟨RX8, "takesPart", "()Z"⟩
abbrev cX8_takesE : ByteArray := prog_10_method_67_code
def yX8_takesE : MethodName := ⟨RX8, "takesE", "()Z"⟩
abbrev cX8_notsOpen : ByteArray := prog_10_method_68_code
def yX8_notsOpen : MethodName := ⟨RX8, "notsOpen", "()I"⟩
abbrev cX8_text : ByteArray := prog_10_method_69_code
def yX8_text : MethodName := ⟨RX8, "text", "()I"⟩
abbrev cX8_textTold : ByteArray := prog_10_method_70_code
def yX8_textTold : MethodName := ⟨RX8, "textTold", "(II)I"⟩
abbrev cX8_counts : ByteArray := prog_10_method_71_code
def yX8_counts : MethodName := ⟨RX8, "counts", "(I)I"⟩
abbrev cX8_why : ByteArray := prog_10_method_72_code
def yX8_why : MethodName := ⟨RX8, "why", "(I)I"⟩
abbrev cX8_two : ByteArray := prog_10_method_73_code
def yX8_two : MethodName := ⟨RX8, "two", "(III)I"⟩
abbrev cX8_worksOut : ByteArray := prog_10_method_74_code
def yX8_worksOut : MethodName := ⟨RX8, "worksOut", "(I)I"⟩
abbrev cX8_isSheet : ByteArray := prog_10_method_75_code
def yX8_isSheet : MethodName := ⟨RX8, "isSheet", "(I)Z"⟩
abbrev cX8_isSlot : ByteArray := prog_10_method_76_code
def yX8_isSlot : MethodName := ⟨RX8, "isSlot", "(I)Z"⟩
abbrev cX8_sheet : ByteArray := prog_10_method_77_code
def yX8_sheet : MethodName := ⟨RX8, "sheet", "(III)I"⟩
abbrev cX8_mark : ByteArray := prog_10_method_78_code
def yX8_mark : MethodName := ⟨RX8, "mark", "(III)I"⟩
abbrev cX8_pour : ByteArray := prog_10_method_79_code
def yX8_pour : MethodName := ⟨RX8, "pour", "(I)I"⟩
abbrev cX8_reads : ByteArray := prog_10_method_80_code
def yX8_reads : MethodName := ⟨RX8, "reads", "(I)I"⟩
abbrev cX8_copy : ByteArray := prog_10_method_81_code
def yX8_copy : MethodName := ⟨RX8, "copy", "(IIIII)I"⟩
abbrev cX8_lay : ByteArray := prog_10_method_82_code
def yX8_lay : MethodName := ⟨RX8, "lay", "(III)I"⟩
abbrev cX8_ask : ByteArray := prog_10_method_83_code
def yX8_ask : MethodName := ⟨RX8, "ask", "(II)I"⟩
abbrev cX8_item : ByteArray := prog_10_method_84_code
def yX8_item : MethodName := ⟨RX8, "item", "(II)I"⟩
abbrev cX8_rest : ByteArray := prog_10_method_85_code
def yX8_rest : MethodName := ⟨RX8, "rest", "(II)I"⟩
abbrev cX8_tell : ByteArray := prog_10_method_86_code
def yX8_tell : MethodName := ⟨RX8, "tell", "(I)I"⟩
abbrev cX8_check : ByteArray := prog_10_method_87_code
def yX8_check : MethodName := ⟨RX8, "check", "(I)I"⟩
abbrev cX8_keep : ByteArray := prog_10_method_88_code
def yX8_keep : MethodName := ⟨RX8, "keep", "()I"⟩
abbrev cX8_back : ByteArray := prog_10_method_89_code
def yX8_back : MethodName := ⟨RX8, "back", "()I"⟩
abbrev cX8_count : ByteArray := prog_10_method_90_code
def yX8_count : MethodName := ⟨RX8, "count", "(I)I"⟩
def RJ11 : String := "java/lang/Character"
def TJ11 : u_T := fun k => match k with
  | _ => ("", "", "", false)
def tyJ11 : Nat → FieldType := fun k => match k with
  | _ => .int
theorem nmJ11 : ∀ a, a < 0 → ∀ b, b < 0 → a ≠ b → (TJ11 a).2.1 ≠ (TJ11 b).2.1 := by decide +kernel
theorem tyJ11_ok : ∀ k, k < 0 → parseFieldDescriptor (TJ11 k).2.2.1 = some (tyJ11 k) := by decide +kernel
abbrev cJ11_isValidCodePoint_9a6ad : ByteArray := prog_11_method_11_code
def yJ11_isValidCodePoint_9a6ad : MethodName := ⟨RJ11, "isValidCodePoint", "(I)Z"⟩
abbrev cJ11_highSurrogate_5068e : ByteArray := prog_11_method_28_code
def yJ11_highSurrogate_5068e : MethodName := ⟨RJ11, "highSurrogate", "(I)C"⟩
abbrev cJ11_lowSurrogate_5068e : ByteArray := prog_11_method_29_code
def yJ11_lowSurrogate_5068e : MethodName := ⟨RJ11, "lowSurrogate", "(I)C"⟩
def RJ6 : String := "java/lang/Integer"
def TJ6 : u_T := fun k => match k with
  | _ => ("", "", "", false)
def tyJ6 : Nat → FieldType := fun k => match k with
  | _ => .int
theorem nmJ6 : ∀ a, a < 0 → ∀ b, b < 0 → a ≠ b → (TJ6 a).2.1 ≠ (TJ6 b).2.1 := by decide +kernel
theorem tyJ6_ok : ∀ k, k < 0 → parseFieldDescriptor (TJ6 k).2.2.1 = some (tyJ6 k) := by decide +kernel
abbrev cJ6_bitCount_0f7a4 : ByteArray := prog_12_method_49_code
def yJ6_bitCount_0f7a4 : MethodName := ⟨RJ6, "bitCount", "(I)I"⟩
def RJ9 : String := "java/lang/Math"
def TJ9 : u_T := fun k => match k with
  | _ => ("", "", "", false)
def tyJ9 : Nat → FieldType := fun k => match k with
  | _ => .int
theorem nmJ9 : ∀ a, a < 0 → ∀ b, b < 0 → a ≠ b → (TJ9 a).2.1 ≠ (TJ9 b).2.1 := by decide +kernel
theorem tyJ9_ok : ∀ k, k < 0 → parseFieldDescriptor (TJ9 k).2.2.1 = some (tyJ9 k) := by decide +kernel
abbrev cJ9_floorMod_7cf53 : ByteArray := prog_13_method_50_code
def yJ9_floorMod_7cf53 : MethodName := ⟨RJ9, "floorMod", "(II)I"⟩
abbrev cJ9_abs_0f7a4 : ByteArray := prog_13_method_59_code
def yJ9_abs_0f7a4 : MethodName := ⟨RJ9, "abs", "(I)I"⟩
abbrev cJ9_max_7cf53 : ByteArray := prog_13_method_65_code
def yJ9_max_7cf53 : MethodName := ⟨RJ9, "max", "(II)I"⟩
abbrev cJ9_min_7cf53 : ByteArray := prog_13_method_69_code
def yJ9_min_7cf53 : MethodName := ⟨RJ9, "min", "(II)I"⟩
def RJ0 : String := "java/lang/String"
def TJ0 : u_T := fun k => match k with
  | _ => ("", "", "", false)
def tyJ0 : Nat → FieldType := fun k => match k with
  | _ => .int
theorem nmJ0 : ∀ a, a < 0 → ∀ b, b < 0 → a ≠ b → (TJ0 a).2.1 ≠ (TJ0 b).2.1 := by decide +kernel
theorem tyJ0_ok : ∀ k, k < 0 → parseFieldDescriptor (TJ0 k).2.2.1 = some (tyJ0 k) := by decide +kernel
abbrev cJ0_length_8abf5 : ByteArray := prog_14_method_54_code
def yJ0_length_8abf5 : MethodName := ⟨RJ0, "length", "()I"⟩
abbrev cJ0_charAt_5068e : ByteArray := prog_14_method_56_code
def yJ0_charAt_5068e : MethodName := ⟨RJ0, "charAt", "(I)C"⟩
abbrev cJ0_indexOf_0f7a4 : ByteArray := prog_14_method_79_code
def yJ0_indexOf_0f7a4 : MethodName := ⟨RJ0, "indexOf", "(I)I"⟩
abbrev cJ0_indexOf_7cf53 : ByteArray := prog_14_method_80_code
def yJ0_indexOf_7cf53 : MethodName := ⟨RJ0, "indexOf", "(II)I"⟩
abbrev cJ0_coder_7d493 : ByteArray := prog_14_method_152_code
def yJ0_coder_7d493 : MethodName := ⟨RJ0, "coder", "()B"⟩
abbrev cJ0_isLatin1_aae02 : ByteArray := prog_14_method_154_code
def yJ0_isLatin1_aae02 : MethodName := ⟨RJ0, "isLatin1", "()Z"⟩
abbrev cJ0_checkIndex_df160 : ByteArray := prog_14_method_155_code
def yJ0_checkIndex_df160 : MethodName := ⟨RJ0, "checkIndex", "(II)V"⟩
abbrev cJ0_checkBoundsBeginEnd_23922 : ByteArray := prog_14_method_158_code
def yJ0_checkBoundsBeginEnd_23922 : MethodName := ⟨RJ0, "checkBoundsBeginEnd", "(III)V"⟩
def RJ1 : String := "java/lang/StringLatin1"
def TJ1 : u_T := fun k => match k with
  | _ => ("", "", "", false)
def tyJ1 : Nat → FieldType := fun k => match k with
  | _ => .int
theorem nmJ1 : ∀ a, a < 0 → ∀ b, b < 0 → a ≠ b → (TJ1 a).2.1 ≠ (TJ1 b).2.1 := by decide +kernel
theorem tyJ1_ok : ∀ k, k < 0 → parseFieldDescriptor (TJ1 k).2.2.1 = some (tyJ1 k) := by decide +kernel
abbrev cJ1_charAt_3b067 : ByteArray := prog_15_method_2_code
def yJ1_charAt_3b067 : MethodName := ⟨RJ1, "charAt", "([BI)C"⟩
abbrev cJ1_canEncode_9a6ad : ByteArray := prog_15_method_4_code
def yJ1_canEncode_9a6ad : MethodName := ⟨RJ1, "canEncode", "(I)Z"⟩
abbrev cJ1_indexOf_4cfef : ByteArray := prog_15_method_22_code
def yJ1_indexOf_4cfef : MethodName := ⟨RJ1, "indexOf", "([BIII)I"⟩
abbrev cJ1_indexOfChar_4cfef : ByteArray := prog_15_method_23_code
def yJ1_indexOfChar_4cfef : MethodName := ⟨RJ1, "indexOfChar", "([BIII)I"⟩
def RJ2 : String := "java/lang/StringUTF16"
def TJ2 : u_T := fun k => match k with
  | _ => ("", "", "", false)
def tyJ2 : Nat → FieldType := fun k => match k with
  | _ => .int
theorem nmJ2 : ∀ a, a < 0 → ∀ b, b < 0 → a ≠ b → (TJ2 a).2.1 ≠ (TJ2 b).2.1 := by decide +kernel
theorem tyJ2_ok : ∀ k, k < 0 → parseFieldDescriptor (TJ2 k).2.2.1 = some (tyJ2 k) := by decide +kernel
abbrev cJ2_getChar_3b067 : ByteArray := prog_16_method_5_code
def yJ2_getChar_3b067 : MethodName := ⟨RJ2, "getChar", "([BI)C"⟩
abbrev cJ2_length_9d52b : ByteArray := prog_16_method_6_code
def yJ2_length_9d52b : MethodName := ⟨RJ2, "length", "([B)I"⟩
abbrev cJ2_indexOf_4cfef : ByteArray := prog_16_method_40_code
def yJ2_indexOf_4cfef : MethodName := ⟨RJ2, "indexOf", "([BIII)I"⟩
abbrev cJ2_indexOfChar_4cfef : ByteArray := prog_16_method_47_code
def yJ2_indexOfChar_4cfef : MethodName := ⟨RJ2, "indexOfChar", "([BIII)I"⟩
abbrev cJ2_indexOfCharUnsafe_4cfef : ByteArray := prog_16_method_48_code
def yJ2_indexOfCharUnsafe_4cfef : MethodName := ⟨RJ2, "indexOfCharUnsafe", "([BIII)I"⟩
abbrev cJ2_indexOfSupplementary_4cfef : ByteArray := prog_16_method_49_code
def yJ2_indexOfSupplementary_4cfef : MethodName := ⟨RJ2, "indexOfSupplementary", "([BIII)I"⟩
abbrev cJ2_charAt_3b067 : ByteArray := prog_16_method_83_code
def yJ2_charAt_3b067 : MethodName := ⟨RJ2, "charAt", "([BI)C"⟩
abbrev cJ2_checkIndex_2214a : ByteArray := prog_16_method_91_code
def yJ2_checkIndex_2214a : MethodName := ⟨RJ2, "checkIndex", "(I[B)V"⟩
abbrev cJ2_checkBoundsBeginEnd_d044e : ByteArray := prog_16_method_93_code
def yJ2_checkBoundsBeginEnd_d044e : MethodName := ⟨RJ2, "checkBoundsBeginEnd", "(II[B)V"⟩
def RJ10 : String := "java/lang/System"
def TJ10 : u_T := fun k => match k with
  | _ => ("", "", "", false)
def tyJ10 : Nat → FieldType := fun k => match k with
  | _ => .int
theorem nmJ10 : ∀ a, a < 0 → ∀ b, b < 0 → a ≠ b → (TJ10 a).2.1 ≠ (TJ10 b).2.1 := by decide +kernel
theorem tyJ10_ok : ∀ k, k < 0 → parseFieldDescriptor (TJ10 k).2.2.1 = some (tyJ10 k) := by decide +kernel
def RJ3 : String := "jdk/internal/util/Preconditions"
def TJ3 : u_T := fun k => match k with
  | _ => ("", "", "", false)
def tyJ3 : Nat → FieldType := fun k => match k with
  | _ => .int
theorem nmJ3 : ∀ a, a < 0 → ∀ b, b < 0 → a ≠ b → (TJ3 a).2.1 ≠ (TJ3 b).2.1 := by decide +kernel
theorem tyJ3_ok : ∀ k, k < 0 → parseFieldDescriptor (TJ3 k).2.2.1 = some (tyJ3 k) := by decide +kernel
abbrev cJ3_checkIndex_8e157 : ByteArray := prog_18_method_11_code
def yJ3_checkIndex_8e157 : MethodName := ⟨RJ3, "checkIndex", "(IILjava/util/function/BiFunction;)I"⟩
abbrev cJ3_checkFromToIndex_8c36e : ByteArray := prog_18_method_12_code
def yJ3_checkFromToIndex_8c36e : MethodName := ⟨RJ3, "checkFromToIndex", "(IIILjava/util/function/BiFunction;)I"⟩
def RL : String := "PalmJuryLaw"
abbrev cL_law : ByteArray := code
def yL_law : MethodName := ⟨RL, "law", "([I)Z"⟩
abbrev vwCl : List vw_C := [(RX0, TX0, 16), (RX2, TX2, 4), (RX3, TX3, 2), (RX4, TX4, 3), (RX5, TX5, 5), (RX6, TX6, 7), (RX7, TX7, 10), (RX8, TX8, 34)]
/-- the good words of the tables -/
def tb : List Cond := lw_tbl.filter goodWord
theorem tb_mem {w : Cond} (i : Nat) (h : lw_tbl[i]? = some w) (hg : goodWord w = true) : w ∈ tb := List.mem_filter.mpr ⟨List.mem_of_getElem? h, hg⟩
theorem tb_in {w : Cond} (h : w ∈ tb) : w ∈ lw_tbl := (List.mem_filter.mp h).1
theorem tb_sub {ws : List Cond} (h : ws.all (fun w => decide (w ∈ lw_tbl) && goodWord w) = true) : ∀ w ∈ ws, w ∈ tb := fun w hw => by
  have h1 := List.all_eq_true.mp h w hw
  simp only [Bool.and_eq_true, decide_eq_true_eq] at h1
  exact List.mem_filter.mpr h1
/-- which fields are references, by class and place -/
def g_tab : List (List Bool) := [[true, true, true, true, true, true, true, true, false, false, false, false, false, false, false, false], [false, false, true, false], [true, true], [false, false, true], [false, false, false, false, true], [false, true, true, false, false, false, false], [true, true, true, true, true, true, true, true, false, false], [true, true, true, false, false, true, true, false, false, false, false, false, false, false, true, true, true, false, false, true, false, true, true, true, true, true, true, true, true, true, true, true, true, false]]
/-- a class: its rows of the tables -/
def CF (ci : Nat) (C : String) (T : u_T) (N : Nat) (ty : Nat → FieldType) : Prop := vwCl[ci]? = some (C, T, N) ∧ (∀ w ∈ u_ws C T N, w ∈ tb) ∧ (∀ k, k < N → parseFieldDescriptor (T k).2.2.1 = some (ty k)) ∧ (∀ a, a < N → ∀ b, b < N → a ≠ b → (T a).2.1 ≠ (T b).2.1) ∧ (g_tab.getD ci []).length = N ∧ Cond.instantiable C N ∈ tb ∧ Cond.initialized C ∈ tb ∧ (∀ k, k < N → ty k ≠ .long ∧ ty k ≠ .double ∧ ty k ≠ .float) ∧ (∀ k, k < N → defaultValue (ty k) = if (g_tab.getD ci []).getD k false then Value.null else Value.int 0) ∧ ci < 8
set_option maxRecDepth 100000 in
theorem cf_0 : CF 0 RX0 TX0 16 tyX0 := ⟨rfl, tb_sub (by decide +kernel), tyX0_ok, nmX0, by decide +kernel, tb_mem 148 (by decide +kernel) (by decide +kernel), tb_mem 57 (by decide +kernel) (by decide +kernel), by decide +kernel, by decide +kernel, by decide⟩
set_option maxRecDepth 100000 in
theorem cf_1 : CF 1 RX2 TX2 4 tyX2 := ⟨rfl, tb_sub (by decide +kernel), tyX2_ok, nmX2, by decide +kernel, tb_mem 86 (by decide +kernel) (by decide +kernel), tb_mem 55 (by decide +kernel) (by decide +kernel), by decide +kernel, by decide +kernel, by decide⟩
set_option maxRecDepth 100000 in
theorem cf_2 : CF 2 RX3 TX3 2 tyX3 := ⟨rfl, tb_sub (by decide +kernel), tyX3_ok, nmX3, by decide +kernel, tb_mem 79 (by decide +kernel) (by decide +kernel), tb_mem 54 (by decide +kernel) (by decide +kernel), by decide +kernel, by decide +kernel, by decide⟩
set_option maxRecDepth 100000 in
theorem cf_3 : CF 3 RX4 TX4 3 tyX4 := ⟨rfl, tb_sub (by decide +kernel), tyX4_ok, nmX4, by decide +kernel, tb_mem 221 (by decide +kernel) (by decide +kernel), tb_mem 58 (by decide +kernel) (by decide +kernel), by decide +kernel, by decide +kernel, by decide⟩
set_option maxRecDepth 100000 in
theorem cf_4 : CF 4 RX5 TX5 5 tyX5 := ⟨rfl, tb_sub (by decide +kernel), tyX5_ok, nmX5, by decide +kernel, tb_mem 241 (by decide +kernel) (by decide +kernel), tb_mem 59 (by decide +kernel) (by decide +kernel), by decide +kernel, by decide +kernel, by decide⟩
set_option maxRecDepth 100000 in
theorem cf_5 : CF 5 RX6 TX6 7 tyX6 := ⟨rfl, tb_sub (by decide +kernel), tyX6_ok, nmX6, by decide +kernel, tb_mem 116 (by decide +kernel) (by decide +kernel), tb_mem 56 (by decide +kernel) (by decide +kernel), by decide +kernel, by decide +kernel, by decide⟩
set_option maxRecDepth 100000 in
theorem cf_6 : CF 6 RX7 TX7 10 tyX7 := ⟨rfl, tb_sub (by decide +kernel), tyX7_ok, nmX7, by decide +kernel, tb_mem 71 (by decide +kernel) (by decide +kernel), tb_mem 53 (by decide +kernel) (by decide +kernel), by decide +kernel, by decide +kernel, by decide⟩
set_option maxRecDepth 100000 in
theorem cf_7 : CF 7 RX8 TX8 34 tyX8 := ⟨rfl, tb_sub (by decide +kernel), tyX8_ok, nmX8, by decide +kernel, tb_mem 881 (by decide +kernel) (by decide +kernel), tb_mem 60 (by decide +kernel) (by decide +kernel), by decide +kernel, by decide +kernel, by decide⟩
/-- a field as an instruction of a class names it -/
def FR (own : String) (idx ci i : Nat) (r : Bool) (fin : Bool) (ft : FieldType) : Prop := ∃ (C : String) (T : u_T) (N : Nat) (ty : Nat → FieldType), CF ci C T N ty ∧ i < N ∧ Cond.fieldLink own idx (T i).1 (T i).2.1 (T i).2.2.1 ∈ tb ∧ (g_tab.getD ci []).getD i false = r ∧ (T i).2.2.2 = fin ∧ ty i = ft ∧ (fin = true → (T i).1 = own)
/-- the same, for reading alone -/
def FG (own : String) (idx ci i : Nat) (r : Bool) (fin : Bool) (ft : FieldType) : Prop := ∃ (C : String) (T : u_T) (N : Nat) (ty : Nat → FieldType), CF ci C T N ty ∧ i < N ∧ Cond.fieldLink own idx (T i).1 (T i).2.1 (T i).2.2.1 ∈ tb ∧ (g_tab.getD ci []).getD i false = r ∧ (T i).2.2.2 = fin ∧ ty i = ft
theorem FR.g {own : String} {idx ci i : Nat} {r fin : Bool} {ft : FieldType} (h : FR own idx ci i r fin ft) : FG own idx ci i r fin ft := by
  obtain ⟨C, T, N, ty, h1, h2, h3, h4, h5, h6, -⟩ := h
  exact ⟨C, T, N, ty, h1, h2, h3, h4, h5, h6⟩
theorem fr_X7_10 : FR RX7 10 6 0 true true (.object "PalmJury$Laws") := ⟨RX7, TX7, 10, tyX7, cf_6, by decide, tb_mem 266 (by decide +kernel) (by decide +kernel), by decide +kernel, rfl, rfl, fun _ => rfl⟩
theorem fr_X7_19 : FR RX7 19 6 1 true true (.object "PalmJury$Tape") := ⟨RX7, TX7, 10, tyX7, cf_6, by decide, tb_mem 267 (by decide +kernel) (by decide +kernel), by decide +kernel, rfl, rfl, fun _ => rfl⟩
theorem fr_X7_28 : FR RX7 28 6 2 true true (.object "PalmJury$Jury") := ⟨RX7, TX7, 10, tyX7, cf_6, by decide, tb_mem 268 (by decide +kernel) (by decide +kernel), by decide +kernel, rfl, rfl, fun _ => rfl⟩
theorem fr_X7_32 : FR RX7 32 6 3 true true (.object "PalmJury$Jury") := ⟨RX7, TX7, 10, tyX7, cf_6, by decide, tb_mem 269 (by decide +kernel) (by decide +kernel), by decide +kernel, rfl, rfl, fun _ => rfl⟩
theorem fr_X7_35 : FR RX7 35 6 4 true true (.object "PalmJury$Jury") := ⟨RX7, TX7, 10, tyX7, cf_6, by decide, tb_mem 270 (by decide +kernel) (by decide +kernel), by decide +kernel, rfl, rfl, fun _ => rfl⟩
theorem fr_X7_40 : FR RX7 40 6 5 true true (.array (.object "PalmJury$Row")) := ⟨RX7, TX7, 10, tyX7, cf_6, by decide, tb_mem 271 (by decide +kernel) (by decide +kernel), by decide +kernel, rfl, rfl, fun _ => rfl⟩
theorem fr_X7_47 : FR RX7 47 6 6 true true (.array (.object "PalmJury$Slot")) := ⟨RX7, TX7, 10, tyX7, cf_6, by decide, tb_mem 272 (by decide +kernel) (by decide +kernel), by decide +kernel, rfl, rfl, fun _ => rfl⟩
theorem fr_X7_52 : FR RX7 52 6 7 true true (.array .int) := ⟨RX7, TX7, 10, tyX7, cf_6, by decide, tb_mem 273 (by decide +kernel) (by decide +kernel), by decide +kernel, rfl, rfl, fun _ => rfl⟩
theorem fr_X7_61 : FR RX7 61 0 8 false false (.int) := ⟨RX0, TX0, 16, tyX0, cf_0, by decide, tb_mem 170 (by decide +kernel) (by decide +kernel), by decide +kernel, rfl, rfl, fun h => nomatch h⟩
theorem fr_X7_74 : FG RX7 74 0 1 true true (.array .int) := ⟨RX0, TX0, 16, tyX0, cf_0, by decide, tb_mem 155 (by decide +kernel) (by decide +kernel), by decide +kernel, rfl, rfl⟩
theorem fr_X7_77 : FG RX7 77 0 2 true true (.array .int) := ⟨RX0, TX0, 16, tyX0, cf_0, by decide, tb_mem 158 (by decide +kernel) (by decide +kernel), by decide +kernel, rfl, rfl⟩
theorem fr_X7_80 : FG RX7 80 0 3 true true (.array .int) := ⟨RX0, TX0, 16, tyX0, cf_0, by decide, tb_mem 160 (by decide +kernel) (by decide +kernel), by decide +kernel, rfl, rfl⟩
theorem fr_X7_83 : FG RX7 83 0 4 true true (.array .int) := ⟨RX0, TX0, 16, tyX0, cf_0, by decide, tb_mem 163 (by decide +kernel) (by decide +kernel), by decide +kernel, rfl, rfl⟩
theorem fr_X7_86 : FG RX7 86 0 5 true true (.array .int) := ⟨RX0, TX0, 16, tyX0, cf_0, by decide, tb_mem 165 (by decide +kernel) (by decide +kernel), by decide +kernel, rfl, rfl⟩
theorem fr_X7_127 : FG RX7 127 0 6 true true (.array .int) := ⟨RX0, TX0, 16, tyX0, cf_0, by decide, tb_mem 167 (by decide +kernel) (by decide +kernel), by decide +kernel, rfl, rfl⟩
theorem fr_X7_130 : FR RX7 130 0 9 false false (.int) := ⟨RX0, TX0, 16, tyX0, cf_0, by decide, tb_mem 173 (by decide +kernel) (by decide +kernel), by decide +kernel, rfl, rfl, fun h => nomatch h⟩
theorem fr_X7_133 : FR RX7 133 0 10 false false (.int) := ⟨RX0, TX0, 16, tyX0, cf_0, by decide, tb_mem 175 (by decide +kernel) (by decide +kernel), by decide +kernel, rfl, rfl, fun h => nomatch h⟩
theorem fr_X7_136 : FR RX7 136 0 11 false false (.int) := ⟨RX0, TX0, 16, tyX0, cf_0, by decide, tb_mem 177 (by decide +kernel) (by decide +kernel), by decide +kernel, rfl, rfl, fun h => nomatch h⟩
theorem fr_X7_147 : FR RX7 147 0 14 false false (.int) := ⟨RX0, TX0, 16, tyX0, cf_0, by decide, tb_mem 183 (by decide +kernel) (by decide +kernel), by decide +kernel, rfl, rfl, fun h => nomatch h⟩
theorem fr_X7_153 : FR RX7 153 0 13 false false (.int) := ⟨RX0, TX0, 16, tyX0, cf_0, by decide, tb_mem 181 (by decide +kernel) (by decide +kernel), by decide +kernel, rfl, rfl, fun h => nomatch h⟩
theorem fr_X7_166 : FR RX7 166 0 12 false false (.int) := ⟨RX0, TX0, 16, tyX0, cf_0, by decide, tb_mem 179 (by decide +kernel) (by decide +kernel), by decide +kernel, rfl, rfl, fun h => nomatch h⟩
theorem fr_X7_189 : FR RX7 189 3 0 false false (.int) := ⟨RX4, TX4, 3, tyX4, cf_3, by decide, tb_mem 227 (by decide +kernel) (by decide +kernel), by decide +kernel, rfl, rfl, fun h => nomatch h⟩
theorem fr_X7_197 : FG RX7 197 0 7 true true (.array .int) := ⟨RX0, TX0, 16, tyX0, cf_0, by decide, tb_mem 169 (by decide +kernel) (by decide +kernel), by decide +kernel, rfl, rfl⟩
theorem fr_X7_204 : FR RX7 204 5 0 false false (.int) := ⟨RX6, TX6, 7, tyX6, cf_5, by decide, tb_mem 124 (by decide +kernel) (by decide +kernel), by decide +kernel, rfl, rfl, fun h => nomatch h⟩
theorem fr_X7_214 : FR RX7 214 0 15 false false (.int) := ⟨RX0, TX0, 16, tyX0, cf_0, by decide, tb_mem 185 (by decide +kernel) (by decide +kernel), by decide +kernel, rfl, rfl, fun h => nomatch h⟩
theorem fr_X7_221 : FG RX7 221 5 2 true true (.object "PalmJury$Law") := ⟨RX6, TX6, 7, tyX6, cf_5, by decide, tb_mem 127 (by decide +kernel) (by decide +kernel), by decide +kernel, rfl, rfl⟩
theorem fr_X7_230 : FR RX7 230 1 0 false false (.int) := ⟨RX2, TX2, 4, tyX2, cf_1, by decide, tb_mem 93 (by decide +kernel) (by decide +kernel), by decide +kernel, rfl, rfl, fun h => nomatch h⟩
theorem fr_X7_237 : FR RX7 237 1 1 false false (.int) := ⟨RX2, TX2, 4, tyX2, cf_1, by decide, tb_mem 95 (by decide +kernel) (by decide +kernel), by decide +kernel, rfl, rfl, fun h => nomatch h⟩
theorem fr_X7_244 : FR RX7 244 3 1 false false (.int) := ⟨RX4, TX4, 3, tyX4, cf_3, by decide, tb_mem 229 (by decide +kernel) (by decide +kernel), by decide +kernel, rfl, rfl, fun h => nomatch h⟩
theorem fr_X7_247 : FG RX7 247 3 2 true true (.array .int) := ⟨RX4, TX4, 3, tyX4, cf_3, by decide, tb_mem 231 (by decide +kernel) (by decide +kernel), by decide +kernel, rfl, rfl⟩
theorem fr_X7_267 : FR RX7 267 4 0 false false (.int) := ⟨RX5, TX5, 5, tyX5, cf_4, by decide, tb_mem 249 (by decide +kernel) (by decide +kernel), by decide +kernel, rfl, rfl, fun h => nomatch h⟩
theorem fr_X7_270 : FR RX7 270 4 1 false false (.int) := ⟨RX5, TX5, 5, tyX5, cf_4, by decide, tb_mem 250 (by decide +kernel) (by decide +kernel), by decide +kernel, rfl, rfl, fun h => nomatch h⟩
theorem fr_X7_272 : FR RX7 272 4 2 false false (.int) := ⟨RX5, TX5, 5, tyX5, cf_4, by decide, tb_mem 251 (by decide +kernel) (by decide +kernel), by decide +kernel, rfl, rfl, fun h => nomatch h⟩
theorem fr_X7_274 : FG RX7 274 4 4 true true (.object "PalmJury$Row") := ⟨RX5, TX5, 5, tyX5, cf_4, by decide, tb_mem 254 (by decide +kernel) (by decide +kernel), by decide +kernel, rfl, rfl⟩
theorem fr_X7_281 : FR RX7 281 4 3 false false (.int) := ⟨RX5, TX5, 5, tyX5, cf_4, by decide, tb_mem 252 (by decide +kernel) (by decide +kernel), by decide +kernel, rfl, rfl, fun h => nomatch h⟩
theorem fr_X7_285 : FR RX7 285 6 8 false false (.int) := ⟨RX7, TX7, 10, tyX7, cf_6, by decide, tb_mem 274 (by decide +kernel) (by decide +kernel), by decide +kernel, rfl, rfl, fun h => nomatch h⟩
theorem fr_X7_288 : FR RX7 288 6 9 false false (.boolean) := ⟨RX7, TX7, 10, tyX7, cf_6, by decide, tb_mem 275 (by decide +kernel) (by decide +kernel), by decide +kernel, rfl, rfl, fun h => nomatch h⟩
theorem fr_X0_9 : FR RX0 9 0 1 true true (.array .int) := ⟨RX0, TX0, 16, tyX0, cf_0, by decide, tb_mem 154 (by decide +kernel) (by decide +kernel), by decide +kernel, rfl, rfl, fun _ => rfl⟩
theorem fr_X0_15 : FR RX0 15 0 2 true true (.array .int) := ⟨RX0, TX0, 16, tyX0, cf_0, by decide, tb_mem 157 (by decide +kernel) (by decide +kernel), by decide +kernel, rfl, rfl, fun _ => rfl⟩
theorem fr_X0_18 : FR RX0 18 0 3 true true (.array .int) := ⟨RX0, TX0, 16, tyX0, cf_0, by decide, tb_mem 159 (by decide +kernel) (by decide +kernel), by decide +kernel, rfl, rfl, fun _ => rfl⟩
theorem fr_X0_21 : FR RX0 21 0 4 true true (.array .int) := ⟨RX0, TX0, 16, tyX0, cf_0, by decide, tb_mem 162 (by decide +kernel) (by decide +kernel), by decide +kernel, rfl, rfl, fun _ => rfl⟩
theorem fr_X0_24 : FR RX0 24 0 5 true true (.array .int) := ⟨RX0, TX0, 16, tyX0, cf_0, by decide, tb_mem 164 (by decide +kernel) (by decide +kernel), by decide +kernel, rfl, rfl, fun _ => rfl⟩
theorem fr_X0_27 : FR RX0 27 0 6 true true (.array .int) := ⟨RX0, TX0, 16, tyX0, cf_0, by decide, tb_mem 166 (by decide +kernel) (by decide +kernel), by decide +kernel, rfl, rfl, fun _ => rfl⟩
theorem fr_X0_30 : FR RX0 30 0 7 true true (.array .int) := ⟨RX0, TX0, 16, tyX0, cf_0, by decide, tb_mem 168 (by decide +kernel) (by decide +kernel), by decide +kernel, rfl, rfl, fun _ => rfl⟩
theorem fr_X0_33 : FR RX0 33 0 9 false false (.int) := ⟨RX0, TX0, 16, tyX0, cf_0, by decide, tb_mem 172 (by decide +kernel) (by decide +kernel), by decide +kernel, rfl, rfl, fun h => nomatch h⟩
theorem fr_X0_37 : FR RX0 37 0 10 false false (.int) := ⟨RX0, TX0, 16, tyX0, cf_0, by decide, tb_mem 174 (by decide +kernel) (by decide +kernel), by decide +kernel, rfl, rfl, fun h => nomatch h⟩
theorem fr_X0_40 : FR RX0 40 0 14 false false (.int) := ⟨RX0, TX0, 16, tyX0, cf_0, by decide, tb_mem 182 (by decide +kernel) (by decide +kernel), by decide +kernel, rfl, rfl, fun h => nomatch h⟩
theorem fr_X0_43 : FR RX0 43 0 0 true true (.object "PalmJury$Laws") := ⟨RX0, TX0, 16, tyX0, cf_0, by decide, tb_mem 153 (by decide +kernel) (by decide +kernel), by decide +kernel, rfl, rfl, fun _ => rfl⟩
theorem fr_X0_53 : FR RX0 53 0 8 false false (.int) := ⟨RX0, TX0, 16, tyX0, cf_0, by decide, tb_mem 171 (by decide +kernel) (by decide +kernel), by decide +kernel, rfl, rfl, fun h => nomatch h⟩
theorem fr_X0_56 : FR RX0 56 0 11 false false (.int) := ⟨RX0, TX0, 16, tyX0, cf_0, by decide, tb_mem 176 (by decide +kernel) (by decide +kernel), by decide +kernel, rfl, rfl, fun h => nomatch h⟩
theorem fr_X0_59 : FR RX0 59 0 12 false false (.int) := ⟨RX0, TX0, 16, tyX0, cf_0, by decide, tb_mem 178 (by decide +kernel) (by decide +kernel), by decide +kernel, rfl, rfl, fun h => nomatch h⟩
theorem fr_X0_62 : FR RX0 62 0 13 false false (.int) := ⟨RX0, TX0, 16, tyX0, cf_0, by decide, tb_mem 180 (by decide +kernel) (by decide +kernel), by decide +kernel, rfl, rfl, fun h => nomatch h⟩
theorem fr_X0_65 : FR RX0 65 0 15 false false (.int) := ⟨RX0, TX0, 16, tyX0, cf_0, by decide, tb_mem 184 (by decide +kernel) (by decide +kernel), by decide +kernel, rfl, rfl, fun h => nomatch h⟩
theorem fr_X1_37 : FG RX1 37 0 3 true true (.array .int) := ⟨RX0, TX0, 16, tyX0, cf_0, by decide, tb_mem 161 (by decide +kernel) (by decide +kernel), by decide +kernel, rfl, rfl⟩
theorem fr_X1_43 : FG RX1 43 0 1 true true (.array .int) := ⟨RX0, TX0, 16, tyX0, cf_0, by decide, tb_mem 156 (by decide +kernel) (by decide +kernel), by decide +kernel, rfl, rfl⟩
theorem fr_X2_9 : FR RX2 9 1 2 true true (.array .int) := ⟨RX2, TX2, 4, tyX2, cf_1, by decide, tb_mem 96 (by decide +kernel) (by decide +kernel), by decide +kernel, rfl, rfl, fun _ => rfl⟩
theorem fr_X2_15 : FR RX2 15 1 0 false false (.int) := ⟨RX2, TX2, 4, tyX2, cf_1, by decide, tb_mem 91 (by decide +kernel) (by decide +kernel), by decide +kernel, rfl, rfl, fun h => nomatch h⟩
theorem fr_X2_19 : FR RX2 19 1 1 false false (.int) := ⟨RX2, TX2, 4, tyX2, cf_1, by decide, tb_mem 94 (by decide +kernel) (by decide +kernel), by decide +kernel, rfl, rfl, fun h => nomatch h⟩
theorem fr_X2_22 : FR RX2 22 1 3 false false (.int) := ⟨RX2, TX2, 4, tyX2, cf_1, by decide, tb_mem 97 (by decide +kernel) (by decide +kernel), by decide +kernel, rfl, rfl, fun h => nomatch h⟩
theorem fr_X3_9 : FR RX3 9 2 1 true true (.array .int) := ⟨RX3, TX3, 2, tyX3, cf_2, by decide, tb_mem 109 (by decide +kernel) (by decide +kernel), by decide +kernel, rfl, rfl, fun _ => rfl⟩
theorem fr_X3_17 : FR RX3 17 2 0 true true (.array (.object "PalmJury$Law")) := ⟨RX3, TX3, 2, tyX3, cf_2, by decide, tb_mem 108 (by decide +kernel) (by decide +kernel), by decide +kernel, rfl, rfl, fun _ => rfl⟩
theorem fr_X4_9 : FR RX4 9 3 0 false false (.int) := ⟨RX4, TX4, 3, tyX4, cf_3, by decide, tb_mem 226 (by decide +kernel) (by decide +kernel), by decide +kernel, rfl, rfl, fun h => nomatch h⟩
theorem fr_X4_15 : FR RX4 15 3 2 true true (.array .int) := ⟨RX4, TX4, 3, tyX4, cf_3, by decide, tb_mem 230 (by decide +kernel) (by decide +kernel), by decide +kernel, rfl, rfl, fun _ => rfl⟩
theorem fr_X4_23 : FR RX4 23 3 1 false false (.int) := ⟨RX4, TX4, 3, tyX4, cf_3, by decide, tb_mem 228 (by decide +kernel) (by decide +kernel), by decide +kernel, rfl, rfl, fun h => nomatch h⟩
theorem fr_X5_9 : FR RX5 9 4 0 false false (.int) := ⟨RX5, TX5, 5, tyX5, cf_4, by decide, tb_mem 248 (by decide +kernel) (by decide +kernel), by decide +kernel, rfl, rfl, fun h => nomatch h⟩
theorem fr_X5_18 : FR RX5 18 4 4 true true (.object "PalmJury$Row") := ⟨RX5, TX5, 5, tyX5, cf_4, by decide, tb_mem 253 (by decide +kernel) (by decide +kernel), by decide +kernel, rfl, rfl, fun _ => rfl⟩
theorem fr_X6_9 : FR RX6 9 5 1 true true (.array .int) := ⟨RX6, TX6, 7, tyX6, cf_5, by decide, tb_mem 125 (by decide +kernel) (by decide +kernel), by decide +kernel, rfl, rfl, fun _ => rfl⟩
theorem fr_X6_18 : FR RX6 18 5 2 true true (.object "PalmJury$Law") := ⟨RX6, TX6, 7, tyX6, cf_5, by decide, tb_mem 126 (by decide +kernel) (by decide +kernel), by decide +kernel, rfl, rfl, fun _ => rfl⟩
theorem fr_X6_22 : FR RX6 22 5 0 false false (.int) := ⟨RX6, TX6, 7, tyX6, cf_5, by decide, tb_mem 123 (by decide +kernel) (by decide +kernel), by decide +kernel, rfl, rfl, fun h => nomatch h⟩
theorem fr_X6_26 : FR RX6 26 5 4 false false (.int) := ⟨RX6, TX6, 7, tyX6, cf_5, by decide, tb_mem 129 (by decide +kernel) (by decide +kernel), by decide +kernel, rfl, rfl, fun h => nomatch h⟩
theorem fr_X6_29 : FR RX6 29 5 5 false false (.int) := ⟨RX6, TX6, 7, tyX6, cf_5, by decide, tb_mem 130 (by decide +kernel) (by decide +kernel), by decide +kernel, rfl, rfl, fun h => nomatch h⟩
theorem fr_X6_39 : FR RX6 39 5 3 false false (.int) := ⟨RX6, TX6, 7, tyX6, cf_5, by decide, tb_mem 128 (by decide +kernel) (by decide +kernel), by decide +kernel, rfl, rfl, fun h => nomatch h⟩
theorem fr_X6_57 : FR RX6 57 5 6 false false (.boolean) := ⟨RX6, TX6, 7, tyX6, cf_5, by decide, tb_mem 131 (by decide +kernel) (by decide +kernel), by decide +kernel, rfl, rfl, fun h => nomatch h⟩
theorem fr_X6_131 : FR RX6 131 1 0 false false (.int) := ⟨RX2, TX2, 4, tyX2, cf_1, by decide, tb_mem 92 (by decide +kernel) (by decide +kernel), by decide +kernel, rfl, rfl, fun h => nomatch h⟩
theorem fr_X8_9 : FR RX8 9 7 0 true true (.array .int) := ⟨RX8, TX8, 34, tyX8, cf_7, by decide, tb_mem 886 (by decide +kernel) (by decide +kernel), by decide +kernel, rfl, rfl, fun _ => rfl⟩
theorem fr_X8_13 : FR RX8 13 7 1 true true (.array .int) := ⟨RX8, TX8, 34, tyX8, cf_7, by decide, tb_mem 887 (by decide +kernel) (by decide +kernel), by decide +kernel, rfl, rfl, fun _ => rfl⟩
theorem fr_X8_16 : FR RX8 16 7 2 true true (.array .int) := ⟨RX8, TX8, 34, tyX8, cf_7, by decide, tb_mem 888 (by decide +kernel) (by decide +kernel), by decide +kernel, rfl, rfl, fun _ => rfl⟩
theorem fr_X8_19 : FR RX8 19 7 4 false false (.int) := ⟨RX8, TX8, 34, tyX8, cf_7, by decide, tb_mem 890 (by decide +kernel) (by decide +kernel), by decide +kernel, rfl, rfl, fun h => nomatch h⟩
theorem fr_X8_23 : FR RX8 23 7 5 true true (.array .int) := ⟨RX8, TX8, 34, tyX8, cf_7, by decide, tb_mem 891 (by decide +kernel) (by decide +kernel), by decide +kernel, rfl, rfl, fun _ => rfl⟩
theorem fr_X8_26 : FR RX8 26 7 6 true true (.array .int) := ⟨RX8, TX8, 34, tyX8, cf_7, by decide, tb_mem 892 (by decide +kernel) (by decide +kernel), by decide +kernel, rfl, rfl, fun _ => rfl⟩
theorem fr_X8_29 : FR RX8 29 7 14 true true (.array .char) := ⟨RX8, TX8, 34, tyX8, cf_7, by decide, tb_mem 900 (by decide +kernel) (by decide +kernel), by decide +kernel, rfl, rfl, fun _ => rfl⟩
theorem fr_X8_33 : FR RX8 33 7 15 true true (.array .int) := ⟨RX8, TX8, 34, tyX8, cf_7, by decide, tb_mem 901 (by decide +kernel) (by decide +kernel), by decide +kernel, rfl, rfl, fun _ => rfl⟩
theorem fr_X8_36 : FR RX8 36 7 16 true true (.array .int) := ⟨RX8, TX8, 34, tyX8, cf_7, by decide, tb_mem 902 (by decide +kernel) (by decide +kernel), by decide +kernel, rfl, rfl, fun _ => rfl⟩
theorem fr_X8_39 : FR RX8 39 7 19 true true (.array .int) := ⟨RX8, TX8, 34, tyX8, cf_7, by decide, tb_mem 905 (by decide +kernel) (by decide +kernel), by decide +kernel, rfl, rfl, fun _ => rfl⟩
theorem fr_X8_42 : FR RX8 42 7 21 true true (.array .boolean) := ⟨RX8, TX8, 34, tyX8, cf_7, by decide, tb_mem 907 (by decide +kernel) (by decide +kernel), by decide +kernel, rfl, rfl, fun _ => rfl⟩
theorem fr_X8_46 : FR RX8 46 7 22 true true (.array .int) := ⟨RX8, TX8, 34, tyX8, cf_7, by decide, tb_mem 908 (by decide +kernel) (by decide +kernel), by decide +kernel, rfl, rfl, fun _ => rfl⟩
theorem fr_X8_49 : FR RX8 49 7 23 true true (.array .int) := ⟨RX8, TX8, 34, tyX8, cf_7, by decide, tb_mem 909 (by decide +kernel) (by decide +kernel), by decide +kernel, rfl, rfl, fun _ => rfl⟩
theorem fr_X8_52 : FR RX8 52 7 24 true true (.array .int) := ⟨RX8, TX8, 34, tyX8, cf_7, by decide, tb_mem 910 (by decide +kernel) (by decide +kernel), by decide +kernel, rfl, rfl, fun _ => rfl⟩
theorem fr_X8_55 : FR RX8 55 7 25 true true (.array .int) := ⟨RX8, TX8, 34, tyX8, cf_7, by decide, tb_mem 911 (by decide +kernel) (by decide +kernel), by decide +kernel, rfl, rfl, fun _ => rfl⟩
theorem fr_X8_58 : FR RX8 58 7 26 true true (.array .int) := ⟨RX8, TX8, 34, tyX8, cf_7, by decide, tb_mem 912 (by decide +kernel) (by decide +kernel), by decide +kernel, rfl, rfl, fun _ => rfl⟩
theorem fr_X8_61 : FR RX8 61 7 27 true true (.array .int) := ⟨RX8, TX8, 34, tyX8, cf_7, by decide, tb_mem 913 (by decide +kernel) (by decide +kernel), by decide +kernel, rfl, rfl, fun _ => rfl⟩
theorem fr_X8_64 : FR RX8 64 7 28 true true (.array .int) := ⟨RX8, TX8, 34, tyX8, cf_7, by decide, tb_mem 914 (by decide +kernel) (by decide +kernel), by decide +kernel, rfl, rfl, fun _ => rfl⟩
theorem fr_X8_67 : FR RX8 67 7 29 true true (.array .int) := ⟨RX8, TX8, 34, tyX8, cf_7, by decide, tb_mem 915 (by decide +kernel) (by decide +kernel), by decide +kernel, rfl, rfl, fun _ => rfl⟩
theorem fr_X8_70 : FR RX8 70 7 30 true true (.array .int) := ⟨RX8, TX8, 34, tyX8, cf_7, by decide, tb_mem 916 (by decide +kernel) (by decide +kernel), by decide +kernel, rfl, rfl, fun _ => rfl⟩
theorem fr_X8_73 : FR RX8 73 7 31 true true (.array .int) := ⟨RX8, TX8, 34, tyX8, cf_7, by decide, tb_mem 917 (by decide +kernel) (by decide +kernel), by decide +kernel, rfl, rfl, fun _ => rfl⟩
theorem fr_X8_76 : FR RX8 76 7 32 true true (.array .int) := ⟨RX8, TX8, 34, tyX8, cf_7, by decide, tb_mem 918 (by decide +kernel) (by decide +kernel), by decide +kernel, rfl, rfl, fun _ => rfl⟩
theorem fr_X8_200 : FR RX8 200 7 7 false false (.int) := ⟨RX8, TX8, 34, tyX8, cf_7, by decide, tb_mem 893 (by decide +kernel) (by decide +kernel), by decide +kernel, rfl, rfl, fun h => nomatch h⟩
theorem fr_X8_203 : FR RX8 203 7 8 false false (.int) := ⟨RX8, TX8, 34, tyX8, cf_7, by decide, tb_mem 894 (by decide +kernel) (by decide +kernel), by decide +kernel, rfl, rfl, fun h => nomatch h⟩
theorem fr_X8_206 : FR RX8 206 7 9 false false (.int) := ⟨RX8, TX8, 34, tyX8, cf_7, by decide, tb_mem 895 (by decide +kernel) (by decide +kernel), by decide +kernel, rfl, rfl, fun h => nomatch h⟩
theorem fr_X8_209 : FR RX8 209 7 12 false false (.int) := ⟨RX8, TX8, 34, tyX8, cf_7, by decide, tb_mem 898 (by decide +kernel) (by decide +kernel), by decide +kernel, rfl, rfl, fun h => nomatch h⟩
theorem fr_X8_212 : FR RX8 212 7 10 false false (.int) := ⟨RX8, TX8, 34, tyX8, cf_7, by decide, tb_mem 896 (by decide +kernel) (by decide +kernel), by decide +kernel, rfl, rfl, fun h => nomatch h⟩
theorem fr_X8_218 : FR RX8 218 7 11 false false (.int) := ⟨RX8, TX8, 34, tyX8, cf_7, by decide, tb_mem 897 (by decide +kernel) (by decide +kernel), by decide +kernel, rfl, rfl, fun h => nomatch h⟩
theorem fr_X8_224 : FR RX8 224 7 13 false false (.int) := ⟨RX8, TX8, 34, tyX8, cf_7, by decide, tb_mem 899 (by decide +kernel) (by decide +kernel), by decide +kernel, rfl, rfl, fun h => nomatch h⟩
theorem fr_X8_230 : FR RX8 230 7 20 false false (.int) := ⟨RX8, TX8, 34, tyX8, cf_7, by decide, tb_mem 906 (by decide +kernel) (by decide +kernel), by decide +kernel, rfl, rfl, fun h => nomatch h⟩
theorem fr_X8_236 : FR RX8 236 7 17 false false (.int) := ⟨RX8, TX8, 34, tyX8, cf_7, by decide, tb_mem 903 (by decide +kernel) (by decide +kernel), by decide +kernel, rfl, rfl, fun h => nomatch h⟩
theorem fr_X8_242 : FR RX8 242 7 18 false false (.int) := ⟨RX8, TX8, 34, tyX8, cf_7, by decide, tb_mem 904 (by decide +kernel) (by decide +kernel), by decide +kernel, rfl, rfl, fun h => nomatch h⟩
theorem fr_X8_276 : FR RX8 276 7 33 false false (.int) := ⟨RX8, TX8, 34, tyX8, cf_7, by decide, tb_mem 919 (by decide +kernel) (by decide +kernel), by decide +kernel, rfl, rfl, fun h => nomatch h⟩
theorem fr_X8_279 : FR RX8 279 7 3 false false (.boolean) := ⟨RX8, TX8, 34, tyX8, cf_7, by decide, tb_mem 889 (by decide +kernel) (by decide +kernel), by decide +kernel, rfl, rfl, fun h => nomatch h⟩
/-- a virtual method as the tables have it -/
def MV (y : MethodName) (cc : ByteArray) (nL : Nat) (rt : Option FieldType) (n : Nat) : Prop := Cond.instanceMethod y ∈ tb ∧ Cond.selects y.cls y y ∈ tb ∧ Cond.initialized y.cls ∈ tb ∧ Cond.code y cc nL rt ∈ tb ∧ y.cls ≠ "java/lang/invoke/MethodHandle" ∧ y.cls ≠ "java/lang/invoke/VarHandle" ∧ (parseMethodDescriptor y.desc).map (fun d => d.parameters.length) = some n ∧ nL ≤ 40
def MS (y : MethodName) (cc : ByteArray) (nL : Nat) (rt : Option FieldType) (n : Nat) : Prop := Cond.static y ∈ tb ∧ Cond.initialized y.cls ∈ tb ∧ Cond.code y cc nL rt ∈ tb ∧ y.cls ≠ "java/lang/invoke/MethodHandle" ∧ y.cls ≠ "java/lang/invoke/VarHandle" ∧ (parseMethodDescriptor y.desc).map (fun d => d.parameters.length) = some n ∧ nL ≤ 40
def MI (y : MethodName) (cc : ByteArray) (nL : Nat) (n : Nat) : Prop := Cond.instanceMethod y ∈ tb ∧ y.name = "<init>" ∧ Cond.initialized y.cls ∈ tb ∧ Cond.code y cc nL none ∈ tb ∧ y.cls ≠ "java/lang/invoke/MethodHandle" ∧ y.cls ≠ "java/lang/invoke/VarHandle" ∧ (parseMethodDescriptor y.desc).map (fun d => d.parameters.length) = some n ∧ nL ≤ 40
theorem m_X0_init : MI yX0_init cX0_init 2 1 := ⟨tb_mem 150 (by decide +kernel) (by decide +kernel), rfl, tb_mem 57 (by decide +kernel) (by decide +kernel), tb_mem 151 (by decide +kernel) (by decide +kernel), by decide +kernel, by decide +kernel, by decide +kernel, by decide⟩
theorem m_X0_become : MV yX0_become cX0_become 2 none 1 := ⟨tb_mem 516 (by decide +kernel) (by decide +kernel), tb_mem 517 (by decide +kernel) (by decide +kernel), tb_mem 57 (by decide +kernel) (by decide +kernel), tb_mem 518 (by decide +kernel) (by decide +kernel), by decide +kernel, by decide +kernel, by decide +kernel, by decide⟩
theorem m_X0_has : MV yX0_has cX0_has 2 (some (FieldType.boolean)) 1 := ⟨tb_mem 315 (by decide +kernel) (by decide +kernel), tb_mem 316 (by decide +kernel) (by decide +kernel), tb_mem 57 (by decide +kernel) (by decide +kernel), tb_mem 317 (by decide +kernel) (by decide +kernel), by decide +kernel, by decide +kernel, by decide +kernel, by decide⟩
theorem m_X0_add : MV yX0_add cX0_add 5 none 4 := ⟨tb_mem 307 (by decide +kernel) (by decide +kernel), tb_mem 308 (by decide +kernel) (by decide +kernel), tb_mem 57 (by decide +kernel) (by decide +kernel), tb_mem 309 (by decide +kernel) (by decide +kernel), by decide +kernel, by decide +kernel, by decide +kernel, by decide⟩
theorem m_X0_addByLot : MV yX0_addByLot cX0_addByLot 5 none 0 := ⟨tb_mem 448 (by decide +kernel) (by decide +kernel), tb_mem 449 (by decide +kernel) (by decide +kernel), tb_mem 57 (by decide +kernel) (by decide +kernel), tb_mem 450 (by decide +kernel) (by decide +kernel), by decide +kernel, by decide +kernel, by decide +kernel, by decide⟩
theorem m_X0_draw : MV yX0_draw cX0_draw 1 (some (FieldType.int)) 0 := ⟨tb_mem 453 (by decide +kernel) (by decide +kernel), tb_mem 1 (by decide +kernel) (by decide +kernel), tb_mem 57 (by decide +kernel) (by decide +kernel), tb_mem 454 (by decide +kernel) (by decide +kernel), by decide +kernel, by decide +kernel, by decide +kernel, by decide⟩
theorem m_X0_comesOut : MV yX0_comesOut cX0_comesOut 6 (some (FieldType.int)) 2 := ⟨tb_mem 466 (by decide +kernel) (by decide +kernel), tb_mem 467 (by decide +kernel) (by decide +kernel), tb_mem 57 (by decide +kernel) (by decide +kernel), tb_mem 468 (by decide +kernel) (by decide +kernel), by decide +kernel, by decide +kernel, by decide +kernel, by decide⟩
theorem m_X0_partner : MV yX0_partner cX0_partner 2 (some (FieldType.int)) 1 := ⟨tb_mem 376 (by decide +kernel) (by decide +kernel), tb_mem 377 (by decide +kernel) (by decide +kernel), tb_mem 57 (by decide +kernel) (by decide +kernel), tb_mem 378 (by decide +kernel) (by decide +kernel), by decide +kernel, by decide +kernel, by decide +kernel, by decide⟩
theorem m_X0_swaying : MV yX0_swaying cX0_swaying 3 (some (FieldType.int)) 0 := ⟨tb_mem 402 (by decide +kernel) (by decide +kernel), tb_mem 403 (by decide +kernel) (by decide +kernel), tb_mem 57 (by decide +kernel) (by decide +kernel), tb_mem 404 (by decide +kernel) (by decide +kernel), by decide +kernel, by decide +kernel, by decide +kernel, by decide⟩
theorem m_X0_pass : MV yX0_pass cX0_pass 5 (some (FieldType.int)) 2 := ⟨tb_mem 474 (by decide +kernel) (by decide +kernel), tb_mem 475 (by decide +kernel) (by decide +kernel), tb_mem 57 (by decide +kernel) (by decide +kernel), tb_mem 476 (by decide +kernel) (by decide +kernel), by decide +kernel, by decide +kernel, by decide +kernel, by decide⟩
theorem m_X0_anHour : MV yX0_anHour cX0_anHour 5 (some (FieldType.int)) 1 := ⟨tb_mem 478 (by decide +kernel) (by decide +kernel), tb_mem 479 (by decide +kernel) (by decide +kernel), tb_mem 57 (by decide +kernel) (by decide +kernel), tb_mem 480 (by decide +kernel) (by decide +kernel), by decide +kernel, by decide +kernel, by decide +kernel, by decide⟩
theorem m_X0_palms : MV yX0_palms cX0_palms 8 (some (FieldType.int)) 3 := ⟨tb_mem 484 (by decide +kernel) (by decide +kernel), tb_mem 2 (by decide +kernel) (by decide +kernel), tb_mem 57 (by decide +kernel) (by decide +kernel), tb_mem 485 (by decide +kernel) (by decide +kernel), by decide +kernel, by decide +kernel, by decide +kernel, by decide⟩
theorem m_X0_believes : MV yX0_believes cX0_believes 2 (some (FieldType.int)) 1 := ⟨tb_mem 319 (by decide +kernel) (by decide +kernel), tb_mem 320 (by decide +kernel) (by decide +kernel), tb_mem 57 (by decide +kernel) (by decide +kernel), tb_mem 321 (by decide +kernel) (by decide +kernel), by decide +kernel, by decide +kernel, by decide +kernel, by decide⟩
theorem m_X0_trusts : MV yX0_trusts cX0_trusts 5 (some (FieldType.int)) 1 := ⟨tb_mem 324 (by decide +kernel) (by decide +kernel), tb_mem 0 (by decide +kernel) (by decide +kernel), tb_mem 57 (by decide +kernel) (by decide +kernel), tb_mem 325 (by decide +kernel) (by decide +kernel), by decide +kernel, by decide +kernel, by decide +kernel, by decide⟩
theorem m_X0_verdict : MV yX0_verdict cX0_verdict 2 (some (FieldType.int)) 1 := ⟨tb_mem 371 (by decide +kernel) (by decide +kernel), tb_mem 372 (by decide +kernel) (by decide +kernel), tb_mem 57 (by decide +kernel) (by decide +kernel), tb_mem 373 (by decide +kernel) (by decide +kernel), by decide +kernel, by decide +kernel, by decide +kernel, by decide⟩
theorem m_X0_votes : MV yX0_votes cX0_votes 3 (some (FieldType.int)) 0 := ⟨tb_mem 496 (by decide +kernel) (by decide +kernel), tb_mem 497 (by decide +kernel) (by decide +kernel), tb_mem 57 (by decide +kernel) (by decide +kernel), tb_mem 498 (by decide +kernel) (by decide +kernel), by decide +kernel, by decide +kernel, by decide +kernel, by decide⟩
theorem m_X0_common : MV yX0_common cX0_common 3 (some (FieldType.int)) 0 := ⟨tb_mem 492 (by decide +kernel) (by decide +kernel), tb_mem 493 (by decide +kernel) (by decide +kernel), tb_mem 57 (by decide +kernel) (by decide +kernel), tb_mem 494 (by decide +kernel) (by decide +kernel), by decide +kernel, by decide +kernel, by decide +kernel, by decide⟩
theorem m_X0_any : MV yX0_any cX0_any 3 (some (FieldType.int)) 0 := ⟨tb_mem 504 (by decide +kernel) (by decide +kernel), tb_mem 505 (by decide +kernel) (by decide +kernel), tb_mem 57 (by decide +kernel) (by decide +kernel), tb_mem 506 (by decide +kernel) (by decide +kernel), by decide +kernel, by decide +kernel, by decide +kernel, by decide⟩
theorem m_X0_known : MV yX0_known cX0_known 3 (some (FieldType.int)) 0 := ⟨tb_mem 500 (by decide +kernel) (by decide +kernel), tb_mem 501 (by decide +kernel) (by decide +kernel), tb_mem 57 (by decide +kernel) (by decide +kernel), tb_mem 502 (by decide +kernel) (by decide +kernel), by decide +kernel, by decide +kernel, by decide +kernel, by decide⟩
theorem m_X1_above : MS yX1_above cX1_above 1 (some (FieldType.int)) 1 := ⟨tb_mem 418 (by decide +kernel) (by decide +kernel), tb_mem 63 (by decide +kernel) (by decide +kernel), tb_mem 419 (by decide +kernel) (by decide +kernel), by decide +kernel, by decide +kernel, by decide +kernel, by decide⟩
theorem m_X1_isOf : MS yX1_isOf cX1_isOf 2 (some (FieldType.boolean)) 2 := ⟨tb_mem 415 (by decide +kernel) (by decide +kernel), tb_mem 63 (by decide +kernel) (by decide +kernel), tb_mem 416 (by decide +kernel) (by decide +kernel), by decide +kernel, by decide +kernel, by decide +kernel, by decide⟩
theorem m_X1_worth : MS yX1_worth cX1_worth 2 (some (FieldType.int)) 2 := ⟨tb_mem 383 (by decide +kernel) (by decide +kernel), tb_mem 63 (by decide +kernel) (by decide +kernel), tb_mem 384 (by decide +kernel) (by decide +kernel), by decide +kernel, by decide +kernel, by decide +kernel, by decide⟩
theorem m_X1_doubtingWorth : MS yX1_doubtingWorth cX1_doubtingWorth 1 (some (FieldType.int)) 1 := ⟨tb_mem 386 (by decide +kernel) (by decide +kernel), tb_mem 63 (by decide +kernel) (by decide +kernel), tb_mem 387 (by decide +kernel) (by decide +kernel), by decide +kernel, by decide +kernel, by decide +kernel, by decide⟩
theorem m_X1_swayedWorth : MS yX1_swayedWorth cX1_swayedWorth 1 (some (FieldType.int)) 1 := ⟨tb_mem 389 (by decide +kernel) (by decide +kernel), tb_mem 63 (by decide +kernel) (by decide +kernel), tb_mem 390 (by decide +kernel) (by decide +kernel), by decide +kernel, by decide +kernel, by decide +kernel, by decide⟩
theorem m_X1_belief : MS yX1_belief cX1_belief 3 (some (FieldType.int)) 3 := ⟨tb_mem 360 (by decide +kernel) (by decide +kernel), tb_mem 63 (by decide +kernel) (by decide +kernel), tb_mem 361 (by decide +kernel) (by decide +kernel), by decide +kernel, by decide +kernel, by decide +kernel, by decide⟩
theorem m_X1_doubtingBelief : MS yX1_doubtingBelief cX1_doubtingBelief 2 (some (FieldType.int)) 2 := ⟨tb_mem 363 (by decide +kernel) (by decide +kernel), tb_mem 63 (by decide +kernel) (by decide +kernel), tb_mem 364 (by decide +kernel) (by decide +kernel), by decide +kernel, by decide +kernel, by decide +kernel, by decide⟩
theorem m_X1_swayedBelief : MS yX1_swayedBelief cX1_swayedBelief 2 (some (FieldType.int)) 1 := ⟨tb_mem 367 (by decide +kernel) (by decide +kernel), tb_mem 63 (by decide +kernel) (by decide +kernel), tb_mem 368 (by decide +kernel) (by decide +kernel), by decide +kernel, by decide +kernel, by decide +kernel, by decide⟩
theorem m_X1_passes : MS yX1_passes cX1_passes 4 (some (FieldType.int)) 3 := ⟨tb_mem 396 (by decide +kernel) (by decide +kernel), tb_mem 63 (by decide +kernel) (by decide +kernel), tb_mem 397 (by decide +kernel) (by decide +kernel), by decide +kernel, by decide +kernel, by decide +kernel, by decide⟩
theorem m_X1_least : MS yX1_least cX1_least 1 (some (FieldType.int)) 1 := ⟨tb_mem 406 (by decide +kernel) (by decide +kernel), tb_mem 63 (by decide +kernel) (by decide +kernel), tb_mem 407 (by decide +kernel) (by decide +kernel), by decide +kernel, by decide +kernel, by decide +kernel, by decide⟩
theorem m_X1_greatest : MS yX1_greatest cX1_greatest 2 (some (FieldType.int)) 1 := ⟨tb_mem 399 (by decide +kernel) (by decide +kernel), tb_mem 63 (by decide +kernel) (by decide +kernel), tb_mem 400 (by decide +kernel) (by decide +kernel), by decide +kernel, by decide +kernel, by decide +kernel, by decide⟩
theorem m_X2_init : MI yX2_init cX2_init 1 0 := ⟨tb_mem 88 (by decide +kernel) (by decide +kernel), rfl, tb_mem 55 (by decide +kernel) (by decide +kernel), tb_mem 89 (by decide +kernel) (by decide +kernel), by decide +kernel, by decide +kernel, by decide +kernel, by decide⟩
theorem m_X2_begin : MV yX2_begin cX2_begin 2 none 1 := ⟨tb_mem 669 (by decide +kernel) (by decide +kernel), tb_mem 670 (by decide +kernel) (by decide +kernel), tb_mem 55 (by decide +kernel) (by decide +kernel), tb_mem 671 (by decide +kernel) (by decide +kernel), by decide +kernel, by decide +kernel, by decide +kernel, by decide⟩
theorem m_X2_become : MV yX2_become cX2_become 2 none 1 := ⟨tb_mem 782 (by decide +kernel) (by decide +kernel), tb_mem 783 (by decide +kernel) (by decide +kernel), tb_mem 55 (by decide +kernel) (by decide +kernel), tb_mem 784 (by decide +kernel) (by decide +kernel), by decide +kernel, by decide +kernel, by decide +kernel, by decide⟩
theorem m_X2_addNumber : MV yX2_addNumber cX2_addNumber 2 none 1 := ⟨tb_mem 685 (by decide +kernel) (by decide +kernel), tb_mem 686 (by decide +kernel) (by decide +kernel), tb_mem 55 (by decide +kernel) (by decide +kernel), tb_mem 687 (by decide +kernel) (by decide +kernel), by decide +kernel, by decide +kernel, by decide +kernel, by decide⟩
theorem m_X2_addName : MV yX2_addName cX2_addName 2 none 1 := ⟨tb_mem 758 (by decide +kernel) (by decide +kernel), tb_mem 759 (by decide +kernel) (by decide +kernel), tb_mem 55 (by decide +kernel) (by decide +kernel), tb_mem 760 (by decide +kernel) (by decide +kernel), by decide +kernel, by decide +kernel, by decide +kernel, by decide⟩
theorem m_X2_addSign : MV yX2_addSign cX2_addSign 2 none 1 := ⟨tb_mem 767 (by decide +kernel) (by decide +kernel), tb_mem 768 (by decide +kernel) (by decide +kernel), tb_mem 55 (by decide +kernel) (by decide +kernel), tb_mem 769 (by decide +kernel) (by decide +kernel), by decide +kernel, by decide +kernel, by decide +kernel, by decide⟩
theorem m_X2_add : MV yX2_add cX2_add 2 none 1 := ⟨tb_mem 690 (by decide +kernel) (by decide +kernel), tb_mem 11 (by decide +kernel) (by decide +kernel), tb_mem 55 (by decide +kernel) (by decide +kernel), tb_mem 691 (by decide +kernel) (by decide +kernel), by decide +kernel, by decide +kernel, by decide +kernel, by decide⟩
theorem m_X2_work : MV yX2_work cX2_work 8 (some (FieldType.int)) 4 := ⟨tb_mem 341 (by decide +kernel) (by decide +kernel), tb_mem 342 (by decide +kernel) (by decide +kernel), tb_mem 55 (by decide +kernel) (by decide +kernel), tb_mem 343 (by decide +kernel) (by decide +kernel), by decide +kernel, by decide +kernel, by decide +kernel, by decide⟩
theorem m_X2_named : MS yX2_named cX2_named 4 (some (FieldType.int)) 4 := ⟨tb_mem 345 (by decide +kernel) (by decide +kernel), tb_mem 55 (by decide +kernel) (by decide +kernel), tb_mem 346 (by decide +kernel) (by decide +kernel), by decide +kernel, by decide +kernel, by decide +kernel, by decide⟩
theorem m_X2_joined : MS yX2_joined cX2_joined 3 (some (FieldType.int)) 3 := ⟨tb_mem 348 (by decide +kernel) (by decide +kernel), tb_mem 55 (by decide +kernel) (by decide +kernel), tb_mem 349 (by decide +kernel) (by decide +kernel), by decide +kernel, by decide +kernel, by decide +kernel, by decide⟩
theorem m_X3_init : MI yX3_init cX3_init 2 0 := ⟨tb_mem 81 (by decide +kernel) (by decide +kernel), rfl, tb_mem 54 (by decide +kernel) (by decide +kernel), tb_mem 82 (by decide +kernel) (by decide +kernel), by decide +kernel, by decide +kernel, by decide +kernel, by decide⟩
theorem m_X3_at : MV yX3_at cX3_at 2 (some ((FieldType.object "PalmJury$Law"))) 1 := ⟨tb_mem 337 (by decide +kernel) (by decide +kernel), tb_mem 338 (by decide +kernel) (by decide +kernel), tb_mem 54 (by decide +kernel) (by decide +kernel), tb_mem 339 (by decide +kernel) (by decide +kernel), by decide +kernel, by decide +kernel, by decide +kernel, by decide⟩
theorem m_X3_gives : MV yX3_gives cX3_gives 5 (some (FieldType.int)) 4 := ⟨tb_mem 333 (by decide +kernel) (by decide +kernel), tb_mem 334 (by decide +kernel) (by decide +kernel), tb_mem 54 (by decide +kernel) (by decide +kernel), tb_mem 335 (by decide +kernel) (by decide +kernel), by decide +kernel, by decide +kernel, by decide +kernel, by decide⟩
theorem m_X4_init : MI yX4_init cX4_init 1 0 := ⟨tb_mem 223 (by decide +kernel) (by decide +kernel), rfl, tb_mem 58 (by decide +kernel) (by decide +kernel), tb_mem 224 (by decide +kernel) (by decide +kernel), by decide +kernel, by decide +kernel, by decide +kernel, by decide⟩
theorem m_X4_begin : MV yX4_begin cX4_begin 4 none 2 := ⟨tb_mem 802 (by decide +kernel) (by decide +kernel), tb_mem 803 (by decide +kernel) (by decide +kernel), tb_mem 58 (by decide +kernel) (by decide +kernel), tb_mem 804 (by decide +kernel) (by decide +kernel), by decide +kernel, by decide +kernel, by decide +kernel, by decide⟩
theorem m_X4_become : MV yX4_become cX4_become 2 none 1 := ⟨tb_mem 839 (by decide +kernel) (by decide +kernel), tb_mem 840 (by decide +kernel) (by decide +kernel), tb_mem 58 (by decide +kernel) (by decide +kernel), tb_mem 841 (by decide +kernel) (by decide +kernel), by decide +kernel, by decide +kernel, by decide +kernel, by decide⟩
theorem m_X4_has : MV yX4_has cX4_has 2 (some (FieldType.boolean)) 1 := ⟨tb_mem 559 (by decide +kernel) (by decide +kernel), tb_mem 560 (by decide +kernel) (by decide +kernel), tb_mem 58 (by decide +kernel) (by decide +kernel), tb_mem 561 (by decide +kernel) (by decide +kernel), by decide +kernel, by decide +kernel, by decide +kernel, by decide⟩
theorem m_X4_hasNumber : MV yX4_hasNumber cX4_hasNumber 2 (some (FieldType.boolean)) 1 := ⟨tb_mem 555 (by decide +kernel) (by decide +kernel), tb_mem 556 (by decide +kernel) (by decide +kernel), tb_mem 58 (by decide +kernel) (by decide +kernel), tb_mem 557 (by decide +kernel) (by decide +kernel), by decide +kernel, by decide +kernel, by decide +kernel, by decide⟩
theorem m_X4_hasStretch : MV yX4_hasStretch cX4_hasStretch 3 (some (FieldType.boolean)) 2 := ⟨tb_mem 827 (by decide +kernel) (by decide +kernel), tb_mem 828 (by decide +kernel) (by decide +kernel), tb_mem 58 (by decide +kernel) (by decide +kernel), tb_mem 829 (by decide +kernel) (by decide +kernel), by decide +kernel, by decide +kernel, by decide +kernel, by decide⟩
theorem m_X5_init : MI yX5_init cX5_init 1 0 := ⟨tb_mem 243 (by decide +kernel) (by decide +kernel), rfl, tb_mem 59 (by decide +kernel) (by decide +kernel), tb_mem 244 (by decide +kernel) (by decide +kernel), by decide +kernel, by decide +kernel, by decide +kernel, by decide⟩
theorem m_X6_init : MI yX6_init cX6_init 1 0 := ⟨tb_mem 118 (by decide +kernel) (by decide +kernel), rfl, tb_mem 56 (by decide +kernel) (by decide +kernel), tb_mem 119 (by decide +kernel) (by decide +kernel), by decide +kernel, by decide +kernel, by decide +kernel, by decide⟩
theorem m_X6_takes : MV yX6_takes cX6_takes 3 none 1 := ⟨tb_mem 580 (by decide +kernel) (by decide +kernel), tb_mem 581 (by decide +kernel) (by decide +kernel), tb_mem 56 (by decide +kernel) (by decide +kernel), tb_mem 582 (by decide +kernel) (by decide +kernel), by decide +kernel, by decide +kernel, by decide +kernel, by decide⟩
theorem m_X6_faultOfText : MV yX6_faultOfText cX6_faultOfText 2 (some (FieldType.int)) 0 := ⟨tb_mem 592 (by decide +kernel) (by decide +kernel), tb_mem 593 (by decide +kernel) (by decide +kernel), tb_mem 56 (by decide +kernel) (by decide +kernel), tb_mem 594 (by decide +kernel) (by decide +kernel), by decide +kernel, by decide +kernel, by decide +kernel, by decide⟩
theorem m_X6_byteAt : MV yX6_byteAt cX6_byteAt 2 (some (FieldType.int)) 1 := ⟨tb_mem 601 (by decide +kernel) (by decide +kernel), tb_mem 5 (by decide +kernel) (by decide +kernel), tb_mem 56 (by decide +kernel) (by decide +kernel), tb_mem 602 (by decide +kernel) (by decide +kernel), by decide +kernel, by decide +kernel, by decide +kernel, by decide⟩
theorem m_X6_sortOf : MS yX6_sortOf cX6_sortOf 1 (some (FieldType.int)) 1 := ⟨tb_mem 604 (by decide +kernel) (by decide +kernel), tb_mem 56 (by decide +kernel) (by decide +kernel), tb_mem 605 (by decide +kernel) (by decide +kernel), by decide +kernel, by decide +kernel, by decide +kernel, by decide⟩
theorem m_X6_step : MV yX6_step cX6_step 3 none 0 := ⟨tb_mem 597 (by decide +kernel) (by decide +kernel), tb_mem 4 (by decide +kernel) (by decide +kernel), tb_mem 56 (by decide +kernel) (by decide +kernel), tb_mem 598 (by decide +kernel) (by decide +kernel), by decide +kernel, by decide +kernel, by decide +kernel, by decide⟩
theorem m_X6_keyAtHand : MV yX6_keyAtHand cX6_keyAtHand 2 (some (FieldType.int)) 0 := ⟨tb_mem 608 (by decide +kernel) (by decide +kernel), tb_mem 6 (by decide +kernel) (by decide +kernel), tb_mem 56 (by decide +kernel) (by decide +kernel), tb_mem 609 (by decide +kernel) (by decide +kernel), by decide +kernel, by decide +kernel, by decide +kernel, by decide⟩
theorem m_X6_isWord : MV yX6_isWord cX6_isWord 3 (some (FieldType.boolean)) 1 := ⟨tb_mem 618 (by decide +kernel) (by decide +kernel), tb_mem 7 (by decide +kernel) (by decide +kernel), tb_mem 56 (by decide +kernel) (by decide +kernel), tb_mem 619 (by decide +kernel) (by decide +kernel), by decide +kernel, by decide +kernel, by decide +kernel, by decide⟩
theorem m_X6_wordOf : MS yX6_wordOf cX6_wordOf 1 (some ((FieldType.object "java/lang/String"))) 1 := ⟨tb_mem 611 (by decide +kernel) (by decide +kernel), tb_mem 56 (by decide +kernel) (by decide +kernel), tb_mem 612 (by decide +kernel) (by decide +kernel), by decide +kernel, by decide +kernel, by decide +kernel, by decide⟩
theorem m_X6_namesOf : MS yX6_namesOf cX6_namesOf 1 (some ((FieldType.object "java/lang/String"))) 1 := ⟨tb_mem 697 (by decide +kernel) (by decide +kernel), tb_mem 56 (by decide +kernel) (by decide +kernel), tb_mem 698 (by decide +kernel) (by decide +kernel), by decide +kernel, by decide +kernel, by decide +kernel, by decide⟩
theorem m_X6_signsOf : MS yX6_signsOf cX6_signsOf 1 (some ((FieldType.object "java/lang/String"))) 1 := ⟨tb_mem 773 (by decide +kernel) (by decide +kernel), tb_mem 56 (by decide +kernel) (by decide +kernel), tb_mem 774 (by decide +kernel) (by decide +kernel), by decide +kernel, by decide +kernel, by decide +kernel, by decide⟩
theorem m_X6_isSignOf : MV yX6_isSignOf cX6_isSignOf 2 (some (FieldType.boolean)) 1 := ⟨tb_mem 764 (by decide +kernel) (by decide +kernel), tb_mem 13 (by decide +kernel) (by decide +kernel), tb_mem 56 (by decide +kernel) (by decide +kernel), tb_mem 765 (by decide +kernel) (by decide +kernel), by decide +kernel, by decide +kernel, by decide +kernel, by decide⟩
theorem m_X6_level : MV yX6_level cX6_level 6 (some (FieldType.boolean)) 3 := ⟨tb_mem 674 (by decide +kernel) (by decide +kernel), tb_mem 8 (by decide +kernel) (by decide +kernel), tb_mem 56 (by decide +kernel) (by decide +kernel), tb_mem 675 (by decide +kernel) (by decide +kernel), by decide +kernel, by decide +kernel, by decide +kernel, by decide⟩
theorem m_X6_piece : MV yX6_piece cX6_piece 3 (some (FieldType.boolean)) 2 := ⟨tb_mem 678 (by decide +kernel) (by decide +kernel), tb_mem 9 (by decide +kernel) (by decide +kernel), tb_mem 56 (by decide +kernel) (by decide +kernel), tb_mem 679 (by decide +kernel) (by decide +kernel), by decide +kernel, by decide +kernel, by decide +kernel, by decide⟩
theorem m_X6_number : MV yX6_number cX6_number 3 (some (FieldType.boolean)) 0 := ⟨tb_mem 682 (by decide +kernel) (by decide +kernel), tb_mem 10 (by decide +kernel) (by decide +kernel), tb_mem 56 (by decide +kernel) (by decide +kernel), tb_mem 683 (by decide +kernel) (by decide +kernel), by decide +kernel, by decide +kernel, by decide +kernel, by decide⟩
theorem m_X6_name : MV yX6_name cX6_name 2 (some (FieldType.boolean)) 0 := ⟨tb_mem 694 (by decide +kernel) (by decide +kernel), tb_mem 12 (by decide +kernel) (by decide +kernel), tb_mem 56 (by decide +kernel) (by decide +kernel), tb_mem 695 (by decide +kernel) (by decide +kernel), by decide +kernel, by decide +kernel, by decide +kernel, by decide⟩
theorem m_X7_init : MI yX7_init cX7_init 2 0 := ⟨tb_mem 73 (by decide +kernel) (by decide +kernel), rfl, tb_mem 53 (by decide +kernel) (by decide +kernel), tb_mem 74 (by decide +kernel) (by decide +kernel), by decide +kernel, by decide +kernel, by decide +kernel, by decide⟩
theorem m_X7_juror : MV yX7_juror cX7_juror 4 (some (FieldType.int)) 3 := ⟨tb_mem 298 (by decide +kernel) (by decide +kernel), tb_mem 299 (by decide +kernel) (by decide +kernel), tb_mem 53 (by decide +kernel) (by decide +kernel), tb_mem 300 (by decide +kernel) (by decide +kernel), by decide +kernel, by decide +kernel, by decide +kernel, by decide⟩
theorem m_X7_told : MV yX7_told cX7_told 3 (some (FieldType.int)) 2 := ⟨tb_mem 311 (by decide +kernel) (by decide +kernel), tb_mem 312 (by decide +kernel) (by decide +kernel), tb_mem 53 (by decide +kernel) (by decide +kernel), tb_mem 313 (by decide +kernel) (by decide +kernel), by decide +kernel, by decide +kernel, by decide +kernel, by decide⟩
theorem m_X7_tells : MV yX7_tells cX7_tells 4 (some (FieldType.int)) 2 := ⟨tb_mem 392 (by decide +kernel) (by decide +kernel), tb_mem 393 (by decide +kernel) (by decide +kernel), tb_mem 53 (by decide +kernel) (by decide +kernel), tb_mem 394 (by decide +kernel) (by decide +kernel), by decide +kernel, by decide +kernel, by decide +kernel, by decide⟩
theorem m_X7_as : MV yX7_as cX7_as 3 (some (FieldType.int)) 2 := ⟨tb_mem 411 (by decide +kernel) (by decide +kernel), tb_mem 412 (by decide +kernel) (by decide +kernel), tb_mem 53 (by decide +kernel) (by decide +kernel), tb_mem 413 (by decide +kernel) (by decide +kernel), by decide +kernel, by decide +kernel, by decide +kernel, by decide⟩
theorem m_X7_turns : MV yX7_turns cX7_turns 3 (some (FieldType.int)) 2 := ⟨tb_mem 422 (by decide +kernel) (by decide +kernel), tb_mem 423 (by decide +kernel) (by decide +kernel), tb_mem 53 (by decide +kernel) (by decide +kernel), tb_mem 424 (by decide +kernel) (by decide +kernel), by decide +kernel, by decide +kernel, by decide +kernel, by decide⟩
theorem m_X7_set : MV yX7_set cX7_set 4 (some (FieldType.int)) 3 := ⟨tb_mem 429 (by decide +kernel) (by decide +kernel), tb_mem 430 (by decide +kernel) (by decide +kernel), tb_mem 53 (by decide +kernel) (by decide +kernel), tb_mem 431 (by decide +kernel) (by decide +kernel), by decide +kernel, by decide +kernel, by decide +kernel, by decide⟩
theorem m_X7_weigh : MV yX7_weigh cX7_weigh 3 (some (FieldType.int)) 2 := ⟨tb_mem 433 (by decide +kernel) (by decide +kernel), tb_mem 434 (by decide +kernel) (by decide +kernel), tb_mem 53 (by decide +kernel) (by decide +kernel), tb_mem 435 (by decide +kernel) (by decide +kernel), by decide +kernel, by decide +kernel, by decide +kernel, by decide⟩
theorem m_X7_rule : MV yX7_rule cX7_rule 4 (some (FieldType.int)) 2 := ⟨tb_mem 440 (by decide +kernel) (by decide +kernel), tb_mem 441 (by decide +kernel) (by decide +kernel), tb_mem 53 (by decide +kernel) (by decide +kernel), tb_mem 442 (by decide +kernel) (by decide +kernel), by decide +kernel, by decide +kernel, by decide +kernel, by decide⟩
theorem m_X7_deal : MV yX7_deal cX7_deal 4 (some (FieldType.int)) 1 := ⟨tb_mem 444 (by decide +kernel) (by decide +kernel), tb_mem 445 (by decide +kernel) (by decide +kernel), tb_mem 53 (by decide +kernel) (by decide +kernel), tb_mem 446 (by decide +kernel) (by decide +kernel), by decide +kernel, by decide +kernel, by decide +kernel, by decide⟩
theorem m_X7_seed : MV yX7_seed cX7_seed 3 (some (FieldType.int)) 1 := ⟨tb_mem 458 (by decide +kernel) (by decide +kernel), tb_mem 459 (by decide +kernel) (by decide +kernel), tb_mem 53 (by decide +kernel) (by decide +kernel), tb_mem 460 (by decide +kernel) (by decide +kernel), by decide +kernel, by decide +kernel, by decide +kernel, by decide⟩
theorem m_X7_out : MV yX7_out cX7_out 3 (some (FieldType.int)) 2 := ⟨tb_mem 462 (by decide +kernel) (by decide +kernel), tb_mem 463 (by decide +kernel) (by decide +kernel), tb_mem 53 (by decide +kernel) (by decide +kernel), tb_mem 464 (by decide +kernel) (by decide +kernel), by decide +kernel, by decide +kernel, by decide +kernel, by decide⟩
theorem m_X7_hours : MV yX7_hours cX7_hours 2 (some (FieldType.int)) 1 := ⟨tb_mem 470 (by decide +kernel) (by decide +kernel), tb_mem 471 (by decide +kernel) (by decide +kernel), tb_mem 53 (by decide +kernel) (by decide +kernel), tb_mem 472 (by decide +kernel) (by decide +kernel), by decide +kernel, by decide +kernel, by decide +kernel, by decide⟩
theorem m_X7_jury : MV yX7_jury cX7_jury 2 (some (FieldType.int)) 1 := ⟨tb_mem 488 (by decide +kernel) (by decide +kernel), tb_mem 489 (by decide +kernel) (by decide +kernel), tb_mem 53 (by decide +kernel) (by decide +kernel), tb_mem 490 (by decide +kernel) (by decide +kernel), by decide +kernel, by decide +kernel, by decide +kernel, by decide⟩
theorem m_X7_behind : MV yX7_behind cX7_behind 3 (some (FieldType.int)) 2 := ⟨tb_mem 508 (by decide +kernel) (by decide +kernel), tb_mem 509 (by decide +kernel) (by decide +kernel), tb_mem 53 (by decide +kernel) (by decide +kernel), tb_mem 510 (by decide +kernel) (by decide +kernel), by decide +kernel, by decide +kernel, by decide +kernel, by decide⟩
theorem m_X7_allKnow : MV yX7_allKnow cX7_allKnow 3 (some (FieldType.int)) 0 := ⟨tb_mem 523 (by decide +kernel) (by decide +kernel), tb_mem 524 (by decide +kernel) (by decide +kernel), tb_mem 53 (by decide +kernel) (by decide +kernel), tb_mem 525 (by decide +kernel) (by decide +kernel), by decide +kernel, by decide +kernel, by decide +kernel, by decide⟩
theorem m_X7_bestTurn : MV yX7_bestTurn cX7_bestTurn 7 (some (FieldType.int)) 2 := ⟨tb_mem 528 (by decide +kernel) (by decide +kernel), tb_mem 529 (by decide +kernel) (by decide +kernel), tb_mem 53 (by decide +kernel) (by decide +kernel), tb_mem 530 (by decide +kernel) (by decide +kernel), by decide +kernel, by decide +kernel, by decide +kernel, by decide⟩
theorem m_X7_sure : MV yX7_sure cX7_sure 4 (some (FieldType.int)) 1 := ⟨tb_mem 532 (by decide +kernel) (by decide +kernel), tb_mem 533 (by decide +kernel) (by decide +kernel), tb_mem 53 (by decide +kernel) (by decide +kernel), tb_mem 534 (by decide +kernel) (by decide +kernel), by decide +kernel, by decide +kernel, by decide +kernel, by decide⟩
theorem m_X7_advocate : MV yX7_advocate cX7_advocate 7 (some (FieldType.int)) 2 := ⟨tb_mem 536 (by decide +kernel) (by decide +kernel), tb_mem 537 (by decide +kernel) (by decide +kernel), tb_mem 53 (by decide +kernel) (by decide +kernel), tb_mem 538 (by decide +kernel) (by decide +kernel), by decide +kernel, by decide +kernel, by decide +kernel, by decide⟩
theorem m_X7_tipped : MV yX7_tipped cX7_tipped 5 (some (FieldType.int)) 1 := ⟨tb_mem 540 (by decide +kernel) (by decide +kernel), tb_mem 541 (by decide +kernel) (by decide +kernel), tb_mem 53 (by decide +kernel) (by decide +kernel), tb_mem 542 (by decide +kernel) (by decide +kernel), by decide +kernel, by decide +kernel, by decide +kernel, by decide⟩
theorem m_X7_weighed : MV yX7_weighed cX7_weighed 7 (some (FieldType.int)) 2 := ⟨tb_mem 544 (by decide +kernel) (by decide +kernel), tb_mem 545 (by decide +kernel) (by decide +kernel), tb_mem 53 (by decide +kernel) (by decide +kernel), tb_mem 546 (by decide +kernel) (by decide +kernel), by decide +kernel, by decide +kernel, by decide +kernel, by decide⟩
theorem m_X7_fee : MV yX7_fee cX7_fee 2 (some (FieldType.int)) 0 := ⟨tb_mem 567 (by decide +kernel) (by decide +kernel), tb_mem 568 (by decide +kernel) (by decide +kernel), tb_mem 53 (by decide +kernel) (by decide +kernel), tb_mem 569 (by decide +kernel) (by decide +kernel), by decide +kernel, by decide +kernel, by decide +kernel, by decide⟩
theorem m_X7_fine : MV yX7_fine cX7_fine 3 (some (FieldType.int)) 1 := ⟨tb_mem 572 (by decide +kernel) (by decide +kernel), tb_mem 573 (by decide +kernel) (by decide +kernel), tb_mem 53 (by decide +kernel) (by decide +kernel), tb_mem 574 (by decide +kernel) (by decide +kernel), by decide +kernel, by decide +kernel, by decide +kernel, by decide⟩
theorem m_X7_feed : MV yX7_feed cX7_feed 4 (some (FieldType.int)) 3 := ⟨tb_mem 576 (by decide +kernel) (by decide +kernel), tb_mem 577 (by decide +kernel) (by decide +kernel), tb_mem 53 (by decide +kernel) (by decide +kernel), tb_mem 578 (by decide +kernel) (by decide +kernel), by decide +kernel, by decide +kernel, by decide +kernel, by decide⟩
theorem m_X7_trim : MV yX7_trim cX7_trim 2 (some (FieldType.int)) 1 := ⟨tb_mem 584 (by decide +kernel) (by decide +kernel), tb_mem 585 (by decide +kernel) (by decide +kernel), tb_mem 53 (by decide +kernel) (by decide +kernel), tb_mem 586 (by decide +kernel) (by decide +kernel), by decide +kernel, by decide +kernel, by decide +kernel, by decide⟩
theorem m_X7_text : MV yX7_text cX7_text 3 (some (FieldType.int)) 0 := ⟨tb_mem 588 (by decide +kernel) (by decide +kernel), tb_mem 589 (by decide +kernel) (by decide +kernel), tb_mem 53 (by decide +kernel) (by decide +kernel), tb_mem 590 (by decide +kernel) (by decide +kernel), by decide +kernel, by decide +kernel, by decide +kernel, by decide⟩
theorem m_X7_textTold : MV yX7_textTold cX7_textTold 4 (some (FieldType.int)) 2 := ⟨tb_mem 789 (by decide +kernel) (by decide +kernel), tb_mem 790 (by decide +kernel) (by decide +kernel), tb_mem 53 (by decide +kernel) (by decide +kernel), tb_mem 791 (by decide +kernel) (by decide +kernel), by decide +kernel, by decide +kernel, by decide +kernel, by decide⟩
theorem m_X7_why : MV yX7_why cX7_why 3 (some (FieldType.int)) 1 := ⟨tb_mem 793 (by decide +kernel) (by decide +kernel), tb_mem 794 (by decide +kernel) (by decide +kernel), tb_mem 53 (by decide +kernel) (by decide +kernel), tb_mem 795 (by decide +kernel) (by decide +kernel), by decide +kernel, by decide +kernel, by decide +kernel, by decide⟩
theorem m_X7_sheet : MV yX7_sheet cX7_sheet 4 (some (FieldType.int)) 3 := ⟨tb_mem 797 (by decide +kernel) (by decide +kernel), tb_mem 798 (by decide +kernel) (by decide +kernel), tb_mem 53 (by decide +kernel) (by decide +kernel), tb_mem 799 (by decide +kernel) (by decide +kernel), by decide +kernel, by decide +kernel, by decide +kernel, by decide⟩
theorem m_X7_mark : MV yX7_mark cX7_mark 5 (some (FieldType.int)) 3 := ⟨tb_mem 807 (by decide +kernel) (by decide +kernel), tb_mem 808 (by decide +kernel) (by decide +kernel), tb_mem 53 (by decide +kernel) (by decide +kernel), tb_mem 809 (by decide +kernel) (by decide +kernel), by decide +kernel, by decide +kernel, by decide +kernel, by decide⟩
theorem m_X7_pour : MV yX7_pour cX7_pour 6 (some (FieldType.int)) 1 := ⟨tb_mem 815 (by decide +kernel) (by decide +kernel), tb_mem 816 (by decide +kernel) (by decide +kernel), tb_mem 53 (by decide +kernel) (by decide +kernel), tb_mem 817 (by decide +kernel) (by decide +kernel), by decide +kernel, by decide +kernel, by decide +kernel, by decide⟩
theorem m_X7_reads : MV yX7_reads cX7_reads 4 (some (FieldType.int)) 1 := ⟨tb_mem 819 (by decide +kernel) (by decide +kernel), tb_mem 820 (by decide +kernel) (by decide +kernel), tb_mem 53 (by decide +kernel) (by decide +kernel), tb_mem 821 (by decide +kernel) (by decide +kernel), by decide +kernel, by decide +kernel, by decide +kernel, by decide⟩
theorem m_X7_copy : MV yX7_copy cX7_copy 8 (some (FieldType.int)) 5 := ⟨tb_mem 823 (by decide +kernel) (by decide +kernel), tb_mem 824 (by decide +kernel) (by decide +kernel), tb_mem 53 (by decide +kernel) (by decide +kernel), tb_mem 825 (by decide +kernel) (by decide +kernel), by decide +kernel, by decide +kernel, by decide +kernel, by decide⟩
theorem m_X7_lay : MV yX7_lay cX7_lay 6 (some (FieldType.int)) 3 := ⟨tb_mem 832 (by decide +kernel) (by decide +kernel), tb_mem 833 (by decide +kernel) (by decide +kernel), tb_mem 53 (by decide +kernel) (by decide +kernel), tb_mem 834 (by decide +kernel) (by decide +kernel), by decide +kernel, by decide +kernel, by decide +kernel, by decide⟩
theorem m_X7_ask : MV yX7_ask cX7_ask 4 (some (FieldType.int)) 2 := ⟨tb_mem 844 (by decide +kernel) (by decide +kernel), tb_mem 845 (by decide +kernel) (by decide +kernel), tb_mem 53 (by decide +kernel) (by decide +kernel), tb_mem 846 (by decide +kernel) (by decide +kernel), by decide +kernel, by decide +kernel, by decide +kernel, by decide⟩
theorem m_X7_item : MV yX7_item cX7_item 4 (some (FieldType.int)) 2 := ⟨tb_mem 848 (by decide +kernel) (by decide +kernel), tb_mem 849 (by decide +kernel) (by decide +kernel), tb_mem 53 (by decide +kernel) (by decide +kernel), tb_mem 850 (by decide +kernel) (by decide +kernel), by decide +kernel, by decide +kernel, by decide +kernel, by decide⟩
theorem m_X7_rest : MV yX7_rest cX7_rest 4 (some (FieldType.int)) 2 := ⟨tb_mem 852 (by decide +kernel) (by decide +kernel), tb_mem 853 (by decide +kernel) (by decide +kernel), tb_mem 53 (by decide +kernel) (by decide +kernel), tb_mem 854 (by decide +kernel) (by decide +kernel), by decide +kernel, by decide +kernel, by decide +kernel, by decide⟩
theorem m_X7_tell : MV yX7_tell cX7_tell 2 (some (FieldType.int)) 1 := ⟨tb_mem 857 (by decide +kernel) (by decide +kernel), tb_mem 858 (by decide +kernel) (by decide +kernel), tb_mem 53 (by decide +kernel) (by decide +kernel), tb_mem 859 (by decide +kernel) (by decide +kernel), by decide +kernel, by decide +kernel, by decide +kernel, by decide⟩
theorem m_X7_check : MV yX7_check cX7_check 5 (some (FieldType.int)) 1 := ⟨tb_mem 861 (by decide +kernel) (by decide +kernel), tb_mem 862 (by decide +kernel) (by decide +kernel), tb_mem 53 (by decide +kernel) (by decide +kernel), tb_mem 863 (by decide +kernel) (by decide +kernel), by decide +kernel, by decide +kernel, by decide +kernel, by decide⟩
theorem m_X7_keep : MV yX7_keep cX7_keep 1 (some (FieldType.int)) 0 := ⟨tb_mem 869 (by decide +kernel) (by decide +kernel), tb_mem 870 (by decide +kernel) (by decide +kernel), tb_mem 53 (by decide +kernel) (by decide +kernel), tb_mem 871 (by decide +kernel) (by decide +kernel), by decide +kernel, by decide +kernel, by decide +kernel, by decide⟩
theorem m_X7_back : MV yX7_back cX7_back 1 (some (FieldType.int)) 0 := ⟨tb_mem 873 (by decide +kernel) (by decide +kernel), tb_mem 874 (by decide +kernel) (by decide +kernel), tb_mem 53 (by decide +kernel) (by decide +kernel), tb_mem 875 (by decide +kernel) (by decide +kernel), by decide +kernel, by decide +kernel, by decide +kernel, by decide⟩
theorem m_X7_count : MV yX7_count cX7_count 2 (some (FieldType.int)) 1 := ⟨tb_mem 877 (by decide +kernel) (by decide +kernel), tb_mem 878 (by decide +kernel) (by decide +kernel), tb_mem 53 (by decide +kernel) (by decide +kernel), tb_mem 879 (by decide +kernel) (by decide +kernel), by decide +kernel, by decide +kernel, by decide +kernel, by decide⟩
theorem m_X7_think : MV yX7_think cX7_think 3 none 2 := ⟨tb_mem 513 (by decide +kernel) (by decide +kernel), tb_mem 3 (by decide +kernel) (by decide +kernel), tb_mem 53 (by decide +kernel) (by decide +kernel), tb_mem 514 (by decide +kernel) (by decide +kernel), by decide +kernel, by decide +kernel, by decide +kernel, by decide⟩
theorem m_X7_isSaid : MV yX7_isSaid cX7_isSaid 4 (some (FieldType.boolean)) 3 := ⟨tb_mem 866 (by decide +kernel) (by decide +kernel), tb_mem 14 (by decide +kernel) (by decide +kernel), tb_mem 53 (by decide +kernel) (by decide +kernel), tb_mem 867 (by decide +kernel) (by decide +kernel), by decide +kernel, by decide +kernel, by decide +kernel, by decide⟩
theorem m_X7_apart : MS yX7_apart cX7_apart 5 (some (FieldType.int)) 2 := ⟨tb_mem 552 (by decide +kernel) (by decide +kernel), tb_mem 53 (by decide +kernel) (by decide +kernel), tb_mem 553 (by decide +kernel) (by decide +kernel), by decide +kernel, by decide +kernel, by decide +kernel, by decide⟩
theorem m_X7_isFact : MS yX7_isFact cX7_isFact 1 (some (FieldType.boolean)) 1 := ⟨tb_mem 437 (by decide +kernel) (by decide +kernel), tb_mem 53 (by decide +kernel) (by decide +kernel), tb_mem 438 (by decide +kernel) (by decide +kernel), by decide +kernel, by decide +kernel, by decide +kernel, by decide⟩
theorem m_X7_isSheet : MS yX7_isSheet cX7_isSheet 1 (some (FieldType.boolean)) 1 := ⟨tb_mem 548 (by decide +kernel) (by decide +kernel), tb_mem 53 (by decide +kernel) (by decide +kernel), tb_mem 549 (by decide +kernel) (by decide +kernel), by decide +kernel, by decide +kernel, by decide +kernel, by decide⟩
theorem m_X7_isSlot : MS yX7_isSlot cX7_isSlot 1 (some (FieldType.boolean)) 1 := ⟨tb_mem 836 (by decide +kernel) (by decide +kernel), tb_mem 53 (by decide +kernel) (by decide +kernel), tb_mem 837 (by decide +kernel) (by decide +kernel), by decide +kernel, by decide +kernel, by decide +kernel, by decide⟩
theorem m_X7_within : MS yX7_within cX7_within 3 (some (FieldType.boolean)) 3 := ⟨tb_mem 302 (by decide +kernel) (by decide +kernel), tb_mem 53 (by decide +kernel) (by decide +kernel), tb_mem 303 (by decide +kernel) (by decide +kernel), by decide +kernel, by decide +kernel, by decide +kernel, by decide⟩
theorem m_X7_held : MS yX7_held cX7_held 3 (some (FieldType.int)) 3 := ⟨tb_mem 351 (by decide +kernel) (by decide +kernel), tb_mem 53 (by decide +kernel) (by decide +kernel), tb_mem 352 (by decide +kernel) (by decide +kernel), by decide +kernel, by decide +kernel, by decide +kernel, by decide⟩
theorem m_X7_exchange : MS yX7_exchange cX7_exchange 4 (some (FieldType.int)) 3 := ⟨tb_mem 426 (by decide +kernel) (by decide +kernel), tb_mem 53 (by decide +kernel) (by decide +kernel), tb_mem 427 (by decide +kernel) (by decide +kernel), by decide +kernel, by decide +kernel, by decide +kernel, by decide⟩
theorem m_X8_init : MI yX8_init cX8_init 1 0 := ⟨tb_mem 883 (by decide +kernel) (by decide +kernel), rfl, tb_mem 60 (by decide +kernel) (by decide +kernel), tb_mem 884 (by decide +kernel) (by decide +kernel), by decide +kernel, by decide +kernel, by decide +kernel, by decide⟩
theorem m_X8_in : MS yX8_in cX8_in 3 (some (FieldType.boolean)) 3 := ⟨tb_mem 996 (by decide +kernel) (by decide +kernel), tb_mem 60 (by decide +kernel) (by decide +kernel), tb_mem 997 (by decide +kernel) (by decide +kernel), by decide +kernel, by decide +kernel, by decide +kernel, by decide⟩
theorem m_X8_within : MS yX8_within cX8_within 3 (some (FieldType.int)) 3 := ⟨tb_mem 1043 (by decide +kernel) (by decide +kernel), tb_mem 60 (by decide +kernel) (by decide +kernel), tb_mem 1044 (by decide +kernel) (by decide +kernel), by decide +kernel, by decide +kernel, by decide +kernel, by decide⟩
theorem m_X8_copyAll : MS yX8_copyAll cX8_copyAll 3 none 2 := ⟨tb_mem 1334 (by decide +kernel) (by decide +kernel), tb_mem 60 (by decide +kernel) (by decide +kernel), tb_mem 1335 (by decide +kernel) (by decide +kernel), by decide +kernel, by decide +kernel, by decide +kernel, by decide⟩
theorem m_X8_told0 : MS yX8_told0 cX8_told0 1 (some (FieldType.int)) 1 := ⟨tb_mem 1066 (by decide +kernel) (by decide +kernel), tb_mem 60 (by decide +kernel) (by decide +kernel), tb_mem 1067 (by decide +kernel) (by decide +kernel), by decide +kernel, by decide +kernel, by decide +kernel, by decide⟩
theorem m_X8_isJuror : MV yX8_isJuror cX8_isJuror 2 (some (FieldType.boolean)) 1 := ⟨tb_mem 1014 (by decide +kernel) (by decide +kernel), tb_mem 17 (by decide +kernel) (by decide +kernel), tb_mem 60 (by decide +kernel) (by decide +kernel), tb_mem 1015 (by decide +kernel) (by decide +kernel), by decide +kernel, by decide +kernel, by decide +kernel, by decide⟩
theorem m_X8_isFact : MS yX8_isFact cX8_isFact 1 (some (FieldType.boolean)) 1 := ⟨tb_mem 1094 (by decide +kernel) (by decide +kernel), tb_mem 60 (by decide +kernel) (by decide +kernel), tb_mem 1095 (by decide +kernel) (by decide +kernel), by decide +kernel, by decide +kernel, by decide +kernel, by decide⟩
theorem m_X8_of : MV yX8_of cX8_of 3 (some (FieldType.int)) 2 := ⟨tb_mem 1018 (by decide +kernel) (by decide +kernel), tb_mem 18 (by decide +kernel) (by decide +kernel), tb_mem 60 (by decide +kernel) (by decide +kernel), tb_mem 1019 (by decide +kernel) (by decide +kernel), by decide +kernel, by decide +kernel, by decide +kernel, by decide⟩
theorem m_X8_put : MV yX8_put cX8_put 4 none 3 := ⟨tb_mem 1006 (by decide +kernel) (by decide +kernel), tb_mem 16 (by decide +kernel) (by decide +kernel), tb_mem 60 (by decide +kernel) (by decide +kernel), tb_mem 1007 (by decide +kernel) (by decide +kernel), by decide +kernel, by decide +kernel, by decide +kernel, by decide⟩
theorem m_X8_becomes : MV yX8_becomes cX8_becomes 4 (some (FieldType.int)) 2 := ⟨tb_mem 1083 (by decide +kernel) (by decide +kernel), tb_mem 27 (by decide +kernel) (by decide +kernel), tb_mem 60 (by decide +kernel) (by decide +kernel), tb_mem 1084 (by decide +kernel) (by decide +kernel), by decide +kernel, by decide +kernel, by decide +kernel, by decide⟩
theorem m_X8_bitsOf : MS yX8_bitsOf cX8_bitsOf 3 (some (FieldType.int)) 1 := ⟨tb_mem 1033 (by decide +kernel) (by decide +kernel), tb_mem 60 (by decide +kernel) (by decide +kernel), tb_mem 1034 (by decide +kernel) (by decide +kernel), by decide +kernel, by decide +kernel, by decide +kernel, by decide⟩
theorem m_X8_comes : MV yX8_comes cX8_comes 6 (some (FieldType.int)) 4 := ⟨tb_mem 1002 (by decide +kernel) (by decide +kernel), tb_mem 15 (by decide +kernel) (by decide +kernel), tb_mem 60 (by decide +kernel) (by decide +kernel), tb_mem 1003 (by decide +kernel) (by decide +kernel), by decide +kernel, by decide +kernel, by decide +kernel, by decide⟩
theorem m_X8_juror : MV yX8_juror cX8_juror 4 (some (FieldType.int)) 3 := ⟨tb_mem 992 (by decide +kernel) (by decide +kernel), tb_mem 993 (by decide +kernel) (by decide +kernel), tb_mem 60 (by decide +kernel) (by decide +kernel), tb_mem 994 (by decide +kernel) (by decide +kernel), by decide +kernel, by decide +kernel, by decide +kernel, by decide⟩
theorem m_X8_weightOf : MV yX8_weightOf cX8_weightOf 4 (some (FieldType.int)) 1 := ⟨tb_mem 1026 (by decide +kernel) (by decide +kernel), tb_mem 20 (by decide +kernel) (by decide +kernel), tb_mem 60 (by decide +kernel) (by decide +kernel), tb_mem 1027 (by decide +kernel) (by decide +kernel), by decide +kernel, by decide +kernel, by decide +kernel, by decide⟩
theorem m_X8_believesOf : MV yX8_believesOf cX8_believesOf 7 (some (FieldType.int)) 1 := ⟨tb_mem 1022 (by decide +kernel) (by decide +kernel), tb_mem 19 (by decide +kernel) (by decide +kernel), tb_mem 60 (by decide +kernel) (by decide +kernel), tb_mem 1023 (by decide +kernel) (by decide +kernel), by decide +kernel, by decide +kernel, by decide +kernel, by decide⟩
theorem m_X8_isGuilty : MV yX8_isGuilty cX8_isGuilty 2 (some (FieldType.boolean)) 1 := ⟨tb_mem 1047 (by decide +kernel) (by decide +kernel), tb_mem 23 (by decide +kernel) (by decide +kernel), tb_mem 60 (by decide +kernel) (by decide +kernel), tb_mem 1048 (by decide +kernel) (by decide +kernel), by decide +kernel, by decide +kernel, by decide +kernel, by decide⟩
theorem m_X8_partnerOf : MV yX8_partnerOf cX8_partnerOf 3 (some (FieldType.int)) 1 := ⟨tb_mem 1051 (by decide +kernel) (by decide +kernel), tb_mem 24 (by decide +kernel) (by decide +kernel), tb_mem 60 (by decide +kernel) (by decide +kernel), tb_mem 1052 (by decide +kernel) (by decide +kernel), by decide +kernel, by decide +kernel, by decide +kernel, by decide⟩
theorem m_X8_tellsOf : MV yX8_tellsOf cX8_tellsOf 8 (some (FieldType.int)) 2 := ⟨tb_mem 1063 (by decide +kernel) (by decide +kernel), tb_mem 26 (by decide +kernel) (by decide +kernel), tb_mem 60 (by decide +kernel) (by decide +kernel), tb_mem 1064 (by decide +kernel) (by decide +kernel), by decide +kernel, by decide +kernel, by decide +kernel, by decide⟩
theorem m_X8_worthOf : MV yX8_worthOf cX8_worthOf 3 (some (FieldType.int)) 1 := ⟨tb_mem 1055 (by decide +kernel) (by decide +kernel), tb_mem 25 (by decide +kernel) (by decide +kernel), tb_mem 60 (by decide +kernel) (by decide +kernel), tb_mem 1056 (by decide +kernel) (by decide +kernel), by decide +kernel, by decide +kernel, by decide +kernel, by decide⟩
theorem m_X8_told : MV yX8_told cX8_told 3 (some (FieldType.int)) 2 := ⟨tb_mem 1009 (by decide +kernel) (by decide +kernel), tb_mem 1010 (by decide +kernel) (by decide +kernel), tb_mem 60 (by decide +kernel) (by decide +kernel), tb_mem 1011 (by decide +kernel) (by decide +kernel), by decide +kernel, by decide +kernel, by decide +kernel, by decide⟩
theorem m_X8_tells : MV yX8_tells cX8_tells 3 (some (FieldType.int)) 2 := ⟨tb_mem 1058 (by decide +kernel) (by decide +kernel), tb_mem 1059 (by decide +kernel) (by decide +kernel), tb_mem 60 (by decide +kernel) (by decide +kernel), tb_mem 1060 (by decide +kernel) (by decide +kernel), by decide +kernel, by decide +kernel, by decide +kernel, by decide⟩
theorem m_X8_isUnder : MS yX8_isUnder cX8_isUnder 2 (some (FieldType.boolean)) 2 := ⟨tb_mem 1074 (by decide +kernel) (by decide +kernel), tb_mem 60 (by decide +kernel) (by decide +kernel), tb_mem 1075 (by decide +kernel) (by decide +kernel), by decide +kernel, by decide +kernel, by decide +kernel, by decide⟩
theorem m_X8_as : MV yX8_as cX8_as 3 (some (FieldType.int)) 2 := ⟨tb_mem 1070 (by decide +kernel) (by decide +kernel), tb_mem 1071 (by decide +kernel) (by decide +kernel), tb_mem 60 (by decide +kernel) (by decide +kernel), tb_mem 1072 (by decide +kernel) (by decide +kernel), by decide +kernel, by decide +kernel, by decide +kernel, by decide⟩
theorem m_X8_turns : MV yX8_turns cX8_turns 3 (some (FieldType.int)) 2 := ⟨tb_mem 1078 (by decide +kernel) (by decide +kernel), tb_mem 1079 (by decide +kernel) (by decide +kernel), tb_mem 60 (by decide +kernel) (by decide +kernel), tb_mem 1080 (by decide +kernel) (by decide +kernel), by decide +kernel, by decide +kernel, by decide +kernel, by decide⟩
theorem m_X8_set : MV yX8_set cX8_set 4 (some (FieldType.int)) 3 := ⟨tb_mem 1086 (by decide +kernel) (by decide +kernel), tb_mem 1087 (by decide +kernel) (by decide +kernel), tb_mem 60 (by decide +kernel) (by decide +kernel), tb_mem 1088 (by decide +kernel) (by decide +kernel), by decide +kernel, by decide +kernel, by decide +kernel, by decide⟩
theorem m_X8_weigh : MV yX8_weigh cX8_weigh 3 (some (FieldType.int)) 2 := ⟨tb_mem 1090 (by decide +kernel) (by decide +kernel), tb_mem 1091 (by decide +kernel) (by decide +kernel), tb_mem 60 (by decide +kernel) (by decide +kernel), tb_mem 1092 (by decide +kernel) (by decide +kernel), by decide +kernel, by decide +kernel, by decide +kernel, by decide⟩
theorem m_X8_rule : MV yX8_rule cX8_rule 3 (some (FieldType.int)) 2 := ⟨tb_mem 1097 (by decide +kernel) (by decide +kernel), tb_mem 1098 (by decide +kernel) (by decide +kernel), tb_mem 60 (by decide +kernel) (by decide +kernel), tb_mem 1099 (by decide +kernel) (by decide +kernel), by decide +kernel, by decide +kernel, by decide +kernel, by decide⟩
theorem m_X8_draw : MV yX8_draw cX8_draw 1 (some (FieldType.int)) 0 := ⟨tb_mem 1106 (by decide +kernel) (by decide +kernel), tb_mem 28 (by decide +kernel) (by decide +kernel), tb_mem 60 (by decide +kernel) (by decide +kernel), tb_mem 1107 (by decide +kernel) (by decide +kernel), by decide +kernel, by decide +kernel, by decide +kernel, by decide⟩
theorem m_X8_deal : MV yX8_deal cX8_deal 7 (some (FieldType.int)) 1 := ⟨tb_mem 1101 (by decide +kernel) (by decide +kernel), tb_mem 1102 (by decide +kernel) (by decide +kernel), tb_mem 60 (by decide +kernel) (by decide +kernel), tb_mem 1103 (by decide +kernel) (by decide +kernel), by decide +kernel, by decide +kernel, by decide +kernel, by decide⟩
theorem m_X8_seed : MV yX8_seed cX8_seed 2 (some (FieldType.int)) 1 := ⟨tb_mem 1110 (by decide +kernel) (by decide +kernel), tb_mem 1111 (by decide +kernel) (by decide +kernel), tb_mem 60 (by decide +kernel) (by decide +kernel), tb_mem 1112 (by decide +kernel) (by decide +kernel), by decide +kernel, by decide +kernel, by decide +kernel, by decide⟩
theorem m_X8_comesOut : MV yX8_comesOut cX8_comesOut 5 (some (FieldType.int)) 2 := ⟨tb_mem 1119 (by decide +kernel) (by decide +kernel), tb_mem 29 (by decide +kernel) (by decide +kernel), tb_mem 60 (by decide +kernel) (by decide +kernel), tb_mem 1120 (by decide +kernel) (by decide +kernel), by decide +kernel, by decide +kernel, by decide +kernel, by decide⟩
theorem m_X8_out : MV yX8_out cX8_out 3 (some (FieldType.int)) 2 := ⟨tb_mem 1114 (by decide +kernel) (by decide +kernel), tb_mem 1115 (by decide +kernel) (by decide +kernel), tb_mem 60 (by decide +kernel) (by decide +kernel), tb_mem 1116 (by decide +kernel) (by decide +kernel), by decide +kernel, by decide +kernel, by decide +kernel, by decide⟩
theorem m_X8_passes : MV yX8_passes cX8_passes 4 (some (FieldType.int)) 3 := ⟨tb_mem 1135 (by decide +kernel) (by decide +kernel), tb_mem 32 (by decide +kernel) (by decide +kernel), tb_mem 60 (by decide +kernel) (by decide +kernel), tb_mem 1136 (by decide +kernel) (by decide +kernel), by decide +kernel, by decide +kernel, by decide +kernel, by decide⟩
theorem m_X8_hour : MV yX8_hour cX8_hour 6 (some (FieldType.int)) 0 := ⟨tb_mem 1131 (by decide +kernel) (by decide +kernel), tb_mem 31 (by decide +kernel) (by decide +kernel), tb_mem 60 (by decide +kernel) (by decide +kernel), tb_mem 1132 (by decide +kernel) (by decide +kernel), by decide +kernel, by decide +kernel, by decide +kernel, by decide⟩
theorem m_X8_goesOn : MV yX8_goesOn cX8_goesOn 4 (some (FieldType.int)) 1 := ⟨tb_mem 1127 (by decide +kernel) (by decide +kernel), tb_mem 30 (by decide +kernel) (by decide +kernel), tb_mem 60 (by decide +kernel) (by decide +kernel), tb_mem 1128 (by decide +kernel) (by decide +kernel), by decide +kernel, by decide +kernel, by decide +kernel, by decide⟩
theorem m_X8_hours : MV yX8_hours cX8_hours 2 (some (FieldType.int)) 1 := ⟨tb_mem 1122 (by decide +kernel) (by decide +kernel), tb_mem 1123 (by decide +kernel) (by decide +kernel), tb_mem 60 (by decide +kernel) (by decide +kernel), tb_mem 1124 (by decide +kernel) (by decide +kernel), by decide +kernel, by decide +kernel, by decide +kernel, by decide⟩
theorem m_X8_common : MV yX8_common cX8_common 3 (some (FieldType.int)) 0 := ⟨tb_mem 1143 (by decide +kernel) (by decide +kernel), tb_mem 33 (by decide +kernel) (by decide +kernel), tb_mem 60 (by decide +kernel) (by decide +kernel), tb_mem 1144 (by decide +kernel) (by decide +kernel), by decide +kernel, by decide +kernel, by decide +kernel, by decide⟩
theorem m_X8_any : MV yX8_any cX8_any 3 (some (FieldType.int)) 0 := ⟨tb_mem 1155 (by decide +kernel) (by decide +kernel), tb_mem 36 (by decide +kernel) (by decide +kernel), tb_mem 60 (by decide +kernel) (by decide +kernel), tb_mem 1156 (by decide +kernel) (by decide +kernel), by decide +kernel, by decide +kernel, by decide +kernel, by decide⟩
theorem m_X8_votes : MV yX8_votes cX8_votes 3 (some (FieldType.int)) 0 := ⟨tb_mem 1147 (by decide +kernel) (by decide +kernel), tb_mem 34 (by decide +kernel) (by decide +kernel), tb_mem 60 (by decide +kernel) (by decide +kernel), tb_mem 1148 (by decide +kernel) (by decide +kernel), by decide +kernel, by decide +kernel, by decide +kernel, by decide⟩
theorem m_X8_knownAll : MV yX8_knownAll cX8_knownAll 3 (some (FieldType.int)) 0 := ⟨tb_mem 1151 (by decide +kernel) (by decide +kernel), tb_mem 35 (by decide +kernel) (by decide +kernel), tb_mem 60 (by decide +kernel) (by decide +kernel), tb_mem 1152 (by decide +kernel) (by decide +kernel), by decide +kernel, by decide +kernel, by decide +kernel, by decide⟩
theorem m_X8_jury : MV yX8_jury cX8_jury 2 (some (FieldType.int)) 1 := ⟨tb_mem 1138 (by decide +kernel) (by decide +kernel), tb_mem 1139 (by decide +kernel) (by decide +kernel), tb_mem 60 (by decide +kernel) (by decide +kernel), tb_mem 1140 (by decide +kernel) (by decide +kernel), by decide +kernel, by decide +kernel, by decide +kernel, by decide⟩
theorem m_X8_thinks : MV yX8_thinks cX8_thinks 2 none 0 := ⟨tb_mem 1163 (by decide +kernel) (by decide +kernel), tb_mem 37 (by decide +kernel) (by decide +kernel), tb_mem 60 (by decide +kernel) (by decide +kernel), tb_mem 1164 (by decide +kernel) (by decide +kernel), by decide +kernel, by decide +kernel, by decide +kernel, by decide⟩
theorem m_X8_putsBack : MV yX8_putsBack cX8_putsBack 2 none 0 := ⟨tb_mem 1168 (by decide +kernel) (by decide +kernel), tb_mem 38 (by decide +kernel) (by decide +kernel), tb_mem 60 (by decide +kernel) (by decide +kernel), tb_mem 1169 (by decide +kernel) (by decide +kernel), by decide +kernel, by decide +kernel, by decide +kernel, by decide⟩
theorem m_X8_behind : MV yX8_behind cX8_behind 5 (some (FieldType.int)) 2 := ⟨tb_mem 1158 (by decide +kernel) (by decide +kernel), tb_mem 1159 (by decide +kernel) (by decide +kernel), tb_mem 60 (by decide +kernel) (by decide +kernel), tb_mem 1160 (by decide +kernel) (by decide +kernel), by decide +kernel, by decide +kernel, by decide +kernel, by decide⟩
theorem m_X8_isKnown : MV yX8_isKnown cX8_isKnown 2 (some (FieldType.boolean)) 1 := ⟨tb_mem 1176 (by decide +kernel) (by decide +kernel), tb_mem 39 (by decide +kernel) (by decide +kernel), tb_mem 60 (by decide +kernel) (by decide +kernel), tb_mem 1177 (by decide +kernel) (by decide +kernel), by decide +kernel, by decide +kernel, by decide +kernel, by decide⟩
theorem m_X8_allKnow : MV yX8_allKnow cX8_allKnow 4 (some (FieldType.int)) 0 := ⟨tb_mem 1171 (by decide +kernel) (by decide +kernel), tb_mem 1172 (by decide +kernel) (by decide +kernel), tb_mem 60 (by decide +kernel) (by decide +kernel), tb_mem 1173 (by decide +kernel) (by decide +kernel), by decide +kernel, by decide +kernel, by decide +kernel, by decide⟩
theorem m_X8_bestTurn : MV yX8_bestTurn cX8_bestTurn 8 (some (FieldType.int)) 2 := ⟨tb_mem 1179 (by decide +kernel) (by decide +kernel), tb_mem 1180 (by decide +kernel) (by decide +kernel), tb_mem 60 (by decide +kernel) (by decide +kernel), tb_mem 1181 (by decide +kernel) (by decide +kernel), by decide +kernel, by decide +kernel, by decide +kernel, by decide⟩
theorem m_X8_sure : MV yX8_sure cX8_sure 5 (some (FieldType.int)) 1 := ⟨tb_mem 1183 (by decide +kernel) (by decide +kernel), tb_mem 1184 (by decide +kernel) (by decide +kernel), tb_mem 60 (by decide +kernel) (by decide +kernel), tb_mem 1185 (by decide +kernel) (by decide +kernel), by decide +kernel, by decide +kernel, by decide +kernel, by decide⟩
theorem m_X8_votesBehind : MV yX8_votesBehind cX8_votesBehind 4 (some (FieldType.int)) 1 := ⟨tb_mem 1192 (by decide +kernel) (by decide +kernel), tb_mem 40 (by decide +kernel) (by decide +kernel), tb_mem 60 (by decide +kernel) (by decide +kernel), tb_mem 1193 (by decide +kernel) (by decide +kernel), by decide +kernel, by decide +kernel, by decide +kernel, by decide⟩
theorem m_X8_advocate : MV yX8_advocate cX8_advocate 8 (some (FieldType.int)) 2 := ⟨tb_mem 1187 (by decide +kernel) (by decide +kernel), tb_mem 1188 (by decide +kernel) (by decide +kernel), tb_mem 60 (by decide +kernel) (by decide +kernel), tb_mem 1189 (by decide +kernel) (by decide +kernel), by decide +kernel, by decide +kernel, by decide +kernel, by decide⟩
theorem m_X8_tipped : MV yX8_tipped cX8_tipped 5 (some (FieldType.int)) 1 := ⟨tb_mem 1195 (by decide +kernel) (by decide +kernel), tb_mem 1196 (by decide +kernel) (by decide +kernel), tb_mem 60 (by decide +kernel) (by decide +kernel), tb_mem 1197 (by decide +kernel) (by decide +kernel), by decide +kernel, by decide +kernel, by decide +kernel, by decide⟩
theorem m_X8_offBy : MV yX8_offBy cX8_offBy 10 (some (FieldType.long)) 2 := ⟨tb_mem 1208 (by decide +kernel) (by decide +kernel), tb_mem 41 (by decide +kernel) (by decide +kernel), tb_mem 60 (by decide +kernel) (by decide +kernel), tb_mem 1209 (by decide +kernel) (by decide +kernel), by decide +kernel, by decide +kernel, by decide +kernel, by decide⟩
theorem m_X8_weighed : MV yX8_weighed cX8_weighed 9 (some (FieldType.int)) 2 := ⟨tb_mem 1199 (by decide +kernel) (by decide +kernel), tb_mem 1200 (by decide +kernel) (by decide +kernel), tb_mem 60 (by decide +kernel) (by decide +kernel), tb_mem 1201 (by decide +kernel) (by decide +kernel), by decide +kernel, by decide +kernel, by decide +kernel, by decide⟩
theorem m_X8_fee : MV yX8_fee cX8_fee 2 (some (FieldType.int)) 0 := ⟨tb_mem 1211 (by decide +kernel) (by decide +kernel), tb_mem 1212 (by decide +kernel) (by decide +kernel), tb_mem 60 (by decide +kernel) (by decide +kernel), tb_mem 1213 (by decide +kernel) (by decide +kernel), by decide +kernel, by decide +kernel, by decide +kernel, by decide⟩
theorem m_X8_fine : MV yX8_fine cX8_fine 3 (some (FieldType.int)) 1 := ⟨tb_mem 1215 (by decide +kernel) (by decide +kernel), tb_mem 1216 (by decide +kernel) (by decide +kernel), tb_mem 60 (by decide +kernel) (by decide +kernel), tb_mem 1217 (by decide +kernel) (by decide +kernel), by decide +kernel, by decide +kernel, by decide +kernel, by decide⟩
theorem m_X8_feed : MV yX8_feed cX8_feed 6 (some (FieldType.int)) 3 := ⟨tb_mem 1219 (by decide +kernel) (by decide +kernel), tb_mem 1220 (by decide +kernel) (by decide +kernel), tb_mem 60 (by decide +kernel) (by decide +kernel), tb_mem 1221 (by decide +kernel) (by decide +kernel), by decide +kernel, by decide +kernel, by decide +kernel, by decide⟩
theorem m_X8_trim : MV yX8_trim cX8_trim 2 (some (FieldType.int)) 1 := ⟨tb_mem 1223 (by decide +kernel) (by decide +kernel), tb_mem 1224 (by decide +kernel) (by decide +kernel), tb_mem 60 (by decide +kernel) (by decide +kernel), tb_mem 1225 (by decide +kernel) (by decide +kernel), by decide +kernel, by decide +kernel, by decide +kernel, by decide⟩
theorem m_X8_isLetter : MV yX8_isLetter cX8_isLetter 2 (some (FieldType.boolean)) 1 := ⟨tb_mem 1236 (by decide +kernel) (by decide +kernel), tb_mem 43 (by decide +kernel) (by decide +kernel), tb_mem 60 (by decide +kernel) (by decide +kernel), tb_mem 1237 (by decide +kernel) (by decide +kernel), by decide +kernel, by decide +kernel, by decide +kernel, by decide⟩
theorem m_X8_isFigure : MV yX8_isFigure cX8_isFigure 2 (some (FieldType.boolean)) 1 := ⟨tb_mem 1240 (by decide +kernel) (by decide +kernel), tb_mem 44 (by decide +kernel) (by decide +kernel), tb_mem 60 (by decide +kernel) (by decide +kernel), tb_mem 1241 (by decide +kernel) (by decide +kernel), by decide +kernel, by decide +kernel, by decide +kernel, by decide⟩
theorem m_X8_go : MV yX8_go cX8_go 2 none 0 := ⟨tb_mem 1232 (by decide +kernel) (by decide +kernel), tb_mem 42 (by decide +kernel) (by decide +kernel), tb_mem 60 (by decide +kernel) (by decide +kernel), tb_mem 1233 (by decide +kernel) (by decide +kernel), by decide +kernel, by decide +kernel, by decide +kernel, by decide⟩
theorem m_X8_takesKey : MV yX8_takesKey cX8_takesKey 5 (some (FieldType.boolean)) 0 := ⟨tb_mem 1244 (by decide +kernel) (by decide +kernel), tb_mem 45 (by decide +kernel) (by decide +kernel), tb_mem 60 (by decide +kernel) (by decide +kernel), tb_mem 1245 (by decide +kernel) (by decide +kernel), by decide +kernel, by decide +kernel, by decide +kernel, by decide⟩
theorem m_X8_nameOf : MV yX8_nameOf cX8_nameOf 2 (some (FieldType.int)) 1 := ⟨tb_mem 1256 (by decide +kernel) (by decide +kernel), tb_mem 48 (by decide +kernel) (by decide +kernel), tb_mem 60 (by decide +kernel) (by decide +kernel), tb_mem 1257 (by decide +kernel) (by decide +kernel), by decide +kernel, by decide +kernel, by decide +kernel, by decide⟩
theorem m_X8_rank : MS yX8_rank cX8_rank 1 (some (FieldType.int)) 1 := ⟨tb_mem 1263 (by decide +kernel) (by decide +kernel), tb_mem 60 (by decide +kernel) (by decide +kernel), tb_mem 1264 (by decide +kernel) (by decide +kernel), by decide +kernel, by decide +kernel, by decide +kernel, by decide⟩
theorem m_X8_settle : MV yX8_settle cX8_settle 2 none 1 := ⟨tb_mem 1260 (by decide +kernel) (by decide +kernel), tb_mem 49 (by decide +kernel) (by decide +kernel), tb_mem 60 (by decide +kernel) (by decide +kernel), tb_mem 1261 (by decide +kernel) (by decide +kernel), by decide +kernel, by decide +kernel, by decide +kernel, by decide⟩
theorem m_X8_signHere : MV yX8_signHere cX8_signHere 1 (some (FieldType.int)) 0 := ⟨tb_mem 1271 (by decide +kernel) (by decide +kernel), tb_mem 51 (by decide +kernel) (by decide +kernel), tb_mem 60 (by decide +kernel) (by decide +kernel), tb_mem 1272 (by decide +kernel) (by decide +kernel), by decide +kernel, by decide +kernel, by decide +kernel, by decide⟩
theorem m_X8_takesPart : MV yX8_takesPart cX8_takesPart 2 (some (FieldType.boolean)) 0 := ⟨tb_mem 1252 (by decide +kernel) (by decide +kernel), tb_mem 47 (by decide +kernel) (by decide +kernel), tb_mem 60 (by decide +kernel) (by decide +kernel), tb_mem 1253 (by decide +kernel) (by decide +kernel), by decide +kernel, by decide +kernel, by decide +kernel, by decide⟩
theorem m_X8_takesE : MV yX8_takesE cX8_takesE 5 (some (FieldType.boolean)) 0 := ⟨tb_mem 1248 (by decide +kernel) (by decide +kernel), tb_mem 46 (by decide +kernel) (by decide +kernel), tb_mem 60 (by decide +kernel) (by decide +kernel), tb_mem 1249 (by decide +kernel) (by decide +kernel), by decide +kernel, by decide +kernel, by decide +kernel, by decide⟩
theorem m_X8_notsOpen : MV yX8_notsOpen cX8_notsOpen 3 (some (FieldType.int)) 0 := ⟨tb_mem 1267 (by decide +kernel) (by decide +kernel), tb_mem 50 (by decide +kernel) (by decide +kernel), tb_mem 60 (by decide +kernel) (by decide +kernel), tb_mem 1268 (by decide +kernel) (by decide +kernel), by decide +kernel, by decide +kernel, by decide +kernel, by decide⟩
theorem m_X8_text : MV yX8_text cX8_text 4 (some (FieldType.int)) 0 := ⟨tb_mem 1227 (by decide +kernel) (by decide +kernel), tb_mem 1228 (by decide +kernel) (by decide +kernel), tb_mem 60 (by decide +kernel) (by decide +kernel), tb_mem 1229 (by decide +kernel) (by decide +kernel), by decide +kernel, by decide +kernel, by decide +kernel, by decide⟩
theorem m_X8_textTold : MV yX8_textTold cX8_textTold 3 (some (FieldType.int)) 2 := ⟨tb_mem 1274 (by decide +kernel) (by decide +kernel), tb_mem 1275 (by decide +kernel) (by decide +kernel), tb_mem 60 (by decide +kernel) (by decide +kernel), tb_mem 1276 (by decide +kernel) (by decide +kernel), by decide +kernel, by decide +kernel, by decide +kernel, by decide⟩
theorem m_X8_counts : MV yX8_counts cX8_counts 3 (some (FieldType.int)) 1 := ⟨tb_mem 1030 (by decide +kernel) (by decide +kernel), tb_mem 21 (by decide +kernel) (by decide +kernel), tb_mem 60 (by decide +kernel) (by decide +kernel), tb_mem 1031 (by decide +kernel) (by decide +kernel), by decide +kernel, by decide +kernel, by decide +kernel, by decide⟩
theorem m_X8_why : MV yX8_why cX8_why 3 (some (FieldType.int)) 1 := ⟨tb_mem 1278 (by decide +kernel) (by decide +kernel), tb_mem 1279 (by decide +kernel) (by decide +kernel), tb_mem 60 (by decide +kernel) (by decide +kernel), tb_mem 1280 (by decide +kernel) (by decide +kernel), by decide +kernel, by decide +kernel, by decide +kernel, by decide⟩
theorem m_X8_two : MS yX8_two cX8_two 3 (some (FieldType.int)) 3 := ⟨tb_mem 1040 (by decide +kernel) (by decide +kernel), tb_mem 60 (by decide +kernel) (by decide +kernel), tb_mem 1041 (by decide +kernel) (by decide +kernel), by decide +kernel, by decide +kernel, by decide +kernel, by decide⟩
theorem m_X8_worksOut : MV yX8_worksOut cX8_worksOut 6 (some (FieldType.int)) 1 := ⟨tb_mem 1037 (by decide +kernel) (by decide +kernel), tb_mem 22 (by decide +kernel) (by decide +kernel), tb_mem 60 (by decide +kernel) (by decide +kernel), tb_mem 1038 (by decide +kernel) (by decide +kernel), by decide +kernel, by decide +kernel, by decide +kernel, by decide⟩
theorem m_X8_isSheet : MS yX8_isSheet cX8_isSheet 1 (some (FieldType.boolean)) 1 := ⟨tb_mem 1203 (by decide +kernel) (by decide +kernel), tb_mem 60 (by decide +kernel) (by decide +kernel), tb_mem 1204 (by decide +kernel) (by decide +kernel), by decide +kernel, by decide +kernel, by decide +kernel, by decide⟩
theorem m_X8_isSlot : MS yX8_isSlot cX8_isSlot 1 (some (FieldType.boolean)) 1 := ⟨tb_mem 1310 (by decide +kernel) (by decide +kernel), tb_mem 60 (by decide +kernel) (by decide +kernel), tb_mem 1311 (by decide +kernel) (by decide +kernel), by decide +kernel, by decide +kernel, by decide +kernel, by decide⟩
theorem m_X8_sheet : MV yX8_sheet cX8_sheet 5 (some (FieldType.int)) 3 := ⟨tb_mem 1282 (by decide +kernel) (by decide +kernel), tb_mem 1283 (by decide +kernel) (by decide +kernel), tb_mem 60 (by decide +kernel) (by decide +kernel), tb_mem 1284 (by decide +kernel) (by decide +kernel), by decide +kernel, by decide +kernel, by decide +kernel, by decide⟩
theorem m_X8_mark : MV yX8_mark cX8_mark 4 (some (FieldType.int)) 3 := ⟨tb_mem 1287 (by decide +kernel) (by decide +kernel), tb_mem 1288 (by decide +kernel) (by decide +kernel), tb_mem 60 (by decide +kernel) (by decide +kernel), tb_mem 1289 (by decide +kernel) (by decide +kernel), by decide +kernel, by decide +kernel, by decide +kernel, by decide⟩
theorem m_X8_pour : MV yX8_pour cX8_pour 6 (some (FieldType.int)) 1 := ⟨tb_mem 1294 (by decide +kernel) (by decide +kernel), tb_mem 1295 (by decide +kernel) (by decide +kernel), tb_mem 60 (by decide +kernel) (by decide +kernel), tb_mem 1296 (by decide +kernel) (by decide +kernel), by decide +kernel, by decide +kernel, by decide +kernel, by decide⟩
theorem m_X8_reads : MV yX8_reads cX8_reads 4 (some (FieldType.int)) 1 := ⟨tb_mem 1298 (by decide +kernel) (by decide +kernel), tb_mem 1299 (by decide +kernel) (by decide +kernel), tb_mem 60 (by decide +kernel) (by decide +kernel), tb_mem 1300 (by decide +kernel) (by decide +kernel), by decide +kernel, by decide +kernel, by decide +kernel, by decide⟩
theorem m_X8_copy : MV yX8_copy cX8_copy 7 (some (FieldType.int)) 5 := ⟨tb_mem 1302 (by decide +kernel) (by decide +kernel), tb_mem 1303 (by decide +kernel) (by decide +kernel), tb_mem 60 (by decide +kernel) (by decide +kernel), tb_mem 1304 (by decide +kernel) (by decide +kernel), by decide +kernel, by decide +kernel, by decide +kernel, by decide⟩
theorem m_X8_lay : MV yX8_lay cX8_lay 6 (some (FieldType.int)) 3 := ⟨tb_mem 1306 (by decide +kernel) (by decide +kernel), tb_mem 1307 (by decide +kernel) (by decide +kernel), tb_mem 60 (by decide +kernel) (by decide +kernel), tb_mem 1308 (by decide +kernel) (by decide +kernel), by decide +kernel, by decide +kernel, by decide +kernel, by decide⟩
theorem m_X8_ask : MV yX8_ask cX8_ask 3 (some (FieldType.int)) 2 := ⟨tb_mem 1313 (by decide +kernel) (by decide +kernel), tb_mem 1314 (by decide +kernel) (by decide +kernel), tb_mem 60 (by decide +kernel) (by decide +kernel), tb_mem 1315 (by decide +kernel) (by decide +kernel), by decide +kernel, by decide +kernel, by decide +kernel, by decide⟩
theorem m_X8_item : MV yX8_item cX8_item 4 (some (FieldType.int)) 2 := ⟨tb_mem 1317 (by decide +kernel) (by decide +kernel), tb_mem 1318 (by decide +kernel) (by decide +kernel), tb_mem 60 (by decide +kernel) (by decide +kernel), tb_mem 1319 (by decide +kernel) (by decide +kernel), by decide +kernel, by decide +kernel, by decide +kernel, by decide⟩
theorem m_X8_rest : MV yX8_rest cX8_rest 3 (some (FieldType.int)) 2 := ⟨tb_mem 1321 (by decide +kernel) (by decide +kernel), tb_mem 1322 (by decide +kernel) (by decide +kernel), tb_mem 60 (by decide +kernel) (by decide +kernel), tb_mem 1323 (by decide +kernel) (by decide +kernel), by decide +kernel, by decide +kernel, by decide +kernel, by decide⟩
theorem m_X8_tell : MV yX8_tell cX8_tell 2 (some (FieldType.int)) 1 := ⟨tb_mem 1326 (by decide +kernel) (by decide +kernel), tb_mem 1327 (by decide +kernel) (by decide +kernel), tb_mem 60 (by decide +kernel) (by decide +kernel), tb_mem 1328 (by decide +kernel) (by decide +kernel), by decide +kernel, by decide +kernel, by decide +kernel, by decide⟩
theorem m_X8_check : MV yX8_check cX8_check 7 (some (FieldType.int)) 1 := ⟨tb_mem 1330 (by decide +kernel) (by decide +kernel), tb_mem 1331 (by decide +kernel) (by decide +kernel), tb_mem 60 (by decide +kernel) (by decide +kernel), tb_mem 1332 (by decide +kernel) (by decide +kernel), by decide +kernel, by decide +kernel, by decide +kernel, by decide⟩
theorem m_X8_keep : MV yX8_keep cX8_keep 1 (some (FieldType.int)) 0 := ⟨tb_mem 1337 (by decide +kernel) (by decide +kernel), tb_mem 1338 (by decide +kernel) (by decide +kernel), tb_mem 60 (by decide +kernel) (by decide +kernel), tb_mem 1339 (by decide +kernel) (by decide +kernel), by decide +kernel, by decide +kernel, by decide +kernel, by decide⟩
theorem m_X8_back : MV yX8_back cX8_back 1 (some (FieldType.int)) 0 := ⟨tb_mem 1341 (by decide +kernel) (by decide +kernel), tb_mem 1342 (by decide +kernel) (by decide +kernel), tb_mem 60 (by decide +kernel) (by decide +kernel), tb_mem 1343 (by decide +kernel) (by decide +kernel), by decide +kernel, by decide +kernel, by decide +kernel, by decide⟩
theorem m_X8_count : MV yX8_count cX8_count 2 (some (FieldType.int)) 1 := ⟨tb_mem 1345 (by decide +kernel) (by decide +kernel), tb_mem 1346 (by decide +kernel) (by decide +kernel), tb_mem 60 (by decide +kernel) (by decide +kernel), tb_mem 1347 (by decide +kernel) (by decide +kernel), by decide +kernel, by decide +kernel, by decide +kernel, by decide⟩
theorem m_J11_isValidCodePoint_9a6ad : MS yJ11_isValidCodePoint_9a6ad cJ11_isValidCodePoint_9a6ad 2 (some (FieldType.boolean)) 1 := ⟨tb_mem 747 (by decide +kernel) (by decide +kernel), tb_mem 69 (by decide +kernel) (by decide +kernel), tb_mem 748 (by decide +kernel) (by decide +kernel), by decide +kernel, by decide +kernel, by decide +kernel, by decide⟩
theorem m_J11_highSurrogate_5068e : MS yJ11_highSurrogate_5068e cJ11_highSurrogate_5068e 1 (some (FieldType.char)) 1 := ⟨tb_mem 750 (by decide +kernel) (by decide +kernel), tb_mem 69 (by decide +kernel) (by decide +kernel), tb_mem 751 (by decide +kernel) (by decide +kernel), by decide +kernel, by decide +kernel, by decide +kernel, by decide⟩
theorem m_J11_lowSurrogate_5068e : MS yJ11_lowSurrogate_5068e cJ11_lowSurrogate_5068e 1 (some (FieldType.char)) 1 := ⟨tb_mem 754 (by decide +kernel) (by decide +kernel), tb_mem 69 (by decide +kernel) (by decide +kernel), tb_mem 755 (by decide +kernel) (by decide +kernel), by decide +kernel, by decide +kernel, by decide +kernel, by decide⟩
theorem m_J6_bitCount_0f7a4 : MS yJ6_bitCount_0f7a4 cJ6_bitCount_0f7a4 1 (some (FieldType.int)) 1 := ⟨tb_mem 327 (by decide +kernel) (by decide +kernel), tb_mem 61 (by decide +kernel) (by decide +kernel), tb_mem 328 (by decide +kernel) (by decide +kernel), by decide +kernel, by decide +kernel, by decide +kernel, by decide⟩
theorem m_J9_floorMod_7cf53 : MS yJ9_floorMod_7cf53 cJ9_floorMod_7cf53 3 (some (FieldType.int)) 2 := ⟨tb_mem 380 (by decide +kernel) (by decide +kernel), tb_mem 62 (by decide +kernel) (by decide +kernel), tb_mem 381 (by decide +kernel) (by decide +kernel), by decide +kernel, by decide +kernel, by decide +kernel, by decide⟩
theorem m_J9_abs_0f7a4 : MS yJ9_abs_0f7a4 cJ9_abs_0f7a4 1 (some (FieldType.int)) 1 := ⟨tb_mem 564 (by decide +kernel) (by decide +kernel), tb_mem 62 (by decide +kernel) (by decide +kernel), tb_mem 565 (by decide +kernel) (by decide +kernel), by decide +kernel, by decide +kernel, by decide +kernel, by decide⟩
theorem m_J9_max_7cf53 : MS yJ9_max_7cf53 cJ9_max_7cf53 2 (some (FieldType.int)) 2 := ⟨tb_mem 357 (by decide +kernel) (by decide +kernel), tb_mem 62 (by decide +kernel) (by decide +kernel), tb_mem 358 (by decide +kernel) (by decide +kernel), by decide +kernel, by decide +kernel, by decide +kernel, by decide⟩
theorem m_J9_min_7cf53 : MS yJ9_min_7cf53 cJ9_min_7cf53 2 (some (FieldType.int)) 2 := ⟨tb_mem 354 (by decide +kernel) (by decide +kernel), tb_mem 62 (by decide +kernel) (by decide +kernel), tb_mem 355 (by decide +kernel) (by decide +kernel), by decide +kernel, by decide +kernel, by decide +kernel, by decide⟩
theorem m_J0_length_8abf5 : MV yJ0_length_8abf5 cJ0_length_8abf5 1 (some (FieldType.int)) 0 := ⟨tb_mem 621 (by decide +kernel) (by decide +kernel), tb_mem 622 (by decide +kernel) (by decide +kernel), tb_mem 65 (by decide +kernel) (by decide +kernel), tb_mem 623 (by decide +kernel) (by decide +kernel), by decide +kernel, by decide +kernel, by decide +kernel, by decide⟩
theorem m_J0_charAt_5068e : MV yJ0_charAt_5068e cJ0_charAt_5068e 2 (some (FieldType.char)) 1 := ⟨tb_mem 631 (by decide +kernel) (by decide +kernel), tb_mem 632 (by decide +kernel) (by decide +kernel), tb_mem 65 (by decide +kernel) (by decide +kernel), tb_mem 633 (by decide +kernel) (by decide +kernel), by decide +kernel, by decide +kernel, by decide +kernel, by decide⟩
theorem m_J0_indexOf_0f7a4 : MV yJ0_indexOf_0f7a4 cJ0_indexOf_0f7a4 2 (some (FieldType.int)) 1 := ⟨tb_mem 703 (by decide +kernel) (by decide +kernel), tb_mem 704 (by decide +kernel) (by decide +kernel), tb_mem 65 (by decide +kernel) (by decide +kernel), tb_mem 705 (by decide +kernel) (by decide +kernel), by decide +kernel, by decide +kernel, by decide +kernel, by decide⟩
theorem m_J0_indexOf_7cf53 : MV yJ0_indexOf_7cf53 cJ0_indexOf_7cf53 3 (some (FieldType.int)) 2 := ⟨tb_mem 707 (by decide +kernel) (by decide +kernel), tb_mem 708 (by decide +kernel) (by decide +kernel), tb_mem 65 (by decide +kernel) (by decide +kernel), tb_mem 709 (by decide +kernel) (by decide +kernel), by decide +kernel, by decide +kernel, by decide +kernel, by decide⟩
theorem m_J0_coder_7d493 : MV yJ0_coder_7d493 cJ0_coder_7d493 1 (some (FieldType.byte)) 0 := ⟨tb_mem 625 (by decide +kernel) (by decide +kernel), tb_mem 626 (by decide +kernel) (by decide +kernel), tb_mem 65 (by decide +kernel) (by decide +kernel), tb_mem 627 (by decide +kernel) (by decide +kernel), by decide +kernel, by decide +kernel, by decide +kernel, by decide⟩
theorem m_J0_isLatin1_aae02 : MV yJ0_isLatin1_aae02 cJ0_isLatin1_aae02 1 (some (FieldType.boolean)) 0 := ⟨tb_mem 635 (by decide +kernel) (by decide +kernel), tb_mem 636 (by decide +kernel) (by decide +kernel), tb_mem 65 (by decide +kernel) (by decide +kernel), tb_mem 637 (by decide +kernel) (by decide +kernel), by decide +kernel, by decide +kernel, by decide +kernel, by decide⟩
theorem m_J0_checkIndex_df160 : MS yJ0_checkIndex_df160 cJ0_checkIndex_df160 2 none 2 := ⟨tb_mem 642 (by decide +kernel) (by decide +kernel), tb_mem 65 (by decide +kernel) (by decide +kernel), tb_mem 643 (by decide +kernel) (by decide +kernel), by decide +kernel, by decide +kernel, by decide +kernel, by decide⟩
theorem m_J0_checkBoundsBeginEnd_23922 : MS yJ0_checkBoundsBeginEnd_23922 cJ0_checkBoundsBeginEnd_23922 3 none 3 := ⟨tb_mem 735 (by decide +kernel) (by decide +kernel), tb_mem 65 (by decide +kernel) (by decide +kernel), tb_mem 736 (by decide +kernel) (by decide +kernel), by decide +kernel, by decide +kernel, by decide +kernel, by decide⟩
theorem m_J1_charAt_3b067 : MS yJ1_charAt_3b067 cJ1_charAt_3b067 2 (some (FieldType.char)) 2 := ⟨tb_mem 639 (by decide +kernel) (by decide +kernel), tb_mem 66 (by decide +kernel) (by decide +kernel), tb_mem 640 (by decide +kernel) (by decide +kernel), by decide +kernel, by decide +kernel, by decide +kernel, by decide⟩
theorem m_J1_canEncode_9a6ad : MS yJ1_canEncode_9a6ad cJ1_canEncode_9a6ad 1 (some (FieldType.boolean)) 1 := ⟨tb_mem 715 (by decide +kernel) (by decide +kernel), tb_mem 66 (by decide +kernel) (by decide +kernel), tb_mem 716 (by decide +kernel) (by decide +kernel), by decide +kernel, by decide +kernel, by decide +kernel, by decide⟩
theorem m_J1_indexOf_4cfef : MS yJ1_indexOf_4cfef cJ1_indexOf_4cfef 4 (some (FieldType.int)) 4 := ⟨tb_mem 712 (by decide +kernel) (by decide +kernel), tb_mem 66 (by decide +kernel) (by decide +kernel), tb_mem 713 (by decide +kernel) (by decide +kernel), by decide +kernel, by decide +kernel, by decide +kernel, by decide⟩
theorem m_J1_indexOfChar_4cfef : MS yJ1_indexOfChar_4cfef cJ1_indexOfChar_4cfef 6 (some (FieldType.int)) 4 := ⟨tb_mem 720 (by decide +kernel) (by decide +kernel), tb_mem 66 (by decide +kernel) (by decide +kernel), tb_mem 721 (by decide +kernel) (by decide +kernel), by decide +kernel, by decide +kernel, by decide +kernel, by decide⟩
theorem m_J2_getChar_3b067 : MS yJ2_getChar_3b067 cJ2_getChar_3b067 2 (some (FieldType.char)) 2 := ⟨tb_mem 660 (by decide +kernel) (by decide +kernel), tb_mem 68 (by decide +kernel) (by decide +kernel), tb_mem 661 (by decide +kernel) (by decide +kernel), by decide +kernel, by decide +kernel, by decide +kernel, by decide⟩
theorem m_J2_length_9d52b : MS yJ2_length_9d52b cJ2_length_9d52b 1 (some (FieldType.int)) 1 := ⟨tb_mem 656 (by decide +kernel) (by decide +kernel), tb_mem 68 (by decide +kernel) (by decide +kernel), tb_mem 657 (by decide +kernel) (by decide +kernel), by decide +kernel, by decide +kernel, by decide +kernel, by decide⟩
theorem m_J2_indexOf_4cfef : MS yJ2_indexOf_4cfef cJ2_indexOf_4cfef 4 (some (FieldType.int)) 4 := ⟨tb_mem 723 (by decide +kernel) (by decide +kernel), tb_mem 68 (by decide +kernel) (by decide +kernel), tb_mem 724 (by decide +kernel) (by decide +kernel), by decide +kernel, by decide +kernel, by decide +kernel, by decide⟩
theorem m_J2_indexOfChar_4cfef : MS yJ2_indexOfChar_4cfef cJ2_indexOfChar_4cfef 4 (some (FieldType.int)) 4 := ⟨tb_mem 729 (by decide +kernel) (by decide +kernel), tb_mem 68 (by decide +kernel) (by decide +kernel), tb_mem 730 (by decide +kernel) (by decide +kernel), by decide +kernel, by decide +kernel, by decide +kernel, by decide⟩
theorem m_J2_indexOfCharUnsafe_4cfef : MS yJ2_indexOfCharUnsafe_4cfef cJ2_indexOfCharUnsafe_4cfef 5 (some (FieldType.int)) 4 := ⟨tb_mem 741 (by decide +kernel) (by decide +kernel), tb_mem 68 (by decide +kernel) (by decide +kernel), tb_mem 742 (by decide +kernel) (by decide +kernel), by decide +kernel, by decide +kernel, by decide +kernel, by decide⟩
theorem m_J2_indexOfSupplementary_4cfef : MS yJ2_indexOfSupplementary_4cfef cJ2_indexOfSupplementary_4cfef 7 (some (FieldType.int)) 4 := ⟨tb_mem 744 (by decide +kernel) (by decide +kernel), tb_mem 68 (by decide +kernel) (by decide +kernel), tb_mem 745 (by decide +kernel) (by decide +kernel), by decide +kernel, by decide +kernel, by decide +kernel, by decide⟩
theorem m_J2_charAt_3b067 : MS yJ2_charAt_3b067 cJ2_charAt_3b067 2 (some (FieldType.char)) 2 := ⟨tb_mem 650 (by decide +kernel) (by decide +kernel), tb_mem 68 (by decide +kernel) (by decide +kernel), tb_mem 651 (by decide +kernel) (by decide +kernel), by decide +kernel, by decide +kernel, by decide +kernel, by decide⟩
theorem m_J2_checkIndex_2214a : MS yJ2_checkIndex_2214a cJ2_checkIndex_2214a 2 none 2 := ⟨tb_mem 653 (by decide +kernel) (by decide +kernel), tb_mem 68 (by decide +kernel) (by decide +kernel), tb_mem 654 (by decide +kernel) (by decide +kernel), by decide +kernel, by decide +kernel, by decide +kernel, by decide⟩
theorem m_J2_checkBoundsBeginEnd_d044e : MS yJ2_checkBoundsBeginEnd_d044e cJ2_checkBoundsBeginEnd_d044e 3 none 3 := ⟨tb_mem 732 (by decide +kernel) (by decide +kernel), tb_mem 68 (by decide +kernel) (by decide +kernel), tb_mem 733 (by decide +kernel) (by decide +kernel), by decide +kernel, by decide +kernel, by decide +kernel, by decide⟩
theorem m_J3_checkIndex_8e157 : MS yJ3_checkIndex_8e157 cJ3_checkIndex_8e157 3 (some (FieldType.int)) 3 := ⟨tb_mem 647 (by decide +kernel) (by decide +kernel), tb_mem 67 (by decide +kernel) (by decide +kernel), tb_mem 648 (by decide +kernel) (by decide +kernel), by decide +kernel, by decide +kernel, by decide +kernel, by decide⟩
theorem m_J3_checkFromToIndex_8c36e : MS yJ3_checkFromToIndex_8c36e cJ3_checkFromToIndex_8c36e 4 (some (FieldType.int)) 4 := ⟨tb_mem 738 (by decide +kernel) (by decide +kernel), tb_mem 67 (by decide +kernel) (by decide +kernel), tb_mem 739 (by decide +kernel) (by decide +kernel), by decide +kernel, by decide +kernel, by decide +kernel, by decide⟩
theorem ob_i : Cond.instanceMethod objectInit ∈ tb := tb_mem 76 (by decide +kernel) (by decide +kernel)
theorem ob_c : Cond.code objectInit ⟨#[0xb1]⟩ 1 none ∈ tb := tb_mem 77 (by decide +kernel) (by decide +kernel)
theorem ac_n : Cond.native arraycopyName ∈ tb := tb_mem 521 (by decide +kernel) (by decide +kernel)
theorem ac_s : Cond.static arraycopyName ∈ tb := tb_mem 520 (by decide +kernel) (by decide +kernel)
theorem ac_i : Cond.initialized "java/lang/System" ∈ tb := tb_mem 64 (by decide +kernel) (by decide +kernel)
theorem ka_int : Cond.arrayClass .int ∈ tb := tb_mem 107 (by decide +kernel) (by decide +kernel)
theorem ka_byte : Cond.arrayClass .byte ∈ tb := tb_mem 787 (by decide +kernel) (by decide +kernel)
theorem ka_char : Cond.arrayClass .char ∈ tb := tb_mem 989 (by decide +kernel) (by decide +kernel)
theorem ka_boolean : Cond.arrayClass .boolean ∈ tb := tb_mem 990 (by decide +kernel) (by decide +kernel)
theorem ml_X7_1 : Cond.methodLink RX7 1 objectInit ∈ tb := tb_mem 75 (by decide +kernel) (by decide +kernel)
theorem ml_X7_9 : Cond.methodLink RX7 9 yX3_init ∈ tb := tb_mem 80 (by decide +kernel) (by decide +kernel)
theorem ml_X7_18 : Cond.methodLink RX7 18 yX6_init ∈ tb := tb_mem 117 (by decide +kernel) (by decide +kernel)
theorem ml_X7_25 : Cond.methodLink RX7 25 yX0_init ∈ tb := tb_mem 149 (by decide +kernel) (by decide +kernel)
theorem ml_X7_44 : Cond.methodLink RX7 44 yX4_init ∈ tb := tb_mem 222 (by decide +kernel) (by decide +kernel)
theorem ml_X7_51 : Cond.methodLink RX7 51 yX5_init ∈ tb := tb_mem 242 (by decide +kernel) (by decide +kernel)
theorem ml_X7_56 : Cond.methodLink RX7 56 yX7_within ∈ tb := tb_mem 301 (by decide +kernel) (by decide +kernel)
theorem ml_X7_66 : Cond.methodLink RX7 66 yX0_add ∈ tb := tb_mem 306 (by decide +kernel) (by decide +kernel)
theorem ml_X7_70 : Cond.methodLink RX7 70 yX0_has ∈ tb := tb_mem 314 (by decide +kernel) (by decide +kernel)
theorem ml_X7_89 : Cond.methodLink RX7 89 yX0_believes ∈ tb := tb_mem 318 (by decide +kernel) (by decide +kernel)
theorem ml_X7_93 : Cond.methodLink RX7 93 yX0_verdict ∈ tb := tb_mem 370 (by decide +kernel) (by decide +kernel)
theorem ml_X7_96 : Cond.methodLink RX7 96 yX0_partner ∈ tb := tb_mem 375 (by decide +kernel) (by decide +kernel)
theorem ml_X7_99 : Cond.methodLink RX7 99 yX1_worth ∈ tb := tb_mem 382 (by decide +kernel) (by decide +kernel)
theorem ml_X7_105 : Cond.methodLink RX7 105 yX1_passes ∈ tb := tb_mem 395 (by decide +kernel) (by decide +kernel)
theorem ml_X7_110 : Cond.methodLink RX7 110 yJ6_bitCount_0f7a4 ∈ tb := tb_mem 409 (by decide +kernel) (by decide +kernel)
theorem ml_X7_115 : Cond.methodLink RX7 115 yX1_isOf ∈ tb := tb_mem 414 (by decide +kernel) (by decide +kernel)
theorem ml_X7_120 : Cond.methodLink RX7 120 yX7_exchange ∈ tb := tb_mem 425 (by decide +kernel) (by decide +kernel)
theorem ml_X7_124 : Cond.methodLink RX7 124 yX7_isFact ∈ tb := tb_mem 436 (by decide +kernel) (by decide +kernel)
theorem ml_X7_139 : Cond.methodLink RX7 139 yJ9_min_7cf53 ∈ tb := tb_mem 353 (by decide +kernel) (by decide +kernel)
theorem ml_X7_144 : Cond.methodLink RX7 144 yX0_addByLot ∈ tb := tb_mem 447 (by decide +kernel) (by decide +kernel)
theorem ml_X7_150 : Cond.methodLink RX7 150 yX0_comesOut ∈ tb := tb_mem 465 (by decide +kernel) (by decide +kernel)
theorem ml_X7_156 : Cond.methodLink RX7 156 yX0_pass ∈ tb := tb_mem 473 (by decide +kernel) (by decide +kernel)
theorem ml_X7_159 : Cond.methodLink RX7 159 yX0_common ∈ tb := tb_mem 491 (by decide +kernel) (by decide +kernel)
theorem ml_X7_163 : Cond.methodLink RX7 163 yX0_votes ∈ tb := tb_mem 495 (by decide +kernel) (by decide +kernel)
theorem ml_X7_169 : Cond.methodLink RX7 169 yX0_known ∈ tb := tb_mem 499 (by decide +kernel) (by decide +kernel)
theorem ml_X7_172 : Cond.methodLink RX7 172 yX0_any ∈ tb := tb_mem 503 (by decide +kernel) (by decide +kernel)
theorem ml_X7_175 : Cond.methodLink RX7 175 yX7_think ∈ tb := tb_mem 511 (by decide +kernel) (by decide +kernel)
theorem ml_X7_179 : Cond.methodLink RX7 179 yX0_become ∈ tb := tb_mem 515 (by decide +kernel) (by decide +kernel)
theorem ml_X7_183 : Cond.methodLink RX7 183 yX0_anHour ∈ tb := tb_mem 526 (by decide +kernel) (by decide +kernel)
theorem ml_X7_186 : Cond.methodLink RX7 186 yX7_isSheet ∈ tb := tb_mem 547 (by decide +kernel) (by decide +kernel)
theorem ml_X7_193 : Cond.methodLink RX7 193 yX7_apart ∈ tb := tb_mem 551 (by decide +kernel) (by decide +kernel)
theorem ml_X7_200 : Cond.methodLink RX7 200 yX3_gives ∈ tb := tb_mem 570 (by decide +kernel) (by decide +kernel)
theorem ml_X7_207 : Cond.methodLink RX7 207 yX6_takes ∈ tb := tb_mem 579 (by decide +kernel) (by decide +kernel)
theorem ml_X7_211 : Cond.methodLink RX7 211 yX6_faultOfText ∈ tb := tb_mem 591 (by decide +kernel) (by decide +kernel)
theorem ml_X7_217 : Cond.methodLink RX7 217 yX3_at ∈ tb := tb_mem 780 (by decide +kernel) (by decide +kernel)
theorem ml_X7_225 : Cond.methodLink RX7 225 yX2_become ∈ tb := tb_mem 781 (by decide +kernel) (by decide +kernel)
theorem ml_X7_233 : Cond.methodLink RX7 233 yX7_held ∈ tb := tb_mem 786 (by decide +kernel) (by decide +kernel)
theorem ml_X7_241 : Cond.methodLink RX7 241 yX4_begin ∈ tb := tb_mem 801 (by decide +kernel) (by decide +kernel)
theorem ml_X7_245 : Cond.methodLink RX7 245 yX4_has ∈ tb := tb_mem 810 (by decide +kernel) (by decide +kernel)
theorem ml_X7_252 : Cond.methodLink RX7 252 yX4_hasNumber ∈ tb := tb_mem 554 (by decide +kernel) (by decide +kernel)
theorem ml_X7_255 : Cond.methodLink RX7 255 yX4_hasStretch ∈ tb := tb_mem 826 (by decide +kernel) (by decide +kernel)
theorem ml_X7_258 : Cond.methodLink RX7 258 arraycopyName ∈ tb := tb_mem 830 (by decide +kernel) (by decide +kernel)
theorem ml_X7_264 : Cond.methodLink RX7 264 yX7_isSlot ∈ tb := tb_mem 835 (by decide +kernel) (by decide +kernel)
theorem ml_X7_278 : Cond.methodLink RX7 278 yX4_become ∈ tb := tb_mem 838 (by decide +kernel) (by decide +kernel)
theorem ml_X7_292 : Cond.methodLink RX7 292 yX7_isSaid ∈ tb := tb_mem 864 (by decide +kernel) (by decide +kernel)
theorem ml_X7_295 : Cond.methodLink RX7 295 yJ9_abs_0f7a4 ∈ tb := tb_mem 563 (by decide +kernel) (by decide +kernel)
theorem ml_X7_298 : Cond.methodLink RX7 298 yJ9_max_7cf53 ∈ tb := tb_mem 356 (by decide +kernel) (by decide +kernel)
theorem ml_X0_3 : Cond.methodLink RX0 3 objectInit ∈ tb := tb_mem 152 (by decide +kernel) (by decide +kernel)
theorem ml_X0_47 : Cond.methodLink RX0 47 arraycopyName ∈ tb := tb_mem 519 (by decide +kernel) (by decide +kernel)
theorem ml_X0_68 : Cond.methodLink RX0 68 yX0_draw ∈ tb := tb_mem 451 (by decide +kernel) (by decide +kernel)
theorem ml_X0_72 : Cond.methodLink RX0 72 yX0_add ∈ tb := tb_mem 456 (by decide +kernel) (by decide +kernel)
theorem ml_X0_77 : Cond.methodLink RX0 77 yJ9_floorMod_7cf53 ∈ tb := tb_mem 379 (by decide +kernel) (by decide +kernel)
theorem ml_X0_83 : Cond.methodLink RX0 83 yX0_anHour ∈ tb := tb_mem 477 (by decide +kernel) (by decide +kernel)
theorem ml_X0_87 : Cond.methodLink RX0 87 yX0_partner ∈ tb := tb_mem 481 (by decide +kernel) (by decide +kernel)
theorem ml_X0_90 : Cond.methodLink RX0 90 yX0_palms ∈ tb := tb_mem 482 (by decide +kernel) (by decide +kernel)
theorem ml_X0_94 : Cond.methodLink RX0 94 yX1_passes ∈ tb := tb_mem 486 (by decide +kernel) (by decide +kernel)
theorem ml_X0_100 : Cond.methodLink RX0 100 yX0_trusts ∈ tb := tb_mem 322 (by decide +kernel) (by decide +kernel)
theorem ml_X0_103 : Cond.methodLink RX0 103 yX1_belief ∈ tb := tb_mem 359 (by decide +kernel) (by decide +kernel)
theorem ml_X0_106 : Cond.methodLink RX0 106 yJ6_bitCount_0f7a4 ∈ tb := tb_mem 326 (by decide +kernel) (by decide +kernel)
theorem ml_X0_111 : Cond.methodLink RX0 111 yX3_gives ∈ tb := tb_mem 332 (by decide +kernel) (by decide +kernel)
theorem ml_X0_120 : Cond.methodLink RX0 120 yX0_believes ∈ tb := tb_mem 374 (by decide +kernel) (by decide +kernel)
theorem ml_X1_9 : Cond.methodLink RX1 9 yX1_above ∈ tb := tb_mem 417 (by decide +kernel) (by decide +kernel)
theorem ml_X1_15 : Cond.methodLink RX1 15 yX1_doubtingWorth ∈ tb := tb_mem 385 (by decide +kernel) (by decide +kernel)
theorem ml_X1_18 : Cond.methodLink RX1 18 yX1_swayedWorth ∈ tb := tb_mem 388 (by decide +kernel) (by decide +kernel)
theorem ml_X1_21 : Cond.methodLink RX1 21 yX1_doubtingBelief ∈ tb := tb_mem 362 (by decide +kernel) (by decide +kernel)
theorem ml_X1_25 : Cond.methodLink RX1 25 yX1_swayedBelief ∈ tb := tb_mem 366 (by decide +kernel) (by decide +kernel)
theorem ml_X1_28 : Cond.methodLink RX1 28 yJ9_max_7cf53 ∈ tb := tb_mem 365 (by decide +kernel) (by decide +kernel)
theorem ml_X1_46 : Cond.methodLink RX1 46 yX1_greatest ∈ tb := tb_mem 398 (by decide +kernel) (by decide +kernel)
theorem ml_X1_49 : Cond.methodLink RX1 49 yX0_swaying ∈ tb := tb_mem 401 (by decide +kernel) (by decide +kernel)
theorem ml_X1_53 : Cond.methodLink RX1 53 yX1_least ∈ tb := tb_mem 405 (by decide +kernel) (by decide +kernel)
theorem ml_X2_3 : Cond.methodLink RX2 3 objectInit ∈ tb := tb_mem 90 (by decide +kernel) (by decide +kernel)
theorem ml_X2_25 : Cond.methodLink RX2 25 arraycopyName ∈ tb := tb_mem 785 (by decide +kernel) (by decide +kernel)
theorem ml_X2_31 : Cond.methodLink RX2 31 yX2_add ∈ tb := tb_mem 688 (by decide +kernel) (by decide +kernel)
theorem ml_X2_35 : Cond.methodLink RX2 35 yX2_named ∈ tb := tb_mem 344 (by decide +kernel) (by decide +kernel)
theorem ml_X2_39 : Cond.methodLink RX2 39 yX2_joined ∈ tb := tb_mem 347 (by decide +kernel) (by decide +kernel)
theorem ml_X3_3 : Cond.methodLink RX3 3 objectInit ∈ tb := tb_mem 83 (by decide +kernel) (by decide +kernel)
theorem ml_X3_21 : Cond.methodLink RX3 21 yX2_init ∈ tb := tb_mem 87 (by decide +kernel) (by decide +kernel)
theorem ml_X3_22 : Cond.methodLink RX3 22 yX3_at ∈ tb := tb_mem 336 (by decide +kernel) (by decide +kernel)
theorem ml_X3_26 : Cond.methodLink RX3 26 yX2_work ∈ tb := tb_mem 340 (by decide +kernel) (by decide +kernel)
theorem ml_X4_3 : Cond.methodLink RX4 3 objectInit ∈ tb := tb_mem 225 (by decide +kernel) (by decide +kernel)
theorem ml_X4_26 : Cond.methodLink RX4 26 arraycopyName ∈ tb := tb_mem 842 (by decide +kernel) (by decide +kernel)
theorem ml_X4_32 : Cond.methodLink RX4 32 yX4_has ∈ tb := tb_mem 558 (by decide +kernel) (by decide +kernel)
theorem ml_X5_3 : Cond.methodLink RX5 3 objectInit ∈ tb := tb_mem 245 (by decide +kernel) (by decide +kernel)
theorem ml_X5_17 : Cond.methodLink RX5 17 yX4_init ∈ tb := tb_mem 247 (by decide +kernel) (by decide +kernel)
theorem ml_X6_3 : Cond.methodLink RX6 3 objectInit ∈ tb := tb_mem 120 (by decide +kernel) (by decide +kernel)
theorem ml_X6_17 : Cond.methodLink RX6 17 yX2_init ∈ tb := tb_mem 122 (by decide +kernel) (by decide +kernel)
theorem ml_X6_32 : Cond.methodLink RX6 32 yX6_step ∈ tb := tb_mem 595 (by decide +kernel) (by decide +kernel)
theorem ml_X6_35 : Cond.methodLink RX6 35 yX6_keyAtHand ∈ tb := tb_mem 606 (by decide +kernel) (by decide +kernel)
theorem ml_X6_42 : Cond.methodLink RX6 42 yX2_begin ∈ tb := tb_mem 668 (by decide +kernel) (by decide +kernel)
theorem ml_X6_46 : Cond.methodLink RX6 46 yX6_level ∈ tb := tb_mem 672 (by decide +kernel) (by decide +kernel)
theorem ml_X6_50 : Cond.methodLink RX6 50 yX6_byteAt ∈ tb := tb_mem 599 (by decide +kernel) (by decide +kernel)
theorem ml_X6_54 : Cond.methodLink RX6 54 yX6_sortOf ∈ tb := tb_mem 603 (by decide +kernel) (by decide +kernel)
theorem ml_X6_61 : Cond.methodLink RX6 61 yX6_wordOf ∈ tb := tb_mem 610 (by decide +kernel) (by decide +kernel)
theorem ml_X6_65 : Cond.methodLink RX6 65 yX6_isWord ∈ tb := tb_mem 616 (by decide +kernel) (by decide +kernel)
theorem ml_X6_69 : Cond.methodLink RX6 69 yJ0_length_8abf5 ∈ tb := tb_mem 620 (by decide +kernel) (by decide +kernel)
theorem ml_X6_73 : Cond.methodLink RX6 73 yJ0_charAt_5068e ∈ tb := tb_mem 630 (by decide +kernel) (by decide +kernel)
theorem ml_X6_99 : Cond.methodLink RX6 99 yJ0_indexOf_0f7a4 ∈ tb := tb_mem 702 (by decide +kernel) (by decide +kernel)
theorem ml_X6_102 : Cond.methodLink RX6 102 yX6_piece ∈ tb := tb_mem 676 (by decide +kernel) (by decide +kernel)
theorem ml_X6_106 : Cond.methodLink RX6 106 yX6_signsOf ∈ tb := tb_mem 772 (by decide +kernel) (by decide +kernel)
theorem ml_X6_109 : Cond.methodLink RX6 109 yX6_isSignOf ∈ tb := tb_mem 762 (by decide +kernel) (by decide +kernel)
theorem ml_X6_112 : Cond.methodLink RX6 112 yX2_addSign ∈ tb := tb_mem 766 (by decide +kernel) (by decide +kernel)
theorem ml_X6_115 : Cond.methodLink RX6 115 yX6_number ∈ tb := tb_mem 680 (by decide +kernel) (by decide +kernel)
theorem ml_X6_119 : Cond.methodLink RX6 119 yX6_name ∈ tb := tb_mem 692 (by decide +kernel) (by decide +kernel)
theorem ml_X6_128 : Cond.methodLink RX6 128 yX2_addNumber ∈ tb := tb_mem 684 (by decide +kernel) (by decide +kernel)
theorem ml_X6_134 : Cond.methodLink RX6 134 yX6_namesOf ∈ tb := tb_mem 696 (by decide +kernel) (by decide +kernel)
theorem ml_X6_137 : Cond.methodLink RX6 137 yX2_addName ∈ tb := tb_mem 757 (by decide +kernel) (by decide +kernel)
theorem ml_L_9 : Cond.methodLink RL 9 yX7_init ∈ tb := tb_mem 72 (by decide +kernel) (by decide +kernel)
theorem ml_L_12 : Cond.methodLink RL 12 yX8_init ∈ tb := tb_mem 882 (by decide +kernel) (by decide +kernel)
theorem ml_L_13 : Cond.methodLink RL 13 yX7_juror ∈ tb := tb_mem 297 (by decide +kernel) (by decide +kernel)
theorem ml_L_17 : Cond.methodLink RL 17 yX8_juror ∈ tb := tb_mem 991 (by decide +kernel) (by decide +kernel)
theorem ml_L_18 : Cond.methodLink RL 18 yX7_told ∈ tb := tb_mem 310 (by decide +kernel) (by decide +kernel)
theorem ml_L_22 : Cond.methodLink RL 22 yX8_told ∈ tb := tb_mem 1008 (by decide +kernel) (by decide +kernel)
theorem ml_L_23 : Cond.methodLink RL 23 yX7_tells ∈ tb := tb_mem 391 (by decide +kernel) (by decide +kernel)
theorem ml_L_26 : Cond.methodLink RL 26 yX8_tells ∈ tb := tb_mem 1057 (by decide +kernel) (by decide +kernel)
theorem ml_L_27 : Cond.methodLink RL 27 yX7_as ∈ tb := tb_mem 410 (by decide +kernel) (by decide +kernel)
theorem ml_L_30 : Cond.methodLink RL 30 yX8_as ∈ tb := tb_mem 1069 (by decide +kernel) (by decide +kernel)
theorem ml_L_31 : Cond.methodLink RL 31 yX7_turns ∈ tb := tb_mem 421 (by decide +kernel) (by decide +kernel)
theorem ml_L_34 : Cond.methodLink RL 34 yX8_turns ∈ tb := tb_mem 1077 (by decide +kernel) (by decide +kernel)
theorem ml_L_35 : Cond.methodLink RL 35 yX7_set ∈ tb := tb_mem 428 (by decide +kernel) (by decide +kernel)
theorem ml_L_38 : Cond.methodLink RL 38 yX8_set ∈ tb := tb_mem 1085 (by decide +kernel) (by decide +kernel)
theorem ml_L_39 : Cond.methodLink RL 39 yX7_weigh ∈ tb := tb_mem 432 (by decide +kernel) (by decide +kernel)
theorem ml_L_42 : Cond.methodLink RL 42 yX8_weigh ∈ tb := tb_mem 1089 (by decide +kernel) (by decide +kernel)
theorem ml_L_43 : Cond.methodLink RL 43 yX7_rule ∈ tb := tb_mem 439 (by decide +kernel) (by decide +kernel)
theorem ml_L_46 : Cond.methodLink RL 46 yX8_rule ∈ tb := tb_mem 1096 (by decide +kernel) (by decide +kernel)
theorem ml_L_47 : Cond.methodLink RL 47 yX7_deal ∈ tb := tb_mem 443 (by decide +kernel) (by decide +kernel)
theorem ml_L_51 : Cond.methodLink RL 51 yX8_deal ∈ tb := tb_mem 1100 (by decide +kernel) (by decide +kernel)
theorem ml_L_52 : Cond.methodLink RL 52 yX7_seed ∈ tb := tb_mem 457 (by decide +kernel) (by decide +kernel)
theorem ml_L_55 : Cond.methodLink RL 55 yX8_seed ∈ tb := tb_mem 1109 (by decide +kernel) (by decide +kernel)
theorem ml_L_56 : Cond.methodLink RL 56 yX7_out ∈ tb := tb_mem 461 (by decide +kernel) (by decide +kernel)
theorem ml_L_59 : Cond.methodLink RL 59 yX8_out ∈ tb := tb_mem 1113 (by decide +kernel) (by decide +kernel)
theorem ml_L_60 : Cond.methodLink RL 60 yX7_hours ∈ tb := tb_mem 469 (by decide +kernel) (by decide +kernel)
theorem ml_L_63 : Cond.methodLink RL 63 yX8_hours ∈ tb := tb_mem 1121 (by decide +kernel) (by decide +kernel)
theorem ml_L_64 : Cond.methodLink RL 64 yX7_jury ∈ tb := tb_mem 487 (by decide +kernel) (by decide +kernel)
theorem ml_L_67 : Cond.methodLink RL 67 yX8_jury ∈ tb := tb_mem 1137 (by decide +kernel) (by decide +kernel)
theorem ml_L_68 : Cond.methodLink RL 68 yX7_behind ∈ tb := tb_mem 507 (by decide +kernel) (by decide +kernel)
theorem ml_L_71 : Cond.methodLink RL 71 yX8_behind ∈ tb := tb_mem 1157 (by decide +kernel) (by decide +kernel)
theorem ml_L_72 : Cond.methodLink RL 72 yX7_allKnow ∈ tb := tb_mem 522 (by decide +kernel) (by decide +kernel)
theorem ml_L_76 : Cond.methodLink RL 76 yX8_allKnow ∈ tb := tb_mem 1170 (by decide +kernel) (by decide +kernel)
theorem ml_L_77 : Cond.methodLink RL 77 yX7_bestTurn ∈ tb := tb_mem 527 (by decide +kernel) (by decide +kernel)
theorem ml_L_80 : Cond.methodLink RL 80 yX8_bestTurn ∈ tb := tb_mem 1178 (by decide +kernel) (by decide +kernel)
theorem ml_L_81 : Cond.methodLink RL 81 yX7_sure ∈ tb := tb_mem 531 (by decide +kernel) (by decide +kernel)
theorem ml_L_84 : Cond.methodLink RL 84 yX8_sure ∈ tb := tb_mem 1182 (by decide +kernel) (by decide +kernel)
theorem ml_L_85 : Cond.methodLink RL 85 yX7_advocate ∈ tb := tb_mem 535 (by decide +kernel) (by decide +kernel)
theorem ml_L_88 : Cond.methodLink RL 88 yX8_advocate ∈ tb := tb_mem 1186 (by decide +kernel) (by decide +kernel)
theorem ml_L_89 : Cond.methodLink RL 89 yX7_tipped ∈ tb := tb_mem 539 (by decide +kernel) (by decide +kernel)
theorem ml_L_92 : Cond.methodLink RL 92 yX8_tipped ∈ tb := tb_mem 1194 (by decide +kernel) (by decide +kernel)
theorem ml_L_93 : Cond.methodLink RL 93 yX7_weighed ∈ tb := tb_mem 543 (by decide +kernel) (by decide +kernel)
theorem ml_L_96 : Cond.methodLink RL 96 yX8_weighed ∈ tb := tb_mem 1198 (by decide +kernel) (by decide +kernel)
theorem ml_L_97 : Cond.methodLink RL 97 yX7_fee ∈ tb := tb_mem 566 (by decide +kernel) (by decide +kernel)
theorem ml_L_100 : Cond.methodLink RL 100 yX8_fee ∈ tb := tb_mem 1210 (by decide +kernel) (by decide +kernel)
theorem ml_L_101 : Cond.methodLink RL 101 yX7_fine ∈ tb := tb_mem 571 (by decide +kernel) (by decide +kernel)
theorem ml_L_104 : Cond.methodLink RL 104 yX8_fine ∈ tb := tb_mem 1214 (by decide +kernel) (by decide +kernel)
theorem ml_L_105 : Cond.methodLink RL 105 yX7_feed ∈ tb := tb_mem 575 (by decide +kernel) (by decide +kernel)
theorem ml_L_108 : Cond.methodLink RL 108 yX8_feed ∈ tb := tb_mem 1218 (by decide +kernel) (by decide +kernel)
theorem ml_L_109 : Cond.methodLink RL 109 yX7_trim ∈ tb := tb_mem 583 (by decide +kernel) (by decide +kernel)
theorem ml_L_112 : Cond.methodLink RL 112 yX8_trim ∈ tb := tb_mem 1222 (by decide +kernel) (by decide +kernel)
theorem ml_L_113 : Cond.methodLink RL 113 yX7_text ∈ tb := tb_mem 587 (by decide +kernel) (by decide +kernel)
theorem ml_L_116 : Cond.methodLink RL 116 yX8_text ∈ tb := tb_mem 1226 (by decide +kernel) (by decide +kernel)
theorem ml_L_117 : Cond.methodLink RL 117 yX7_textTold ∈ tb := tb_mem 788 (by decide +kernel) (by decide +kernel)
theorem ml_L_120 : Cond.methodLink RL 120 yX8_textTold ∈ tb := tb_mem 1273 (by decide +kernel) (by decide +kernel)
theorem ml_L_121 : Cond.methodLink RL 121 yX7_why ∈ tb := tb_mem 792 (by decide +kernel) (by decide +kernel)
theorem ml_L_124 : Cond.methodLink RL 124 yX8_why ∈ tb := tb_mem 1277 (by decide +kernel) (by decide +kernel)
theorem ml_L_125 : Cond.methodLink RL 125 yX7_sheet ∈ tb := tb_mem 796 (by decide +kernel) (by decide +kernel)
theorem ml_L_128 : Cond.methodLink RL 128 yX8_sheet ∈ tb := tb_mem 1281 (by decide +kernel) (by decide +kernel)
theorem ml_L_129 : Cond.methodLink RL 129 yX7_mark ∈ tb := tb_mem 806 (by decide +kernel) (by decide +kernel)
theorem ml_L_132 : Cond.methodLink RL 132 yX8_mark ∈ tb := tb_mem 1286 (by decide +kernel) (by decide +kernel)
theorem ml_L_133 : Cond.methodLink RL 133 yX7_pour ∈ tb := tb_mem 814 (by decide +kernel) (by decide +kernel)
theorem ml_L_136 : Cond.methodLink RL 136 yX8_pour ∈ tb := tb_mem 1293 (by decide +kernel) (by decide +kernel)
theorem ml_L_137 : Cond.methodLink RL 137 yX7_reads ∈ tb := tb_mem 818 (by decide +kernel) (by decide +kernel)
theorem ml_L_140 : Cond.methodLink RL 140 yX8_reads ∈ tb := tb_mem 1297 (by decide +kernel) (by decide +kernel)
theorem ml_L_141 : Cond.methodLink RL 141 yX7_copy ∈ tb := tb_mem 822 (by decide +kernel) (by decide +kernel)
theorem ml_L_145 : Cond.methodLink RL 145 yX8_copy ∈ tb := tb_mem 1301 (by decide +kernel) (by decide +kernel)
theorem ml_L_146 : Cond.methodLink RL 146 yX7_lay ∈ tb := tb_mem 831 (by decide +kernel) (by decide +kernel)
theorem ml_L_149 : Cond.methodLink RL 149 yX8_lay ∈ tb := tb_mem 1305 (by decide +kernel) (by decide +kernel)
theorem ml_L_150 : Cond.methodLink RL 150 yX7_ask ∈ tb := tb_mem 843 (by decide +kernel) (by decide +kernel)
theorem ml_L_153 : Cond.methodLink RL 153 yX8_ask ∈ tb := tb_mem 1312 (by decide +kernel) (by decide +kernel)
theorem ml_L_154 : Cond.methodLink RL 154 yX7_item ∈ tb := tb_mem 847 (by decide +kernel) (by decide +kernel)
theorem ml_L_157 : Cond.methodLink RL 157 yX8_item ∈ tb := tb_mem 1316 (by decide +kernel) (by decide +kernel)
theorem ml_L_158 : Cond.methodLink RL 158 yX7_rest ∈ tb := tb_mem 851 (by decide +kernel) (by decide +kernel)
theorem ml_L_161 : Cond.methodLink RL 161 yX8_rest ∈ tb := tb_mem 1320 (by decide +kernel) (by decide +kernel)
theorem ml_L_162 : Cond.methodLink RL 162 yX7_tell ∈ tb := tb_mem 856 (by decide +kernel) (by decide +kernel)
theorem ml_L_165 : Cond.methodLink RL 165 yX8_tell ∈ tb := tb_mem 1325 (by decide +kernel) (by decide +kernel)
theorem ml_L_166 : Cond.methodLink RL 166 yX7_check ∈ tb := tb_mem 860 (by decide +kernel) (by decide +kernel)
theorem ml_L_169 : Cond.methodLink RL 169 yX8_check ∈ tb := tb_mem 1329 (by decide +kernel) (by decide +kernel)
theorem ml_L_170 : Cond.methodLink RL 170 yX7_keep ∈ tb := tb_mem 868 (by decide +kernel) (by decide +kernel)
theorem ml_L_173 : Cond.methodLink RL 173 yX8_keep ∈ tb := tb_mem 1336 (by decide +kernel) (by decide +kernel)
theorem ml_L_174 : Cond.methodLink RL 174 yX7_back ∈ tb := tb_mem 872 (by decide +kernel) (by decide +kernel)
theorem ml_L_177 : Cond.methodLink RL 177 yX8_back ∈ tb := tb_mem 1340 (by decide +kernel) (by decide +kernel)
theorem ml_L_178 : Cond.methodLink RL 178 yX7_count ∈ tb := tb_mem 876 (by decide +kernel) (by decide +kernel)
theorem ml_L_181 : Cond.methodLink RL 181 yX8_count ∈ tb := tb_mem 1344 (by decide +kernel) (by decide +kernel)
theorem ml_X8_1 : Cond.methodLink RX8 1 objectInit ∈ tb := tb_mem 885 (by decide +kernel) (by decide +kernel)
theorem ml_X8_80 : Cond.methodLink RX8 80 yX8_in ∈ tb := tb_mem 995 (by decide +kernel) (by decide +kernel)
theorem ml_X8_84 : Cond.methodLink RX8 84 yX8_put ∈ tb := tb_mem 1004 (by decide +kernel) (by decide +kernel)
theorem ml_X8_90 : Cond.methodLink RX8 90 yX8_comes ∈ tb := tb_mem 1000 (by decide +kernel) (by decide +kernel)
theorem ml_X8_94 : Cond.methodLink RX8 94 yX8_of ∈ tb := tb_mem 1016 (by decide +kernel) (by decide +kernel)
theorem ml_X8_98 : Cond.methodLink RX8 98 yX8_weightOf ∈ tb := tb_mem 1024 (by decide +kernel) (by decide +kernel)
theorem ml_X8_102 : Cond.methodLink RX8 102 yX8_counts ∈ tb := tb_mem 1028 (by decide +kernel) (by decide +kernel)
theorem ml_X8_105 : Cond.methodLink RX8 105 yX8_bitsOf ∈ tb := tb_mem 1032 (by decide +kernel) (by decide +kernel)
theorem ml_X8_108 : Cond.methodLink RX8 108 yX8_worksOut ∈ tb := tb_mem 1035 (by decide +kernel) (by decide +kernel)
theorem ml_X8_111 : Cond.methodLink RX8 111 yX8_within ∈ tb := tb_mem 1042 (by decide +kernel) (by decide +kernel)
theorem ml_X8_115 : Cond.methodLink RX8 115 yX8_believesOf ∈ tb := tb_mem 1020 (by decide +kernel) (by decide +kernel)
theorem ml_X8_118 : Cond.methodLink RX8 118 yX8_isJuror ∈ tb := tb_mem 1012 (by decide +kernel) (by decide +kernel)
theorem ml_X8_122 : Cond.methodLink RX8 122 yX8_isGuilty ∈ tb := tb_mem 1045 (by decide +kernel) (by decide +kernel)
theorem ml_X8_125 : Cond.methodLink RX8 125 yX8_partnerOf ∈ tb := tb_mem 1049 (by decide +kernel) (by decide +kernel)
theorem ml_X8_128 : Cond.methodLink RX8 128 yX8_worthOf ∈ tb := tb_mem 1053 (by decide +kernel) (by decide +kernel)
theorem ml_X8_131 : Cond.methodLink RX8 131 yX8_tellsOf ∈ tb := tb_mem 1061 (by decide +kernel) (by decide +kernel)
theorem ml_X8_134 : Cond.methodLink RX8 134 yX8_told0 ∈ tb := tb_mem 1065 (by decide +kernel) (by decide +kernel)
theorem ml_X8_137 : Cond.methodLink RX8 137 yX8_isUnder ∈ tb := tb_mem 1073 (by decide +kernel) (by decide +kernel)
theorem ml_X8_142 : Cond.methodLink RX8 142 yX8_becomes ∈ tb := tb_mem 1081 (by decide +kernel) (by decide +kernel)
theorem ml_X8_145 : Cond.methodLink RX8 145 yX8_isFact ∈ tb := tb_mem 1093 (by decide +kernel) (by decide +kernel)
theorem ml_X8_149 : Cond.methodLink RX8 149 yX8_draw ∈ tb := tb_mem 1104 (by decide +kernel) (by decide +kernel)
theorem ml_X8_153 : Cond.methodLink RX8 153 yX8_comesOut ∈ tb := tb_mem 1117 (by decide +kernel) (by decide +kernel)
theorem ml_X8_156 : Cond.methodLink RX8 156 yX8_passes ∈ tb := tb_mem 1133 (by decide +kernel) (by decide +kernel)
theorem ml_X8_159 : Cond.methodLink RX8 159 yX8_hour ∈ tb := tb_mem 1129 (by decide +kernel) (by decide +kernel)
theorem ml_X8_162 : Cond.methodLink RX8 162 yX8_goesOn ∈ tb := tb_mem 1125 (by decide +kernel) (by decide +kernel)
theorem ml_X8_165 : Cond.methodLink RX8 165 yX8_common ∈ tb := tb_mem 1141 (by decide +kernel) (by decide +kernel)
theorem ml_X8_168 : Cond.methodLink RX8 168 yX8_votes ∈ tb := tb_mem 1145 (by decide +kernel) (by decide +kernel)
theorem ml_X8_171 : Cond.methodLink RX8 171 yX8_knownAll ∈ tb := tb_mem 1149 (by decide +kernel) (by decide +kernel)
theorem ml_X8_174 : Cond.methodLink RX8 174 yX8_any ∈ tb := tb_mem 1153 (by decide +kernel) (by decide +kernel)
theorem ml_X8_177 : Cond.methodLink RX8 177 yX8_thinks ∈ tb := tb_mem 1161 (by decide +kernel) (by decide +kernel)
theorem ml_X8_180 : Cond.methodLink RX8 180 yX8_jury ∈ tb := tb_mem 1165 (by decide +kernel) (by decide +kernel)
theorem ml_X8_183 : Cond.methodLink RX8 183 yX8_putsBack ∈ tb := tb_mem 1166 (by decide +kernel) (by decide +kernel)
theorem ml_X8_186 : Cond.methodLink RX8 186 yX8_isKnown ∈ tb := tb_mem 1174 (by decide +kernel) (by decide +kernel)
theorem ml_X8_189 : Cond.methodLink RX8 189 yX8_votesBehind ∈ tb := tb_mem 1190 (by decide +kernel) (by decide +kernel)
theorem ml_X8_192 : Cond.methodLink RX8 192 yX8_isSheet ∈ tb := tb_mem 1202 (by decide +kernel) (by decide +kernel)
theorem ml_X8_196 : Cond.methodLink RX8 196 yX8_offBy ∈ tb := tb_mem 1206 (by decide +kernel) (by decide +kernel)
theorem ml_X8_215 : Cond.methodLink RX8 215 yX8_isLetter ∈ tb := tb_mem 1234 (by decide +kernel) (by decide +kernel)
theorem ml_X8_221 : Cond.methodLink RX8 221 yX8_isFigure ∈ tb := tb_mem 1238 (by decide +kernel) (by decide +kernel)
theorem ml_X8_227 : Cond.methodLink RX8 227 yX8_go ∈ tb := tb_mem 1230 (by decide +kernel) (by decide +kernel)
theorem ml_X8_233 : Cond.methodLink RX8 233 yX8_rank ∈ tb := tb_mem 1262 (by decide +kernel) (by decide +kernel)
theorem ml_X8_239 : Cond.methodLink RX8 239 yX8_nameOf ∈ tb := tb_mem 1254 (by decide +kernel) (by decide +kernel)
theorem ml_X8_245 : Cond.methodLink RX8 245 yX8_settle ∈ tb := tb_mem 1258 (by decide +kernel) (by decide +kernel)
theorem ml_X8_249 : Cond.methodLink RX8 249 yX8_takesPart ∈ tb := tb_mem 1250 (by decide +kernel) (by decide +kernel)
theorem ml_X8_253 : Cond.methodLink RX8 253 yX8_notsOpen ∈ tb := tb_mem 1265 (by decide +kernel) (by decide +kernel)
theorem ml_X8_256 : Cond.methodLink RX8 256 yX8_signHere ∈ tb := tb_mem 1269 (by decide +kernel) (by decide +kernel)
theorem ml_X8_259 : Cond.methodLink RX8 259 yX8_takesKey ∈ tb := tb_mem 1242 (by decide +kernel) (by decide +kernel)
theorem ml_X8_262 : Cond.methodLink RX8 262 yX8_takesE ∈ tb := tb_mem 1246 (by decide +kernel) (by decide +kernel)
theorem ml_X8_265 : Cond.methodLink RX8 265 yX8_two ∈ tb := tb_mem 1039 (by decide +kernel) (by decide +kernel)
theorem ml_X8_272 : Cond.methodLink RX8 272 yX8_isSlot ∈ tb := tb_mem 1309 (by decide +kernel) (by decide +kernel)
theorem ml_X8_283 : Cond.methodLink RX8 283 yX8_copyAll ∈ tb := tb_mem 1333 (by decide +kernel) (by decide +kernel)
theorem ml_J0_335 : Cond.methodLink RJ0 335 yJ0_coder_7d493 ∈ tb := tb_mem 624 (by decide +kernel) (by decide +kernel)
theorem ml_J0_492 : Cond.methodLink RJ0 492 yJ0_isLatin1_aae02 ∈ tb := tb_mem 634 (by decide +kernel) (by decide +kernel)
theorem ml_J0_495 : Cond.methodLink RJ0 495 yJ1_charAt_3b067 ∈ tb := tb_mem 638 (by decide +kernel) (by decide +kernel)
theorem ml_J0_498 : Cond.methodLink RJ0 498 yJ2_charAt_3b067 ∈ tb := tb_mem 649 (by decide +kernel) (by decide +kernel)
theorem ml_J0_505 : Cond.methodLink RJ0 505 yJ0_length_8abf5 ∈ tb := tb_mem 710 (by decide +kernel) (by decide +kernel)
theorem ml_J0_633 : Cond.methodLink RJ0 633 yJ0_indexOf_7cf53 ∈ tb := tb_mem 706 (by decide +kernel) (by decide +kernel)
theorem ml_J0_637 : Cond.methodLink RJ0 637 yJ1_indexOf_4cfef ∈ tb := tb_mem 711 (by decide +kernel) (by decide +kernel)
theorem ml_J0_640 : Cond.methodLink RJ0 640 yJ2_indexOf_4cfef ∈ tb := tb_mem 722 (by decide +kernel) (by decide +kernel)
theorem ml_J0_1059 : Cond.methodLink RJ0 1059 yJ3_checkIndex_8e157 ∈ tb := tb_mem 646 (by decide +kernel) (by decide +kernel)
theorem ml_J0_1062 : Cond.methodLink RJ0 1062 yJ3_checkFromToIndex_8c36e ∈ tb := tb_mem 737 (by decide +kernel) (by decide +kernel)
theorem ml_J1_9 : Cond.methodLink RJ1 9 yJ0_checkIndex_df160 ∈ tb := tb_mem 641 (by decide +kernel) (by decide +kernel)
theorem ml_J1_38 : Cond.methodLink RJ1 38 yJ9_min_7cf53 ∈ tb := tb_mem 718 (by decide +kernel) (by decide +kernel)
theorem ml_J1_88 : Cond.methodLink RJ1 88 yJ1_canEncode_9a6ad ∈ tb := tb_mem 714 (by decide +kernel) (by decide +kernel)
theorem ml_J1_92 : Cond.methodLink RJ1 92 yJ9_max_7cf53 ∈ tb := tb_mem 717 (by decide +kernel) (by decide +kernel)
theorem ml_J1_95 : Cond.methodLink RJ1 95 yJ1_indexOfChar_4cfef ∈ tb := tb_mem 719 (by decide +kernel) (by decide +kernel)
theorem ml_J2_48 : Cond.methodLink RJ2 48 yJ2_length_9d52b ∈ tb := tb_mem 655 (by decide +kernel) (by decide +kernel)
theorem ml_J2_67 : Cond.methodLink RJ2 67 yJ2_checkIndex_2214a ∈ tb := tb_mem 652 (by decide +kernel) (by decide +kernel)
theorem ml_J2_71 : Cond.methodLink RJ2 71 yJ2_getChar_3b067 ∈ tb := tb_mem 659 (by decide +kernel) (by decide +kernel)
theorem ml_J2_96 : Cond.methodLink RJ2 96 yJ2_checkBoundsBeginEnd_d044e ∈ tb := tb_mem 731 (by decide +kernel) (by decide +kernel)
theorem ml_J2_157 : Cond.methodLink RJ2 157 yJ11_highSurrogate_5068e ∈ tb := tb_mem 749 (by decide +kernel) (by decide +kernel)
theorem ml_J2_161 : Cond.methodLink RJ2 161 yJ11_lowSurrogate_5068e ∈ tb := tb_mem 753 (by decide +kernel) (by decide +kernel)
theorem ml_J2_164 : Cond.methodLink RJ2 164 yJ11_isValidCodePoint_9a6ad ∈ tb := tb_mem 746 (by decide +kernel) (by decide +kernel)
theorem ml_J2_183 : Cond.methodLink RJ2 183 yJ9_min_7cf53 ∈ tb := tb_mem 726 (by decide +kernel) (by decide +kernel)
theorem ml_J2_224 : Cond.methodLink RJ2 224 yJ9_max_7cf53 ∈ tb := tb_mem 725 (by decide +kernel) (by decide +kernel)
theorem ml_J2_228 : Cond.methodLink RJ2 228 yJ2_indexOfChar_4cfef ∈ tb := tb_mem 728 (by decide +kernel) (by decide +kernel)
theorem ml_J2_232 : Cond.methodLink RJ2 232 yJ2_indexOfSupplementary_4cfef ∈ tb := tb_mem 743 (by decide +kernel) (by decide +kernel)
theorem ml_J2_241 : Cond.methodLink RJ2 241 yJ0_checkBoundsBeginEnd_23922 ∈ tb := tb_mem 734 (by decide +kernel) (by decide +kernel)
theorem ml_J2_244 : Cond.methodLink RJ2 244 yJ2_indexOfCharUnsafe_4cfef ∈ tb := tb_mem 740 (by decide +kernel) (by decide +kernel)
theorem ml_J2_414 : Cond.methodLink RJ2 414 yJ0_checkIndex_df160 ∈ tb := tb_mem 658 (by decide +kernel) (by decide +kernel)
theorem kc_X7_60 : Cond.constant RX7 60 (-1000000001) ∈ tb := tb_mem 304 (by decide +kernel) (by decide +kernel)
theorem kc_X7_65 : Cond.constant RX7 65 (-1000000003) ∈ tb := tb_mem 305 (by decide +kernel) (by decide +kernel)
theorem kc_X7_109 : Cond.constant RX7 109 (-1000000005) ∈ tb := tb_mem 408 (by decide +kernel) (by decide +kernel)
theorem kc_X7_119 : Cond.constant RX7 119 (-1000000012) ∈ tb := tb_mem 420 (by decide +kernel) (by decide +kernel)
theorem kc_X7_192 : Cond.constant RX7 192 (-1000000011) ∈ tb := tb_mem 550 (by decide +kernel) (by decide +kernel)
theorem kc_X7_240 : Cond.constant RX7 240 (-1000000014) ∈ tb := tb_mem 800 (by decide +kernel) (by decide +kernel)
theorem kc_X7_246 : Cond.constant RX7 246 (-1000000013) ∈ tb := tb_mem 811 (by decide +kernel) (by decide +kernel)
theorem kc_X7_250 : Cond.constant RX7 250 (-99999) ∈ tb := tb_mem 812 (by decide +kernel) (by decide +kernel)
theorem kc_X7_251 : Cond.constant RX7 251 (99999) ∈ tb := tb_mem 813 (by decide +kernel) (by decide +kernel)
theorem kc_X7_284 : Cond.constant RX7 284 (-1000000002) ∈ tb := tb_mem 855 (by decide +kernel) (by decide +kernel)
theorem kc_X0_76 : Cond.constant RX0 76 (1103515245) ∈ tb := tb_mem 455 (by decide +kernel) (by decide +kernel)
theorem kc_X4_36 : Cond.constant RX4 36 (-1000000005) ∈ tb := tb_mem 562 (by decide +kernel) (by decide +kernel)
theorem kc_X8_79 : Cond.constant RX8 79 (-1000000005) ∈ tb := tb_mem 1068 (by decide +kernel) (by decide +kernel)
theorem kc_X8_88 : Cond.constant RX8 88 (-1000000001) ∈ tb := tb_mem 998 (by decide +kernel) (by decide +kernel)
theorem kc_X8_89 : Cond.constant RX8 89 (-1000000003) ∈ tb := tb_mem 999 (by decide +kernel) (by decide +kernel)
theorem kc_X8_141 : Cond.constant RX8 141 (-1000000012) ∈ tb := tb_mem 1076 (by decide +kernel) (by decide +kernel)
theorem kc_X8_148 : Cond.constant RX8 148 (1103515245) ∈ tb := tb_mem 1108 (by decide +kernel) (by decide +kernel)
theorem kc_X8_195 : Cond.constant RX8 195 (-1000000011) ∈ tb := tb_mem 1205 (by decide +kernel) (by decide +kernel)
theorem kc_X8_268 : Cond.constant RX8 268 (-1000000014) ∈ tb := tb_mem 1285 (by decide +kernel) (by decide +kernel)
theorem kc_X8_269 : Cond.constant RX8 269 (-1000000013) ∈ tb := tb_mem 1290 (by decide +kernel) (by decide +kernel)
theorem kc_X8_270 : Cond.constant RX8 270 (-99999) ∈ tb := tb_mem 1291 (by decide +kernel) (by decide +kernel)
theorem kc_X8_271 : Cond.constant RX8 271 (99999) ∈ tb := tb_mem 1292 (by decide +kernel) (by decide +kernel)
theorem kc_X8_275 : Cond.constant RX8 275 (-1000000002) ∈ tb := tb_mem 1324 (by decide +kernel) (by decide +kernel)
theorem kc_J11_76 : Cond.constant RJ11 76 (56320) ∈ tb := tb_mem 756 (by decide +kernel) (by decide +kernel)
theorem kc_J11_110 : Cond.constant RJ11 110 (55232) ∈ tb := tb_mem 752 (by decide +kernel) (by decide +kernel)
theorem kc_J6_265 : Cond.constant RJ6 265 (1431655765) ∈ tb := tb_mem 329 (by decide +kernel) (by decide +kernel)
theorem kc_J6_266 : Cond.constant RJ6 266 (858993459) ∈ tb := tb_mem 330 (by decide +kernel) (by decide +kernel)
theorem kc_J6_267 : Cond.constant RJ6 267 (252645135) ∈ tb := tb_mem 331 (by decide +kernel) (by decide +kernel)
theorem kc_J2_227 : Cond.constant RJ2 227 (65536) ∈ tb := tb_mem 727 (by decide +kernel) (by decide +kernel)
theorem kl_X7_7 : Cond.classLink RX7 7 RX3 ∈ tb := tb_mem 78 (by decide +kernel) (by decide +kernel)
theorem kl_X7_16 : Cond.classLink RX7 16 RX6 ∈ tb := tb_mem 115 (by decide +kernel) (by decide +kernel)
theorem kl_X7_23 : Cond.classLink RX7 23 RX0 ∈ tb := tb_mem 147 (by decide +kernel) (by decide +kernel)
theorem kl_X7_38 : Cond.classLink RX7 38 RX4 ∈ tb := tb_mem 219 (by decide +kernel) (by decide +kernel)
theorem kl_X7_45 : Cond.classLink RX7 45 RX5 ∈ tb := tb_mem 239 (by decide +kernel) (by decide +kernel)
theorem kl_X3_15 : Cond.classLink RX3 15 RX2 ∈ tb := tb_mem 84 (by decide +kernel) (by decide +kernel)
theorem kl_X5_15 : Cond.classLink RX5 15 RX4 ∈ tb := tb_mem 246 (by decide +kernel) (by decide +kernel)
theorem kl_X6_15 : Cond.classLink RX6 15 RX2 ∈ tb := tb_mem 121 (by decide +kernel) (by decide +kernel)
theorem kl_L_7 : Cond.classLink RL 7 RX7 ∈ tb := tb_mem 70 (by decide +kernel) (by decide +kernel)
theorem kl_L_10 : Cond.classLink RL 10 RX8 ∈ tb := tb_mem 880 (by decide +kernel) (by decide +kernel)
