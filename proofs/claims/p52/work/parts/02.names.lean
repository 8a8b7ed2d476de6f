def RX0 : String := "EchoLine$Line"
def TX0 : u_T := fun k => match k with
  | 0 => ("EchoLine$Line", "name", "Ljava/lang/String;", false)
  | 1 => ("EchoLine$Line", "capacity", "I", false)
  | 2 => ("EchoLine$Line", "low", "I", false)
  | 3 => ("EchoLine$Line", "high", "I", false)
  | 4 => ("EchoLine$Line", "share", "I", false)
  | 5 => ("EchoLine$Line", "echo", "I", false)
  | 6 => ("EchoLine$Line", "in", "LEchoLine$Queue;", true)
  | 7 => ("EchoLine$Line", "arrivals", "LEchoLine$Queue;", true)
  | 8 => ("EchoLine$Line", "out", "LEchoLine$Queue;", true)
  | 9 => ("EchoLine$Line", "whole", "LEchoLine$Queue;", true)
  | 10 => ("EchoLine$Line", "held", "I", false)
  | 11 => ("EchoLine$Line", "lendsTo", "I", false)
  | 12 => ("EchoLine$Line", "turnsLent", "I", false)
  | 13 => ("EchoLine$Line", "stopping", "Z", false)
  | 14 => ("EchoLine$Line", "paused", "Z", false)
  | 15 => ("EchoLine$Line", "lastDelivered", "I", false)
  | 16 => ("EchoLine$Line", "counts", "[I", true)
  | _ => ("EchoLine$Line", "waits", "J", false)
def tyX0 : Nat → FieldType := fun k => match k with
  | 0 => .object "java/lang/String"
  | 1 => .int
  | 2 => .int
  | 3 => .int
  | 4 => .int
  | 5 => .int
  | 6 => .object "EchoLine$Queue"
  | 7 => .object "EchoLine$Queue"
  | 8 => .object "EchoLine$Queue"
  | 9 => .object "EchoLine$Queue"
  | 10 => .int
  | 11 => .int
  | 12 => .int
  | 13 => .boolean
  | 14 => .boolean
  | 15 => .int
  | 16 => .array .int
  | _ => .long
abbrev wsX00 : List Cond := u_ws RX0 TX0 18
theorem nmX0 : ∀ a, a < 18 → ∀ b, b < 18 → a ≠ b → (TX0 a).2.1 ≠ (TX0 b).2.1 := by decide +kernel
theorem tyX0_ok : ∀ k, k < 18 → parseFieldDescriptor (TX0 k).2.2.1 = some (tyX0 k) := by decide +kernel
abbrev cX0_init : ByteArray := prog_2_method_1_code
def yX0_init : MethodName := ⟨RX0, "<init>", "()V"⟩
abbrev cX0_counted : ByteArray := prog_2_method_2_code
def yX0_counted : MethodName := ⟨RX0, "counted", "(I)I"⟩
abbrev cX0_addToCount : ByteArray := prog_2_method_3_code
def yX0_addToCount : MethodName := ⟨RX0, "addToCount", "(II)V"⟩
abbrev cX0_waiting : ByteArray := prog_2_method_4_code
def yX0_waiting : MethodName := ⟨RX0, "waiting", "()I"⟩
abbrev cX0_acceptTyped : ByteArray := prog_2_method_5_code
def yX0_acceptTyped : MethodName := ⟨RX0, "acceptTyped", "(II)Z"⟩
abbrev cX0_echoTyped : ByteArray := prog_2_method_6_code
def yX0_echoTyped : MethodName := ⟨RX0, "echoTyped", "(I)V"⟩
abbrev cX0_offerWhole : ByteArray := prog_2_method_7_code
def yX0_offerWhole : MethodName := ⟨RX0, "offerWhole", "()V"⟩
abbrev cX0_acceptOffered : ByteArray := prog_2_method_8_code
def yX0_acceptOffered : MethodName := ⟨RX0, "acceptOffered", "(I)Z"⟩
abbrev cX0_tellStopping : ByteArray := prog_2_method_9_code
def yX0_tellStopping : MethodName := ⟨RX0, "tellStopping", "()V"⟩
abbrev cX0_canSend : ByteArray := prog_2_method_10_code
def yX0_canSend : MethodName := ⟨RX0, "canSend", "()Z"⟩
abbrev cX0_sendFirst : ByteArray := prog_2_method_11_code
def yX0_sendFirst : MethodName := ⟨RX0, "sendFirst", "(IZ)V"⟩
abbrev cX0_deliverFirst : ByteArray := prog_2_method_12_code
def yX0_deliverFirst : MethodName := ⟨RX0, "deliverFirst", "()V"⟩
abbrev cX0_breakFor : ByteArray := prog_2_method_13_code
def yX0_breakFor : MethodName := ⟨RX0, "breakFor", "(I)V"⟩
abbrev cX0_lendTo : ByteArray := prog_2_method_14_code
def yX0_lendTo : MethodName := ⟨RX0, "lendTo", "(II)V"⟩
abbrev cX0_lendNoMore : ByteArray := prog_2_method_15_code
def yX0_lendNoMore : MethodName := ⟨RX0, "lendNoMore", "()V"⟩
abbrev cX0_startOver : ByteArray := prog_2_method_16_code
def yX0_startOver : MethodName := ⟨RX0, "startOver", "()V"⟩
abbrev cX0_copyFrom : ByteArray := prog_2_method_17_code
def yX0_copyFrom : MethodName := ⟨RX0, "copyFrom", "(LEchoLine$Line;)V"⟩
def RX1 : String := "EchoLine$Log"
def TX1 : u_T := fun k => match k with
  | 0 => ("EchoLine$Log", "numbers", "[I", true)
  | 1 => ("EchoLine$Log", "size", "I", false)
  | _ => ("EchoLine$Log", "next", "I", false)
def tyX1 : Nat → FieldType := fun k => match k with
  | 0 => .array .int
  | 1 => .int
  | _ => .int
abbrev wsX10 : List Cond := u_ws RX1 TX1 3
theorem nmX1 : ∀ a, a < 3 → ∀ b, b < 3 → a ≠ b → (TX1 a).2.1 ≠ (TX1 b).2.1 := by decide +kernel
theorem tyX1_ok : ∀ k, k < 3 → parseFieldDescriptor (TX1 k).2.2.1 = some (tyX1 k) := by decide +kernel
abbrev cX1_init : ByteArray := prog_3_method_1_code
def yX1_init : MethodName := ⟨RX1, "<init>", "()V"⟩
abbrev cX1_add : ByteArray := prog_3_method_2_code
def yX1_add : MethodName := ⟨RX1, "add", "(IIIII)V"⟩
abbrev cX1_clear : ByteArray := prog_3_method_4_code
def yX1_clear : MethodName := ⟨RX1, "clear", "()V"⟩
abbrev cX1_copyFrom : ByteArray := prog_3_method_5_code
def yX1_copyFrom : MethodName := ⟨RX1, "copyFrom", "(LEchoLine$Log;)V"⟩
def RX2 : String := "EchoLine$Parser"
def TX2 : u_T := fun k => match k with
  | 0 => ("EchoLine$Parser", "tokens", "LEchoLine$Tokens;", true)
  | 1 => ("EchoLine$Parser", "trunk", "LEchoLine$Trunk;", true)
  | 2 => ("EchoLine$Parser", "typedBytes", "LEchoLine$Queue;", true)
  | 3 => ("EchoLine$Parser", "typedLines", "LEchoLine$Queue;", true)
  | 4 => ("EchoLine$Parser", "awaited", "I", false)
  | 5 => ("EchoLine$Parser", "named", "I", false)
  | 6 => ("EchoLine$Parser", "lender", "I", false)
  | 7 => ("EchoLine$Parser", "borrower", "I", false)
  | _ => ("EchoLine$Parser", "typingLine", "I", false)
def tyX2 : Nat → FieldType := fun k => match k with
  | 0 => .object "EchoLine$Tokens"
  | 1 => .object "EchoLine$Trunk"
  | 2 => .object "EchoLine$Queue"
  | 3 => .object "EchoLine$Queue"
  | 4 => .int
  | 5 => .int
  | 6 => .int
  | 7 => .int
  | _ => .int
abbrev wsX20 : List Cond := u_ws RX2 TX2 9
theorem nmX2 : ∀ a, a < 9 → ∀ b, b < 9 → a ≠ b → (TX2 a).2.1 ≠ (TX2 b).2.1 := by decide +kernel
theorem tyX2_ok : ∀ k, k < 9 → parseFieldDescriptor (TX2 k).2.2.1 = some (tyX2 k) := by decide +kernel
abbrev cX2_init : ByteArray := prog_4_method_1_code
def yX2_init : MethodName := ⟨RX2, "<init>", "(LEchoLine$Text;LEchoLine$Trunk;)V"⟩
abbrev cX2_parse : ByteArray := prog_4_method_2_code
def yX2_parse : MethodName := ⟨RX2, "parse", "()I"⟩
abbrev cX2_errorStart : ByteArray := prog_4_method_3_code
def yX2_errorStart : MethodName := ⟨RX2, "errorStart", "()I"⟩
abbrev cX2_finish : ByteArray := prog_4_method_4_code
def yX2_finish : MethodName := ⟨RX2, "finish", "()V"⟩
abbrev cX2_takeToken : ByteArray := prog_4_method_5_code
def yX2_takeToken : MethodName := ⟨RX2, "takeToken", "()I"⟩
abbrev cX2_takeKind : ByteArray := prog_4_method_6_code
def yX2_takeKind : MethodName := ⟨RX2, "takeKind", "(II)I"⟩
abbrev cX2_takeStatement : ByteArray := prog_4_method_7_code
def yX2_takeStatement : MethodName := ⟨RX2, "takeStatement", "()I"⟩
abbrev cX2_takeStatementEnd : ByteArray := prog_4_method_8_code
def yX2_takeStatementEnd : MethodName := ⟨RX2, "takeStatementEnd", "()I"⟩
abbrev cX2_takeNumber : ByteArray := prog_4_method_9_code
def yX2_takeNumber : MethodName := ⟨RX2, "takeNumber", "(III)I"⟩
abbrev cX2_takeNewName : ByteArray := prog_4_method_10_code
def yX2_takeNewName : MethodName := ⟨RX2, "takeNewName", "()I"⟩
abbrev cX2_latestLine : ByteArray := prog_4_method_11_code
def yX2_latestLine : MethodName := ⟨RX2, "latestLine", "()LEchoLine$Line;"⟩
abbrev cX2_takeCapacity : ByteArray := prog_4_method_12_code
def yX2_takeCapacity : MethodName := ⟨RX2, "takeCapacity", "()I"⟩
abbrev cX2_takeLowMark : ByteArray := prog_4_method_13_code
def yX2_takeLowMark : MethodName := ⟨RX2, "takeLowMark", "()I"⟩
abbrev cX2_takeHighMark : ByteArray := prog_4_method_14_code
def yX2_takeHighMark : MethodName := ⟨RX2, "takeHighMark", "()I"⟩
abbrev cX2_takeShare : ByteArray := prog_4_method_15_code
def yX2_takeShare : MethodName := ⟨RX2, "takeShare", "()I"⟩
abbrev cX2_takeEcho : ByteArray := prog_4_method_16_code
def yX2_takeEcho : MethodName := ⟨RX2, "takeEcho", "()I"⟩
abbrev cX2_takeKnownName : ByteArray := prog_4_method_17_code
def yX2_takeKnownName : MethodName := ⟨RX2, "takeKnownName", "(I)I"⟩
abbrev cX2_takeLender : ByteArray := prog_4_method_18_code
def yX2_takeLender : MethodName := ⟨RX2, "takeLender", "()I"⟩
abbrev cX2_takeBorrower : ByteArray := prog_4_method_19_code
def yX2_takeBorrower : MethodName := ⟨RX2, "takeBorrower", "()I"⟩
abbrev cX2_takeTurns : ByteArray := prog_4_method_20_code
def yX2_takeTurns : MethodName := ⟨RX2, "takeTurns", "()I"⟩
abbrev cX2_takeTypingLine : ByteArray := prog_4_method_21_code
def yX2_takeTypingLine : MethodName := ⟨RX2, "takeTypingLine", "()I"⟩
abbrev cX2_takeTypedByte : ByteArray := prog_4_method_22_code
def yX2_takeTypedByte : MethodName := ⟨RX2, "takeTypedByte", "()I"⟩
def RX3 : String := "EchoLine$Queue"
def TX3 : u_T := fun k => match k with
  | 0 => ("EchoLine$Queue", "numbers", "[I", true)
  | _ => ("EchoLine$Queue", "size", "I", false)
def tyX3 : Nat → FieldType := fun k => match k with
  | 0 => .array .int
  | _ => .int
abbrev wsX30 : List Cond := u_ws RX3 TX3 2
theorem nmX3 : ∀ a, a < 2 → ∀ b, b < 2 → a ≠ b → (TX3 a).2.1 ≠ (TX3 b).2.1 := by decide +kernel
theorem tyX3_ok : ∀ k, k < 2 → parseFieldDescriptor (TX3 k).2.2.1 = some (tyX3 k) := by decide +kernel
abbrev cX3_init : ByteArray := prog_5_method_1_code
def yX3_init : MethodName := ⟨RX3, "<init>", "()V"⟩
abbrev cX3_at : ByteArray := prog_5_method_2_code
def yX3_at : MethodName := ⟨RX3, "at", "(I)I"⟩
abbrev cX3_add : ByteArray := prog_5_method_3_code
def yX3_add : MethodName := ⟨RX3, "add", "(I)V"⟩
abbrev cX3_removeFirst : ByteArray := prog_5_method_4_code
def yX3_removeFirst : MethodName := ⟨RX3, "removeFirst", "()V"⟩
abbrev cX3_clear : ByteArray := prog_5_method_5_code
def yX3_clear : MethodName := ⟨RX3, "clear", "()V"⟩
abbrev cX3_copyFrom : ByteArray := prog_5_method_6_code
def yX3_copyFrom : MethodName := ⟨RX3, "copyFrom", "(LEchoLine$Queue;)V"⟩
def RX4 : String := "EchoLine$Text"
def TX4 : u_T := fun k => match k with
  | 0 => ("EchoLine$Text", "bytes", "[B", true)
  | _ => ("EchoLine$Text", "size", "I", false)
def tyX4 : Nat → FieldType := fun k => match k with
  | 0 => .array .byte
  | _ => .int
abbrev wsX40 : List Cond := u_ws RX4 TX4 2
theorem nmX4 : ∀ a, a < 2 → ∀ b, b < 2 → a ≠ b → (TX4 a).2.1 ≠ (TX4 b).2.1 := by decide +kernel
theorem tyX4_ok : ∀ k, k < 2 → parseFieldDescriptor (TX4 k).2.2.1 = some (tyX4 k) := by decide +kernel
abbrev cX4_init : ByteArray := prog_6_method_1_code
def yX4_init : MethodName := ⟨RX4, "<init>", "()V"⟩
abbrev cX4_addByte : ByteArray := prog_6_method_2_code
def yX4_addByte : MethodName := ⟨RX4, "addByte", "(I)V"⟩
abbrev cX4_byteAt : ByteArray := prog_6_method_5_code
def yX4_byteAt : MethodName := ⟨RX4, "byteAt", "(I)I"⟩
abbrev cX4_holdsWord : ByteArray := prog_6_method_6_code
def yX4_holdsWord : MethodName := ⟨RX4, "holdsWord", "(IILjava/lang/String;)Z"⟩
abbrev cX4_wordBetween : ByteArray := prog_6_method_7_code
def yX4_wordBetween : MethodName := ⟨RX4, "wordBetween", "(II)Ljava/lang/String;"⟩
def RX5 : String := "EchoLine$Tokens"
def TX5 : u_T := fun k => match k with
  | 0 => ("EchoLine$Tokens", "text", "LEchoLine$Text;", true)
  | 1 => ("EchoLine$Tokens", "kind", "I", false)
  | 2 => ("EchoLine$Tokens", "start", "I", false)
  | 3 => ("EchoLine$Tokens", "end", "I", false)
  | _ => ("EchoLine$Tokens", "number", "I", false)
def tyX5 : Nat → FieldType := fun k => match k with
  | 0 => .object "EchoLine$Text"
  | 1 => .int
  | 2 => .int
  | 3 => .int
  | _ => .int
abbrev wsX50 : List Cond := u_ws RX5 TX5 5
theorem nmX5 : ∀ a, a < 5 → ∀ b, b < 5 → a ≠ b → (TX5 a).2.1 ≠ (TX5 b).2.1 := by decide +kernel
theorem tyX5_ok : ∀ k, k < 5 → parseFieldDescriptor (TX5 k).2.2.1 = some (tyX5 k) := by decide +kernel
abbrev cX5_init : ByteArray := prog_7_method_1_code
def yX5_init : MethodName := ⟨RX5, "<init>", "(LEchoLine$Text;)V"⟩
abbrev cX5_goTo : ByteArray := prog_7_method_2_code
def yX5_goTo : MethodName := ⟨RX5, "goTo", "(I)V"⟩
abbrev cX5_readLetters : ByteArray := prog_7_method_3_code
def yX5_readLetters : MethodName := ⟨RX5, "readLetters", "()V"⟩
abbrev cX5_kindOfWord : ByteArray := prog_7_method_4_code
def yX5_kindOfWord : MethodName := ⟨RX5, "kindOfWord", "()I"⟩
abbrev cX5_holds : ByteArray := prog_7_method_5_code
def yX5_holds : MethodName := ⟨RX5, "holds", "(Ljava/lang/String;)Z"⟩
abbrev cX5_readNumber : ByteArray := prog_7_method_6_code
def yX5_readNumber : MethodName := ⟨RX5, "readNumber", "()V"⟩
abbrev cX5_isBlank : ByteArray := prog_7_method_7_code
def yX5_isBlank : MethodName := ⟨RX5, "isBlank", "(I)Z"⟩
abbrev cX5_isLetter : ByteArray := prog_7_method_8_code
def yX5_isLetter : MethodName := ⟨RX5, "isLetter", "(I)Z"⟩
abbrev cX5_isDigit : ByteArray := prog_7_method_9_code
def yX5_isDigit : MethodName := ⟨RX5, "isDigit", "(I)Z"⟩
def RX6 : String := "EchoLine$Trunk"
def TX6 : u_T := fun k => match k with
  | 0 => ("EchoLine$Trunk", "lines", "[LEchoLine$Line;", true)
  | 1 => ("EchoLine$Trunk", "log", "LEchoLine$Log;", true)
  | 2 => ("EchoLine$Trunk", "lineCount", "I", false)
  | 3 => ("EchoLine$Trunk", "time", "I", false)
  | 4 => ("EchoLine$Trunk", "turn", "I", false)
  | 5 => ("EchoLine$Trunk", "left", "I", false)
  | 6 => ("EchoLine$Trunk", "sentInTurn", "Z", false)
  | 7 => ("EchoLine$Trunk", "sent", "I", false)
  | _ => ("EchoLine$Trunk", "idle", "I", false)
def tyX6 : Nat → FieldType := fun k => match k with
  | 0 => .array (.object "EchoLine$Line")
  | 1 => .object "EchoLine$Log"
  | 2 => .int
  | 3 => .int
  | 4 => .int
  | 5 => .int
  | 6 => .boolean
  | 7 => .int
  | _ => .int
abbrev wsX60 : List Cond := u_ws RX6 TX6 9
theorem nmX6 : ∀ a, a < 9 → ∀ b, b < 9 → a ≠ b → (TX6 a).2.1 ≠ (TX6 b).2.1 := by decide +kernel
theorem tyX6_ok : ∀ k, k < 9 → parseFieldDescriptor (TX6 k).2.2.1 = some (tyX6 k) := by decide +kernel
abbrev cX6_init : ByteArray := prog_8_method_1_code
def yX6_init : MethodName := ⟨RX6, "<init>", "()V"⟩
abbrev cX6_lineAt : ByteArray := prog_8_method_2_code
def yX6_lineAt : MethodName := ⟨RX6, "lineAt", "(I)LEchoLine$Line;"⟩
abbrev cX6_numberOfName : ByteArray := prog_8_method_3_code
def yX6_numberOfName : MethodName := ⟨RX6, "numberOfName", "(LEchoLine$Text;II)I"⟩
abbrev cX6_sender : ByteArray := prog_8_method_4_code
def yX6_sender : MethodName := ⟨RX6, "sender", "()I"⟩
abbrev cX6_passTicks : ByteArray := prog_8_method_6_code
def yX6_passTicks : MethodName := ⟨RX6, "passTicks", "(I)V"⟩
abbrev cX6_passTick : ByteArray := prog_8_method_7_code
def yX6_passTick : MethodName := ⟨RX6, "passTick", "()I"⟩
abbrev cX6_look : ByteArray := prog_8_method_8_code
def yX6_look : MethodName := ⟨RX6, "look", "()I"⟩
abbrev cX6_sendFrom : ByteArray := prog_8_method_9_code
def yX6_sendFrom : MethodName := ⟨RX6, "sendFrom", "(I)V"⟩
abbrev cX6_passOn : ByteArray := prog_8_method_10_code
def yX6_passOn : MethodName := ⟨RX6, "passOn", "()V"⟩
abbrev cX6_startOver : ByteArray := prog_8_method_11_code
def yX6_startOver : MethodName := ⟨RX6, "startOver", "()V"⟩
abbrev cX6_copyFrom : ByteArray := prog_8_method_12_code
def yX6_copyFrom : MethodName := ⟨RX6, "copyFrom", "(LEchoLine$Trunk;)V"⟩
def RX7 : String := "EchoLine"
def TX7 : u_T := fun k => match k with
  | 0 => ("EchoLine", "input", "LEchoLine$Text;", true)
  | 1 => ("EchoLine", "output", "LEchoLine$Text;", true)
  | 2 => ("EchoLine", "now", "LEchoLine$Trunk;", true)
  | 3 => ("EchoLine", "trial", "LEchoLine$Trunk;", true)
  | 4 => ("EchoLine", "parser", "LEchoLine$Parser;", true)
  | 5 => ("EchoLine", "past", "[LEchoLine$Trunk;", true)
  | 6 => ("EchoLine", "pastCount", "I", false)
  | 7 => ("EchoLine", "slots", "[LEchoLine$Trunk;", true)
  | 8 => ("EchoLine", "parseCode", "I", false)
  | _ => ("EchoLine", "parsePosition", "I", false)
def tyX7 : Nat → FieldType := fun k => match k with
  | 0 => .object "EchoLine$Text"
  | 1 => .object "EchoLine$Text"
  | 2 => .object "EchoLine$Trunk"
  | 3 => .object "EchoLine$Trunk"
  | 4 => .object "EchoLine$Parser"
  | 5 => .array (.object "EchoLine$Trunk")
  | 6 => .int
  | 7 => .array (.object "EchoLine$Trunk")
  | 8 => .int
  | _ => .int
abbrev wsX70 : List Cond := u_ws RX7 TX7 10
theorem nmX7 : ∀ a, a < 10 → ∀ b, b < 10 → a ≠ b → (TX7 a).2.1 ≠ (TX7 b).2.1 := by decide +kernel
theorem tyX7_ok : ∀ k, k < 10 → parseFieldDescriptor (TX7 k).2.2.1 = some (tyX7 k) := by decide +kernel
abbrev cX7_init : ByteArray := prog_1_method_1_code
def yX7_init : MethodName := ⟨RX7, "<init>", "()V"⟩
abbrev cX7_append : ByteArray := prog_1_method_2_code
def yX7_append : MethodName := ⟨RX7, "append", "(IIIII)I"⟩
abbrev cX7_appendFour : ByteArray := prog_1_method_3_code
def yX7_appendFour : MethodName := ⟨RX7, "appendFour", "(I)V"⟩
abbrev cX7_truncate : ByteArray := prog_1_method_4_code
def yX7_truncate : MethodName := ⟨RX7, "truncate", "(I)V"⟩
abbrev cX7_load : ByteArray := prog_1_method_5_code
def yX7_load : MethodName := ⟨RX7, "load", "()I"⟩
abbrev cX7_errorCode : ByteArray := prog_1_method_6_code
def yX7_errorCode : MethodName := ⟨RX7, "errorCode", "()I"⟩
abbrev cX7_property : ByteArray := prog_1_method_9_code
def yX7_property : MethodName := ⟨RX7, "property", "(I)I"⟩
abbrev cX7_setOfLines : ByteArray := prog_1_method_10_code
def yX7_setOfLines : MethodName := ⟨RX7, "setOfLines", "(I)I"⟩
abbrev cX7_isInSet : ByteArray := prog_1_method_11_code
def yX7_isInSet : MethodName := ⟨RX7, "isInSet", "(LEchoLine$Line;I)Z"⟩
abbrev cX7_line : ByteArray := prog_1_method_12_code
def yX7_line : MethodName := ⟨RX7, "line", "(II)I"⟩
abbrev cX7_count : ByteArray := prog_1_method_13_code
def yX7_count : MethodName := ⟨RX7, "count", "(II)I"⟩
abbrev cX7_delivered : ByteArray := prog_1_method_15_code
def yX7_delivered : MethodName := ⟨RX7, "delivered", "(I)I"⟩
abbrev cX7_gap : ByteArray := prog_1_method_35_code
def yX7_gap : MethodName := ⟨RX7, "gap", "(I)I"⟩
abbrev cX7_sum : ByteArray := prog_1_method_36_code
def yX7_sum : MethodName := ⟨RX7, "sum", "(I)I"⟩
abbrev cX7_type : ByteArray := prog_1_method_37_code
def yX7_type : MethodName := ⟨RX7, "type", "(III)I"⟩
abbrev cX7_reply : ByteArray := prog_1_method_38_code
def yX7_reply : MethodName := ⟨RX7, "reply", "(III)I"⟩
abbrev cX7_tick : ByteArray := prog_1_method_39_code
def yX7_tick : MethodName := ⟨RX7, "tick", "(I)I"⟩
abbrev cX7_lend : ByteArray := prog_1_method_40_code
def yX7_lend : MethodName := ⟨RX7, "lend", "(III)I"⟩
abbrev cX7_recall : ByteArray := prog_1_method_41_code
def yX7_recall : MethodName := ⟨RX7, "recall", "(I)I"⟩
abbrev cX7_breakLine : ByteArray := prog_1_method_42_code
def yX7_breakLine : MethodName := ⟨RX7, "breakLine", "(II)I"⟩
abbrev cX7_setPaused : ByteArray := prog_1_method_43_code
def yX7_setPaused : MethodName := ⟨RX7, "setPaused", "(IZ)Z"⟩
abbrev cX7_setEcho : ByteArray := prog_1_method_44_code
def yX7_setEcho : MethodName := ⟨RX7, "setEcho", "(II)I"⟩
abbrev cX7_setMarks : ByteArray := prog_1_method_45_code
def yX7_setMarks : MethodName := ⟨RX7, "setMarks", "(III)I"⟩
abbrev cX7_setShare : ByteArray := prog_1_method_46_code
def yX7_setShare : MethodName := ⟨RX7, "setShare", "(II)I"⟩
abbrev cX7_pass : ByteArray := prog_1_method_47_code
def yX7_pass : MethodName := ⟨RX7, "pass", "()I"⟩
abbrev cX7_remember : ByteArray := prog_1_method_52_code
def yX7_remember : MethodName := ⟨RX7, "remember", "()V"⟩
abbrev cX7_forgetEarliest : ByteArray := prog_1_method_53_code
def yX7_forgetEarliest : MethodName := ⟨RX7, "forgetEarliest", "()V"⟩
abbrev cX7_testLine : ByteArray := prog_1_method_59_code
def yX7_testLine : MethodName := ⟨RX7, "testLine", "(I)V"⟩
abbrev cX7_testRange : ByteArray := prog_1_method_61_code
def yX7_testRange : MethodName := ⟨RX7, "testRange", "(III)V"⟩
abbrev cX7_testCount : ByteArray := prog_1_method_62_code
def yX7_testCount : MethodName := ⟨RX7, "testCount", "(I)V"⟩
abbrev cX7_testOther : ByteArray := prog_1_method_63_code
def yX7_testOther : MethodName := ⟨RX7, "testOther", "(II)V"⟩
def RX8 : String := "EchoLineModel"
def TX8 : u_T := fun k => match k with
  | _ => ("", "", "", false)
def tyX8 : Nat → FieldType := fun k => match k with
  | _ => .int
abbrev wsX80 : List Cond := u_ws RX8 TX8 0
theorem nmX8 : ∀ a, a < 0 → ∀ b, b < 0 → a ≠ b → (TX8 a).2.1 ≠ (TX8 b).2.1 := by decide +kernel
theorem tyX8_ok : ∀ k, k < 0 → parseFieldDescriptor (TX8 k).2.2.1 = some (tyX8 k) := by decide +kernel
def RJx145de : String := "java/io/Serializable"
def TJx145de : u_T := fun k => match k with
  | _ => ("", "", "", false)
def tyJx145de : Nat → FieldType := fun k => match k with
  | _ => .int
theorem nmJx145de : ∀ a, a < 0 → ∀ b, b < 0 → a ≠ b → (TJx145de a).2.1 ≠ (TJx145de b).2.1 := by decide +kernel
theorem tyJx145de_ok : ∀ k, k < 0 → parseFieldDescriptor (TJx145de k).2.2.1 = some (tyJx145de k) := by decide +kernel
def RJ5 : String := "java/lang/AbstractStringBuilder"
def TJ5 : u_T := fun k => match k with
  | _ => ("", "", "", false)
def tyJ5 : Nat → FieldType := fun k => match k with
  | _ => .int
abbrev wsJ50 : List Cond := u_ws RJ5 TJ5 0
theorem nmJ5 : ∀ a, a < 0 → ∀ b, b < 0 → a ≠ b → (TJ5 a).2.1 ≠ (TJ5 b).2.1 := by decide +kernel
theorem tyJ5_ok : ∀ k, k < 0 → parseFieldDescriptor (TJ5 k).2.2.1 = some (tyJ5 k) := by decide +kernel
abbrev cJ5_init_d00df : ByteArray := prog_11_method_2_code
def yJ5_init_d00df : MethodName := ⟨RJ5, "<init>", "(I)V"⟩
abbrev cJ5_length_8abf5 : ByteArray := prog_11_method_6_code
def yJ5_length_8abf5 : MethodName := ⟨RJ5, "length", "()I"⟩
abbrev cJ5_ensureCapacityInternal_d00df : ByteArray := prog_11_method_9_code
def yJ5_ensureCapacityInternal_d00df : MethodName := ⟨RJ5, "ensureCapacityInternal", "(I)V"⟩
abbrev cJ5_newCapacity_0f7a4 : ByteArray := prog_11_method_10_code
def yJ5_newCapacity_0f7a4 : MethodName := ⟨RJ5, "newCapacity", "(I)I"⟩
abbrev cJ5_inflate_da8c8 : ByteArray := prog_11_method_11_code
def yJ5_inflate_da8c8 : MethodName := ⟨RJ5, "inflate", "()V"⟩
abbrev cJ5_append_cf1ce : ByteArray := prog_11_method_22_code
def yJ5_append_cf1ce : MethodName := ⟨RJ5, "append", "(Ljava/lang/String;)Ljava/lang/AbstractStringBuilder;"⟩
abbrev cJ5_appendNull_278bc : ByteArray := prog_11_method_26_code
def yJ5_appendNull_278bc : MethodName := ⟨RJ5, "appendNull", "()Ljava/lang/AbstractStringBuilder;"⟩
abbrev cJ5_append_3fe6f : ByteArray := prog_11_method_31_code
def yJ5_append_3fe6f : MethodName := ⟨RJ5, "append", "(C)Ljava/lang/AbstractStringBuilder;"⟩
abbrev cJ5_append_c97b9 : ByteArray := prog_11_method_32_code
def yJ5_append_c97b9 : MethodName := ⟨RJ5, "append", "(I)Ljava/lang/AbstractStringBuilder;"⟩
abbrev cJ5_getValue_6d5f1 : ByteArray := prog_11_method_64_code
def yJ5_getValue_6d5f1 : MethodName := ⟨RJ5, "getValue", "()[B"⟩
abbrev cJ5_isLatin1_aae02 : ByteArray := prog_11_method_68_code
def yJ5_isLatin1_aae02 : MethodName := ⟨RJ5, "isLatin1", "()Z"⟩
abbrev cJ5_inflateIfNeededFor_a7421 : ByteArray := prog_11_method_71_code
def yJ5_inflateIfNeededFor_a7421 : MethodName := ⟨RJ5, "inflateIfNeededFor", "(Ljava/lang/String;)V"⟩
abbrev cJ5_putStringAt_47b60 : ByteArray := prog_11_method_73_code
def yJ5_putStringAt_47b60 : MethodName := ⟨RJ5, "putStringAt", "(ILjava/lang/String;)V"⟩
def RJx2cfe8 : String := "java/lang/Appendable"
def TJx2cfe8 : u_T := fun k => match k with
  | _ => ("", "", "", false)
def tyJx2cfe8 : Nat → FieldType := fun k => match k with
  | _ => .int
theorem nmJx2cfe8 : ∀ a, a < 0 → ∀ b, b < 0 → a ≠ b → (TJx2cfe8 a).2.1 ≠ (TJx2cfe8 b).2.1 := by decide +kernel
theorem tyJx2cfe8_ok : ∀ k, k < 0 → parseFieldDescriptor (TJx2cfe8 k).2.2.1 = some (tyJx2cfe8 k) := by decide +kernel
def RJx9f9b0 : String := "java/lang/CharSequence"
def TJx9f9b0 : u_T := fun k => match k with
  | _ => ("", "", "", false)
def tyJx9f9b0 : Nat → FieldType := fun k => match k with
  | _ => .int
theorem nmJx9f9b0 : ∀ a, a < 0 → ∀ b, b < 0 → a ≠ b → (TJx9f9b0 a).2.1 ≠ (TJx9f9b0 b).2.1 := by decide +kernel
theorem tyJx9f9b0_ok : ∀ k, k < 0 → parseFieldDescriptor (TJx9f9b0 k).2.2.1 = some (tyJx9f9b0 k) := by decide +kernel
def RJx8e188 : String := "java/lang/Cloneable"
def TJx8e188 : u_T := fun k => match k with
  | _ => ("", "", "", false)
def tyJx8e188 : Nat → FieldType := fun k => match k with
  | _ => .int
theorem nmJx8e188 : ∀ a, a < 0 → ∀ b, b < 0 → a ≠ b → (TJx8e188 a).2.1 ≠ (TJx8e188 b).2.1 := by decide +kernel
theorem tyJx8e188_ok : ∀ k, k < 0 → parseFieldDescriptor (TJx8e188 k).2.2.1 = some (tyJx8e188 k) := by decide +kernel
def RJxb160c : String := "java/lang/Comparable"
def TJxb160c : u_T := fun k => match k with
  | _ => ("", "", "", false)
def tyJxb160c : Nat → FieldType := fun k => match k with
  | _ => .int
theorem nmJxb160c : ∀ a, a < 0 → ∀ b, b < 0 → a ≠ b → (TJxb160c a).2.1 ≠ (TJxb160c b).2.1 := by decide +kernel
theorem tyJxb160c_ok : ∀ k, k < 0 → parseFieldDescriptor (TJxb160c k).2.2.1 = some (tyJxb160c k) := by decide +kernel
def RJ6 : String := "java/lang/Integer"
def TJ6 : u_T := fun k => match k with
  | _ => ("", "", "", false)
def tyJ6 : Nat → FieldType := fun k => match k with
  | _ => .int
abbrev wsJ60 : List Cond := u_ws RJ6 TJ6 0
theorem nmJ6 : ∀ a, a < 0 → ∀ b, b < 0 → a ≠ b → (TJ6 a).2.1 ≠ (TJ6 b).2.1 := by decide +kernel
theorem tyJ6_ok : ∀ k, k < 0 → parseFieldDescriptor (TJ6 k).2.2.1 = some (tyJ6 k) := by decide +kernel
abbrev cJ6_getChars_ba4f3 : ByteArray := prog_17_method_12_code
def yJ6_getChars_ba4f3 : MethodName := ⟨RJ6, "getChars", "(II[B)I"⟩
abbrev cJ6_stringSize_0f7a4 : ByteArray := prog_17_method_13_code
def yJ6_stringSize_0f7a4 : MethodName := ⟨RJ6, "stringSize", "(I)I"⟩
def RJ9 : String := "java/lang/Math"
def TJ9 : u_T := fun k => match k with
  | _ => ("", "", "", false)
def tyJ9 : Nat → FieldType := fun k => match k with
  | _ => .int
abbrev wsJ90 : List Cond := u_ws RJ9 TJ9 0
theorem nmJ9 : ∀ a, a < 0 → ∀ b, b < 0 → a ≠ b → (TJ9 a).2.1 ≠ (TJ9 b).2.1 := by decide +kernel
theorem tyJ9_ok : ∀ k, k < 0 → parseFieldDescriptor (TJ9 k).2.2.1 = some (tyJ9 k) := by decide +kernel
abbrev cJ9_max_7cf53 : ByteArray := prog_18_method_65_code
def yJ9_max_7cf53 : MethodName := ⟨RJ9, "max", "(II)I"⟩
abbrev cJ9_min_7cf53 : ByteArray := prog_18_method_69_code
def yJ9_min_7cf53 : MethodName := ⟨RJ9, "min", "(II)I"⟩
def RJxd2413 : String := "java/lang/Number"
def TJxd2413 : u_T := fun k => match k with
  | _ => ("", "", "", false)
def tyJxd2413 : Nat → FieldType := fun k => match k with
  | _ => .int
theorem nmJxd2413 : ∀ a, a < 0 → ∀ b, b < 0 → a ≠ b → (TJxd2413 a).2.1 ≠ (TJxd2413 b).2.1 := by decide +kernel
theorem tyJxd2413_ok : ∀ k, k < 0 → parseFieldDescriptor (TJxd2413 k).2.2.1 = some (tyJxd2413 k) := by decide +kernel
def RJ0 : String := "java/lang/String"
def TJ0 : u_T := fun k => match k with
  | 0 => ("java/lang/String", "value", "[B", true)
  | 1 => ("java/lang/String", "coder", "B", true)
  | 2 => ("java/lang/String", "hash", "I", false)
  | _ => ("java/lang/String", "hashIsZero", "Z", false)
def tyJ0 : Nat → FieldType := fun k => match k with
  | 0 => .array .byte
  | 1 => .byte
  | 2 => .int
  | _ => .boolean
abbrev wsJ00 : List Cond := u_ws RJ0 TJ0 4
theorem nmJ0 : ∀ a, a < 4 → ∀ b, b < 4 → a ≠ b → (TJ0 a).2.1 ≠ (TJ0 b).2.1 := by decide +kernel
theorem tyJ0_ok : ∀ k, k < 4 → parseFieldDescriptor (TJ0 k).2.2.1 = some (tyJ0 k) := by decide +kernel
abbrev cJ0_init_81219 : ByteArray := prog_21_method_53_code
def yJ0_init_81219 : MethodName := ⟨RJ0, "<init>", "(Ljava/lang/StringBuilder;)V"⟩
abbrev cJ0_length_8abf5 : ByteArray := prog_21_method_54_code
def yJ0_length_8abf5 : MethodName := ⟨RJ0, "length", "()I"⟩
abbrev cJ0_charAt_5068e : ByteArray := prog_21_method_56_code
def yJ0_charAt_5068e : MethodName := ⟨RJ0, "charAt", "(I)C"⟩
abbrev cJ0_getBytes_840e7 : ByteArray := prog_21_method_147_code
def yJ0_getBytes_840e7 : MethodName := ⟨RJ0, "getBytes", "([BIB)V"⟩
abbrev cJ0_init_db425 : ByteArray := prog_21_method_150_code
def yJ0_init_db425 : MethodName := ⟨RJ0, "<init>", "(Ljava/lang/AbstractStringBuilder;Ljava/lang/Void;)V"⟩
abbrev cJ0_coder_7d493 : ByteArray := prog_21_method_152_code
def yJ0_coder_7d493 : MethodName := ⟨RJ0, "coder", "()B"⟩
abbrev cJ0_isLatin1_aae02 : ByteArray := prog_21_method_154_code
def yJ0_isLatin1_aae02 : MethodName := ⟨RJ0, "isLatin1", "()Z"⟩
abbrev cJ0_checkIndex_df160 : ByteArray := prog_21_method_155_code
def yJ0_checkIndex_df160 : MethodName := ⟨RJ0, "checkIndex", "(II)V"⟩
abbrev cJ0_checkBoundsOffCount_cabcc : ByteArray := prog_21_method_157_code
def yJ0_checkBoundsOffCount_cabcc : MethodName := ⟨RJ0, "checkBoundsOffCount", "(III)I"⟩
abbrev cJ0_checkBoundsBeginEnd_23922 : ByteArray := prog_21_method_158_code
def yJ0_checkBoundsBeginEnd_23922 : MethodName := ⟨RJ0, "checkBoundsBeginEnd", "(III)V"⟩
def RJ4 : String := "java/lang/StringBuilder"
def TJ4 : u_T := fun k => match k with
  | 0 => ("java/lang/AbstractStringBuilder", "value", "[B", false)
  | 1 => ("java/lang/AbstractStringBuilder", "coder", "B", false)
  | 2 => ("java/lang/AbstractStringBuilder", "maybeLatin1", "Z", false)
  | _ => ("java/lang/AbstractStringBuilder", "count", "I", false)
def tyJ4 : Nat → FieldType := fun k => match k with
  | 0 => .array .byte
  | 1 => .byte
  | 2 => .boolean
  | _ => .int
abbrev wsJ40 : List Cond := u_ws RJ4 TJ4 4
theorem nmJ4 : ∀ a, a < 4 → ∀ b, b < 4 → a ≠ b → (TJ4 a).2.1 ≠ (TJ4 b).2.1 := by decide +kernel
theorem tyJ4_ok : ∀ k, k < 4 → parseFieldDescriptor (TJ4 k).2.2.1 = some (tyJ4 k) := by decide +kernel
abbrev cJ4_init_da8c8 : ByteArray := prog_22_method_1_code
def yJ4_init_da8c8 : MethodName := ⟨RJ4, "<init>", "()V"⟩
abbrev cJ4_append_15ec4 : ByteArray := prog_22_method_7_code
def yJ4_append_15ec4 : MethodName := ⟨RJ4, "append", "(Ljava/lang/String;)Ljava/lang/StringBuilder;"⟩
abbrev cJ4_append_cf468 : ByteArray := prog_22_method_14_code
def yJ4_append_cf468 : MethodName := ⟨RJ4, "append", "(C)Ljava/lang/StringBuilder;"⟩
abbrev cJ4_append_bf812 : ByteArray := prog_22_method_15_code
def yJ4_append_bf812 : MethodName := ⟨RJ4, "append", "(I)Ljava/lang/StringBuilder;"⟩
abbrev cJ4_toString_0e30d : ByteArray := prog_22_method_42_code
def yJ4_toString_0e30d : MethodName := ⟨RJ4, "toString", "()Ljava/lang/String;"⟩
abbrev cJ4_length_8abf5 : ByteArray := prog_22_method_93_code
def yJ4_length_8abf5 : MethodName := ⟨RJ4, "length", "()I"⟩
def RJ1 : String := "java/lang/StringLatin1"
def TJ1 : u_T := fun k => match k with
  | _ => ("", "", "", false)
def tyJ1 : Nat → FieldType := fun k => match k with
  | _ => .int
abbrev wsJ10 : List Cond := u_ws RJ1 TJ1 0
theorem nmJ1 : ∀ a, a < 0 → ∀ b, b < 0 → a ≠ b → (TJ1 a).2.1 ≠ (TJ1 b).2.1 := by decide +kernel
theorem tyJ1_ok : ∀ k, k < 0 → parseFieldDescriptor (TJ1 k).2.2.1 = some (tyJ1 k) := by decide +kernel
abbrev cJ1_charAt_3b067 : ByteArray := prog_23_method_2_code
def yJ1_charAt_3b067 : MethodName := ⟨RJ1, "charAt", "([BI)C"⟩
abbrev cJ1_canEncode_fc78d : ByteArray := prog_23_method_3_code
def yJ1_canEncode_fc78d : MethodName := ⟨RJ1, "canEncode", "(C)Z"⟩
abbrev cJ1_inflate_0e8fd : ByteArray := prog_23_method_50_code
def yJ1_inflate_0e8fd : MethodName := ⟨RJ1, "inflate", "([BI[BII)V"⟩
def RJ2 : String := "java/lang/StringUTF16"
def TJ2 : u_T := fun k => match k with
  | _ => ("", "", "", false)
def tyJ2 : Nat → FieldType := fun k => match k with
  | _ => .int
abbrev wsJ20 : List Cond := u_ws RJ2 TJ2 0
theorem nmJ2 : ∀ a, a < 0 → ∀ b, b < 0 → a ≠ b → (TJ2 a).2.1 ≠ (TJ2 b).2.1 := by decide +kernel
theorem tyJ2_ok : ∀ k, k < 0 → parseFieldDescriptor (TJ2 k).2.2.1 = some (tyJ2 k) := by decide +kernel
abbrev cJ2_newBytesFor_77867 : ByteArray := prog_24_method_2_code
def yJ2_newBytesFor_77867 : MethodName := ⟨RJ2, "newBytesFor", "(I)[B"⟩
abbrev cJ2_newBytesLength_0f7a4 : ByteArray := prog_24_method_3_code
def yJ2_newBytesLength_0f7a4 : MethodName := ⟨RJ2, "newBytesLength", "(I)I"⟩
abbrev cJ2_putChar_b72d1 : ByteArray := prog_24_method_4_code
def yJ2_putChar_b72d1 : MethodName := ⟨RJ2, "putChar", "([BII)V"⟩
abbrev cJ2_getChar_3b067 : ByteArray := prog_24_method_5_code
def yJ2_getChar_3b067 : MethodName := ⟨RJ2, "getChar", "([BI)C"⟩
abbrev cJ2_length_9d52b : ByteArray := prog_24_method_6_code
def yJ2_length_9d52b : MethodName := ⟨RJ2, "length", "([B)I"⟩
abbrev cJ2_coderFromArrayLen_85cad : ByteArray := prog_24_method_15_code
def yJ2_coderFromArrayLen_85cad : MethodName := ⟨RJ2, "coderFromArrayLen", "([BI)B"⟩
abbrev cJ2_compress_39247 : ByteArray := prog_24_method_17_code
def yJ2_compress_39247 : MethodName := ⟨RJ2, "compress", "([BII)[B"⟩
abbrev cJ2_compress_5af95 : ByteArray := prog_24_method_22_code
def yJ2_compress_5af95 : MethodName := ⟨RJ2, "compress", "([BI[BII)I"⟩
abbrev cJ2_putCharSB_b72d1 : ByteArray := prog_24_method_71_code
def yJ2_putCharSB_b72d1 : MethodName := ⟨RJ2, "putCharSB", "([BII)V"⟩
abbrev cJ2_getChars_46870 : ByteArray := prog_24_method_77_code
def yJ2_getChars_46870 : MethodName := ⟨RJ2, "getChars", "(III[B)I"⟩
abbrev cJ2_putCharsAt_cd4e5 : ByteArray := prog_24_method_81_code
def yJ2_putCharsAt_cd4e5 : MethodName := ⟨RJ2, "putCharsAt", "([BICCCC)I"⟩
abbrev cJ2_charAt_3b067 : ByteArray := prog_24_method_83_code
def yJ2_charAt_3b067 : MethodName := ⟨RJ2, "charAt", "([BI)C"⟩
abbrev cJ2_inflate_0e8fd : ByteArray := prog_24_method_86_code
def yJ2_inflate_0e8fd : MethodName := ⟨RJ2, "inflate", "([BI[BII)V"⟩
abbrev cJ2_getChars_ba4f3 : ByteArray := prog_24_method_89_code
def yJ2_getChars_ba4f3 : MethodName := ⟨RJ2, "getChars", "(II[B)I"⟩
abbrev cJ2_checkIndex_2214a : ByteArray := prog_24_method_91_code
def yJ2_checkIndex_2214a : MethodName := ⟨RJ2, "checkIndex", "(I[B)V"⟩
abbrev cJ2_checkBoundsBeginEnd_d044e : ByteArray := prog_24_method_93_code
def yJ2_checkBoundsBeginEnd_d044e : MethodName := ⟨RJ2, "checkBoundsBeginEnd", "(II[B)V"⟩
abbrev cJ2_checkBoundsOffCount_d044e : ByteArray := prog_24_method_94_code
def yJ2_checkBoundsOffCount_d044e : MethodName := ⟨RJ2, "checkBoundsOffCount", "(II[B)V"⟩
def RJ10 : String := "java/lang/System"
def TJ10 : u_T := fun k => match k with
  | _ => ("", "", "", false)
def tyJ10 : Nat → FieldType := fun k => match k with
  | _ => .int
theorem nmJ10 : ∀ a, a < 0 → ∀ b, b < 0 → a ≠ b → (TJ10 a).2.1 ≠ (TJ10 b).2.1 := by decide +kernel
theorem tyJ10_ok : ∀ k, k < 0 → parseFieldDescriptor (TJ10 k).2.2.1 = some (tyJ10 k) := by decide +kernel
def RJxfd54e : String := "java/lang/constant/Constable"
def TJxfd54e : u_T := fun k => match k with
  | _ => ("", "", "", false)
def tyJxfd54e : Nat → FieldType := fun k => match k with
  | _ => .int
theorem nmJxfd54e : ∀ a, a < 0 → ∀ b, b < 0 → a ≠ b → (TJxfd54e a).2.1 ≠ (TJxfd54e b).2.1 := by decide +kernel
theorem tyJxfd54e_ok : ∀ k, k < 0 → parseFieldDescriptor (TJxfd54e k).2.2.1 = some (tyJxfd54e k) := by decide +kernel
def RJx3cf43 : String := "java/lang/constant/ConstantDesc"
def TJx3cf43 : u_T := fun k => match k with
  | _ => ("", "", "", false)
def tyJx3cf43 : Nat → FieldType := fun k => match k with
  | _ => .int
theorem nmJx3cf43 : ∀ a, a < 0 → ∀ b, b < 0 → a ≠ b → (TJx3cf43 a).2.1 ≠ (TJx3cf43 b).2.1 := by decide +kernel
theorem tyJx3cf43_ok : ∀ k, k < 0 → parseFieldDescriptor (TJx3cf43 k).2.2.1 = some (tyJx3cf43 k) := by decide +kernel
def RJ7 : String := "java/util/Arrays"
def TJ7 : u_T := fun k => match k with
  | _ => ("", "", "", false)
def tyJ7 : Nat → FieldType := fun k => match k with
  | _ => .int
abbrev wsJ70 : List Cond := u_ws RJ7 TJ7 0
theorem nmJ7 : ∀ a, a < 0 → ∀ b, b < 0 → a ≠ b → (TJ7 a).2.1 ≠ (TJ7 b).2.1 := by decide +kernel
theorem tyJ7_ok : ∀ k, k < 0 → parseFieldDescriptor (TJ7 k).2.2.1 = some (tyJ7 k) := by decide +kernel
abbrev cJ7_copyOf_9075b : ByteArray := prog_27_method_121_code
def yJ7_copyOf_9075b : MethodName := ⟨RJ7, "copyOf", "([BI)[B"⟩
abbrev cJ7_checkLength_df160 : ByteArray := prog_27_method_131_code
def yJ7_checkLength_df160 : MethodName := ⟨RJ7, "checkLength", "(II)V"⟩
abbrev cJ7_copyOfRange_39247 : ByteArray := prog_27_method_132_code
def yJ7_copyOfRange_39247 : MethodName := ⟨RJ7, "copyOfRange", "([BII)[B"⟩
abbrev cJ7_copyOfRangeByte_39247 : ByteArray := prog_27_method_133_code
def yJ7_copyOfRangeByte_39247 : MethodName := ⟨RJ7, "copyOfRangeByte", "([BII)[B"⟩
def RJ8 : String := "jdk/internal/util/ArraysSupport"
def TJ8 : u_T := fun k => match k with
  | _ => ("", "", "", false)
def tyJ8 : Nat → FieldType := fun k => match k with
  | _ => .int
abbrev wsJ80 : List Cond := u_ws RJ8 TJ8 0
theorem nmJ8 : ∀ a, a < 0 → ∀ b, b < 0 → a ≠ b → (TJ8 a).2.1 ≠ (TJ8 b).2.1 := by decide +kernel
theorem tyJ8_ok : ∀ k, k < 0 → parseFieldDescriptor (TJ8 k).2.2.1 = some (tyJ8 k) := by decide +kernel
abbrev cJ8_newLength_cabcc : ByteArray := prog_28_method_27_code
def yJ8_newLength_cabcc : MethodName := ⟨RJ8, "newLength", "(III)I"⟩
abbrev cJ8_hugeLength_7cf53 : ByteArray := prog_28_method_28_code
def yJ8_hugeLength_7cf53 : MethodName := ⟨RJ8, "hugeLength", "(II)I"⟩
def RJ3 : String := "jdk/internal/util/Preconditions"
def TJ3 : u_T := fun k => match k with
  | _ => ("", "", "", false)
def tyJ3 : Nat → FieldType := fun k => match k with
  | _ => .int
abbrev wsJ30 : List Cond := u_ws RJ3 TJ3 0
theorem nmJ3 : ∀ a, a < 0 → ∀ b, b < 0 → a ≠ b → (TJ3 a).2.1 ≠ (TJ3 b).2.1 := by decide +kernel
theorem tyJ3_ok : ∀ k, k < 0 → parseFieldDescriptor (TJ3 k).2.2.1 = some (tyJ3 k) := by decide +kernel
abbrev cJ3_checkIndex_8e157 : ByteArray := prog_29_method_11_code
def yJ3_checkIndex_8e157 : MethodName := ⟨RJ3, "checkIndex", "(IILjava/util/function/BiFunction;)I"⟩
abbrev cJ3_checkFromToIndex_8c36e : ByteArray := prog_29_method_12_code
def yJ3_checkFromToIndex_8c36e : MethodName := ⟨RJ3, "checkFromToIndex", "(IIILjava/util/function/BiFunction;)I"⟩
abbrev cJ3_checkFromIndexSize_8c36e : ByteArray := prog_29_method_13_code
def yJ3_checkFromIndexSize_8c36e : MethodName := ⟨RJ3, "checkFromIndexSize", "(IIILjava/util/function/BiFunction;)I"⟩
def RL : String := "EchoLineLaw"
abbrev cL_draw : ByteArray := method_2_code
def yL_draw : MethodName := ⟨RL, "draw", "([III)I"⟩
abbrev cL_four : ByteArray := method_3_code
def yL_four : MethodName := ⟨RL, "four", "(Ljava/lang/String;I)I"⟩
abbrev cL_feed : ByteArray := method_4_code
def yL_feed : MethodName := ⟨RL, "feed", "(LEchoLine;Ljava/lang/String;)V"⟩
abbrev cL_name : ByteArray := method_5_code
def yL_name : MethodName := ⟨RL, "name", "(I)C"⟩
abbrev cL_load : ByteArray := method_6_code
def yL_load : MethodName := ⟨RL, "load", "(LEchoLine;[I)Z"⟩
abbrev cL_act : ByteArray := method_7_code
def yL_act : MethodName := ⟨RL, "act", "(LEchoLine;[II)I"⟩
abbrev cL_marks : ByteArray := method_8_code
def yL_marks : MethodName := ⟨RL, "marks", "(LEchoLine;II)I"⟩
abbrev cL_is : ByteArray := method_10_code
def yL_is : MethodName := ⟨RL, "is", "(II)Z"⟩
abbrev cL_stands : ByteArray := method_11_code
def yL_stands : MethodName := ⟨RL, "stands", "(LEchoLine;)Z"⟩
abbrev cL_law : ByteArray := code
def yL_law : MethodName := ⟨RL, "law", "([I)Z"⟩
abbrev vwCl : List vw_C := [(RJ0, TJ0, 4), (RJ4, TJ4, 4), (RX0, TX0, 18), (RX1, TX1, 3), (RX2, TX2, 9), (RX3, TX3, 2), (RX4, TX4, 2), (RX5, TX5, 5), (RX6, TX6, 9), (RX7, TX7, 10)]
